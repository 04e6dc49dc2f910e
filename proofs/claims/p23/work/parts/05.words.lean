/-! THE WORDS that the methods need, by their places in the tables -/
def hx_all : List Cond := lw_tbl.filter goodWord
theorem hx_ok : ∀ w ∈ hx_all, (w.onTables && w.keeps) = true ∨ ∃ ty, w = .arrayClass ty := fun w h => good_of_word (List.mem_filter.mp h).2
theorem hx_sub : ∀ w ∈ hx_all, w ∈ lw_tbl := fun w h => (List.mem_filter.mp h).1
theorem hx_gA {y : MethodName} {cc : ByteArray} {n : Nat} {ret : Option FieldType} {ws : List Cond} (hc : Cond.code y cc n ret ∈ hx_all) (h : ∀ w ∈ ws, w ∈ hx_all) : GoodIn hx_all (ws ++ (Cond.code y cc n ret :: hx_all)) := by
  intro w hw
  have hw2 : w ∈ hx_all := by
    rcases List.mem_append.mp hw with q | q
    · exact h w q
    · rcases List.mem_cons.mp q with q | q
      · rw [q]; exact hc
      · exact q
  exact ⟨hw2, hx_ok w hw2⟩
theorem hx_gC {y : MethodName} {cc : ByteArray} {n : Nat} {ret : Option FieldType} (hc : Cond.code y cc n ret ∈ hx_all) : GoodIn hx_all (Cond.code y cc n ret :: hx_all) := hx_gA (ws := []) hc (fun _ h => by cases h)
theorem hx_gV {own : String} {idx : Nat} {C : String} {y : MethodName} {cc : ByteArray} {n : Nat} {ret : Option FieldType} (hc : Cond.code y cc n ret ∈ hx_all) (h1 : Cond.methodLink own idx y ∈ hx_all) (h2 : Cond.instanceMethod y ∈ hx_all) (h3 : Cond.selects C y y ∈ hx_all) (h4 : Cond.initialized C ∈ hx_all) : GoodIn hx_all (wsV own idx C y (Cond.code y cc n ret :: hx_all)) := by
  refine hx_gA hc (fun w hw => ?_)
  simp only [List.mem_cons, List.not_mem_nil, or_false] at hw
  rcases hw with rfl | rfl | rfl | rfl <;> assumption
theorem hx_gS {own : String} {idx : Nat} {y : MethodName} {cc : ByteArray} {n : Nat} {ret : Option FieldType} (hc : Cond.code y cc n ret ∈ hx_all) (h1 : Cond.methodLink own idx y ∈ hx_all) (h2 : Cond.static y ∈ hx_all) (h4 : Cond.initialized y.cls ∈ hx_all) : GoodIn hx_all (va_wsS own idx y (Cond.code y cc n ret :: hx_all)) := by
  refine hx_gA hc (fun w hw => ?_)
  simp only [List.mem_cons, List.not_mem_nil, or_false] at hw
  rcases hw with rfl | rfl | rfl <;> assumption
theorem kt_1 {w : Cond} (h : w ∈ tables_1_1) : w ∈ lw_tbl := List.mem_append_right _ (show w ∈ tables_1 from List.mem_append_left _ h)
theorem kt_2 {w : Cond} (h : w ∈ tables_1_2) : w ∈ lw_tbl := List.mem_append_right _ (show w ∈ tables_1 from List.mem_append_right _ (List.mem_append_left _ h))
theorem kt_3 {w : Cond} (h : w ∈ tables_1_3) : w ∈ lw_tbl := List.mem_append_right _ (show w ∈ tables_1 from List.mem_append_right _ (List.mem_append_right _ (List.mem_append_left _ h)))
theorem kt_4 {w : Cond} (h : w ∈ tables_1_4) : w ∈ lw_tbl := List.mem_append_right _ (show w ∈ tables_1 from List.mem_append_right _ (List.mem_append_right _ (List.mem_append_right _ (List.mem_append_left _ h))))
theorem kt_5 {w : Cond} (h : w ∈ tables_1_5) : w ∈ lw_tbl := List.mem_append_right _ (show w ∈ tables_1 from List.mem_append_right _ (List.mem_append_right _ (List.mem_append_right _ (List.mem_append_right _ (List.mem_append_left _ h)))))
theorem kt_6 {w : Cond} (h : w ∈ tables_1_6) : w ∈ lw_tbl := List.mem_append_right _ (show w ∈ tables_1 from List.mem_append_right _ (List.mem_append_right _ (List.mem_append_right _ (List.mem_append_right _ (List.mem_append_right _ (List.mem_append_left _ h))))))
theorem kt_7 {w : Cond} (h : w ∈ tables_1_7) : w ∈ lw_tbl := List.mem_append_right _ (show w ∈ tables_1 from List.mem_append_right _ (List.mem_append_right _ (List.mem_append_right _ (List.mem_append_right _ (List.mem_append_right _ (List.mem_append_right _ (h)))))))
theorem kt_0 {w : Cond} (i : Nat) (h : (k2_sels lw_privs)[i]? = some w) : w ∈ lw_tbl := List.mem_append_left _ (List.mem_of_getElem? h)
theorem kt_g {w : Cond} (h : w ∈ lw_tbl) (g : goodWord w = true) : w ∈ hx_all := List.mem_filter.mpr ⟨h, g⟩
theorem kw_0 : Cond.selects "SmallCourt" yX9_feedBytes yX9_feedBytes ∈ hx_all := kt_g (kt_0 0 rfl) rfl
theorem kw_1 : Cond.selects "SmallCourt$Reader" yX6_skipBlanks yX6_skipBlanks ∈ hx_all := kt_g (kt_0 1 rfl) rfl
theorem kw_2 : Cond.selects "SmallCourt$Reader" yX6_readClause yX6_readClause ∈ hx_all := kt_g (kt_0 2 rfl) rfl
theorem kw_3 : Cond.selects "SmallCourt$Reader" yX6_readWord yX6_readWord ∈ hx_all := kt_g (kt_0 3 rfl) rfl
theorem kw_4 : Cond.selects "SmallCourt$Reader" yX6_wordEnd yX6_wordEnd ∈ hx_all := kt_g (kt_0 4 rfl) rfl
theorem kw_5 : Cond.selects "SmallCourt$Reader" yX6_isSlot yX6_isSlot ∈ hx_all := kt_g (kt_0 5 rfl) rfl
theorem kw_6 : Cond.selects "SmallCourt$Reader" yX6_refuse yX6_refuse ∈ hx_all := kt_g (kt_0 6 rfl) rfl
theorem kw_7 : Cond.selects "SmallCourt$Reader" yX6_readCost yX6_readCost ∈ hx_all := kt_g (kt_0 7 rfl) rfl
theorem kw_8 : Cond.selects "SmallCourt$Reader" yX6_tellOnce yX6_tellOnce ∈ hx_all := kt_g (kt_0 8 rfl) rfl
theorem kw_9 : Cond.selects "SmallCourt$Reader" yX6_readTold yX6_readTold ∈ hx_all := kt_g (kt_0 9 rfl) rfl
theorem kw_10 : Cond.selects "SmallCourt$Reader" yX6_isDigit yX6_isDigit ∈ hx_all := kt_g (kt_0 10 rfl) rfl
theorem kw_11 : Cond.selects "SmallCourt$Reader" yX6_readNumber yX6_readNumber ∈ hx_all := kt_g (kt_0 11 rfl) rfl
theorem kw_12 : Cond.selects "SmallCourt$Reader" yX6_readEither yX6_readEither ∈ hx_all := kt_g (kt_0 12 rfl) rfl
theorem kw_13 : Cond.selects "SmallCourt$Reader" yX6_readOne yX6_readOne ∈ hx_all := kt_g (kt_0 13 rfl) rfl
theorem kw_14 : Cond.selects "SmallCourt$Reader" yX6_isNextWord yX6_isNextWord ∈ hx_all := kt_g (kt_0 14 rfl) rfl
theorem kw_15 : Cond.selects "SmallCourt$Reader" yX6_isByte yX6_isByte ∈ hx_all := kt_g (kt_0 15 rfl) rfl
theorem kw_16 : Cond.selects "SmallCourt$Reader" yX6_readTerm yX6_readTerm ∈ hx_all := kt_g (kt_0 16 rfl) rfl
theorem kw_17 : Cond.selects "SmallCourt$Reader" yX6_readSign yX6_readSign ∈ hx_all := kt_g (kt_0 17 rfl) rfl
theorem kw_18 : Cond.selects "SmallCourt$Reader" yX6_isAnotherClause yX6_isAnotherClause ∈ hx_all := kt_g (kt_0 18 rfl) rfl
theorem kw_19 : Cond.selects "SmallCourt" yX9_inForce yX9_inForce ∈ hx_all := kt_g (kt_0 19 rfl) rfl
theorem kw_20 : Cond.selects "SmallCourt" yX9_personAt yX9_personAt ∈ hx_all := kt_g (kt_0 20 rfl) rfl
theorem kw_21 : Cond.selects "SmallCourt" yX9_areTwo yX9_areTwo ∈ hx_all := kt_g (kt_0 21 rfl) rfl
theorem kw_22 : Cond.selects "SmallCourt$Books" yX1_isLine yX1_isLine ∈ hx_all := kt_g (kt_0 22 rfl) rfl
theorem kw_23 : Cond.selects "SmallCourt$Books" yX1_takeTwin yX1_takeTwin ∈ hx_all := kt_g (kt_0 23 rfl) rfl
theorem kw_24 : Cond.selects "SmallCourt$Books" yX1_areTwins yX1_areTwins ∈ hx_all := kt_g (kt_0 24 rfl) rfl
theorem kw_25 : Cond.selects "SmallCourt" yX9_claimAt yX9_claimAt ∈ hx_all := kt_g (kt_0 25 rfl) rfl
theorem kw_26 : Cond.selects "SmallCourt" yX9_drawBench yX9_drawBench ∈ hx_all := kt_g (kt_0 26 rfl) rfl
theorem kw_27 : Cond.selects "SmallCourt$Person" yX4_isKinOf yX4_isKinOf ∈ hx_all := kt_g (kt_0 27 rfl) rfl
theorem kw_28 : Cond.selects "SmallCourt" yX9_judgement yX9_judgement ∈ hx_all := kt_g (kt_0 28 rfl) rfl
theorem kw_29 : Cond.selects "SmallCourt" yX9_sumOfSplit yX9_sumOfSplit ∈ hx_all := kt_g (kt_0 29 rfl) rfl
theorem kw_30 : Cond.selects "SmallCourt" yX9_openInstalments yX9_openInstalments ∈ hx_all := kt_g (kt_0 30 rfl) rfl
theorem kw_31 : Cond.selects "SmallCourt$Claim" yX2_owedOn yX2_owedOn ∈ hx_all := kt_g (kt_0 31 rfl) rfl
theorem kw_32 : Cond.selects "SmallCourt$Claim" yX2_stateAheadOfOrder yX2_stateAheadOfOrder ∈ hx_all := kt_g (kt_0 32 rfl) rfl
theorem kw_33 : Cond.selects "SmallCourt$Plan" yX5_leastFrom yX5_leastFrom ∈ hx_all := kt_g (kt_0 33 rfl) rfl
theorem kw_34 : Cond.selects "SmallCourt$Plan" yX5_tryFrom yX5_tryFrom ∈ hx_all := kt_g (kt_0 34 rfl) rfl
theorem kw_35 : Cond.selects "SmallCourt$Plan" yX5_keepIfBetter yX5_keepIfBetter ∈ hx_all := kt_g (kt_0 35 rfl) rfl
theorem kw_36 : Cond.selects "SmallCourt$Rings" yX7_goOn yX7_goOn ∈ hx_all := kt_g (kt_0 36 rfl) rfl
theorem kw_37 : Cond.selects "SmallCourt$Rings" yX7_keepIfBetter yX7_keepIfBetter ∈ hx_all := kt_g (kt_0 37 rfl) rfl
theorem kw_38 : Cond.selects "SmallCourt$Rings" yX7_isInRing yX7_isInRing ∈ hx_all := kt_g (kt_0 38 rfl) rfl
theorem kw_39 : Cond.selects "SmallCourt" yX9_ringNeeds yX9_ringNeeds ∈ hx_all := kt_g (kt_0 39 rfl) rfl
theorem kw_40 : Cond.selects "SmallCourt$Rings" yX7_placeAfter yX7_placeAfter ∈ hx_all := kt_g (kt_0 40 rfl) rfl
theorem kw_41 : Cond.selects "SmallCourt" yX9_takeOffRing yX9_takeOffRing ∈ hx_all := kt_g (kt_0 41 rfl) rfl
theorem kw_42 : Cond.selects "SmallCourt$Walk" yX8_fromCourt yX8_fromCourt ∈ hx_all := kt_g (kt_0 42 rfl) rfl
theorem kw_43 : Cond.selects "SmallCourt$Walk" yX8_leastOn yX8_leastOn ∈ hx_all := kt_g (kt_0 43 rfl) rfl
theorem kw_44 : Cond.selects "SmallCourt$Walk" yX8_stepsBy yX8_stepsBy ∈ hx_all := kt_g (kt_0 44 rfl) rfl
theorem kw_45 : Cond.selects "SmallCourt$Walk" yX8_retrace yX8_retrace ∈ hx_all := kt_g (kt_0 45 rfl) rfl
theorem kw_46 : Cond.selects "SmallCourt$Walk" yX8_firstOnWay yX8_firstOnWay ∈ hx_all := kt_g (kt_0 46 rfl) rfl
theorem kw_47 : Cond.selects "SmallCourt" yX9_livingJudges yX9_livingJudges ∈ hx_all := kt_g (kt_0 47 rfl) rfl
theorem kw_48 : Cond.selects "SmallCourtModel" yX10_clears yX10_clears ∈ hx_all := kt_g (kt_0 48 rfl) rfl
theorem kw_49 : Cond.selects "SmallCourtModel" yX10_withoutProof yX10_withoutProof ∈ hx_all := kt_g (kt_0 49 rfl) rfl
theorem kw_50 : Cond.selects "SmallCourtModel" yX10_writes yX10_writes ∈ hx_all := kt_g (kt_0 50 rfl) rfl
theorem kw_51 : Cond.selects "SmallCourtModel" yX10_keepsProof yX10_keepsProof ∈ hx_all := kt_g (kt_0 51 rfl) rfl
theorem kw_52 : Cond.selects "SmallCourtModel" yX10_four yX10_four ∈ hx_all := kt_g (kt_0 52 rfl) rfl
theorem kw_53 : Cond.selects "SmallCourtModel" yX10_see yX10_see ∈ hx_all := kt_g (kt_0 53 rfl) rfl
theorem kw_54 : Cond.selects "SmallCourtModel" yX10_clause yX10_clause ∈ hx_all := kt_g (kt_0 54 rfl) rfl
theorem kw_55 : Cond.selects "SmallCourtModel" yX10_wordHere yX10_wordHere ∈ hx_all := kt_g (kt_0 55 rfl) rfl
theorem kw_56 : Cond.selects "SmallCourtModel" yX10_fails yX10_fails ∈ hx_all := kt_g (kt_0 56 rfl) rfl
theorem kw_57 : Cond.selects "SmallCourtModel" yX10_isNew yX10_isNew ∈ hx_all := kt_g (kt_0 57 rfl) rfl
theorem kw_58 : Cond.selects "SmallCourtModel" yX10_either yX10_either ∈ hx_all := kt_g (kt_0 58 rfl) rfl
theorem kw_59 : Cond.selects "SmallCourtModel" yX10_begins yX10_begins ∈ hx_all := kt_g (kt_0 59 rfl) rfl
theorem kw_60 : Cond.selects "SmallCourtModel" yX10_compare yX10_compare ∈ hx_all := kt_g (kt_0 60 rfl) rfl
theorem kw_61 : Cond.selects "SmallCourtModel" yX10_number yX10_number ∈ hx_all := kt_g (kt_0 61 rfl) rfl
theorem kw_62 : Cond.selects "SmallCourtModel" yX10_deep yX10_deep ∈ hx_all := kt_g (kt_0 62 rfl) rfl
theorem kw_63 : Cond.selects "SmallCourtModel" yX10_closesNots yX10_closesNots ∈ hx_all := kt_g (kt_0 63 rfl) rfl
theorem kw_64 : Cond.selects "SmallCourtModel" yX10_closesDown yX10_closesDown ∈ hx_all := kt_g (kt_0 64 rfl) rfl
theorem kw_65 : Cond.selects "SmallCourtModel" yX10_inForce yX10_inForce ∈ hx_all := kt_g (kt_0 65 rfl) rfl
theorem kw_66 : Cond.selects "SmallCourtModel" yX10_ruleOf yX10_ruleOf ∈ hx_all := kt_g (kt_0 66 rfl) rfl
theorem kw_67 : Cond.selects "SmallCourtModel" yX10_lives yX10_lives ∈ hx_all := kt_g (kt_0 67 rfl) rfl
theorem kw_68 : Cond.selects "SmallCourtModel" yX10_isPerson yX10_isPerson ∈ hx_all := kt_g (kt_0 68 rfl) rfl
theorem kw_69 : Cond.selects "SmallCourtModel" yX10_bookSum yX10_bookSum ∈ hx_all := kt_g (kt_0 69 rfl) rfl
theorem kw_70 : Cond.selects "SmallCourtModel" yX10_alike yX10_alike ∈ hx_all := kt_g (kt_0 70 rfl) rfl
theorem kw_71 : Cond.selects "SmallCourtModel" yX10_areTwins yX10_areTwins ∈ hx_all := kt_g (kt_0 71 rfl) rfl
theorem kw_72 : Cond.selects "SmallCourtModel" yX10_disorder yX10_disorder ∈ hx_all := kt_g (kt_0 72 rfl) rfl
theorem kw_73 : Cond.selects "SmallCourtModel" yX10_isClaim yX10_isClaim ∈ hx_all := kt_g (kt_0 73 rfl) rfl
theorem kw_74 : Cond.selects "SmallCourtModel" yX10_sits yX10_sits ∈ hx_all := kt_g (kt_0 74 rfl) rfl
theorem kw_75 : Cond.selects "SmallCourtModel" yX10_isKinOf yX10_isKinOf ∈ hx_all := kt_g (kt_0 75 rfl) rfl
theorem kw_76 : Cond.selects "SmallCourtModel" yX10_draws yX10_draws ∈ hx_all := kt_g (kt_0 76 rfl) rfl
theorem kw_77 : Cond.selects "SmallCourtModel" yX10_judges yX10_judges ∈ hx_all := kt_g (kt_0 77 rfl) rfl
theorem kw_78 : Cond.selects "SmallCourtModel" yX10_isSplit yX10_isSplit ∈ hx_all := kt_g (kt_0 78 rfl) rfl
theorem kw_79 : Cond.selects "SmallCourtModel" yX10_isProved yX10_isProved ∈ hx_all := kt_g (kt_0 79 rfl) rfl
theorem kw_80 : Cond.selects "SmallCourtModel" yX10_isSo yX10_isSo ∈ hx_all := kt_g (kt_0 80 rfl) rfl
theorem kw_81 : Cond.selects "SmallCourtModel" yX10_isOpen yX10_isOpen ∈ hx_all := kt_g (kt_0 81 rfl) rfl
theorem kw_82 : Cond.selects "SmallCourtModel" yX10_looks yX10_looks ∈ hx_all := kt_g (kt_0 82 rfl) rfl
theorem kw_83 : Cond.selects "SmallCourtModel" yX10_means yX10_means ∈ hx_all := kt_g (kt_0 83 rfl) rfl
theorem kw_84 : Cond.selects "SmallCourtModel" yX10_pays yX10_pays ∈ hx_all := kt_g (kt_0 84 rfl) rfl
theorem kw_85 : Cond.selects "SmallCourtModel" yX10_weeksOf yX10_weeksOf ∈ hx_all := kt_g (kt_0 85 rfl) rfl
theorem kw_86 : Cond.selects "SmallCourtModel" yX10_debts yX10_debts ∈ hx_all := kt_g (kt_0 86 rfl) rfl
theorem kw_87 : Cond.selects "SmallCourtModel" yX10_finds yX10_finds ∈ hx_all := kt_g (kt_0 87 rfl) rfl
theorem kw_88 : Cond.selects "SmallCourtModel" yX10_offers yX10_offers ∈ hx_all := kt_g (kt_0 88 rfl) rfl
theorem kw_89 : Cond.selects "SmallCourtModel" yX10_takes yX10_takes ∈ hx_all := kt_g (kt_0 89 rfl) rfl
theorem kw_90 : Cond.selects "SmallCourtModel" yX10_far yX10_far ∈ hx_all := kt_g (kt_0 90 rfl) rfl
theorem kw_91 : Cond.selects "SmallCourtModel" yX10_habits yX10_habits ∈ hx_all := kt_g (kt_0 91 rfl) rfl
theorem kw_92 : Cond.selects "SmallCourtModel" yX10_isRare yX10_isRare ∈ hx_all := kt_g (kt_0 92 rfl) rfl
theorem kw_94 : Cond.initialized "SmallCourt" ∈ hx_all := kt_g (kt_1 (List.mem_of_getElem? (i := 1) rfl)) rfl
theorem kw_95 : Cond.initialized "SmallCourt$Reader" ∈ hx_all := kt_g (kt_1 (List.mem_of_getElem? (i := 2) rfl)) rfl
theorem kw_96 : Cond.initialized "SmallCourt$Act" ∈ hx_all := kt_g (kt_1 (List.mem_of_getElem? (i := 3) rfl)) rfl
theorem kw_97 : Cond.initialized "java/lang/System" ∈ hx_all := kt_g (kt_1 (List.mem_of_getElem? (i := 4) rfl)) rfl
theorem kw_98 : Cond.initialized "SmallCourt$Books" ∈ hx_all := kt_g (kt_1 (List.mem_of_getElem? (i := 5) rfl)) rfl
theorem kw_99 : Cond.initialized "SmallCourt$Payments" ∈ hx_all := kt_g (kt_1 (List.mem_of_getElem? (i := 6) rfl)) rfl
theorem kw_100 : Cond.initialized "SmallCourt$Plan" ∈ hx_all := kt_g (kt_1 (List.mem_of_getElem? (i := 7) rfl)) rfl
theorem kw_101 : Cond.initialized "SmallCourt$Rings" ∈ hx_all := kt_g (kt_1 (List.mem_of_getElem? (i := 8) rfl)) rfl
theorem kw_102 : Cond.initialized "SmallCourt$Walk" ∈ hx_all := kt_g (kt_1 (List.mem_of_getElem? (i := 9) rfl)) rfl
theorem kw_103 : Cond.initialized "SmallCourtModel" ∈ hx_all := kt_g (kt_1 (List.mem_of_getElem? (i := 10) rfl)) rfl
theorem kw_104 : Cond.initialized "java/lang/String" ∈ hx_all := kt_g (kt_1 (List.mem_of_getElem? (i := 11) rfl)) rfl
theorem kw_105 : Cond.initialized "java/lang/StringLatin1" ∈ hx_all := kt_g (kt_1 (List.mem_of_getElem? (i := 12) rfl)) rfl
theorem kw_106 : Cond.initialized "jdk/internal/util/Preconditions" ∈ hx_all := kt_g (kt_1 (List.mem_of_getElem? (i := 13) rfl)) rfl
theorem kw_108 : Cond.initialized "SmallCourt$Person" ∈ hx_all := kt_g (kt_1 (List.mem_of_getElem? (i := 15) rfl)) rfl
theorem kw_109 : Cond.initialized "java/lang/Math" ∈ hx_all := kt_g (kt_1 (List.mem_of_getElem? (i := 16) rfl)) rfl
theorem kw_110 : Cond.initialized "SmallCourt$Claim" ∈ hx_all := kt_g (kt_1 (List.mem_of_getElem? (i := 17) rfl)) rfl
theorem kw_111 : Cond.classLink "SmallCourtLaw" 7 "SmallCourt" ∈ hx_all := kt_g (kt_1 (List.mem_of_getElem? (i := 18) rfl)) rfl
theorem kw_112 : Cond.instantiable "SmallCourt" 20 ∈ hx_all := kt_g (kt_1 (List.mem_of_getElem? (i := 19) rfl)) rfl
theorem kw_113 : Cond.methodLink "SmallCourtLaw" 9 yX9_init ∈ hx_all := kt_g (kt_1 (List.mem_of_getElem? (i := 20) rfl)) rfl
theorem kw_114 : Cond.instanceMethod yX9_init ∈ hx_all := kt_g (kt_1 (List.mem_of_getElem? (i := 21) rfl)) rfl
theorem kw_115 : Cond.code yX9_init cX9_init 1 none ∈ hx_all := kt_g (kt_1 (List.mem_of_getElem? (i := 22) rfl)) rfl
theorem kw_116 : Cond.methodLink "SmallCourt" 3 Lib.objectInit ∈ hx_all := kt_g (kt_1 (List.mem_of_getElem? (i := 23) rfl)) rfl
theorem kw_117 : Cond.instanceMethod Lib.objectInit ∈ hx_all := kt_g (kt_1 (List.mem_of_getElem? (i := 24) rfl)) rfl
theorem kw_118 : Cond.code Lib.objectInit ⟨#[0xb1]⟩ 1 none ∈ hx_all := kt_g (kt_1 (List.mem_of_getElem? (i := 25) rfl)) rfl
theorem kw_119 : Cond.classLink "SmallCourt" 13 "SmallCourt$Reader" ∈ hx_all := kt_g (kt_1 (List.mem_of_getElem? (i := 26) rfl)) rfl
theorem kw_120 : Cond.instantiable "SmallCourt$Reader" 7 ∈ hx_all := kt_g (kt_1 (List.mem_of_getElem? (i := 27) rfl)) rfl
theorem kw_121 : Cond.methodLinkNest "SmallCourt" 15 yX6_init "SmallCourt" ∈ lw_tbl := kt_1 (List.mem_of_getElem? (i := 28) rfl)
theorem kw_122 : Cond.instanceMethod yX6_init ∈ hx_all := kt_g (kt_1 (List.mem_of_getElem? (i := 29) rfl)) rfl
theorem kw_123 : Cond.code yX6_init cX6_init 1 none ∈ hx_all := kt_g (kt_1 (List.mem_of_getElem? (i := 30) rfl)) rfl
theorem kw_124 : Cond.methodLink "SmallCourt$Reader" 3 Lib.objectInit ∈ hx_all := kt_g (kt_1 (List.mem_of_getElem? (i := 31) rfl)) rfl
theorem kw_125 : Cond.fieldLink "SmallCourt$Reader" 9 "SmallCourt$Reader" "text" "[B" ∈ hx_all := kt_g (kt_1 (List.mem_of_getElem? (i := 32) rfl)) rfl
theorem kw_126 : Cond.fieldLink "SmallCourt$Reader" 15 "SmallCourt$Reader" "length" "I" ∈ hx_all := kt_g (kt_1 (List.mem_of_getElem? (i := 33) rfl)) rfl
theorem kw_127 : Cond.fieldLink "SmallCourt$Reader" 19 "SmallCourt$Reader" "at" "I" ∈ hx_all := kt_g (kt_1 (List.mem_of_getElem? (i := 34) rfl)) rfl
theorem kw_128 : Cond.fieldLink "SmallCourt$Reader" 22 "SmallCourt$Reader" "fault" "I" ∈ hx_all := kt_g (kt_1 (List.mem_of_getElem? (i := 35) rfl)) rfl
theorem kw_129 : Cond.fieldLink "SmallCourt$Reader" 25 "SmallCourt$Reader" "toldOnce" "I" ∈ hx_all := kt_g (kt_1 (List.mem_of_getElem? (i := 36) rfl)) rfl
theorem kw_130 : Cond.fieldLink "SmallCourt$Reader" 28 "SmallCourt$Reader" "terms" "I" ∈ hx_all := kt_g (kt_1 (List.mem_of_getElem? (i := 37) rfl)) rfl
theorem kw_131 : Cond.fieldLink "SmallCourt$Reader" 31 "SmallCourt$Reader" "into" "LSmallCourt$Act;" ∈ hx_all := kt_g (kt_1 (List.mem_of_getElem? (i := 38) rfl)) rfl
theorem kw_132 : Cond.lays "SmallCourt$Reader" "SmallCourt$Reader" "text" "[B" ∈ hx_all := kt_g (kt_1 (List.mem_of_getElem? (i := 39) rfl)) rfl
theorem kw_134 : Cond.lays "SmallCourt$Reader" "SmallCourt$Reader" "length" "I" ∈ hx_all := kt_g (kt_1 (List.mem_of_getElem? (i := 41) rfl)) rfl
theorem kw_136 : Cond.lays "SmallCourt$Reader" "SmallCourt$Reader" "at" "I" ∈ hx_all := kt_g (kt_1 (List.mem_of_getElem? (i := 43) rfl)) rfl
theorem kw_138 : Cond.lays "SmallCourt$Reader" "SmallCourt$Reader" "fault" "I" ∈ hx_all := kt_g (kt_1 (List.mem_of_getElem? (i := 45) rfl)) rfl
theorem kw_140 : Cond.lays "SmallCourt$Reader" "SmallCourt$Reader" "toldOnce" "I" ∈ hx_all := kt_g (kt_1 (List.mem_of_getElem? (i := 47) rfl)) rfl
theorem kw_142 : Cond.lays "SmallCourt$Reader" "SmallCourt$Reader" "terms" "I" ∈ hx_all := kt_g (kt_1 (List.mem_of_getElem? (i := 49) rfl)) rfl
theorem kw_144 : Cond.lays "SmallCourt$Reader" "SmallCourt$Reader" "into" "LSmallCourt$Act;" ∈ hx_all := kt_g (kt_1 (List.mem_of_getElem? (i := 51) rfl)) rfl
theorem kw_147 : Cond.arrayClass .byte ∈ hx_all := kt_g (kt_1 (List.mem_of_getElem? (i := 54) rfl)) rfl
theorem kw_148 : Cond.classLink "SmallCourt" 20 "SmallCourt$Act" ∈ hx_all := kt_g (kt_1 (List.mem_of_getElem? (i := 55) rfl)) rfl
theorem kw_149 : Cond.instantiable "SmallCourt$Act" 5 ∈ hx_all := kt_g (kt_1 (List.mem_of_getElem? (i := 56) rfl)) rfl
theorem kw_150 : Cond.methodLink "SmallCourt" 22 yX0_init ∈ hx_all := kt_g (kt_1 (List.mem_of_getElem? (i := 57) rfl)) rfl
theorem kw_151 : Cond.instanceMethod yX0_init ∈ hx_all := kt_g (kt_1 (List.mem_of_getElem? (i := 58) rfl)) rfl
theorem kw_152 : Cond.code yX0_init cX0_init 3 none ∈ hx_all := kt_g (kt_1 (List.mem_of_getElem? (i := 59) rfl)) rfl
theorem kw_153 : Cond.methodLink "SmallCourt$Act" 3 Lib.objectInit ∈ hx_all := kt_g (kt_1 (List.mem_of_getElem? (i := 60) rfl)) rfl
theorem kw_154 : Cond.fieldLinkNest "SmallCourt$Act" 25 "SmallCourt" "WITHOUT" "[I" "SmallCourt" ∈ lw_tbl := kt_1 (List.mem_of_getElem? (i := 61) rfl)
theorem kw_156 : Cond.methodLink "SmallCourt$Act" 28 arraycopyName ∈ hx_all := kt_g (kt_1 (List.mem_of_getElem? (i := 63) rfl)) rfl
theorem kw_157 : Cond.static arraycopyName ∈ hx_all := kt_g (kt_1 (List.mem_of_getElem? (i := 64) rfl)) rfl
theorem kw_158 : Cond.native arraycopyName ∈ hx_all := kt_g (kt_1 (List.mem_of_getElem? (i := 65) rfl)) rfl
theorem kw_159 : Cond.methodLink "SmallCourt$Act" 34 yX0_term ∈ hx_all := kt_g (kt_1 (List.mem_of_getElem? (i := 66) rfl)) rfl
theorem kw_160 : Cond.static yX0_term ∈ hx_all := kt_g (kt_1 (List.mem_of_getElem? (i := 67) rfl)) rfl
theorem kw_161 : Cond.code yX0_term cX0_term 4 (some .int) ∈ hx_all := kt_g (kt_1 (List.mem_of_getElem? (i := 68) rfl)) rfl
theorem kw_162 : Cond.fieldLink "SmallCourt$Act" 18 "SmallCourt$Act" "number" "I" ∈ hx_all := kt_g (kt_1 (List.mem_of_getElem? (i := 69) rfl)) rfl
theorem kw_163 : Cond.fieldLink "SmallCourt" 112 "SmallCourt$Act" "number" "I" ∈ hx_all := kt_g (kt_1 (List.mem_of_getElem? (i := 70) rfl)) rfl
theorem kw_164 : Cond.fieldLink "SmallCourt$Act" 22 "SmallCourt$Act" "day" "I" ∈ hx_all := kt_g (kt_1 (List.mem_of_getElem? (i := 71) rfl)) rfl
theorem kw_165 : Cond.fieldLink "SmallCourt" 122 "SmallCourt$Act" "day" "I" ∈ hx_all := kt_g (kt_1 (List.mem_of_getElem? (i := 72) rfl)) rfl
theorem kw_166 : Cond.fieldLink "SmallCourt$Act" 9 "SmallCourt$Act" "told" "[I" ∈ hx_all := kt_g (kt_1 (List.mem_of_getElem? (i := 73) rfl)) rfl
theorem kw_167 : Cond.fieldLink "SmallCourt$Claim" 51 "SmallCourt$Act" "told" "[I" ∈ hx_all := kt_g (kt_1 (List.mem_of_getElem? (i := 74) rfl)) rfl
theorem kw_168 : Cond.fieldLink "SmallCourt$Person" 33 "SmallCourt$Act" "told" "[I" ∈ hx_all := kt_g (kt_1 (List.mem_of_getElem? (i := 75) rfl)) rfl
theorem kw_169 : Cond.fieldLink "SmallCourt$Plan" 52 "SmallCourt$Act" "told" "[I" ∈ hx_all := kt_g (kt_1 (List.mem_of_getElem? (i := 76) rfl)) rfl
theorem kw_170 : Cond.fieldLink "SmallCourt" 119 "SmallCourt$Act" "told" "[I" ∈ hx_all := kt_g (kt_1 (List.mem_of_getElem? (i := 77) rfl)) rfl
theorem kw_171 : Cond.fieldLink "SmallCourt$Reader" 89 "SmallCourt$Act" "told" "[I" ∈ hx_all := kt_g (kt_1 (List.mem_of_getElem? (i := 78) rfl)) rfl
theorem kw_172 : Cond.fieldLink "SmallCourt$Act" 15 "SmallCourt$Act" "proof" "[I" ∈ hx_all := kt_g (kt_1 (List.mem_of_getElem? (i := 79) rfl)) rfl
theorem kw_173 : Cond.fieldLink "SmallCourt$Act" 38 "SmallCourt$Act" "proofLength" "I" ∈ hx_all := kt_g (kt_1 (List.mem_of_getElem? (i := 80) rfl)) rfl
theorem kw_174 : Cond.fieldLink "SmallCourt$Reader" 58 "SmallCourt$Act" "proofLength" "I" ∈ hx_all := kt_g (kt_1 (List.mem_of_getElem? (i := 81) rfl)) rfl
theorem kw_175 : Cond.laysFinal "SmallCourt$Act" "SmallCourt$Act" "number" "I" ∈ hx_all := kt_g (kt_1 (List.mem_of_getElem? (i := 82) rfl)) rfl
theorem kw_177 : Cond.laysFinal "SmallCourt$Act" "SmallCourt$Act" "day" "I" ∈ hx_all := kt_g (kt_1 (List.mem_of_getElem? (i := 84) rfl)) rfl
theorem kw_179 : Cond.laysFinal "SmallCourt$Act" "SmallCourt$Act" "told" "[I" ∈ hx_all := kt_g (kt_1 (List.mem_of_getElem? (i := 86) rfl)) rfl
theorem kw_181 : Cond.laysFinal "SmallCourt$Act" "SmallCourt$Act" "proof" "[I" ∈ hx_all := kt_g (kt_1 (List.mem_of_getElem? (i := 88) rfl)) rfl
theorem kw_183 : Cond.lays "SmallCourt$Act" "SmallCourt$Act" "proofLength" "I" ∈ hx_all := kt_g (kt_1 (List.mem_of_getElem? (i := 90) rfl)) rfl
theorem kw_186 : Cond.arrayClass .int ∈ hx_all := kt_g (kt_1 (List.mem_of_getElem? (i := 93) rfl)) rfl
theorem kw_187 : Cond.arrayOver (.object "SmallCourt$Act") ∈ lw_tbl := kt_1 (List.mem_of_getElem? (i := 94) rfl)
theorem kw_188 : Cond.classLink "SmallCourt" 33 "SmallCourt$Person" ∈ hx_all := kt_g (kt_1 (List.mem_of_getElem? (i := 95) rfl)) rfl
theorem kw_189 : Cond.arrayOver (.object "SmallCourt$Person") ∈ lw_tbl := kt_1 (List.mem_of_getElem? (i := 96) rfl)
theorem kw_190 : Cond.classLink "SmallCourt" 39 "SmallCourt$Books" ∈ hx_all := kt_g (kt_1 (List.mem_of_getElem? (i := 97) rfl)) rfl
theorem kw_191 : Cond.instantiable "SmallCourt$Books" 8 ∈ hx_all := kt_g (kt_1 (List.mem_of_getElem? (i := 98) rfl)) rfl
theorem kw_192 : Cond.methodLinkNest "SmallCourt" 41 yX1_init "SmallCourt" ∈ lw_tbl := kt_1 (List.mem_of_getElem? (i := 99) rfl)
theorem kw_193 : Cond.instanceMethod yX1_init ∈ hx_all := kt_g (kt_1 (List.mem_of_getElem? (i := 100) rfl)) rfl
theorem kw_194 : Cond.code yX1_init cX1_init 1 none ∈ hx_all := kt_g (kt_1 (List.mem_of_getElem? (i := 101) rfl)) rfl
theorem kw_195 : Cond.methodLink "SmallCourt$Books" 3 Lib.objectInit ∈ hx_all := kt_g (kt_1 (List.mem_of_getElem? (i := 102) rfl)) rfl
theorem kw_196 : Cond.fieldLink "SmallCourt$Books" 34 "SmallCourt$Books" "count" "I" ∈ hx_all := kt_g (kt_1 (List.mem_of_getElem? (i := 103) rfl)) rfl
theorem kw_197 : Cond.fieldLink "SmallCourt" 158 "SmallCourt$Books" "count" "I" ∈ hx_all := kt_g (kt_1 (List.mem_of_getElem? (i := 104) rfl)) rfl
theorem kw_198 : Cond.fieldLink "SmallCourt$Books" 9 "SmallCourt$Books" "owner" "[I" ∈ hx_all := kt_g (kt_1 (List.mem_of_getElem? (i := 105) rfl)) rfl
theorem kw_199 : Cond.fieldLink "SmallCourt$Books" 15 "SmallCourt$Books" "with" "[I" ∈ hx_all := kt_g (kt_1 (List.mem_of_getElem? (i := 106) rfl)) rfl
theorem kw_200 : Cond.fieldLink "SmallCourt$Books" 18 "SmallCourt$Books" "day" "[I" ∈ hx_all := kt_g (kt_1 (List.mem_of_getElem? (i := 107) rfl)) rfl
theorem kw_201 : Cond.fieldLink "SmallCourt$Books" 21 "SmallCourt$Books" "kind" "[I" ∈ hx_all := kt_g (kt_1 (List.mem_of_getElem? (i := 108) rfl)) rfl
theorem kw_202 : Cond.fieldLink "SmallCourt$Books" 24 "SmallCourt$Books" "sum" "[I" ∈ hx_all := kt_g (kt_1 (List.mem_of_getElem? (i := 109) rfl)) rfl
theorem kw_203 : Cond.fieldLink "SmallCourt$Books" 27 "SmallCourt$Books" "byDay" "[I" ∈ hx_all := kt_g (kt_1 (List.mem_of_getElem? (i := 110) rfl)) rfl
theorem kw_204 : Cond.fieldLink "SmallCourt$Books" 30 "SmallCourt$Books" "taken" "[Z" ∈ hx_all := kt_g (kt_1 (List.mem_of_getElem? (i := 111) rfl)) rfl
theorem kw_205 : Cond.lays "SmallCourt$Books" "SmallCourt$Books" "count" "I" ∈ hx_all := kt_g (kt_1 (List.mem_of_getElem? (i := 112) rfl)) rfl
theorem kw_207 : Cond.laysFinal "SmallCourt$Books" "SmallCourt$Books" "owner" "[I" ∈ hx_all := kt_g (kt_1 (List.mem_of_getElem? (i := 114) rfl)) rfl
theorem kw_209 : Cond.laysFinal "SmallCourt$Books" "SmallCourt$Books" "with" "[I" ∈ hx_all := kt_g (kt_1 (List.mem_of_getElem? (i := 116) rfl)) rfl
theorem kw_211 : Cond.laysFinal "SmallCourt$Books" "SmallCourt$Books" "day" "[I" ∈ hx_all := kt_g (kt_1 (List.mem_of_getElem? (i := 118) rfl)) rfl
theorem kw_213 : Cond.laysFinal "SmallCourt$Books" "SmallCourt$Books" "kind" "[I" ∈ hx_all := kt_g (kt_1 (List.mem_of_getElem? (i := 120) rfl)) rfl
theorem kw_215 : Cond.laysFinal "SmallCourt$Books" "SmallCourt$Books" "sum" "[I" ∈ hx_all := kt_g (kt_1 (List.mem_of_getElem? (i := 122) rfl)) rfl
theorem kw_217 : Cond.laysFinal "SmallCourt$Books" "SmallCourt$Books" "byDay" "[I" ∈ hx_all := kt_g (kt_1 (List.mem_of_getElem? (i := 124) rfl)) rfl
theorem kw_219 : Cond.laysFinal "SmallCourt$Books" "SmallCourt$Books" "taken" "[Z" ∈ hx_all := kt_g (kt_1 (List.mem_of_getElem? (i := 126) rfl)) rfl
theorem kw_222 : Cond.arrayClass .boolean ∈ hx_all := kt_g (kt_1 (List.mem_of_getElem? (i := 129) rfl)) rfl
theorem kw_223 : Cond.classLink "SmallCourt" 46 "SmallCourt$Claim" ∈ hx_all := kt_g (kt_1 (List.mem_of_getElem? (i := 130) rfl)) rfl
theorem kw_224 : Cond.arrayOver (.object "SmallCourt$Claim") ∈ lw_tbl := kt_1 (List.mem_of_getElem? (i := 131) rfl)
theorem kw_225 : Cond.classLink "SmallCourt" 55 "SmallCourt$Payments" ∈ hx_all := kt_g (kt_1 (List.mem_of_getElem? (i := 132) rfl)) rfl
theorem kw_226 : Cond.instantiable "SmallCourt$Payments" 6 ∈ hx_all := kt_g (kt_1 (List.mem_of_getElem? (i := 133) rfl)) rfl
theorem kw_227 : Cond.methodLinkNest "SmallCourt" 57 yX3_init "SmallCourt" ∈ lw_tbl := kt_1 (List.mem_of_getElem? (i := 134) rfl)
theorem kw_228 : Cond.instanceMethod yX3_init ∈ hx_all := kt_g (kt_1 (List.mem_of_getElem? (i := 135) rfl)) rfl
theorem kw_229 : Cond.code yX3_init cX3_init 1 none ∈ hx_all := kt_g (kt_1 (List.mem_of_getElem? (i := 136) rfl)) rfl
theorem kw_230 : Cond.methodLink "SmallCourt$Payments" 3 Lib.objectInit ∈ hx_all := kt_g (kt_1 (List.mem_of_getElem? (i := 137) rfl)) rfl
theorem kw_231 : Cond.fieldLink "SmallCourt$Payments" 27 "SmallCourt$Payments" "count" "I" ∈ hx_all := kt_g (kt_1 (List.mem_of_getElem? (i := 138) rfl)) rfl
theorem kw_232 : Cond.fieldLink "SmallCourt" 278 "SmallCourt$Payments" "count" "I" ∈ hx_all := kt_g (kt_1 (List.mem_of_getElem? (i := 139) rfl)) rfl
theorem kw_233 : Cond.fieldLink "SmallCourt$Payments" 9 "SmallCourt$Payments" "struck" "[I" ∈ hx_all := kt_g (kt_1 (List.mem_of_getElem? (i := 140) rfl)) rfl
theorem kw_234 : Cond.fieldLink "SmallCourt" 286 "SmallCourt$Payments" "struck" "[I" ∈ hx_all := kt_g (kt_1 (List.mem_of_getElem? (i := 141) rfl)) rfl
theorem kw_235 : Cond.fieldLink "SmallCourt$Payments" 15 "SmallCourt$Payments" "of" "[I" ∈ hx_all := kt_g (kt_1 (List.mem_of_getElem? (i := 142) rfl)) rfl
theorem kw_236 : Cond.fieldLink "SmallCourt$Payments" 18 "SmallCourt$Payments" "day" "[I" ∈ hx_all := kt_g (kt_1 (List.mem_of_getElem? (i := 143) rfl)) rfl
theorem kw_237 : Cond.fieldLink "SmallCourt$Payments" 21 "SmallCourt$Payments" "known" "[I" ∈ hx_all := kt_g (kt_1 (List.mem_of_getElem? (i := 144) rfl)) rfl
theorem kw_238 : Cond.fieldLink "SmallCourt$Payments" 24 "SmallCourt$Payments" "sum" "[I" ∈ hx_all := kt_g (kt_1 (List.mem_of_getElem? (i := 145) rfl)) rfl
theorem kw_239 : Cond.lays "SmallCourt$Payments" "SmallCourt$Payments" "count" "I" ∈ hx_all := kt_g (kt_1 (List.mem_of_getElem? (i := 146) rfl)) rfl
theorem kw_241 : Cond.laysFinal "SmallCourt$Payments" "SmallCourt$Payments" "struck" "[I" ∈ hx_all := kt_g (kt_1 (List.mem_of_getElem? (i := 148) rfl)) rfl
theorem kw_243 : Cond.laysFinal "SmallCourt$Payments" "SmallCourt$Payments" "of" "[I" ∈ hx_all := kt_g (kt_1 (List.mem_of_getElem? (i := 150) rfl)) rfl
theorem kw_245 : Cond.laysFinal "SmallCourt$Payments" "SmallCourt$Payments" "day" "[I" ∈ hx_all := kt_g (kt_1 (List.mem_of_getElem? (i := 152) rfl)) rfl
theorem kw_247 : Cond.laysFinal "SmallCourt$Payments" "SmallCourt$Payments" "known" "[I" ∈ hx_all := kt_g (kt_1 (List.mem_of_getElem? (i := 154) rfl)) rfl
theorem kw_249 : Cond.laysFinal "SmallCourt$Payments" "SmallCourt$Payments" "sum" "[I" ∈ hx_all := kt_g (kt_1 (List.mem_of_getElem? (i := 156) rfl)) rfl
theorem kw_252 : Cond.classLink "SmallCourt" 69 "SmallCourt$Plan" ∈ hx_all := kt_g (kt_1 (List.mem_of_getElem? (i := 159) rfl)) rfl
theorem kw_253 : Cond.instantiable "SmallCourt$Plan" 13 ∈ hx_all := kt_g (kt_1 (List.mem_of_getElem? (i := 160) rfl)) rfl
theorem kw_254 : Cond.methodLinkNest "SmallCourt" 71 yX5_init "SmallCourt" ∈ lw_tbl := kt_1 (List.mem_of_getElem? (i := 161) rfl)
theorem kw_255 : Cond.instanceMethod yX5_init ∈ hx_all := kt_g (kt_1 (List.mem_of_getElem? (i := 162) rfl)) rfl
theorem kw_256 : Cond.code yX5_init cX5_init 1 none ∈ hx_all := kt_g (kt_1 (List.mem_of_getElem? (i := 163) rfl)) rfl
theorem kw_257 : Cond.methodLink "SmallCourt$Plan" 3 Lib.objectInit ∈ hx_all := kt_g (kt_1 (List.mem_of_getElem? (i := 164) rfl)) rfl
theorem kw_258 : Cond.fieldLink "SmallCourt$Plan" 33 "SmallCourt$Plan" "open" "I" ∈ hx_all := kt_g (kt_1 (List.mem_of_getElem? (i := 165) rfl)) rfl
theorem kw_259 : Cond.fieldLink "SmallCourt" 326 "SmallCourt$Plan" "open" "I" ∈ hx_all := kt_g (kt_1 (List.mem_of_getElem? (i := 166) rfl)) rfl
theorem kw_260 : Cond.fieldLink "SmallCourt$Plan" 81 "SmallCourt$Plan" "told" "I" ∈ hx_all := kt_g (kt_1 (List.mem_of_getElem? (i := 167) rfl)) rfl
theorem kw_261 : Cond.fieldLink "SmallCourt" 337 "SmallCourt$Plan" "told" "I" ∈ hx_all := kt_g (kt_1 (List.mem_of_getElem? (i := 168) rfl)) rfl
theorem kw_262 : Cond.fieldLink "SmallCourt$Plan" 9 "SmallCourt$Plan" "claims" "[I" ∈ hx_all := kt_g (kt_1 (List.mem_of_getElem? (i := 169) rfl)) rfl
theorem kw_263 : Cond.fieldLink "SmallCourt" 339 "SmallCourt$Plan" "claims" "[I" ∈ hx_all := kt_g (kt_1 (List.mem_of_getElem? (i := 170) rfl)) rfl
theorem kw_264 : Cond.fieldLink "SmallCourt$Plan" 15 "SmallCourt$Plan" "weekly" "[I" ∈ hx_all := kt_g (kt_1 (List.mem_of_getElem? (i := 171) rfl)) rfl
theorem kw_265 : Cond.fieldLink "SmallCourt" 341 "SmallCourt$Plan" "weekly" "[I" ∈ hx_all := kt_g (kt_1 (List.mem_of_getElem? (i := 172) rfl)) rfl
theorem kw_266 : Cond.fieldLink "SmallCourt$Plan" 18 "SmallCourt$Plan" "weeks" "[I" ∈ hx_all := kt_g (kt_1 (List.mem_of_getElem? (i := 173) rfl)) rfl
theorem kw_267 : Cond.fieldLink "SmallCourt" 343 "SmallCourt$Plan" "weeks" "[I" ∈ hx_all := kt_g (kt_1 (List.mem_of_getElem? (i := 174) rfl)) rfl
theorem kw_268 : Cond.fieldLink "SmallCourt$Plan" 21 "SmallCourt$Plan" "opened" "[I" ∈ hx_all := kt_g (kt_1 (List.mem_of_getElem? (i := 175) rfl)) rfl
theorem kw_269 : Cond.fieldLink "SmallCourt$Plan" 24 "SmallCourt$Plan" "rest" "[I" ∈ hx_all := kt_g (kt_1 (List.mem_of_getElem? (i := 176) rfl)) rfl
theorem kw_270 : Cond.fieldLink "SmallCourt$Plan" 27 "SmallCourt$Plan" "least" "[I" ∈ hx_all := kt_g (kt_1 (List.mem_of_getElem? (i := 177) rfl)) rfl
theorem kw_271 : Cond.fieldLink "SmallCourt$Plan" 30 "SmallCourt$Plan" "tried" "[I" ∈ hx_all := kt_g (kt_1 (List.mem_of_getElem? (i := 178) rfl)) rfl
theorem kw_272 : Cond.fieldLink "SmallCourt$Plan" 37 "SmallCourt$Plan" "unit" "I" ∈ hx_all := kt_g (kt_1 (List.mem_of_getElem? (i := 179) rfl)) rfl
theorem kw_273 : Cond.fieldLink "SmallCourt$Plan" 40 "SmallCourt$Plan" "means" "I" ∈ hx_all := kt_g (kt_1 (List.mem_of_getElem? (i := 180) rfl)) rfl
theorem kw_274 : Cond.fieldLink "SmallCourt$Plan" 68 "SmallCourt$Plan" "bestLast" "I" ∈ hx_all := kt_g (kt_1 (List.mem_of_getElem? (i := 181) rfl)) rfl
theorem kw_275 : Cond.fieldLink "SmallCourt$Plan" 71 "SmallCourt$Plan" "bestAll" "I" ∈ hx_all := kt_g (kt_1 (List.mem_of_getElem? (i := 182) rfl)) rfl
theorem kw_276 : Cond.lays "SmallCourt$Plan" "SmallCourt$Plan" "open" "I" ∈ hx_all := kt_g (kt_1 (List.mem_of_getElem? (i := 183) rfl)) rfl
theorem kw_278 : Cond.lays "SmallCourt$Plan" "SmallCourt$Plan" "told" "I" ∈ hx_all := kt_g (kt_1 (List.mem_of_getElem? (i := 185) rfl)) rfl
theorem kw_280 : Cond.laysFinal "SmallCourt$Plan" "SmallCourt$Plan" "claims" "[I" ∈ hx_all := kt_g (kt_1 (List.mem_of_getElem? (i := 187) rfl)) rfl
theorem kw_282 : Cond.laysFinal "SmallCourt$Plan" "SmallCourt$Plan" "weekly" "[I" ∈ hx_all := kt_g (kt_1 (List.mem_of_getElem? (i := 189) rfl)) rfl
theorem kw_284 : Cond.laysFinal "SmallCourt$Plan" "SmallCourt$Plan" "weeks" "[I" ∈ hx_all := kt_g (kt_1 (List.mem_of_getElem? (i := 191) rfl)) rfl
theorem kw_286 : Cond.laysFinal "SmallCourt$Plan" "SmallCourt$Plan" "opened" "[I" ∈ hx_all := kt_g (kt_1 (List.mem_of_getElem? (i := 193) rfl)) rfl
theorem kw_288 : Cond.laysFinal "SmallCourt$Plan" "SmallCourt$Plan" "rest" "[I" ∈ hx_all := kt_g (kt_1 (List.mem_of_getElem? (i := 195) rfl)) rfl
theorem kw_290 : Cond.laysFinal "SmallCourt$Plan" "SmallCourt$Plan" "least" "[I" ∈ hx_all := kt_g (kt_1 (List.mem_of_getElem? (i := 197) rfl)) rfl
theorem kw_292 : Cond.laysFinal "SmallCourt$Plan" "SmallCourt$Plan" "tried" "[I" ∈ hx_all := kt_g (kt_1 (List.mem_of_getElem? (i := 199) rfl)) rfl
theorem kw_294 : Cond.lays "SmallCourt$Plan" "SmallCourt$Plan" "unit" "I" ∈ hx_all := kt_g (kt_1 (List.mem_of_getElem? (i := 201) rfl)) rfl
theorem kw_296 : Cond.lays "SmallCourt$Plan" "SmallCourt$Plan" "means" "I" ∈ hx_all := kt_g (kt_1 (List.mem_of_getElem? (i := 203) rfl)) rfl
theorem kw_298 : Cond.lays "SmallCourt$Plan" "SmallCourt$Plan" "bestLast" "I" ∈ hx_all := kt_g (kt_1 (List.mem_of_getElem? (i := 205) rfl)) rfl
theorem kw_300 : Cond.lays "SmallCourt$Plan" "SmallCourt$Plan" "bestAll" "I" ∈ hx_all := kt_g (kt_1 (List.mem_of_getElem? (i := 207) rfl)) rfl
theorem kw_303 : Cond.classLink "SmallCourt" 76 "SmallCourt$Rings" ∈ hx_all := kt_g (kt_1 (List.mem_of_getElem? (i := 210) rfl)) rfl
theorem kw_304 : Cond.instantiable "SmallCourt$Rings" 8 ∈ hx_all := kt_g (kt_1 (List.mem_of_getElem? (i := 211) rfl)) rfl
theorem kw_305 : Cond.methodLinkNest "SmallCourt" 78 yX7_init "SmallCourt" ∈ lw_tbl := kt_1 (List.mem_of_getElem? (i := 212) rfl)
theorem kw_306 : Cond.instanceMethod yX7_init ∈ hx_all := kt_g (kt_1 (List.mem_of_getElem? (i := 213) rfl)) rfl
theorem kw_307 : Cond.code yX7_init cX7_init 1 none ∈ hx_all := kt_g (kt_1 (List.mem_of_getElem? (i := 214) rfl)) rfl
theorem kw_308 : Cond.methodLink "SmallCourt$Rings" 3 Lib.objectInit ∈ hx_all := kt_g (kt_1 (List.mem_of_getElem? (i := 215) rfl)) rfl
theorem kw_309 : Cond.fieldLink "SmallCourt$Rings" 9 "SmallCourt$Rings" "count" "I" ∈ hx_all := kt_g (kt_1 (List.mem_of_getElem? (i := 216) rfl)) rfl
theorem kw_310 : Cond.fieldLink "SmallCourt" 374 "SmallCourt$Rings" "count" "I" ∈ hx_all := kt_g (kt_1 (List.mem_of_getElem? (i := 217) rfl)) rfl
theorem kw_311 : Cond.fieldLink "SmallCourt$Rings" 31 "SmallCourt$Rings" "bestLength" "I" ∈ hx_all := kt_g (kt_1 (List.mem_of_getElem? (i := 218) rfl)) rfl
theorem kw_312 : Cond.fieldLink "SmallCourt" 361 "SmallCourt$Rings" "bestLength" "I" ∈ hx_all := kt_g (kt_1 (List.mem_of_getElem? (i := 219) rfl)) rfl
theorem kw_313 : Cond.fieldLink "SmallCourt$Rings" 34 "SmallCourt$Rings" "bestLeast" "I" ∈ hx_all := kt_g (kt_1 (List.mem_of_getElem? (i := 220) rfl)) rfl
theorem kw_314 : Cond.fieldLink "SmallCourt" 364 "SmallCourt$Rings" "bestLeast" "I" ∈ hx_all := kt_g (kt_1 (List.mem_of_getElem? (i := 221) rfl)) rfl
theorem kw_315 : Cond.fieldLink "SmallCourt$Rings" 15 "SmallCourt$Rings" "leasts" "[I" ∈ hx_all := kt_g (kt_1 (List.mem_of_getElem? (i := 222) rfl)) rfl
theorem kw_316 : Cond.fieldLink "SmallCourt" 375 "SmallCourt$Rings" "leasts" "[I" ∈ hx_all := kt_g (kt_1 (List.mem_of_getElem? (i := 223) rfl)) rfl
theorem kw_317 : Cond.fieldLink "SmallCourt$Rings" 28 "SmallCourt$Rings" "size" "I" ∈ hx_all := kt_g (kt_1 (List.mem_of_getElem? (i := 224) rfl)) rfl
theorem kw_318 : Cond.fieldLink "SmallCourt$Rings" 19 "SmallCourt$Rings" "owes" "[I" ∈ hx_all := kt_g (kt_1 (List.mem_of_getElem? (i := 225) rfl)) rfl
theorem kw_319 : Cond.fieldLink "SmallCourt$Rings" 22 "SmallCourt$Rings" "ring" "[I" ∈ hx_all := kt_g (kt_1 (List.mem_of_getElem? (i := 226) rfl)) rfl
theorem kw_320 : Cond.fieldLink "SmallCourt$Rings" 25 "SmallCourt$Rings" "best" "[I" ∈ hx_all := kt_g (kt_1 (List.mem_of_getElem? (i := 227) rfl)) rfl
theorem kw_321 : Cond.lays "SmallCourt$Rings" "SmallCourt$Rings" "count" "I" ∈ hx_all := kt_g (kt_1 (List.mem_of_getElem? (i := 228) rfl)) rfl
theorem kw_323 : Cond.lays "SmallCourt$Rings" "SmallCourt$Rings" "bestLength" "I" ∈ hx_all := kt_g (kt_1 (List.mem_of_getElem? (i := 230) rfl)) rfl
theorem kw_325 : Cond.lays "SmallCourt$Rings" "SmallCourt$Rings" "bestLeast" "I" ∈ hx_all := kt_g (kt_1 (List.mem_of_getElem? (i := 232) rfl)) rfl
theorem kw_327 : Cond.laysFinal "SmallCourt$Rings" "SmallCourt$Rings" "leasts" "[I" ∈ hx_all := kt_g (kt_1 (List.mem_of_getElem? (i := 234) rfl)) rfl
theorem kw_329 : Cond.lays "SmallCourt$Rings" "SmallCourt$Rings" "size" "I" ∈ hx_all := kt_g (kt_1 (List.mem_of_getElem? (i := 236) rfl)) rfl
theorem kw_331 : Cond.laysFinal "SmallCourt$Rings" "SmallCourt$Rings" "owes" "[I" ∈ hx_all := kt_g (kt_1 (List.mem_of_getElem? (i := 238) rfl)) rfl
theorem kw_333 : Cond.laysFinal "SmallCourt$Rings" "SmallCourt$Rings" "ring" "[I" ∈ hx_all := kt_g (kt_2 (List.mem_of_getElem? (i := 0) rfl)) rfl
theorem kw_335 : Cond.laysFinal "SmallCourt$Rings" "SmallCourt$Rings" "best" "[I" ∈ hx_all := kt_g (kt_2 (List.mem_of_getElem? (i := 2) rfl)) rfl
theorem kw_338 : Cond.classLink "SmallCourt" 83 "SmallCourt$Walk" ∈ hx_all := kt_g (kt_2 (List.mem_of_getElem? (i := 5) rfl)) rfl
theorem kw_339 : Cond.instantiable "SmallCourt$Walk" 5 ∈ hx_all := kt_g (kt_2 (List.mem_of_getElem? (i := 6) rfl)) rfl
theorem kw_340 : Cond.methodLinkNest "SmallCourt" 85 yX8_init "SmallCourt" ∈ lw_tbl := kt_2 (List.mem_of_getElem? (i := 7) rfl)
theorem kw_341 : Cond.instanceMethod yX8_init ∈ hx_all := kt_g (kt_2 (List.mem_of_getElem? (i := 8) rfl)) rfl
theorem kw_342 : Cond.code yX8_init cX8_init 1 none ∈ hx_all := kt_g (kt_2 (List.mem_of_getElem? (i := 9) rfl)) rfl
theorem kw_343 : Cond.methodLink "SmallCourt$Walk" 3 Lib.objectInit ∈ hx_all := kt_g (kt_2 (List.mem_of_getElem? (i := 10) rfl)) rfl
theorem kw_344 : Cond.classLink "SmallCourt$Walk" 15 "SmallCourt$Claim" ∈ hx_all := kt_g (kt_2 (List.mem_of_getElem? (i := 11) rfl)) rfl
theorem kw_345 : Cond.fieldLink "SmallCourt$Walk" 24 "SmallCourt$Walk" "listed" "I" ∈ hx_all := kt_g (kt_2 (List.mem_of_getElem? (i := 12) rfl)) rfl
theorem kw_346 : Cond.fieldLink "SmallCourt" 381 "SmallCourt$Walk" "listed" "I" ∈ hx_all := kt_g (kt_2 (List.mem_of_getElem? (i := 13) rfl)) rfl
theorem kw_347 : Cond.fieldLink "SmallCourt$Walk" 47 "SmallCourt$Walk" "walked" "I" ∈ hx_all := kt_g (kt_2 (List.mem_of_getElem? (i := 14) rfl)) rfl
theorem kw_348 : Cond.fieldLink "SmallCourt" 391 "SmallCourt$Walk" "walked" "I" ∈ hx_all := kt_g (kt_2 (List.mem_of_getElem? (i := 15) rfl)) rfl
theorem kw_349 : Cond.fieldLink "SmallCourt$Walk" 9 "SmallCourt$Walk" "latest" "[I" ∈ hx_all := kt_g (kt_2 (List.mem_of_getElem? (i := 16) rfl)) rfl
theorem kw_350 : Cond.fieldLink "SmallCourt" 394 "SmallCourt$Walk" "latest" "[I" ∈ hx_all := kt_g (kt_2 (List.mem_of_getElem? (i := 17) rfl)) rfl
theorem kw_351 : Cond.fieldLink "SmallCourt$Walk" 17 "SmallCourt$Walk" "list" "[LSmallCourt$Claim;" ∈ hx_all := kt_g (kt_2 (List.mem_of_getElem? (i := 18) rfl)) rfl
theorem kw_352 : Cond.fieldLink "SmallCourt$Walk" 21 "SmallCourt$Walk" "left" "[I" ∈ hx_all := kt_g (kt_2 (List.mem_of_getElem? (i := 19) rfl)) rfl
theorem kw_353 : Cond.lays "SmallCourt$Walk" "SmallCourt$Walk" "listed" "I" ∈ hx_all := kt_g (kt_2 (List.mem_of_getElem? (i := 20) rfl)) rfl
theorem kw_355 : Cond.lays "SmallCourt$Walk" "SmallCourt$Walk" "walked" "I" ∈ hx_all := kt_g (kt_2 (List.mem_of_getElem? (i := 22) rfl)) rfl
theorem kw_357 : Cond.laysFinal "SmallCourt$Walk" "SmallCourt$Walk" "latest" "[I" ∈ hx_all := kt_g (kt_2 (List.mem_of_getElem? (i := 24) rfl)) rfl
theorem kw_359 : Cond.laysFinal "SmallCourt$Walk" "SmallCourt$Walk" "list" "[LSmallCourt$Claim;" ∈ hx_all := kt_g (kt_2 (List.mem_of_getElem? (i := 26) rfl)) rfl
theorem kw_361 : Cond.laysFinal "SmallCourt$Walk" "SmallCourt$Walk" "left" "[I" ∈ hx_all := kt_g (kt_2 (List.mem_of_getElem? (i := 28) rfl)) rfl
theorem kw_364 : Cond.fieldLink "SmallCourt" 9 "SmallCourt" "tape" "[B" ∈ hx_all := kt_g (kt_2 (List.mem_of_getElem? (i := 31) rfl)) rfl
theorem kw_365 : Cond.fieldLink "SmallCourt" 98 "SmallCourt" "tapeLength" "I" ∈ hx_all := kt_g (kt_2 (List.mem_of_getElem? (i := 32) rfl)) rfl
theorem kw_366 : Cond.fieldLink "SmallCourt" 94 "SmallCourt" "now" "I" ∈ hx_all := kt_g (kt_2 (List.mem_of_getElem? (i := 33) rfl)) rfl
theorem kw_367 : Cond.fieldLink "SmallCourt" 16 "SmallCourt" "reader" "LSmallCourt$Reader;" ∈ hx_all := kt_g (kt_2 (List.mem_of_getElem? (i := 34) rfl)) rfl
theorem kw_368 : Cond.fieldLink "SmallCourt" 25 "SmallCourt" "without" "LSmallCourt$Act;" ∈ hx_all := kt_g (kt_2 (List.mem_of_getElem? (i := 35) rfl)) rfl
theorem kw_369 : Cond.fieldLink "SmallCourt" 29 "SmallCourt" "acts" "[LSmallCourt$Act;" ∈ hx_all := kt_g (kt_2 (List.mem_of_getElem? (i := 36) rfl)) rfl
theorem kw_370 : Cond.fieldLink "SmallCourt" 105 "SmallCourt" "actCount" "I" ∈ hx_all := kt_g (kt_2 (List.mem_of_getElem? (i := 37) rfl)) rfl
theorem kw_371 : Cond.fieldLink "SmallCourt" 35 "SmallCourt" "persons" "[LSmallCourt$Person;" ∈ hx_all := kt_g (kt_2 (List.mem_of_getElem? (i := 38) rfl)) rfl
theorem kw_372 : Cond.fieldLink "SmallCourt" 125 "SmallCourt" "personCount" "I" ∈ hx_all := kt_g (kt_2 (List.mem_of_getElem? (i := 39) rfl)) rfl
theorem kw_373 : Cond.fieldLink "SmallCourt" 42 "SmallCourt" "books" "LSmallCourt$Books;" ∈ hx_all := kt_g (kt_2 (List.mem_of_getElem? (i := 40) rfl)) rfl
theorem kw_374 : Cond.fieldLink "SmallCourt" 48 "SmallCourt" "claims" "[LSmallCourt$Claim;" ∈ hx_all := kt_g (kt_2 (List.mem_of_getElem? (i := 41) rfl)) rfl
theorem kw_375 : Cond.fieldLink "SmallCourt" 181 "SmallCourt" "claimCount" "I" ∈ hx_all := kt_g (kt_2 (List.mem_of_getElem? (i := 42) rfl)) rfl
theorem kw_376 : Cond.fieldLink "SmallCourt" 52 "SmallCourt" "heard" "[LSmallCourt$Claim;" ∈ hx_all := kt_g (kt_2 (List.mem_of_getElem? (i := 43) rfl)) rfl
theorem kw_377 : Cond.fieldLink "SmallCourt" 216 "SmallCourt" "heardCount" "I" ∈ hx_all := kt_g (kt_2 (List.mem_of_getElem? (i := 44) rfl)) rfl
theorem kw_378 : Cond.fieldLink "SmallCourt" 58 "SmallCourt" "payments" "LSmallCourt$Payments;" ∈ hx_all := kt_g (kt_2 (List.mem_of_getElem? (i := 45) rfl)) rfl
theorem kw_379 : Cond.fieldLink "SmallCourt" 62 "SmallCourt" "fit" "[I" ∈ hx_all := kt_g (kt_2 (List.mem_of_getElem? (i := 46) rfl)) rfl
theorem kw_380 : Cond.fieldLink "SmallCourt" 66 "SmallCourt" "rests" "[I" ∈ hx_all := kt_g (kt_2 (List.mem_of_getElem? (i := 47) rfl)) rfl
theorem kw_381 : Cond.fieldLink "SmallCourt" 72 "SmallCourt" "planning" "LSmallCourt$Plan;" ∈ hx_all := kt_g (kt_2 (List.mem_of_getElem? (i := 48) rfl)) rfl
theorem kw_382 : Cond.fieldLink "SmallCourt" 79 "SmallCourt" "rings" "LSmallCourt$Rings;" ∈ hx_all := kt_g (kt_2 (List.mem_of_getElem? (i := 49) rfl)) rfl
theorem kw_383 : Cond.fieldLink "SmallCourt" 86 "SmallCourt" "walking" "LSmallCourt$Walk;" ∈ hx_all := kt_g (kt_2 (List.mem_of_getElem? (i := 50) rfl)) rfl
theorem kw_384 : Cond.laysFinal "SmallCourt" "SmallCourt" "tape" "[B" ∈ hx_all := kt_g (kt_2 (List.mem_of_getElem? (i := 51) rfl)) rfl
theorem kw_386 : Cond.lays "SmallCourt" "SmallCourt" "tapeLength" "I" ∈ hx_all := kt_g (kt_2 (List.mem_of_getElem? (i := 53) rfl)) rfl
theorem kw_388 : Cond.lays "SmallCourt" "SmallCourt" "now" "I" ∈ hx_all := kt_g (kt_2 (List.mem_of_getElem? (i := 55) rfl)) rfl
theorem kw_390 : Cond.laysFinal "SmallCourt" "SmallCourt" "reader" "LSmallCourt$Reader;" ∈ hx_all := kt_g (kt_2 (List.mem_of_getElem? (i := 57) rfl)) rfl
theorem kw_392 : Cond.laysFinal "SmallCourt" "SmallCourt" "without" "LSmallCourt$Act;" ∈ hx_all := kt_g (kt_2 (List.mem_of_getElem? (i := 59) rfl)) rfl
theorem kw_394 : Cond.laysFinal "SmallCourt" "SmallCourt" "acts" "[LSmallCourt$Act;" ∈ hx_all := kt_g (kt_2 (List.mem_of_getElem? (i := 61) rfl)) rfl
theorem kw_396 : Cond.lays "SmallCourt" "SmallCourt" "actCount" "I" ∈ hx_all := kt_g (kt_2 (List.mem_of_getElem? (i := 63) rfl)) rfl
theorem kw_398 : Cond.laysFinal "SmallCourt" "SmallCourt" "persons" "[LSmallCourt$Person;" ∈ hx_all := kt_g (kt_2 (List.mem_of_getElem? (i := 65) rfl)) rfl
theorem kw_400 : Cond.lays "SmallCourt" "SmallCourt" "personCount" "I" ∈ hx_all := kt_g (kt_2 (List.mem_of_getElem? (i := 67) rfl)) rfl
theorem kw_402 : Cond.laysFinal "SmallCourt" "SmallCourt" "books" "LSmallCourt$Books;" ∈ hx_all := kt_g (kt_2 (List.mem_of_getElem? (i := 69) rfl)) rfl
theorem kw_404 : Cond.laysFinal "SmallCourt" "SmallCourt" "claims" "[LSmallCourt$Claim;" ∈ hx_all := kt_g (kt_2 (List.mem_of_getElem? (i := 71) rfl)) rfl
theorem kw_406 : Cond.lays "SmallCourt" "SmallCourt" "claimCount" "I" ∈ hx_all := kt_g (kt_2 (List.mem_of_getElem? (i := 73) rfl)) rfl
theorem kw_408 : Cond.laysFinal "SmallCourt" "SmallCourt" "heard" "[LSmallCourt$Claim;" ∈ hx_all := kt_g (kt_2 (List.mem_of_getElem? (i := 75) rfl)) rfl
theorem kw_410 : Cond.lays "SmallCourt" "SmallCourt" "heardCount" "I" ∈ hx_all := kt_g (kt_2 (List.mem_of_getElem? (i := 77) rfl)) rfl
theorem kw_412 : Cond.laysFinal "SmallCourt" "SmallCourt" "payments" "LSmallCourt$Payments;" ∈ hx_all := kt_g (kt_2 (List.mem_of_getElem? (i := 79) rfl)) rfl
theorem kw_414 : Cond.laysFinal "SmallCourt" "SmallCourt" "fit" "[I" ∈ hx_all := kt_g (kt_2 (List.mem_of_getElem? (i := 81) rfl)) rfl
theorem kw_416 : Cond.laysFinal "SmallCourt" "SmallCourt" "rests" "[I" ∈ hx_all := kt_g (kt_2 (List.mem_of_getElem? (i := 83) rfl)) rfl
theorem kw_418 : Cond.laysFinal "SmallCourt" "SmallCourt" "planning" "LSmallCourt$Plan;" ∈ hx_all := kt_g (kt_2 (List.mem_of_getElem? (i := 85) rfl)) rfl
theorem kw_420 : Cond.laysFinal "SmallCourt" "SmallCourt" "rings" "LSmallCourt$Rings;" ∈ hx_all := kt_g (kt_2 (List.mem_of_getElem? (i := 87) rfl)) rfl
theorem kw_422 : Cond.laysFinal "SmallCourt" "SmallCourt" "walking" "LSmallCourt$Walk;" ∈ hx_all := kt_g (kt_2 (List.mem_of_getElem? (i := 89) rfl)) rfl
theorem kw_425 : Cond.methodLink "SmallCourtLaw" 13 yX9_clock ∈ hx_all := kt_g (kt_2 (List.mem_of_getElem? (i := 92) rfl)) rfl
theorem kw_426 : Cond.instanceMethod yX9_clock ∈ hx_all := kt_g (kt_2 (List.mem_of_getElem? (i := 93) rfl)) rfl
theorem kw_427 : Cond.selects "SmallCourt" yX9_clock yX9_clock ∈ hx_all := kt_g (kt_2 (List.mem_of_getElem? (i := 94) rfl)) rfl
theorem kw_428 : Cond.code yX9_clock cX9_clock 2 (some .boolean) ∈ hx_all := kt_g (kt_2 (List.mem_of_getElem? (i := 95) rfl)) rfl
theorem kw_429 : Cond.methodLink "SmallCourt" 90 yX9_isDay ∈ hx_all := kt_g (kt_2 (List.mem_of_getElem? (i := 96) rfl)) rfl
theorem kw_430 : Cond.static yX9_isDay ∈ hx_all := kt_g (kt_2 (List.mem_of_getElem? (i := 97) rfl)) rfl
theorem kw_431 : Cond.code yX9_isDay cX9_isDay 1 (some .boolean) ∈ hx_all := kt_g (kt_2 (List.mem_of_getElem? (i := 98) rfl)) rfl
theorem kw_432 : Cond.methodLink "SmallCourt" 128 yX9_isWithin ∈ hx_all := kt_g (kt_2 (List.mem_of_getElem? (i := 99) rfl)) rfl
theorem kw_433 : Cond.static yX9_isWithin ∈ hx_all := kt_g (kt_2 (List.mem_of_getElem? (i := 100) rfl)) rfl
theorem kw_434 : Cond.code yX9_isWithin cX9_isWithin 3 (some .boolean) ∈ hx_all := kt_g (kt_2 (List.mem_of_getElem? (i := 101) rfl)) rfl
theorem kw_435 : Cond.methodLink "SmallCourtLaw" 18 yX9_feed ∈ hx_all := kt_g (kt_2 (List.mem_of_getElem? (i := 102) rfl)) rfl
theorem kw_436 : Cond.instanceMethod yX9_feed ∈ hx_all := kt_g (kt_2 (List.mem_of_getElem? (i := 103) rfl)) rfl
theorem kw_437 : Cond.selects "SmallCourt" yX9_feed yX9_feed ∈ hx_all := kt_g (kt_2 (List.mem_of_getElem? (i := 104) rfl)) rfl
theorem kw_438 : Cond.code yX9_feed cX9_feed 6 (some .int) ∈ hx_all := kt_g (kt_2 (List.mem_of_getElem? (i := 105) rfl)) rfl
theorem kw_439 : Cond.methodLink "SmallCourt" 101 yX9_feedBytes ∈ hx_all := kt_g (kt_2 (List.mem_of_getElem? (i := 106) rfl)) rfl
theorem kw_441 : Cond.instanceMethod yX9_feedBytes ∈ hx_all := kt_g (kt_2 (List.mem_of_getElem? (i := 108) rfl)) rfl
theorem kw_442 : Cond.code yX9_feedBytes cX9_feedBytes 3 none ∈ hx_all := kt_g (kt_2 (List.mem_of_getElem? (i := 109) rfl)) rfl
theorem kw_443 : Cond.methodLink "SmallCourtLaw" 23 yX9_end ∈ hx_all := kt_g (kt_2 (List.mem_of_getElem? (i := 110) rfl)) rfl
theorem kw_444 : Cond.instanceMethod yX9_end ∈ hx_all := kt_g (kt_2 (List.mem_of_getElem? (i := 111) rfl)) rfl
theorem kw_445 : Cond.selects "SmallCourt" yX9_end yX9_end ∈ hx_all := kt_g (kt_2 (List.mem_of_getElem? (i := 112) rfl)) rfl
theorem kw_446 : Cond.code yX9_end cX9_end 2 (some .int) ∈ hx_all := kt_g (kt_2 (List.mem_of_getElem? (i := 113) rfl)) rfl
theorem kw_447 : Cond.methodLink "SmallCourtLaw" 28 yX9_act ∈ hx_all := kt_g (kt_2 (List.mem_of_getElem? (i := 114) rfl)) rfl
theorem kw_448 : Cond.instanceMethod yX9_act ∈ hx_all := kt_g (kt_2 (List.mem_of_getElem? (i := 115) rfl)) rfl
theorem kw_449 : Cond.selects "SmallCourt" yX9_act yX9_act ∈ hx_all := kt_g (kt_2 (List.mem_of_getElem? (i := 116) rfl)) rfl
theorem kw_450 : Cond.code yX9_act cX9_act 4 (some .int) ∈ hx_all := kt_g (kt_2 (List.mem_of_getElem? (i := 117) rfl)) rfl
theorem kw_451 : Cond.methodLink "SmallCourt" 108 yX6_readAct ∈ hx_all := kt_g (kt_2 (List.mem_of_getElem? (i := 118) rfl)) rfl
theorem kw_452 : Cond.instanceMethod yX6_readAct ∈ hx_all := kt_g (kt_2 (List.mem_of_getElem? (i := 119) rfl)) rfl
theorem kw_453 : Cond.selects "SmallCourt$Reader" yX6_readAct yX6_readAct ∈ hx_all := kt_g (kt_2 (List.mem_of_getElem? (i := 120) rfl)) rfl
theorem kw_454 : Cond.code yX6_readAct cX6_readAct 6 (some .int) ∈ hx_all := kt_g (kt_2 (List.mem_of_getElem? (i := 121) rfl)) rfl
theorem kw_455 : Cond.methodLink "SmallCourt$Reader" 35 yX6_skipBlanks ∈ hx_all := kt_g (kt_2 (List.mem_of_getElem? (i := 122) rfl)) rfl
theorem kw_457 : Cond.instanceMethod yX6_skipBlanks ∈ hx_all := kt_g (kt_2 (List.mem_of_getElem? (i := 124) rfl)) rfl
theorem kw_458 : Cond.code yX6_skipBlanks cX6_skipBlanks 1 none ∈ hx_all := kt_g (kt_2 (List.mem_of_getElem? (i := 125) rfl)) rfl
theorem kw_459 : Cond.methodLink "SmallCourt$Reader" 38 yX6_readClause ∈ hx_all := kt_g (kt_2 (List.mem_of_getElem? (i := 126) rfl)) rfl
theorem kw_461 : Cond.instanceMethod yX6_readClause ∈ hx_all := kt_g (kt_2 (List.mem_of_getElem? (i := 128) rfl)) rfl
theorem kw_462 : Cond.code yX6_readClause cX6_readClause 3 (some .boolean) ∈ hx_all := kt_g (kt_2 (List.mem_of_getElem? (i := 129) rfl)) rfl
theorem kw_464 : Cond.methodLink "SmallCourt$Reader" 51 yX6_readWord ∈ hx_all := kt_g (kt_2 (List.mem_of_getElem? (i := 131) rfl)) rfl
theorem kw_466 : Cond.instanceMethod yX6_readWord ∈ hx_all := kt_g (kt_2 (List.mem_of_getElem? (i := 133) rfl)) rfl
theorem kw_467 : Cond.code yX6_readWord cX6_readWord 4 (some .int) ∈ hx_all := kt_g (kt_2 (List.mem_of_getElem? (i := 134) rfl)) rfl
theorem kw_468 : Cond.methodLink "SmallCourt$Reader" 125 yX6_wordEnd ∈ hx_all := kt_g (kt_2 (List.mem_of_getElem? (i := 135) rfl)) rfl
theorem kw_470 : Cond.instanceMethod yX6_wordEnd ∈ hx_all := kt_g (kt_2 (List.mem_of_getElem? (i := 137) rfl)) rfl
theorem kw_471 : Cond.code yX6_wordEnd cX6_wordEnd 2 (some .int) ∈ hx_all := kt_g (kt_2 (List.mem_of_getElem? (i := 138) rfl)) rfl
theorem kw_472 : Cond.methodLink "SmallCourt$Reader" 128 yJ0_length_8abf5 ∈ hx_all := kt_g (kt_2 (List.mem_of_getElem? (i := 139) rfl)) rfl
theorem kw_473 : Cond.instanceMethod yJ0_length_8abf5 ∈ hx_all := kt_g (kt_2 (List.mem_of_getElem? (i := 140) rfl)) rfl
theorem kw_474 : Cond.selects "java/lang/String" yJ0_length_8abf5 yJ0_length_8abf5 ∈ hx_all := kt_g (kt_2 (List.mem_of_getElem? (i := 141) rfl)) rfl
theorem kw_475 : Cond.code yJ0_length_8abf5 cJ0_length_8abf5 1 (some .int) ∈ hx_all := kt_g (kt_2 (List.mem_of_getElem? (i := 142) rfl)) rfl
theorem kw_476 : Cond.methodLink "java/lang/String" 335 yJ0_coder_7d493 ∈ hx_all := kt_g (kt_2 (List.mem_of_getElem? (i := 143) rfl)) rfl
theorem kw_477 : Cond.instanceMethod yJ0_coder_7d493 ∈ hx_all := kt_g (kt_2 (List.mem_of_getElem? (i := 144) rfl)) rfl
theorem kw_478 : Cond.selects "java/lang/String" yJ0_coder_7d493 yJ0_coder_7d493 ∈ hx_all := kt_g (kt_2 (List.mem_of_getElem? (i := 145) rfl)) rfl
theorem kw_479 : Cond.code yJ0_coder_7d493 cJ0_coder_7d493 1 (some .byte) ∈ hx_all := kt_g (kt_2 (List.mem_of_getElem? (i := 146) rfl)) rfl
theorem kw_480 : Cond.fieldLink "java/lang/String" 38 "java/lang/String" "COMPACT_STRINGS" "Z" ∈ hx_all := kt_g (kt_2 (List.mem_of_getElem? (i := 147) rfl)) rfl
theorem kw_482 : Cond.methodLink "SmallCourt$Reader" 132 yX6_isSlot ∈ hx_all := kt_g (kt_2 (List.mem_of_getElem? (i := 149) rfl)) rfl
theorem kw_484 : Cond.instanceMethod yX6_isSlot ∈ hx_all := kt_g (kt_2 (List.mem_of_getElem? (i := 151) rfl)) rfl
theorem kw_485 : Cond.code yX6_isSlot cX6_isSlot 6 (some .boolean) ∈ hx_all := kt_g (kt_2 (List.mem_of_getElem? (i := 152) rfl)) rfl
theorem kw_486 : Cond.methodLink "SmallCourt$Reader" 136 yJ0_charAt_5068e ∈ hx_all := kt_g (kt_2 (List.mem_of_getElem? (i := 153) rfl)) rfl
theorem kw_487 : Cond.instanceMethod yJ0_charAt_5068e ∈ hx_all := kt_g (kt_2 (List.mem_of_getElem? (i := 154) rfl)) rfl
theorem kw_488 : Cond.selects "java/lang/String" yJ0_charAt_5068e yJ0_charAt_5068e ∈ hx_all := kt_g (kt_2 (List.mem_of_getElem? (i := 155) rfl)) rfl
theorem kw_489 : Cond.code yJ0_charAt_5068e cJ0_charAt_5068e 2 (some .char) ∈ hx_all := kt_g (kt_2 (List.mem_of_getElem? (i := 156) rfl)) rfl
theorem kw_490 : Cond.methodLink "java/lang/String" 492 yJ0_isLatin1_aae02 ∈ hx_all := kt_g (kt_2 (List.mem_of_getElem? (i := 157) rfl)) rfl
theorem kw_491 : Cond.instanceMethod yJ0_isLatin1_aae02 ∈ hx_all := kt_g (kt_2 (List.mem_of_getElem? (i := 158) rfl)) rfl
theorem kw_492 : Cond.selects "java/lang/String" yJ0_isLatin1_aae02 yJ0_isLatin1_aae02 ∈ hx_all := kt_g (kt_2 (List.mem_of_getElem? (i := 159) rfl)) rfl
theorem kw_493 : Cond.code yJ0_isLatin1_aae02 cJ0_isLatin1_aae02 1 (some .boolean) ∈ hx_all := kt_g (kt_2 (List.mem_of_getElem? (i := 160) rfl)) rfl
theorem kw_494 : Cond.methodLink "java/lang/String" 495 yJ1_charAt_3b067 ∈ hx_all := kt_g (kt_2 (List.mem_of_getElem? (i := 161) rfl)) rfl
theorem kw_495 : Cond.static yJ1_charAt_3b067 ∈ hx_all := kt_g (kt_2 (List.mem_of_getElem? (i := 162) rfl)) rfl
theorem kw_496 : Cond.code yJ1_charAt_3b067 cJ1_charAt_3b067 2 (some .char) ∈ hx_all := kt_g (kt_2 (List.mem_of_getElem? (i := 163) rfl)) rfl
theorem kw_497 : Cond.methodLink "java/lang/StringLatin1" 9 yJ0_checkIndex_df160 ∈ hx_all := kt_g (kt_2 (List.mem_of_getElem? (i := 164) rfl)) rfl
theorem kw_498 : Cond.static yJ0_checkIndex_df160 ∈ hx_all := kt_g (kt_2 (List.mem_of_getElem? (i := 165) rfl)) rfl
theorem kw_499 : Cond.code yJ0_checkIndex_df160 cJ0_checkIndex_df160 2 none ∈ hx_all := kt_g (kt_2 (List.mem_of_getElem? (i := 166) rfl)) rfl
theorem kw_500 : Cond.fieldLink "java/lang/String" 1053 "jdk/internal/util/Preconditions" "SIOOBE_FORMATTER" "Ljava/util/function/BiFunction;" ∈ hx_all := kt_g (kt_2 (List.mem_of_getElem? (i := 167) rfl)) rfl
theorem kw_502 : Cond.methodLink "java/lang/String" 1059 yJ3_checkIndex_8e157 ∈ hx_all := kt_g (kt_2 (List.mem_of_getElem? (i := 169) rfl)) rfl
theorem kw_503 : Cond.static yJ3_checkIndex_8e157 ∈ hx_all := kt_g (kt_2 (List.mem_of_getElem? (i := 170) rfl)) rfl
theorem kw_504 : Cond.code yJ3_checkIndex_8e157 cJ3_checkIndex_8e157 3 (some .int) ∈ hx_all := kt_g (kt_2 (List.mem_of_getElem? (i := 171) rfl)) rfl
theorem kw_524 : Cond.methodLink "SmallCourt$Reader" 45 yX6_refuse ∈ hx_all := kt_g (kt_2 (List.mem_of_getElem? (i := 191) rfl)) rfl
theorem kw_526 : Cond.instanceMethod yX6_refuse ∈ hx_all := kt_g (kt_2 (List.mem_of_getElem? (i := 193) rfl)) rfl
theorem kw_527 : Cond.code yX6_refuse cX6_refuse 3 (some .boolean) ∈ hx_all := kt_g (kt_2 (List.mem_of_getElem? (i := 194) rfl)) rfl
theorem kw_528 : Cond.methodLink "SmallCourt$Reader" 55 yX6_readCost ∈ hx_all := kt_g (kt_2 (List.mem_of_getElem? (i := 195) rfl)) rfl
theorem kw_530 : Cond.instanceMethod yX6_readCost ∈ hx_all := kt_g (kt_2 (List.mem_of_getElem? (i := 197) rfl)) rfl
theorem kw_531 : Cond.code yX6_readCost cX6_readCost 3 (some .boolean) ∈ hx_all := kt_g (kt_2 (List.mem_of_getElem? (i := 198) rfl)) rfl
theorem kw_533 : Cond.methodLink "SmallCourt$Reader" 63 yX6_tellOnce ∈ hx_all := kt_g (kt_2 (List.mem_of_getElem? (i := 200) rfl)) rfl
theorem kw_535 : Cond.instanceMethod yX6_tellOnce ∈ hx_all := kt_g (kt_2 (List.mem_of_getElem? (i := 202) rfl)) rfl
theorem kw_536 : Cond.code yX6_tellOnce cX6_tellOnce 4 (some .boolean) ∈ hx_all := kt_g (kt_2 (List.mem_of_getElem? (i := 203) rfl)) rfl
theorem kw_537 : Cond.methodLink "SmallCourt$Reader" 70 yX6_readTold ∈ hx_all := kt_g (kt_2 (List.mem_of_getElem? (i := 204) rfl)) rfl
theorem kw_539 : Cond.instanceMethod yX6_readTold ∈ hx_all := kt_g (kt_2 (List.mem_of_getElem? (i := 206) rfl)) rfl
theorem kw_540 : Cond.code yX6_readTold cX6_readTold 4 (some .boolean) ∈ hx_all := kt_g (kt_2 (List.mem_of_getElem? (i := 207) rfl)) rfl
theorem kw_541 : Cond.methodLink "SmallCourt$Reader" 75 yX6_isDigit ∈ hx_all := kt_g (kt_2 (List.mem_of_getElem? (i := 208) rfl)) rfl
theorem kw_543 : Cond.instanceMethod yX6_isDigit ∈ hx_all := kt_g (kt_2 (List.mem_of_getElem? (i := 210) rfl)) rfl
theorem kw_544 : Cond.code yX6_isDigit cX6_isDigit 2 (some .boolean) ∈ hx_all := kt_g (kt_2 (List.mem_of_getElem? (i := 211) rfl)) rfl
theorem kw_545 : Cond.methodLink "SmallCourt$Reader" 78 yX6_readNumber ∈ hx_all := kt_g (kt_2 (List.mem_of_getElem? (i := 212) rfl)) rfl
theorem kw_547 : Cond.instanceMethod yX6_readNumber ∈ hx_all := kt_g (kt_2 (List.mem_of_getElem? (i := 214) rfl)) rfl
theorem kw_548 : Cond.code yX6_readNumber cX6_readNumber 3 (some .int) ∈ hx_all := kt_g (kt_2 (List.mem_of_getElem? (i := 215) rfl)) rfl
theorem kw_549 : Cond.fieldLinkNest "SmallCourt$Reader" 82 "SmallCourt" "LEAST_TOLD" "[I" "SmallCourt" ∈ lw_tbl := kt_2 (List.mem_of_getElem? (i := 216) rfl)
theorem kw_551 : Cond.fieldLinkNest "SmallCourt$Reader" 86 "SmallCourt" "MOST_TOLD" "[I" "SmallCourt" ∈ lw_tbl := kt_2 (List.mem_of_getElem? (i := 218) rfl)
theorem kw_553 : Cond.methodLink "SmallCourt$Reader" 66 yX6_readEither ∈ hx_all := kt_g (kt_2 (List.mem_of_getElem? (i := 220) rfl)) rfl
theorem kw_555 : Cond.instanceMethod yX6_readEither ∈ hx_all := kt_g (kt_2 (List.mem_of_getElem? (i := 222) rfl)) rfl
theorem kw_556 : Cond.code yX6_readEither cX6_readEither 5 (some .boolean) ∈ hx_all := kt_g (kt_2 (List.mem_of_getElem? (i := 223) rfl)) rfl
theorem kw_557 : Cond.methodLink "SmallCourt$Reader" 92 yX6_readOne ∈ hx_all := kt_g (kt_2 (List.mem_of_getElem? (i := 224) rfl)) rfl
theorem kw_559 : Cond.instanceMethod yX6_readOne ∈ hx_all := kt_g (kt_2 (List.mem_of_getElem? (i := 226) rfl)) rfl
theorem kw_560 : Cond.code yX6_readOne cX6_readOne 3 (some .boolean) ∈ hx_all := kt_g (kt_2 (List.mem_of_getElem? (i := 227) rfl)) rfl
theorem kw_562 : Cond.methodLink "SmallCourt$Reader" 101 yX6_isNextWord ∈ hx_all := kt_g (kt_2 (List.mem_of_getElem? (i := 229) rfl)) rfl
theorem kw_564 : Cond.instanceMethod yX6_isNextWord ∈ hx_all := kt_g (kt_2 (List.mem_of_getElem? (i := 231) rfl)) rfl
theorem kw_565 : Cond.code yX6_isNextWord cX6_isNextWord 3 (some .boolean) ∈ hx_all := kt_g (kt_2 (List.mem_of_getElem? (i := 232) rfl)) rfl
theorem kw_566 : Cond.methodLink "SmallCourt$Reader" 109 yX6_isByte ∈ hx_all := kt_g (kt_2 (List.mem_of_getElem? (i := 233) rfl)) rfl
theorem kw_568 : Cond.instanceMethod yX6_isByte ∈ hx_all := kt_g (kt_2 (List.mem_of_getElem? (i := 235) rfl)) rfl
theorem kw_569 : Cond.code yX6_isByte cX6_isByte 2 (some .boolean) ∈ hx_all := kt_g (kt_2 (List.mem_of_getElem? (i := 236) rfl)) rfl
theorem kw_570 : Cond.methodLink "SmallCourt$Reader" 113 yX6_readTerm ∈ hx_all := kt_g (kt_2 (List.mem_of_getElem? (i := 237) rfl)) rfl
theorem kw_572 : Cond.instanceMethod yX6_readTerm ∈ hx_all := kt_g (kt_2 (List.mem_of_getElem? (i := 239) rfl)) rfl
theorem kw_573 : Cond.code yX6_readTerm cX6_readTerm 6 (some .boolean) ∈ hx_all := kt_g (kt_3 (List.mem_of_getElem? (i := 0) rfl)) rfl
theorem kw_575 : Cond.methodLink "SmallCourt$Reader" 118 yX6_readSign ∈ hx_all := kt_g (kt_3 (List.mem_of_getElem? (i := 2) rfl)) rfl
theorem kw_577 : Cond.instanceMethod yX6_readSign ∈ hx_all := kt_g (kt_3 (List.mem_of_getElem? (i := 4) rfl)) rfl
theorem kw_578 : Cond.code yX6_readSign cX6_readSign 2 (some .int) ∈ hx_all := kt_g (kt_3 (List.mem_of_getElem? (i := 5) rfl)) rfl
theorem kw_579 : Cond.methodLink "SmallCourt$Reader" 121 yX0_term ∈ hx_all := kt_g (kt_3 (List.mem_of_getElem? (i := 6) rfl)) rfl
theorem kw_580 : Cond.methodLink "SmallCourt$Reader" 95 yX0_addProof ∈ hx_all := kt_g (kt_3 (List.mem_of_getElem? (i := 7) rfl)) rfl
theorem kw_581 : Cond.instanceMethod yX0_addProof ∈ hx_all := kt_g (kt_3 (List.mem_of_getElem? (i := 8) rfl)) rfl
theorem kw_582 : Cond.selects "SmallCourt$Act" yX0_addProof yX0_addProof ∈ hx_all := kt_g (kt_3 (List.mem_of_getElem? (i := 9) rfl)) rfl
theorem kw_583 : Cond.code yX0_addProof cX0_addProof 2 none ∈ hx_all := kt_g (kt_3 (List.mem_of_getElem? (i := 10) rfl)) rfl
theorem kw_586 : Cond.methodLink "SmallCourt$Reader" 42 yX6_isAnotherClause ∈ hx_all := kt_g (kt_3 (List.mem_of_getElem? (i := 13) rfl)) rfl
theorem kw_588 : Cond.instanceMethod yX6_isAnotherClause ∈ hx_all := kt_g (kt_3 (List.mem_of_getElem? (i := 15) rfl)) rfl
theorem kw_589 : Cond.code yX6_isAnotherClause cX6_isAnotherClause 1 (some .boolean) ∈ hx_all := kt_g (kt_3 (List.mem_of_getElem? (i := 16) rfl)) rfl
theorem kw_590 : Cond.methodLink "SmallCourtLaw" 32 yX9_force ∈ hx_all := kt_g (kt_3 (List.mem_of_getElem? (i := 17) rfl)) rfl
theorem kw_591 : Cond.instanceMethod yX9_force ∈ hx_all := kt_g (kt_3 (List.mem_of_getElem? (i := 18) rfl)) rfl
theorem kw_592 : Cond.selects "SmallCourt" yX9_force yX9_force ∈ hx_all := kt_g (kt_3 (List.mem_of_getElem? (i := 19) rfl)) rfl
theorem kw_593 : Cond.code yX9_force cX9_force 4 (some .int) ∈ hx_all := kt_g (kt_3 (List.mem_of_getElem? (i := 20) rfl)) rfl
theorem kw_594 : Cond.methodLink "SmallCourt" 115 yX9_inForce ∈ hx_all := kt_g (kt_3 (List.mem_of_getElem? (i := 21) rfl)) rfl
theorem kw_596 : Cond.instanceMethod yX9_inForce ∈ hx_all := kt_g (kt_3 (List.mem_of_getElem? (i := 23) rfl)) rfl
theorem kw_597 : Cond.code yX9_inForce cX9_inForce 4 (some (.object "SmallCourt$Act")) ∈ hx_all := kt_g (kt_3 (List.mem_of_getElem? (i := 24) rfl)) rfl
theorem kw_598 : Cond.methodLink "SmallCourtLaw" 37 yX9_person ∈ hx_all := kt_g (kt_3 (List.mem_of_getElem? (i := 25) rfl)) rfl
theorem kw_599 : Cond.instanceMethod yX9_person ∈ hx_all := kt_g (kt_3 (List.mem_of_getElem? (i := 26) rfl)) rfl
theorem kw_600 : Cond.selects "SmallCourt" yX9_person yX9_person ∈ hx_all := kt_g (kt_3 (List.mem_of_getElem? (i := 27) rfl)) rfl
theorem kw_601 : Cond.code yX9_person cX9_person 8 (some .int) ∈ hx_all := kt_g (kt_3 (List.mem_of_getElem? (i := 28) rfl)) rfl
theorem kw_602 : Cond.methodLink "SmallCourt" 132 yX9_isHousehold ∈ hx_all := kt_g (kt_3 (List.mem_of_getElem? (i := 29) rfl)) rfl
theorem kw_603 : Cond.static yX9_isHousehold ∈ hx_all := kt_g (kt_3 (List.mem_of_getElem? (i := 30) rfl)) rfl
theorem kw_604 : Cond.code yX9_isHousehold cX9_isHousehold 4 (some .boolean) ∈ hx_all := kt_g (kt_3 (List.mem_of_getElem? (i := 31) rfl)) rfl
theorem kw_605 : Cond.instantiable "SmallCourt$Person" 10 ∈ hx_all := kt_g (kt_3 (List.mem_of_getElem? (i := 32) rfl)) rfl
theorem kw_606 : Cond.methodLink "SmallCourt" 136 yX4_init ∈ hx_all := kt_g (kt_3 (List.mem_of_getElem? (i := 33) rfl)) rfl
theorem kw_607 : Cond.instanceMethod yX4_init ∈ hx_all := kt_g (kt_3 (List.mem_of_getElem? (i := 34) rfl)) rfl
theorem kw_608 : Cond.code yX4_init cX4_init 4 none ∈ hx_all := kt_g (kt_3 (List.mem_of_getElem? (i := 35) rfl)) rfl
theorem kw_609 : Cond.methodLink "SmallCourt$Person" 3 Lib.objectInit ∈ hx_all := kt_g (kt_3 (List.mem_of_getElem? (i := 36) rfl)) rfl
theorem kw_610 : Cond.fieldLink "SmallCourt$Person" 9 "SmallCourt$Person" "number" "I" ∈ hx_all := kt_g (kt_3 (List.mem_of_getElem? (i := 37) rfl)) rfl
theorem kw_611 : Cond.fieldLink "SmallCourt$Rings" 67 "SmallCourt$Person" "number" "I" ∈ hx_all := kt_g (kt_3 (List.mem_of_getElem? (i := 38) rfl)) rfl
theorem kw_612 : Cond.fieldLink "SmallCourt" 143 "SmallCourt$Person" "number" "I" ∈ hx_all := kt_g (kt_3 (List.mem_of_getElem? (i := 39) rfl)) rfl
theorem kw_613 : Cond.fieldLink "SmallCourt$Person" 15 "SmallCourt$Person" "born" "I" ∈ hx_all := kt_g (kt_3 (List.mem_of_getElem? (i := 40) rfl)) rfl
theorem kw_614 : Cond.fieldLink "SmallCourt" 243 "SmallCourt$Person" "born" "I" ∈ hx_all := kt_g (kt_3 (List.mem_of_getElem? (i := 41) rfl)) rfl
theorem kw_615 : Cond.fieldLink "SmallCourt$Person" 18 "SmallCourt$Person" "kin" "I" ∈ hx_all := kt_g (kt_3 (List.mem_of_getElem? (i := 42) rfl)) rfl
theorem kw_616 : Cond.fieldLink "SmallCourt$Person" 21 "SmallCourt$Person" "earns" "I" ∈ hx_all := kt_g (kt_3 (List.mem_of_getElem? (i := 43) rfl)) rfl
theorem kw_617 : Cond.fieldLink "SmallCourt$Person" 24 "SmallCourt$Person" "heads" "I" ∈ hx_all := kt_g (kt_3 (List.mem_of_getElem? (i := 44) rfl)) rfl
theorem kw_618 : Cond.fieldLink "SmallCourt$Person" 27 "SmallCourt$Person" "x" "I" ∈ hx_all := kt_g (kt_3 (List.mem_of_getElem? (i := 45) rfl)) rfl
theorem kw_619 : Cond.fieldLink "SmallCourt$Walk" 71 "SmallCourt$Person" "x" "I" ∈ hx_all := kt_g (kt_3 (List.mem_of_getElem? (i := 46) rfl)) rfl
theorem kw_620 : Cond.fieldLink "SmallCourt$Person" 30 "SmallCourt$Person" "y" "I" ∈ hx_all := kt_g (kt_3 (List.mem_of_getElem? (i := 47) rfl)) rfl
theorem kw_621 : Cond.fieldLink "SmallCourt$Walk" 79 "SmallCourt$Person" "y" "I" ∈ hx_all := kt_g (kt_3 (List.mem_of_getElem? (i := 48) rfl)) rfl
theorem kw_622 : Cond.fieldLink "SmallCourt$Person" 43 "SmallCourt$Person" "dead" "Z" ∈ hx_all := kt_g (kt_3 (List.mem_of_getElem? (i := 49) rfl)) rfl
theorem kw_623 : Cond.fieldLink "SmallCourt" 148 "SmallCourt$Person" "dead" "Z" ∈ hx_all := kt_g (kt_3 (List.mem_of_getElem? (i := 50) rfl)) rfl
theorem kw_624 : Cond.fieldLink "SmallCourt$Person" 39 "SmallCourt$Person" "isJudge" "Z" ∈ hx_all := kt_g (kt_3 (List.mem_of_getElem? (i := 51) rfl)) rfl
theorem kw_625 : Cond.fieldLink "SmallCourt" 152 "SmallCourt$Person" "isJudge" "Z" ∈ hx_all := kt_g (kt_3 (List.mem_of_getElem? (i := 52) rfl)) rfl
theorem kw_626 : Cond.fieldLink "SmallCourt" 155 "SmallCourt$Person" "wasJudge" "Z" ∈ hx_all := kt_g (kt_3 (List.mem_of_getElem? (i := 53) rfl)) rfl
theorem kw_627 : Cond.laysFinal "SmallCourt$Person" "SmallCourt$Person" "number" "I" ∈ hx_all := kt_g (kt_3 (List.mem_of_getElem? (i := 54) rfl)) rfl
theorem kw_629 : Cond.laysFinal "SmallCourt$Person" "SmallCourt$Person" "born" "I" ∈ hx_all := kt_g (kt_3 (List.mem_of_getElem? (i := 56) rfl)) rfl
theorem kw_631 : Cond.laysFinal "SmallCourt$Person" "SmallCourt$Person" "kin" "I" ∈ hx_all := kt_g (kt_3 (List.mem_of_getElem? (i := 58) rfl)) rfl
theorem kw_633 : Cond.lays "SmallCourt$Person" "SmallCourt$Person" "earns" "I" ∈ hx_all := kt_g (kt_3 (List.mem_of_getElem? (i := 60) rfl)) rfl
theorem kw_635 : Cond.lays "SmallCourt$Person" "SmallCourt$Person" "heads" "I" ∈ hx_all := kt_g (kt_3 (List.mem_of_getElem? (i := 62) rfl)) rfl
theorem kw_637 : Cond.lays "SmallCourt$Person" "SmallCourt$Person" "x" "I" ∈ hx_all := kt_g (kt_3 (List.mem_of_getElem? (i := 64) rfl)) rfl
theorem kw_639 : Cond.lays "SmallCourt$Person" "SmallCourt$Person" "y" "I" ∈ hx_all := kt_g (kt_3 (List.mem_of_getElem? (i := 66) rfl)) rfl
theorem kw_641 : Cond.lays "SmallCourt$Person" "SmallCourt$Person" "dead" "Z" ∈ hx_all := kt_g (kt_3 (List.mem_of_getElem? (i := 68) rfl)) rfl
theorem kw_643 : Cond.lays "SmallCourt$Person" "SmallCourt$Person" "isJudge" "Z" ∈ hx_all := kt_g (kt_3 (List.mem_of_getElem? (i := 70) rfl)) rfl
theorem kw_645 : Cond.lays "SmallCourt$Person" "SmallCourt$Person" "wasJudge" "Z" ∈ hx_all := kt_g (kt_3 (List.mem_of_getElem? (i := 72) rfl)) rfl
theorem kw_648 : Cond.methodLink "SmallCourt" 139 yX4_tell ∈ hx_all := kt_g (kt_3 (List.mem_of_getElem? (i := 75) rfl)) rfl
theorem kw_649 : Cond.instanceMethod yX4_tell ∈ hx_all := kt_g (kt_3 (List.mem_of_getElem? (i := 76) rfl)) rfl
theorem kw_650 : Cond.selects "SmallCourt$Person" yX4_tell yX4_tell ∈ hx_all := kt_g (kt_3 (List.mem_of_getElem? (i := 77) rfl)) rfl
theorem kw_651 : Cond.code yX4_tell cX4_tell 5 none ∈ hx_all := kt_g (kt_3 (List.mem_of_getElem? (i := 78) rfl)) rfl
theorem kw_652 : Cond.methodLink "SmallCourtLaw" 42 yX9_anew ∈ hx_all := kt_g (kt_3 (List.mem_of_getElem? (i := 79) rfl)) rfl
theorem kw_653 : Cond.instanceMethod yX9_anew ∈ hx_all := kt_g (kt_3 (List.mem_of_getElem? (i := 80) rfl)) rfl
theorem kw_654 : Cond.selects "SmallCourt" yX9_anew yX9_anew ∈ hx_all := kt_g (kt_3 (List.mem_of_getElem? (i := 81) rfl)) rfl
theorem kw_655 : Cond.code yX9_anew cX9_anew 7 (some .boolean) ∈ hx_all := kt_g (kt_3 (List.mem_of_getElem? (i := 82) rfl)) rfl
theorem kw_656 : Cond.methodLink "SmallCourt" 144 yX9_personAt ∈ hx_all := kt_g (kt_3 (List.mem_of_getElem? (i := 83) rfl)) rfl
theorem kw_658 : Cond.instanceMethod yX9_personAt ∈ hx_all := kt_g (kt_3 (List.mem_of_getElem? (i := 85) rfl)) rfl
theorem kw_659 : Cond.code yX9_personAt cX9_personAt 2 (some (.object "SmallCourt$Person")) ∈ hx_all := kt_g (kt_3 (List.mem_of_getElem? (i := 86) rfl)) rfl
theorem kw_660 : Cond.methodLink "SmallCourtLaw" 47 yX9_dies ∈ hx_all := kt_g (kt_3 (List.mem_of_getElem? (i := 87) rfl)) rfl
theorem kw_661 : Cond.instanceMethod yX9_dies ∈ hx_all := kt_g (kt_3 (List.mem_of_getElem? (i := 88) rfl)) rfl
theorem kw_662 : Cond.selects "SmallCourt" yX9_dies yX9_dies ∈ hx_all := kt_g (kt_3 (List.mem_of_getElem? (i := 89) rfl)) rfl
theorem kw_663 : Cond.code yX9_dies cX9_dies 3 (some .boolean) ∈ hx_all := kt_g (kt_3 (List.mem_of_getElem? (i := 90) rfl)) rfl
theorem kw_664 : Cond.methodLink "SmallCourtLaw" 51 yX9_judge ∈ hx_all := kt_g (kt_3 (List.mem_of_getElem? (i := 91) rfl)) rfl
theorem kw_665 : Cond.instanceMethod yX9_judge ∈ hx_all := kt_g (kt_3 (List.mem_of_getElem? (i := 92) rfl)) rfl
theorem kw_666 : Cond.selects "SmallCourt" yX9_judge yX9_judge ∈ hx_all := kt_g (kt_3 (List.mem_of_getElem? (i := 93) rfl)) rfl
theorem kw_667 : Cond.code yX9_judge cX9_judge 4 (some .boolean) ∈ hx_all := kt_g (kt_3 (List.mem_of_getElem? (i := 94) rfl)) rfl
theorem kw_668 : Cond.methodLink "SmallCourtLaw" 56 yX9_line ∈ hx_all := kt_g (kt_3 (List.mem_of_getElem? (i := 95) rfl)) rfl
theorem kw_669 : Cond.instanceMethod yX9_line ∈ hx_all := kt_g (kt_3 (List.mem_of_getElem? (i := 96) rfl)) rfl
theorem kw_670 : Cond.selects "SmallCourt" yX9_line yX9_line ∈ hx_all := kt_g (kt_3 (List.mem_of_getElem? (i := 97) rfl)) rfl
theorem kw_671 : Cond.code yX9_line cX9_line 6 (some .int) ∈ hx_all := kt_g (kt_3 (List.mem_of_getElem? (i := 98) rfl)) rfl
theorem kw_672 : Cond.methodLink "SmallCourt" 161 yX9_areTwo ∈ hx_all := kt_g (kt_3 (List.mem_of_getElem? (i := 99) rfl)) rfl
theorem kw_674 : Cond.instanceMethod yX9_areTwo ∈ hx_all := kt_g (kt_3 (List.mem_of_getElem? (i := 101) rfl)) rfl
theorem kw_675 : Cond.code yX9_areTwo cX9_areTwo 3 (some .boolean) ∈ hx_all := kt_g (kt_3 (List.mem_of_getElem? (i := 102) rfl)) rfl
theorem kw_676 : Cond.methodLink "SmallCourt" 165 yX1_addLine ∈ hx_all := kt_g (kt_3 (List.mem_of_getElem? (i := 103) rfl)) rfl
theorem kw_677 : Cond.instanceMethod yX1_addLine ∈ hx_all := kt_g (kt_3 (List.mem_of_getElem? (i := 104) rfl)) rfl
theorem kw_678 : Cond.selects "SmallCourt$Books" yX1_addLine yX1_addLine ∈ hx_all := kt_g (kt_3 (List.mem_of_getElem? (i := 105) rfl)) rfl
theorem kw_679 : Cond.code yX1_addLine cX1_addLine 7 none ∈ hx_all := kt_g (kt_3 (List.mem_of_getElem? (i := 106) rfl)) rfl
theorem kw_680 : Cond.methodLink "SmallCourtLaw" 60 yX9_book ∈ hx_all := kt_g (kt_3 (List.mem_of_getElem? (i := 107) rfl)) rfl
theorem kw_681 : Cond.instanceMethod yX9_book ∈ hx_all := kt_g (kt_3 (List.mem_of_getElem? (i := 108) rfl)) rfl
theorem kw_682 : Cond.selects "SmallCourt" yX9_book yX9_book ∈ hx_all := kt_g (kt_3 (List.mem_of_getElem? (i := 109) rfl)) rfl
theorem kw_683 : Cond.code yX9_book cX9_book 5 (some .int) ∈ hx_all := kt_g (kt_3 (List.mem_of_getElem? (i := 110) rfl)) rfl
theorem kw_684 : Cond.constant "SmallCourt" 169 (-1000000) ∈ hx_all := kt_g (kt_3 (List.mem_of_getElem? (i := 111) rfl)) rfl
theorem kw_685 : Cond.methodLink "SmallCourt" 170 yX1_sumWith ∈ hx_all := kt_g (kt_3 (List.mem_of_getElem? (i := 112) rfl)) rfl
theorem kw_686 : Cond.instanceMethod yX1_sumWith ∈ hx_all := kt_g (kt_3 (List.mem_of_getElem? (i := 113) rfl)) rfl
theorem kw_687 : Cond.selects "SmallCourt$Books" yX1_sumWith yX1_sumWith ∈ hx_all := kt_g (kt_3 (List.mem_of_getElem? (i := 114) rfl)) rfl
theorem kw_688 : Cond.code yX1_sumWith cX1_sumWith 6 (some .int) ∈ hx_all := kt_g (kt_3 (List.mem_of_getElem? (i := 115) rfl)) rfl
theorem kw_689 : Cond.methodLink "SmallCourt$Books" 38 yX1_isLine ∈ hx_all := kt_g (kt_3 (List.mem_of_getElem? (i := 116) rfl)) rfl
theorem kw_691 : Cond.instanceMethod yX1_isLine ∈ hx_all := kt_g (kt_3 (List.mem_of_getElem? (i := 118) rfl)) rfl
theorem kw_692 : Cond.code yX1_isLine cX1_isLine 5 (some .boolean) ∈ hx_all := kt_g (kt_3 (List.mem_of_getElem? (i := 119) rfl)) rfl
theorem kw_693 : Cond.methodLink "SmallCourt" 174 yX1_twinPairs ∈ hx_all := kt_g (kt_3 (List.mem_of_getElem? (i := 120) rfl)) rfl
theorem kw_694 : Cond.instanceMethod yX1_twinPairs ∈ hx_all := kt_g (kt_3 (List.mem_of_getElem? (i := 121) rfl)) rfl
theorem kw_695 : Cond.selects "SmallCourt$Books" yX1_twinPairs yX1_twinPairs ∈ hx_all := kt_g (kt_3 (List.mem_of_getElem? (i := 122) rfl)) rfl
theorem kw_696 : Cond.code yX1_twinPairs cX1_twinPairs 6 (some .int) ∈ hx_all := kt_g (kt_3 (List.mem_of_getElem? (i := 123) rfl)) rfl
theorem kw_697 : Cond.methodLink "SmallCourt$Books" 42 yX1_takeTwin ∈ hx_all := kt_g (kt_3 (List.mem_of_getElem? (i := 124) rfl)) rfl
theorem kw_699 : Cond.instanceMethod yX1_takeTwin ∈ hx_all := kt_g (kt_3 (List.mem_of_getElem? (i := 126) rfl)) rfl
theorem kw_700 : Cond.code yX1_takeTwin cX1_takeTwin 5 (some .boolean) ∈ hx_all := kt_g (kt_3 (List.mem_of_getElem? (i := 127) rfl)) rfl
theorem kw_701 : Cond.methodLink "SmallCourt$Books" 46 yX1_areTwins ∈ hx_all := kt_g (kt_3 (List.mem_of_getElem? (i := 128) rfl)) rfl
theorem kw_703 : Cond.instanceMethod yX1_areTwins ∈ hx_all := kt_g (kt_3 (List.mem_of_getElem? (i := 130) rfl)) rfl
theorem kw_704 : Cond.code yX1_areTwins cX1_areTwins 3 (some .boolean) ∈ hx_all := kt_g (kt_3 (List.mem_of_getElem? (i := 131) rfl)) rfl
theorem kw_705 : Cond.methodLink "SmallCourt$Books" 49 Lib.Math.abs.name ∈ hx_all := kt_g (kt_3 (List.mem_of_getElem? (i := 132) rfl)) rfl
theorem kw_706 : Cond.static Lib.Math.abs.name ∈ hx_all := kt_g (kt_3 (List.mem_of_getElem? (i := 133) rfl)) rfl
theorem kw_707 : Cond.code Lib.Math.abs.name Lib.Math.abs.code 1 (some .int) ∈ hx_all := kt_g (kt_3 (List.mem_of_getElem? (i := 134) rfl)) rfl
theorem kw_708 : Cond.methodLink "SmallCourt" 177 yX1_disorder ∈ hx_all := kt_g (kt_3 (List.mem_of_getElem? (i := 135) rfl)) rfl
theorem kw_709 : Cond.instanceMethod yX1_disorder ∈ hx_all := kt_g (kt_3 (List.mem_of_getElem? (i := 136) rfl)) rfl
theorem kw_710 : Cond.selects "SmallCourt$Books" yX1_disorder yX1_disorder ∈ hx_all := kt_g (kt_3 (List.mem_of_getElem? (i := 137) rfl)) rfl
theorem kw_711 : Cond.code yX1_disorder cX1_disorder 5 (some .int) ∈ hx_all := kt_g (kt_3 (List.mem_of_getElem? (i := 138) rfl)) rfl
theorem kw_712 : Cond.methodLink "SmallCourtLaw" 65 yX9_file ∈ hx_all := kt_g (kt_3 (List.mem_of_getElem? (i := 139) rfl)) rfl
theorem kw_713 : Cond.instanceMethod yX9_file ∈ hx_all := kt_g (kt_3 (List.mem_of_getElem? (i := 140) rfl)) rfl
theorem kw_714 : Cond.selects "SmallCourt" yX9_file yX9_file ∈ hx_all := kt_g (kt_3 (List.mem_of_getElem? (i := 141) rfl)) rfl
theorem kw_715 : Cond.code yX9_file cX9_file 10 (some .int) ∈ hx_all := kt_g (kt_3 (List.mem_of_getElem? (i := 142) rfl)) rfl
theorem kw_716 : Cond.instantiable "SmallCourt$Claim" 19 ∈ hx_all := kt_g (kt_3 (List.mem_of_getElem? (i := 143) rfl)) rfl
theorem kw_717 : Cond.methodLink "SmallCourt" 184 yX2_init ∈ hx_all := kt_g (kt_3 (List.mem_of_getElem? (i := 144) rfl)) rfl
theorem kw_718 : Cond.instanceMethod yX2_init ∈ hx_all := kt_g (kt_3 (List.mem_of_getElem? (i := 145) rfl)) rfl
theorem kw_719 : Cond.code yX2_init cX2_init 5 none ∈ hx_all := kt_g (kt_3 (List.mem_of_getElem? (i := 146) rfl)) rfl
theorem kw_720 : Cond.methodLink "SmallCourt$Claim" 3 Lib.objectInit ∈ hx_all := kt_g (kt_3 (List.mem_of_getElem? (i := 147) rfl)) rfl
theorem kw_721 : Cond.fieldLink "SmallCourt$Claim" 34 "SmallCourt$Claim" "number" "I" ∈ hx_all := kt_g (kt_3 (List.mem_of_getElem? (i := 148) rfl)) rfl
theorem kw_722 : Cond.fieldLink "SmallCourt$Plan" 43 "SmallCourt$Claim" "number" "I" ∈ hx_all := kt_g (kt_3 (List.mem_of_getElem? (i := 149) rfl)) rfl
theorem kw_723 : Cond.fieldLink "SmallCourt$Walk" 28 "SmallCourt$Claim" "number" "I" ∈ hx_all := kt_g (kt_3 (List.mem_of_getElem? (i := 150) rfl)) rfl
theorem kw_724 : Cond.fieldLink "SmallCourt" 199 "SmallCourt$Claim" "number" "I" ∈ hx_all := kt_g (kt_3 (List.mem_of_getElem? (i := 151) rfl)) rfl
theorem kw_725 : Cond.fieldLink "SmallCourt$Claim" 37 "SmallCourt$Claim" "plaintiff" "LSmallCourt$Person;" ∈ hx_all := kt_g (kt_3 (List.mem_of_getElem? (i := 152) rfl)) rfl
theorem kw_726 : Cond.fieldLink "SmallCourt$Person" 46 "SmallCourt$Claim" "plaintiff" "LSmallCourt$Person;" ∈ hx_all := kt_g (kt_3 (List.mem_of_getElem? (i := 153) rfl)) rfl
theorem kw_727 : Cond.fieldLink "SmallCourt$Rings" 72 "SmallCourt$Claim" "plaintiff" "LSmallCourt$Person;" ∈ hx_all := kt_g (kt_3 (List.mem_of_getElem? (i := 154) rfl)) rfl
theorem kw_728 : Cond.fieldLink "SmallCourt" 223 "SmallCourt$Claim" "plaintiff" "LSmallCourt$Person;" ∈ hx_all := kt_g (kt_3 (List.mem_of_getElem? (i := 155) rfl)) rfl
theorem kw_729 : Cond.fieldLink "SmallCourt$Claim" 41 "SmallCourt$Claim" "defendant" "LSmallCourt$Person;" ∈ hx_all := kt_g (kt_3 (List.mem_of_getElem? (i := 156) rfl)) rfl
theorem kw_730 : Cond.fieldLink "SmallCourt$Person" 56 "SmallCourt$Claim" "defendant" "LSmallCourt$Person;" ∈ hx_all := kt_g (kt_3 (List.mem_of_getElem? (i := 157) rfl)) rfl
theorem kw_731 : Cond.fieldLink "SmallCourt$Rings" 61 "SmallCourt$Claim" "defendant" "LSmallCourt$Person;" ∈ hx_all := kt_g (kt_3 (List.mem_of_getElem? (i := 158) rfl)) rfl
theorem kw_732 : Cond.fieldLink "SmallCourt$Walk" 63 "SmallCourt$Claim" "defendant" "LSmallCourt$Person;" ∈ hx_all := kt_g (kt_3 (List.mem_of_getElem? (i := 159) rfl)) rfl
theorem kw_733 : Cond.fieldLink "SmallCourt" 212 "SmallCourt$Claim" "defendant" "LSmallCourt$Person;" ∈ hx_all := kt_g (kt_3 (List.mem_of_getElem? (i := 160) rfl)) rfl
theorem kw_734 : Cond.fieldLink "SmallCourt$Claim" 44 "SmallCourt$Claim" "act" "LSmallCourt$Act;" ∈ hx_all := kt_g (kt_3 (List.mem_of_getElem? (i := 161) rfl)) rfl
theorem kw_735 : Cond.fieldLink "SmallCourt$Plan" 48 "SmallCourt$Claim" "act" "LSmallCourt$Act;" ∈ hx_all := kt_g (kt_3 (List.mem_of_getElem? (i := 162) rfl)) rfl
theorem kw_736 : Cond.fieldLink "SmallCourt" 226 "SmallCourt$Claim" "act" "LSmallCourt$Act;" ∈ hx_all := kt_g (kt_3 (List.mem_of_getElem? (i := 163) rfl)) rfl
theorem kw_737 : Cond.fieldLink "SmallCourt$Claim" 9 "SmallCourt$Claim" "facts" "[I" ∈ hx_all := kt_g (kt_3 (List.mem_of_getElem? (i := 164) rfl)) rfl
theorem kw_738 : Cond.fieldLink "SmallCourt" 196 "SmallCourt$Claim" "facts" "[I" ∈ hx_all := kt_g (kt_3 (List.mem_of_getElem? (i := 165) rfl)) rfl
theorem kw_739 : Cond.fieldLink "SmallCourt$Claim" 15 "SmallCourt$Claim" "bench" "[I" ∈ hx_all := kt_g (kt_3 (List.mem_of_getElem? (i := 166) rfl)) rfl
theorem kw_740 : Cond.fieldLink "SmallCourt" 240 "SmallCourt$Claim" "bench" "[I" ∈ hx_all := kt_g (kt_3 (List.mem_of_getElem? (i := 167) rfl)) rfl
theorem kw_741 : Cond.fieldLink "SmallCourt" 187 "SmallCourt$Claim" "sum" "I" ∈ hx_all := kt_g (kt_3 (List.mem_of_getElem? (i := 168) rfl)) rfl
theorem kw_742 : Cond.fieldLink "SmallCourt" 190 "SmallCourt$Claim" "from" "I" ∈ hx_all := kt_g (kt_3 (List.mem_of_getElem? (i := 169) rfl)) rfl
theorem kw_743 : Cond.fieldLink "SmallCourt" 193 "SmallCourt$Claim" "filed" "I" ∈ hx_all := kt_g (kt_3 (List.mem_of_getElem? (i := 170) rfl)) rfl
theorem kw_744 : Cond.fieldLink "SmallCourt$Claim" 48 "SmallCourt$Claim" "tries" "I" ∈ hx_all := kt_g (kt_3 (List.mem_of_getElem? (i := 171) rfl)) rfl
theorem kw_745 : Cond.fieldLink "SmallCourt" 207 "SmallCourt$Claim" "tries" "I" ∈ hx_all := kt_g (kt_3 (List.mem_of_getElem? (i := 172) rfl)) rfl
theorem kw_746 : Cond.fieldLink "SmallCourt$Claim" 18 "SmallCourt$Claim" "found" "I" ∈ hx_all := kt_g (kt_3 (List.mem_of_getElem? (i := 173) rfl)) rfl
theorem kw_747 : Cond.fieldLink "SmallCourt" 204 "SmallCourt$Claim" "found" "I" ∈ hx_all := kt_g (kt_3 (List.mem_of_getElem? (i := 174) rfl)) rfl
theorem kw_748 : Cond.fieldLink "SmallCourt$Claim" 22 "SmallCourt$Claim" "heard" "I" ∈ hx_all := kt_g (kt_3 (List.mem_of_getElem? (i := 175) rfl)) rfl
theorem kw_749 : Cond.fieldLink "SmallCourt" 210 "SmallCourt$Claim" "heard" "I" ∈ hx_all := kt_g (kt_3 (List.mem_of_getElem? (i := 176) rfl)) rfl
theorem kw_750 : Cond.fieldLink "SmallCourt$Claim" 71 "SmallCourt$Claim" "judged" "I" ∈ hx_all := kt_g (kt_3 (List.mem_of_getElem? (i := 177) rfl)) rfl
theorem kw_751 : Cond.fieldLink "SmallCourt" 233 "SmallCourt$Claim" "judged" "I" ∈ hx_all := kt_g (kt_3 (List.mem_of_getElem? (i := 178) rfl)) rfl
theorem kw_752 : Cond.fieldLink "SmallCourt$Claim" 25 "SmallCourt$Claim" "ordered" "I" ∈ hx_all := kt_g (kt_3 (List.mem_of_getElem? (i := 179) rfl)) rfl
theorem kw_753 : Cond.fieldLink "SmallCourt" 253 "SmallCourt$Claim" "ordered" "I" ∈ hx_all := kt_g (kt_3 (List.mem_of_getElem? (i := 180) rfl)) rfl
theorem kw_754 : Cond.fieldLink "SmallCourt$Claim" 86 "SmallCourt$Claim" "weekly" "I" ∈ hx_all := kt_g (kt_3 (List.mem_of_getElem? (i := 181) rfl)) rfl
theorem kw_755 : Cond.fieldLink "SmallCourt" 271 "SmallCourt$Claim" "weekly" "I" ∈ hx_all := kt_g (kt_3 (List.mem_of_getElem? (i := 182) rfl)) rfl
theorem kw_756 : Cond.fieldLink "SmallCourt$Claim" 107 "SmallCourt$Claim" "owed" "I" ∈ hx_all := kt_g (kt_3 (List.mem_of_getElem? (i := 183) rfl)) rfl
theorem kw_757 : Cond.fieldLink "SmallCourt" 268 "SmallCourt$Claim" "owed" "I" ∈ hx_all := kt_g (kt_3 (List.mem_of_getElem? (i := 184) rfl)) rfl
theorem kw_758 : Cond.fieldLink "SmallCourt$Claim" 28 "SmallCourt$Claim" "seized" "I" ∈ hx_all := kt_g (kt_3 (List.mem_of_getElem? (i := 185) rfl)) rfl
theorem kw_759 : Cond.fieldLink "SmallCourt" 289 "SmallCourt$Claim" "seized" "I" ∈ hx_all := kt_g (kt_3 (List.mem_of_getElem? (i := 186) rfl)) rfl
theorem kw_760 : Cond.fieldLink "SmallCourt$Claim" 98 "SmallCourt$Claim" "worth" "I" ∈ hx_all := kt_g (kt_3 (List.mem_of_getElem? (i := 187) rfl)) rfl
theorem kw_761 : Cond.fieldLink "SmallCourt" 296 "SmallCourt$Claim" "worth" "I" ∈ hx_all := kt_g (kt_3 (List.mem_of_getElem? (i := 188) rfl)) rfl
theorem kw_762 : Cond.fieldLink "SmallCourt$Claim" 31 "SmallCourt$Claim" "served" "I" ∈ hx_all := kt_g (kt_3 (List.mem_of_getElem? (i := 189) rfl)) rfl
theorem kw_763 : Cond.fieldLink "SmallCourt" 279 "SmallCourt$Claim" "served" "I" ∈ hx_all := kt_g (kt_3 (List.mem_of_getElem? (i := 190) rfl)) rfl
theorem kw_764 : Cond.laysFinal "SmallCourt$Claim" "SmallCourt$Claim" "number" "I" ∈ hx_all := kt_g (kt_3 (List.mem_of_getElem? (i := 191) rfl)) rfl
theorem kw_766 : Cond.laysFinal "SmallCourt$Claim" "SmallCourt$Claim" "plaintiff" "LSmallCourt$Person;" ∈ hx_all := kt_g (kt_3 (List.mem_of_getElem? (i := 193) rfl)) rfl
theorem kw_768 : Cond.laysFinal "SmallCourt$Claim" "SmallCourt$Claim" "defendant" "LSmallCourt$Person;" ∈ hx_all := kt_g (kt_3 (List.mem_of_getElem? (i := 195) rfl)) rfl
theorem kw_770 : Cond.laysFinal "SmallCourt$Claim" "SmallCourt$Claim" "act" "LSmallCourt$Act;" ∈ hx_all := kt_g (kt_3 (List.mem_of_getElem? (i := 197) rfl)) rfl
theorem kw_772 : Cond.laysFinal "SmallCourt$Claim" "SmallCourt$Claim" "facts" "[I" ∈ hx_all := kt_g (kt_3 (List.mem_of_getElem? (i := 199) rfl)) rfl
theorem kw_774 : Cond.laysFinal "SmallCourt$Claim" "SmallCourt$Claim" "bench" "[I" ∈ hx_all := kt_g (kt_3 (List.mem_of_getElem? (i := 201) rfl)) rfl
theorem kw_776 : Cond.lays "SmallCourt$Claim" "SmallCourt$Claim" "sum" "I" ∈ hx_all := kt_g (kt_3 (List.mem_of_getElem? (i := 203) rfl)) rfl
theorem kw_778 : Cond.lays "SmallCourt$Claim" "SmallCourt$Claim" "from" "I" ∈ hx_all := kt_g (kt_3 (List.mem_of_getElem? (i := 205) rfl)) rfl
theorem kw_780 : Cond.lays "SmallCourt$Claim" "SmallCourt$Claim" "filed" "I" ∈ hx_all := kt_g (kt_3 (List.mem_of_getElem? (i := 207) rfl)) rfl
theorem kw_782 : Cond.lays "SmallCourt$Claim" "SmallCourt$Claim" "tries" "I" ∈ hx_all := kt_g (kt_3 (List.mem_of_getElem? (i := 209) rfl)) rfl
theorem kw_784 : Cond.lays "SmallCourt$Claim" "SmallCourt$Claim" "found" "I" ∈ hx_all := kt_g (kt_3 (List.mem_of_getElem? (i := 211) rfl)) rfl
theorem kw_786 : Cond.lays "SmallCourt$Claim" "SmallCourt$Claim" "heard" "I" ∈ hx_all := kt_g (kt_3 (List.mem_of_getElem? (i := 213) rfl)) rfl
theorem kw_788 : Cond.lays "SmallCourt$Claim" "SmallCourt$Claim" "judged" "I" ∈ hx_all := kt_g (kt_3 (List.mem_of_getElem? (i := 215) rfl)) rfl
theorem kw_790 : Cond.lays "SmallCourt$Claim" "SmallCourt$Claim" "ordered" "I" ∈ hx_all := kt_g (kt_3 (List.mem_of_getElem? (i := 217) rfl)) rfl
theorem kw_792 : Cond.lays "SmallCourt$Claim" "SmallCourt$Claim" "weekly" "I" ∈ hx_all := kt_g (kt_3 (List.mem_of_getElem? (i := 219) rfl)) rfl
theorem kw_794 : Cond.lays "SmallCourt$Claim" "SmallCourt$Claim" "owed" "I" ∈ hx_all := kt_g (kt_3 (List.mem_of_getElem? (i := 221) rfl)) rfl
theorem kw_796 : Cond.lays "SmallCourt$Claim" "SmallCourt$Claim" "seized" "I" ∈ hx_all := kt_g (kt_3 (List.mem_of_getElem? (i := 223) rfl)) rfl
theorem kw_798 : Cond.lays "SmallCourt$Claim" "SmallCourt$Claim" "worth" "I" ∈ hx_all := kt_g (kt_3 (List.mem_of_getElem? (i := 225) rfl)) rfl
theorem kw_800 : Cond.lays "SmallCourt$Claim" "SmallCourt$Claim" "served" "I" ∈ hx_all := kt_g (kt_3 (List.mem_of_getElem? (i := 227) rfl)) rfl
theorem kw_803 : Cond.methodLink "SmallCourtLaw" 70 yX9_summons ∈ hx_all := kt_g (kt_3 (List.mem_of_getElem? (i := 230) rfl)) rfl
theorem kw_804 : Cond.instanceMethod yX9_summons ∈ hx_all := kt_g (kt_3 (List.mem_of_getElem? (i := 231) rfl)) rfl
theorem kw_805 : Cond.selects "SmallCourt" yX9_summons yX9_summons ∈ hx_all := kt_g (kt_3 (List.mem_of_getElem? (i := 232) rfl)) rfl
theorem kw_806 : Cond.code yX9_summons cX9_summons 4 (some .int) ∈ hx_all := kt_g (kt_3 (List.mem_of_getElem? (i := 233) rfl)) rfl
theorem kw_807 : Cond.methodLink "SmallCourt" 200 yX9_claimAt ∈ hx_all := kt_g (kt_3 (List.mem_of_getElem? (i := 234) rfl)) rfl
theorem kw_809 : Cond.instanceMethod yX9_claimAt ∈ hx_all := kt_g (kt_3 (List.mem_of_getElem? (i := 236) rfl)) rfl
theorem kw_810 : Cond.code yX9_claimAt cX9_claimAt 2 (some (.object "SmallCourt$Claim")) ∈ hx_all := kt_g (kt_3 (List.mem_of_getElem? (i := 237) rfl)) rfl
theorem kw_811 : Cond.methodLink "SmallCourtLaw" 75 yX9_hear ∈ hx_all := kt_g (kt_3 (List.mem_of_getElem? (i := 238) rfl)) rfl
theorem kw_812 : Cond.instanceMethod yX9_hear ∈ hx_all := kt_g (kt_3 (List.mem_of_getElem? (i := 239) rfl)) rfl
theorem kw_813 : Cond.selects "SmallCourt" yX9_hear yX9_hear ∈ hx_all := kt_g (kt_4 (List.mem_of_getElem? (i := 0) rfl)) rfl
theorem kw_814 : Cond.code yX9_hear cX9_hear 8 (some .int) ∈ hx_all := kt_g (kt_4 (List.mem_of_getElem? (i := 1) rfl)) rfl
theorem kw_815 : Cond.methodLink "SmallCourt" 219 yX9_drawBench ∈ hx_all := kt_g (kt_4 (List.mem_of_getElem? (i := 2) rfl)) rfl
theorem kw_817 : Cond.instanceMethod yX9_drawBench ∈ hx_all := kt_g (kt_4 (List.mem_of_getElem? (i := 4) rfl)) rfl
theorem kw_818 : Cond.code yX9_drawBench cX9_drawBench 9 (some .boolean) ∈ hx_all := kt_g (kt_4 (List.mem_of_getElem? (i := 5) rfl)) rfl
theorem kw_819 : Cond.methodLink "SmallCourt" 236 yX4_maySit ∈ hx_all := kt_g (kt_4 (List.mem_of_getElem? (i := 6) rfl)) rfl
theorem kw_820 : Cond.instanceMethod yX4_maySit ∈ hx_all := kt_g (kt_4 (List.mem_of_getElem? (i := 7) rfl)) rfl
theorem kw_821 : Cond.selects "SmallCourt$Person" yX4_maySit yX4_maySit ∈ hx_all := kt_g (kt_4 (List.mem_of_getElem? (i := 8) rfl)) rfl
theorem kw_822 : Cond.code yX4_maySit cX4_maySit 2 (some .boolean) ∈ hx_all := kt_g (kt_4 (List.mem_of_getElem? (i := 9) rfl)) rfl
theorem kw_823 : Cond.methodLink "SmallCourt$Person" 52 yX4_isKinOf ∈ hx_all := kt_g (kt_4 (List.mem_of_getElem? (i := 10) rfl)) rfl
theorem kw_825 : Cond.instanceMethod yX4_isKinOf ∈ hx_all := kt_g (kt_4 (List.mem_of_getElem? (i := 12) rfl)) rfl
theorem kw_826 : Cond.code yX4_isKinOf cX4_isKinOf 2 (some .boolean) ∈ hx_all := kt_g (kt_4 (List.mem_of_getElem? (i := 13) rfl)) rfl
theorem kw_827 : Cond.methodLink "SmallCourt" 229 yX9_judgement ∈ hx_all := kt_g (kt_4 (List.mem_of_getElem? (i := 14) rfl)) rfl
theorem kw_829 : Cond.instanceMethod yX9_judgement ∈ hx_all := kt_g (kt_4 (List.mem_of_getElem? (i := 16) rfl)) rfl
theorem kw_830 : Cond.code yX9_judgement cX9_judgement 3 (some .int) ∈ hx_all := kt_g (kt_4 (List.mem_of_getElem? (i := 17) rfl)) rfl
theorem kw_831 : Cond.methodLink "SmallCourt" 246 yX9_sumOfSplit ∈ hx_all := kt_g (kt_4 (List.mem_of_getElem? (i := 18) rfl)) rfl
theorem kw_833 : Cond.instanceMethod yX9_sumOfSplit ∈ hx_all := kt_g (kt_4 (List.mem_of_getElem? (i := 20) rfl)) rfl
theorem kw_834 : Cond.code yX9_sumOfSplit cX9_sumOfSplit 6 (some .int) ∈ hx_all := kt_g (kt_4 (List.mem_of_getElem? (i := 21) rfl)) rfl
theorem kw_835 : Cond.methodLink "SmallCourt" 249 yX0_proves ∈ hx_all := kt_g (kt_4 (List.mem_of_getElem? (i := 22) rfl)) rfl
theorem kw_836 : Cond.instanceMethod yX0_proves ∈ hx_all := kt_g (kt_4 (List.mem_of_getElem? (i := 23) rfl)) rfl
theorem kw_837 : Cond.selects "SmallCourt$Act" yX0_proves yX0_proves ∈ hx_all := kt_g (kt_4 (List.mem_of_getElem? (i := 24) rfl)) rfl
theorem kw_838 : Cond.code yX0_proves cX0_proves 6 (some .boolean) ∈ hx_all := kt_g (kt_4 (List.mem_of_getElem? (i := 25) rfl)) rfl
theorem kw_839 : Cond.methodLink "SmallCourt$Act" 41 yX0_holds ∈ hx_all := kt_g (kt_4 (List.mem_of_getElem? (i := 26) rfl)) rfl
theorem kw_840 : Cond.static yX0_holds ∈ hx_all := kt_g (kt_4 (List.mem_of_getElem? (i := 27) rfl)) rfl
theorem kw_841 : Cond.code yX0_holds cX0_holds 5 (some .boolean) ∈ hx_all := kt_g (kt_4 (List.mem_of_getElem? (i := 28) rfl)) rfl
theorem kw_842 : Cond.methodLink "SmallCourtLaw" 80 yX9_order ∈ hx_all := kt_g (kt_4 (List.mem_of_getElem? (i := 29) rfl)) rfl
theorem kw_843 : Cond.instanceMethod yX9_order ∈ hx_all := kt_g (kt_4 (List.mem_of_getElem? (i := 30) rfl)) rfl
theorem kw_844 : Cond.selects "SmallCourt" yX9_order yX9_order ∈ hx_all := kt_g (kt_4 (List.mem_of_getElem? (i := 31) rfl)) rfl
theorem kw_845 : Cond.code yX9_order cX9_order 5 (some .int) ∈ hx_all := kt_g (kt_4 (List.mem_of_getElem? (i := 32) rfl)) rfl
theorem kw_846 : Cond.methodLink "SmallCourt" 256 yX2_costsBy ∈ hx_all := kt_g (kt_4 (List.mem_of_getElem? (i := 33) rfl)) rfl
theorem kw_847 : Cond.instanceMethod yX2_costsBy ∈ hx_all := kt_g (kt_4 (List.mem_of_getElem? (i := 34) rfl)) rfl
theorem kw_848 : Cond.selects "SmallCourt$Claim" yX2_costsBy yX2_costsBy ∈ hx_all := kt_g (kt_4 (List.mem_of_getElem? (i := 35) rfl)) rfl
theorem kw_849 : Cond.code yX2_costsBy cX2_costsBy 4 (some .int) ∈ hx_all := kt_g (kt_4 (List.mem_of_getElem? (i := 36) rfl)) rfl
theorem kw_850 : Cond.methodLink "SmallCourt" 260 yX9_openInstalments ∈ hx_all := kt_g (kt_4 (List.mem_of_getElem? (i := 37) rfl)) rfl
theorem kw_852 : Cond.instanceMethod yX9_openInstalments ∈ hx_all := kt_g (kt_4 (List.mem_of_getElem? (i := 39) rfl)) rfl
theorem kw_853 : Cond.code yX9_openInstalments cX9_openInstalments 4 (some .int) ∈ hx_all := kt_g (kt_4 (List.mem_of_getElem? (i := 40) rfl)) rfl
theorem kw_854 : Cond.methodLink "SmallCourt" 274 yX2_isOpen ∈ hx_all := kt_g (kt_4 (List.mem_of_getElem? (i := 41) rfl)) rfl
theorem kw_855 : Cond.instanceMethod yX2_isOpen ∈ hx_all := kt_g (kt_4 (List.mem_of_getElem? (i := 42) rfl)) rfl
theorem kw_856 : Cond.selects "SmallCourt$Claim" yX2_isOpen yX2_isOpen ∈ hx_all := kt_g (kt_4 (List.mem_of_getElem? (i := 43) rfl)) rfl
theorem kw_857 : Cond.code yX2_isOpen cX2_isOpen 3 (some .boolean) ∈ hx_all := kt_g (kt_4 (List.mem_of_getElem? (i := 44) rfl)) rfl
theorem kw_858 : Cond.methodLink "SmallCourt$Claim" 56 yX2_restOn ∈ hx_all := kt_g (kt_4 (List.mem_of_getElem? (i := 45) rfl)) rfl
theorem kw_859 : Cond.instanceMethod yX2_restOn ∈ hx_all := kt_g (kt_4 (List.mem_of_getElem? (i := 46) rfl)) rfl
theorem kw_860 : Cond.selects "SmallCourt$Claim" yX2_restOn yX2_restOn ∈ hx_all := kt_g (kt_4 (List.mem_of_getElem? (i := 47) rfl)) rfl
theorem kw_861 : Cond.code yX2_restOn cX2_restOn 4 (some .int) ∈ hx_all := kt_g (kt_4 (List.mem_of_getElem? (i := 48) rfl)) rfl
theorem kw_862 : Cond.methodLink "SmallCourt$Claim" 60 yX2_isDone ∈ hx_all := kt_g (kt_4 (List.mem_of_getElem? (i := 49) rfl)) rfl
theorem kw_863 : Cond.static yX2_isDone ∈ hx_all := kt_g (kt_4 (List.mem_of_getElem? (i := 50) rfl)) rfl
theorem kw_864 : Cond.code yX2_isDone cX2_isDone 2 (some .boolean) ∈ hx_all := kt_g (kt_4 (List.mem_of_getElem? (i := 51) rfl)) rfl
theorem kw_865 : Cond.methodLink "SmallCourt$Claim" 74 yX2_balanceOn ∈ hx_all := kt_g (kt_4 (List.mem_of_getElem? (i := 52) rfl)) rfl
theorem kw_866 : Cond.instanceMethod yX2_balanceOn ∈ hx_all := kt_g (kt_4 (List.mem_of_getElem? (i := 53) rfl)) rfl
theorem kw_867 : Cond.selects "SmallCourt$Claim" yX2_balanceOn yX2_balanceOn ∈ hx_all := kt_g (kt_4 (List.mem_of_getElem? (i := 54) rfl)) rfl
theorem kw_868 : Cond.code yX2_balanceOn cX2_balanceOn 4 (some .int) ∈ hx_all := kt_g (kt_4 (List.mem_of_getElem? (i := 55) rfl)) rfl
theorem kw_869 : Cond.methodLink "SmallCourt$Claim" 83 yX2_owedOn ∈ hx_all := kt_g (kt_4 (List.mem_of_getElem? (i := 56) rfl)) rfl
theorem kw_871 : Cond.instanceMethod yX2_owedOn ∈ hx_all := kt_g (kt_4 (List.mem_of_getElem? (i := 58) rfl)) rfl
theorem kw_872 : Cond.code yX2_owedOn cX2_owedOn 2 (some .int) ∈ hx_all := kt_g (kt_4 (List.mem_of_getElem? (i := 59) rfl)) rfl
theorem kw_873 : Cond.methodLink "SmallCourt$Claim" 92 yX2_paidOn ∈ hx_all := kt_g (kt_4 (List.mem_of_getElem? (i := 60) rfl)) rfl
theorem kw_874 : Cond.instanceMethod yX2_paidOn ∈ hx_all := kt_g (kt_4 (List.mem_of_getElem? (i := 61) rfl)) rfl
theorem kw_875 : Cond.selects "SmallCourt$Claim" yX2_paidOn yX2_paidOn ∈ hx_all := kt_g (kt_4 (List.mem_of_getElem? (i := 62) rfl)) rfl
theorem kw_876 : Cond.code yX2_paidOn cX2_paidOn 5 (some .int) ∈ hx_all := kt_g (kt_4 (List.mem_of_getElem? (i := 63) rfl)) rfl
theorem kw_877 : Cond.methodLink "SmallCourt$Claim" 101 yX3_sumFor ∈ hx_all := kt_g (kt_4 (List.mem_of_getElem? (i := 64) rfl)) rfl
theorem kw_878 : Cond.instanceMethod yX3_sumFor ∈ hx_all := kt_g (kt_4 (List.mem_of_getElem? (i := 65) rfl)) rfl
theorem kw_879 : Cond.selects "SmallCourt$Payments" yX3_sumFor yX3_sumFor ∈ hx_all := kt_g (kt_4 (List.mem_of_getElem? (i := 66) rfl)) rfl
theorem kw_880 : Cond.code yX3_sumFor cX3_sumFor 7 (some .int) ∈ hx_all := kt_g (kt_4 (List.mem_of_getElem? (i := 67) rfl)) rfl
theorem kw_881 : Cond.methodLink "SmallCourt$Claim" 77 Lib.Math.max.name ∈ hx_all := kt_g (kt_4 (List.mem_of_getElem? (i := 68) rfl)) rfl
theorem kw_882 : Cond.static Lib.Math.max.name ∈ hx_all := kt_g (kt_4 (List.mem_of_getElem? (i := 69) rfl)) rfl
theorem kw_883 : Cond.code Lib.Math.max.name Lib.Math.max.code 2 (some .int) ∈ hx_all := kt_g (kt_4 (List.mem_of_getElem? (i := 70) rfl)) rfl
theorem kw_884 : Cond.methodLink "SmallCourt" 264 yX4_meansBy ∈ hx_all := kt_g (kt_4 (List.mem_of_getElem? (i := 71) rfl)) rfl
theorem kw_885 : Cond.instanceMethod yX4_meansBy ∈ hx_all := kt_g (kt_4 (List.mem_of_getElem? (i := 72) rfl)) rfl
theorem kw_886 : Cond.selects "SmallCourt$Person" yX4_meansBy yX4_meansBy ∈ hx_all := kt_g (kt_4 (List.mem_of_getElem? (i := 73) rfl)) rfl
theorem kw_887 : Cond.code yX4_meansBy cX4_meansBy 2 (some .int) ∈ hx_all := kt_g (kt_4 (List.mem_of_getElem? (i := 74) rfl)) rfl
theorem kw_888 : Cond.methodLink "SmallCourtLaw" 84 yX9_pay ∈ hx_all := kt_g (kt_4 (List.mem_of_getElem? (i := 75) rfl)) rfl
theorem kw_889 : Cond.instanceMethod yX9_pay ∈ hx_all := kt_g (kt_4 (List.mem_of_getElem? (i := 76) rfl)) rfl
theorem kw_890 : Cond.selects "SmallCourt" yX9_pay yX9_pay ∈ hx_all := kt_g (kt_4 (List.mem_of_getElem? (i := 77) rfl)) rfl
theorem kw_891 : Cond.code yX9_pay cX9_pay 5 (some .int) ∈ hx_all := kt_g (kt_4 (List.mem_of_getElem? (i := 78) rfl)) rfl
theorem kw_892 : Cond.methodLink "SmallCourt" 282 yX3_addPayment ∈ hx_all := kt_g (kt_4 (List.mem_of_getElem? (i := 79) rfl)) rfl
theorem kw_893 : Cond.instanceMethod yX3_addPayment ∈ hx_all := kt_g (kt_4 (List.mem_of_getElem? (i := 80) rfl)) rfl
theorem kw_894 : Cond.selects "SmallCourt$Payments" yX3_addPayment yX3_addPayment ∈ hx_all := kt_g (kt_4 (List.mem_of_getElem? (i := 81) rfl)) rfl
theorem kw_895 : Cond.code yX3_addPayment cX3_addPayment 5 (some .int) ∈ hx_all := kt_g (kt_4 (List.mem_of_getElem? (i := 82) rfl)) rfl
theorem kw_896 : Cond.methodLink "SmallCourtLaw" 89 yX9_strike ∈ hx_all := kt_g (kt_4 (List.mem_of_getElem? (i := 83) rfl)) rfl
theorem kw_897 : Cond.instanceMethod yX9_strike ∈ hx_all := kt_g (kt_4 (List.mem_of_getElem? (i := 84) rfl)) rfl
theorem kw_898 : Cond.selects "SmallCourt" yX9_strike yX9_strike ∈ hx_all := kt_g (kt_4 (List.mem_of_getElem? (i := 85) rfl)) rfl
theorem kw_899 : Cond.code yX9_strike cX9_strike 2 (some .boolean) ∈ hx_all := kt_g (kt_4 (List.mem_of_getElem? (i := 86) rfl)) rfl
theorem kw_900 : Cond.methodLink "SmallCourtLaw" 93 yX9_seize ∈ hx_all := kt_g (kt_4 (List.mem_of_getElem? (i := 87) rfl)) rfl
theorem kw_901 : Cond.instanceMethod yX9_seize ∈ hx_all := kt_g (kt_4 (List.mem_of_getElem? (i := 88) rfl)) rfl
theorem kw_902 : Cond.selects "SmallCourt" yX9_seize yX9_seize ∈ hx_all := kt_g (kt_4 (List.mem_of_getElem? (i := 89) rfl)) rfl
theorem kw_903 : Cond.code yX9_seize cX9_seize 5 (some .int) ∈ hx_all := kt_g (kt_4 (List.mem_of_getElem? (i := 90) rfl)) rfl
theorem kw_904 : Cond.methodLink "SmallCourt" 292 yX2_stateOn ∈ hx_all := kt_g (kt_4 (List.mem_of_getElem? (i := 91) rfl)) rfl
theorem kw_905 : Cond.instanceMethod yX2_stateOn ∈ hx_all := kt_g (kt_4 (List.mem_of_getElem? (i := 92) rfl)) rfl
theorem kw_906 : Cond.selects "SmallCourt$Claim" yX2_stateOn yX2_stateOn ∈ hx_all := kt_g (kt_4 (List.mem_of_getElem? (i := 93) rfl)) rfl
theorem kw_907 : Cond.code yX2_stateOn cX2_stateOn 5 (some .int) ∈ hx_all := kt_g (kt_4 (List.mem_of_getElem? (i := 94) rfl)) rfl
theorem kw_908 : Cond.methodLink "SmallCourt$Claim" 64 yX2_stateAheadOfOrder ∈ hx_all := kt_g (kt_4 (List.mem_of_getElem? (i := 95) rfl)) rfl
theorem kw_910 : Cond.instanceMethod yX2_stateAheadOfOrder ∈ hx_all := kt_g (kt_4 (List.mem_of_getElem? (i := 97) rfl)) rfl
theorem kw_911 : Cond.code yX2_stateAheadOfOrder cX2_stateAheadOfOrder 2 (some .int) ∈ hx_all := kt_g (kt_4 (List.mem_of_getElem? (i := 98) rfl)) rfl
theorem kw_912 : Cond.methodLink "SmallCourt$Claim" 68 yX2_missedOn ∈ hx_all := kt_g (kt_4 (List.mem_of_getElem? (i := 99) rfl)) rfl
theorem kw_913 : Cond.instanceMethod yX2_missedOn ∈ hx_all := kt_g (kt_4 (List.mem_of_getElem? (i := 100) rfl)) rfl
theorem kw_914 : Cond.selects "SmallCourt$Claim" yX2_missedOn yX2_missedOn ∈ hx_all := kt_g (kt_4 (List.mem_of_getElem? (i := 101) rfl)) rfl
theorem kw_915 : Cond.code yX2_missedOn cX2_missedOn 5 (some .int) ∈ hx_all := kt_g (kt_4 (List.mem_of_getElem? (i := 102) rfl)) rfl
theorem kw_916 : Cond.methodLink "SmallCourt$Claim" 89 Lib.Math.min.name ∈ hx_all := kt_g (kt_4 (List.mem_of_getElem? (i := 103) rfl)) rfl
theorem kw_917 : Cond.static Lib.Math.min.name ∈ hx_all := kt_g (kt_4 (List.mem_of_getElem? (i := 104) rfl)) rfl
theorem kw_918 : Cond.code Lib.Math.min.name Lib.Math.min.code 2 (some .int) ∈ hx_all := kt_g (kt_4 (List.mem_of_getElem? (i := 105) rfl)) rfl
theorem kw_919 : Cond.methodLinkNest "SmallCourt$Claim" 95 yX9_roundUp "SmallCourt" ∈ lw_tbl := kt_4 (List.mem_of_getElem? (i := 106) rfl)
theorem kw_920 : Cond.static yX9_roundUp ∈ hx_all := kt_g (kt_4 (List.mem_of_getElem? (i := 107) rfl)) rfl
theorem kw_921 : Cond.code yX9_roundUp cX9_roundUp 2 (some .int) ∈ hx_all := kt_g (kt_4 (List.mem_of_getElem? (i := 108) rfl)) rfl
theorem kw_922 : Cond.methodLink "SmallCourt" 299 yX2_balanceOn ∈ hx_all := kt_g (kt_4 (List.mem_of_getElem? (i := 109) rfl)) rfl
theorem kw_923 : Cond.methodLink "SmallCourtLaw" 97 yX9_gaol ∈ hx_all := kt_g (kt_4 (List.mem_of_getElem? (i := 110) rfl)) rfl
theorem kw_924 : Cond.instanceMethod yX9_gaol ∈ hx_all := kt_g (kt_4 (List.mem_of_getElem? (i := 111) rfl)) rfl
theorem kw_925 : Cond.selects "SmallCourt" yX9_gaol yX9_gaol ∈ hx_all := kt_g (kt_4 (List.mem_of_getElem? (i := 112) rfl)) rfl
theorem kw_926 : Cond.code yX9_gaol cX9_gaol 4 (some .int) ∈ hx_all := kt_g (kt_4 (List.mem_of_getElem? (i := 113) rfl)) rfl
theorem kw_927 : Cond.methodLink "SmallCourt" 302 yX2_restOn ∈ hx_all := kt_g (kt_4 (List.mem_of_getElem? (i := 114) rfl)) rfl
theorem kw_928 : Cond.methodLink "SmallCourt" 305 yX9_roundUp ∈ hx_all := kt_g (kt_4 (List.mem_of_getElem? (i := 115) rfl)) rfl
theorem kw_929 : Cond.methodLink "SmallCourt" 309 Lib.Math.min.name ∈ hx_all := kt_g (kt_4 (List.mem_of_getElem? (i := 116) rfl)) rfl
theorem kw_930 : Cond.methodLink "SmallCourtLaw" 101 yX9_claim ∈ hx_all := kt_g (kt_4 (List.mem_of_getElem? (i := 117) rfl)) rfl
theorem kw_931 : Cond.instanceMethod yX9_claim ∈ hx_all := kt_g (kt_4 (List.mem_of_getElem? (i := 118) rfl)) rfl
theorem kw_932 : Cond.selects "SmallCourt" yX9_claim yX9_claim ∈ hx_all := kt_g (kt_4 (List.mem_of_getElem? (i := 119) rfl)) rfl
theorem kw_933 : Cond.code yX9_claim cX9_claim 4 (some .int) ∈ hx_all := kt_g (kt_4 (List.mem_of_getElem? (i := 120) rfl)) rfl
theorem kw_934 : Cond.methodLink "SmallCourtLaw" 105 yX9_state ∈ hx_all := kt_g (kt_4 (List.mem_of_getElem? (i := 121) rfl)) rfl
theorem kw_935 : Cond.instanceMethod yX9_state ∈ hx_all := kt_g (kt_4 (List.mem_of_getElem? (i := 122) rfl)) rfl
theorem kw_936 : Cond.selects "SmallCourt" yX9_state yX9_state ∈ hx_all := kt_g (kt_4 (List.mem_of_getElem? (i := 123) rfl)) rfl
theorem kw_937 : Cond.code yX9_state cX9_state 6 (some .int) ∈ hx_all := kt_g (kt_4 (List.mem_of_getElem? (i := 124) rfl)) rfl
theorem kw_938 : Cond.methodLink "SmallCourt" 314 yX2_missedOn ∈ hx_all := kt_g (kt_4 (List.mem_of_getElem? (i := 125) rfl)) rfl
theorem kw_939 : Cond.methodLink "SmallCourt" 317 yX2_paidOn ∈ hx_all := kt_g (kt_4 (List.mem_of_getElem? (i := 126) rfl)) rfl
theorem kw_940 : Cond.methodLink "SmallCourt" 320 yX2_overOn ∈ hx_all := kt_g (kt_4 (List.mem_of_getElem? (i := 127) rfl)) rfl
theorem kw_941 : Cond.instanceMethod yX2_overOn ∈ hx_all := kt_g (kt_4 (List.mem_of_getElem? (i := 128) rfl)) rfl
theorem kw_942 : Cond.selects "SmallCourt$Claim" yX2_overOn yX2_overOn ∈ hx_all := kt_g (kt_4 (List.mem_of_getElem? (i := 129) rfl)) rfl
theorem kw_943 : Cond.code yX2_overOn cX2_overOn 4 (some .int) ∈ hx_all := kt_g (kt_4 (List.mem_of_getElem? (i := 130) rfl)) rfl
theorem kw_944 : Cond.methodLink "SmallCourtLaw" 109 yX9_plan ∈ hx_all := kt_g (kt_4 (List.mem_of_getElem? (i := 131) rfl)) rfl
theorem kw_945 : Cond.instanceMethod yX9_plan ∈ hx_all := kt_g (kt_4 (List.mem_of_getElem? (i := 132) rfl)) rfl
theorem kw_946 : Cond.selects "SmallCourt" yX9_plan yX9_plan ∈ hx_all := kt_g (kt_4 (List.mem_of_getElem? (i := 133) rfl)) rfl
theorem kw_947 : Cond.code yX9_plan cX9_plan 6 (some .int) ∈ hx_all := kt_g (kt_4 (List.mem_of_getElem? (i := 134) rfl)) rfl
theorem kw_948 : Cond.methodLink "SmallCourt" 323 yX5_clear ∈ hx_all := kt_g (kt_4 (List.mem_of_getElem? (i := 135) rfl)) rfl
theorem kw_949 : Cond.instanceMethod yX5_clear ∈ hx_all := kt_g (kt_4 (List.mem_of_getElem? (i := 136) rfl)) rfl
theorem kw_950 : Cond.selects "SmallCourt$Plan" yX5_clear yX5_clear ∈ hx_all := kt_g (kt_4 (List.mem_of_getElem? (i := 137) rfl)) rfl
theorem kw_951 : Cond.code yX5_clear cX5_clear 3 none ∈ hx_all := kt_g (kt_4 (List.mem_of_getElem? (i := 138) rfl)) rfl
theorem kw_952 : Cond.methodLink "SmallCourt" 329 yX5_addOpen ∈ hx_all := kt_g (kt_4 (List.mem_of_getElem? (i := 139) rfl)) rfl
theorem kw_953 : Cond.instanceMethod yX5_addOpen ∈ hx_all := kt_g (kt_4 (List.mem_of_getElem? (i := 140) rfl)) rfl
theorem kw_954 : Cond.selects "SmallCourt$Plan" yX5_addOpen yX5_addOpen ∈ hx_all := kt_g (kt_4 (List.mem_of_getElem? (i := 141) rfl)) rfl
theorem kw_955 : Cond.code yX5_addOpen cX5_addOpen 3 none ∈ hx_all := kt_g (kt_4 (List.mem_of_getElem? (i := 142) rfl)) rfl
theorem kw_956 : Cond.methodLink "SmallCourt$Plan" 57 Lib.Math.min.name ∈ hx_all := kt_g (kt_4 (List.mem_of_getElem? (i := 143) rfl)) rfl
theorem kw_957 : Cond.methodLink "SmallCourt" 333 yX5_settle ∈ hx_all := kt_g (kt_4 (List.mem_of_getElem? (i := 144) rfl)) rfl
theorem kw_958 : Cond.instanceMethod yX5_settle ∈ hx_all := kt_g (kt_4 (List.mem_of_getElem? (i := 145) rfl)) rfl
theorem kw_959 : Cond.selects "SmallCourt$Plan" yX5_settle yX5_settle ∈ hx_all := kt_g (kt_4 (List.mem_of_getElem? (i := 146) rfl)) rfl
theorem kw_960 : Cond.code yX5_settle cX5_settle 2 (some .int) ∈ hx_all := kt_g (kt_4 (List.mem_of_getElem? (i := 147) rfl)) rfl
theorem kw_961 : Cond.methodLink "SmallCourt$Plan" 63 yX5_leastFrom ∈ hx_all := kt_g (kt_4 (List.mem_of_getElem? (i := 148) rfl)) rfl
theorem kw_963 : Cond.instanceMethod yX5_leastFrom ∈ hx_all := kt_g (kt_4 (List.mem_of_getElem? (i := 150) rfl)) rfl
theorem kw_964 : Cond.code yX5_leastFrom cX5_leastFrom 4 (some .int) ∈ hx_all := kt_g (kt_4 (List.mem_of_getElem? (i := 151) rfl)) rfl
theorem kw_965 : Cond.constant "SmallCourt$Plan" 67 (1000000000) ∈ hx_all := kt_g (kt_4 (List.mem_of_getElem? (i := 152) rfl)) rfl
theorem kw_966 : Cond.methodLink "SmallCourt$Plan" 74 yX5_tryFrom ∈ hx_all := kt_g (kt_4 (List.mem_of_getElem? (i := 153) rfl)) rfl
theorem kw_968 : Cond.instanceMethod yX5_tryFrom ∈ hx_all := kt_g (kt_4 (List.mem_of_getElem? (i := 155) rfl)) rfl
theorem kw_969 : Cond.code yX5_tryFrom cX5_tryFrom 9 none ∈ hx_all := kt_g (kt_4 (List.mem_of_getElem? (i := 156) rfl)) rfl
theorem kw_970 : Cond.methodLink "SmallCourt$Plan" 83 yX5_keepIfBetter ∈ hx_all := kt_g (kt_4 (List.mem_of_getElem? (i := 157) rfl)) rfl
theorem kw_972 : Cond.instanceMethod yX5_keepIfBetter ∈ hx_all := kt_g (kt_4 (List.mem_of_getElem? (i := 159) rfl)) rfl
theorem kw_973 : Cond.code yX5_keepIfBetter cX5_keepIfBetter 3 none ∈ hx_all := kt_g (kt_4 (List.mem_of_getElem? (i := 160) rfl)) rfl
theorem kw_974 : Cond.methodLink "SmallCourt$Plan" 90 arraycopyName ∈ hx_all := kt_g (kt_4 (List.mem_of_getElem? (i := 161) rfl)) rfl
theorem kw_975 : Cond.methodLinkNest "SmallCourt$Plan" 78 yX9_roundUp "SmallCourt" ∈ lw_tbl := kt_4 (List.mem_of_getElem? (i := 162) rfl)
theorem kw_976 : Cond.methodLink "SmallCourt$Plan" 87 Lib.Math.max.name ∈ hx_all := kt_g (kt_4 (List.mem_of_getElem? (i := 163) rfl)) rfl
theorem kw_977 : Cond.methodLink "SmallCourtLaw" 113 yX9_planned ∈ hx_all := kt_g (kt_4 (List.mem_of_getElem? (i := 164) rfl)) rfl
theorem kw_978 : Cond.instanceMethod yX9_planned ∈ hx_all := kt_g (kt_4 (List.mem_of_getElem? (i := 165) rfl)) rfl
theorem kw_979 : Cond.selects "SmallCourt" yX9_planned yX9_planned ∈ hx_all := kt_g (kt_4 (List.mem_of_getElem? (i := 166) rfl)) rfl
theorem kw_980 : Cond.code yX9_planned cX9_planned 3 (some .int) ∈ hx_all := kt_g (kt_4 (List.mem_of_getElem? (i := 167) rfl)) rfl
theorem kw_981 : Cond.methodLink "SmallCourtLaw" 117 yX9_net ∈ hx_all := kt_g (kt_4 (List.mem_of_getElem? (i := 168) rfl)) rfl
theorem kw_982 : Cond.instanceMethod yX9_net ∈ hx_all := kt_g (kt_4 (List.mem_of_getElem? (i := 169) rfl)) rfl
theorem kw_983 : Cond.selects "SmallCourt" yX9_net yX9_net ∈ hx_all := kt_g (kt_4 (List.mem_of_getElem? (i := 170) rfl)) rfl
theorem kw_984 : Cond.code yX9_net cX9_net 3 (some .int) ∈ hx_all := kt_g (kt_4 (List.mem_of_getElem? (i := 171) rfl)) rfl
theorem kw_985 : Cond.methodLink "SmallCourt" 346 yX7_clear ∈ hx_all := kt_g (kt_4 (List.mem_of_getElem? (i := 172) rfl)) rfl
theorem kw_986 : Cond.instanceMethod yX7_clear ∈ hx_all := kt_g (kt_4 (List.mem_of_getElem? (i := 173) rfl)) rfl
theorem kw_987 : Cond.selects "SmallCourt$Rings" yX7_clear yX7_clear ∈ hx_all := kt_g (kt_4 (List.mem_of_getElem? (i := 174) rfl)) rfl
theorem kw_988 : Cond.code yX7_clear cX7_clear 3 none ∈ hx_all := kt_g (kt_4 (List.mem_of_getElem? (i := 175) rfl)) rfl
theorem kw_989 : Cond.methodLink "SmallCourt" 348 yX7_owe ∈ hx_all := kt_g (kt_4 (List.mem_of_getElem? (i := 176) rfl)) rfl
theorem kw_990 : Cond.instanceMethod yX7_owe ∈ hx_all := kt_g (kt_4 (List.mem_of_getElem? (i := 177) rfl)) rfl
theorem kw_991 : Cond.selects "SmallCourt$Rings" yX7_owe yX7_owe ∈ hx_all := kt_g (kt_4 (List.mem_of_getElem? (i := 178) rfl)) rfl
theorem kw_992 : Cond.code yX7_owe cX7_owe 4 none ∈ hx_all := kt_g (kt_4 (List.mem_of_getElem? (i := 179) rfl)) rfl
theorem kw_993 : Cond.methodLink "SmallCourt" 351 yX7_findBest ∈ hx_all := kt_g (kt_4 (List.mem_of_getElem? (i := 180) rfl)) rfl
theorem kw_994 : Cond.instanceMethod yX7_findBest ∈ hx_all := kt_g (kt_4 (List.mem_of_getElem? (i := 181) rfl)) rfl
theorem kw_995 : Cond.selects "SmallCourt$Rings" yX7_findBest yX7_findBest ∈ hx_all := kt_g (kt_4 (List.mem_of_getElem? (i := 182) rfl)) rfl
theorem kw_996 : Cond.code yX7_findBest cX7_findBest 2 (some .boolean) ∈ hx_all := kt_g (kt_4 (List.mem_of_getElem? (i := 183) rfl)) rfl
theorem kw_997 : Cond.constant "SmallCourt$Rings" 37 (1000000000) ∈ hx_all := kt_g (kt_4 (List.mem_of_getElem? (i := 184) rfl)) rfl
theorem kw_998 : Cond.methodLink "SmallCourt$Rings" 38 yX7_goOn ∈ hx_all := kt_g (kt_4 (List.mem_of_getElem? (i := 185) rfl)) rfl
theorem kw_1000 : Cond.instanceMethod yX7_goOn ∈ hx_all := kt_g (kt_4 (List.mem_of_getElem? (i := 187) rfl)) rfl
theorem kw_1001 : Cond.code yX7_goOn cX7_goOn 6 none ∈ hx_all := kt_g (kt_4 (List.mem_of_getElem? (i := 188) rfl)) rfl
theorem kw_1002 : Cond.methodLink "SmallCourt$Rings" 42 Lib.Math.min.name ∈ hx_all := kt_g (kt_4 (List.mem_of_getElem? (i := 189) rfl)) rfl
theorem kw_1003 : Cond.methodLink "SmallCourt$Rings" 48 yX7_keepIfBetter ∈ hx_all := kt_g (kt_4 (List.mem_of_getElem? (i := 190) rfl)) rfl
theorem kw_1005 : Cond.instanceMethod yX7_keepIfBetter ∈ hx_all := kt_g (kt_4 (List.mem_of_getElem? (i := 192) rfl)) rfl
theorem kw_1006 : Cond.code yX7_keepIfBetter cX7_keepIfBetter 3 none ∈ hx_all := kt_g (kt_4 (List.mem_of_getElem? (i := 193) rfl)) rfl
theorem kw_1007 : Cond.methodLink "SmallCourt$Rings" 55 arraycopyName ∈ hx_all := kt_g (kt_4 (List.mem_of_getElem? (i := 194) rfl)) rfl
theorem kw_1008 : Cond.methodLink "SmallCourt$Rings" 51 yX7_isInRing ∈ hx_all := kt_g (kt_4 (List.mem_of_getElem? (i := 195) rfl)) rfl
theorem kw_1010 : Cond.instanceMethod yX7_isInRing ∈ hx_all := kt_g (kt_4 (List.mem_of_getElem? (i := 197) rfl)) rfl
theorem kw_1011 : Cond.code yX7_isInRing cX7_isInRing 4 (some .boolean) ∈ hx_all := kt_g (kt_4 (List.mem_of_getElem? (i := 198) rfl)) rfl
theorem kw_1012 : Cond.methodLink "SmallCourt" 355 yX9_ringNeeds ∈ hx_all := kt_g (kt_4 (List.mem_of_getElem? (i := 199) rfl)) rfl
theorem kw_1014 : Cond.instanceMethod yX9_ringNeeds ∈ hx_all := kt_g (kt_4 (List.mem_of_getElem? (i := 201) rfl)) rfl
theorem kw_1015 : Cond.code yX9_ringNeeds cX9_ringNeeds 5 (some .int) ∈ hx_all := kt_g (kt_4 (List.mem_of_getElem? (i := 202) rfl)) rfl
theorem kw_1016 : Cond.methodLink "SmallCourt" 367 yX7_isDebt ∈ hx_all := kt_g (kt_4 (List.mem_of_getElem? (i := 203) rfl)) rfl
theorem kw_1017 : Cond.instanceMethod yX7_isDebt ∈ hx_all := kt_g (kt_4 (List.mem_of_getElem? (i := 204) rfl)) rfl
theorem kw_1018 : Cond.selects "SmallCourt$Rings" yX7_isDebt yX7_isDebt ∈ hx_all := kt_g (kt_4 (List.mem_of_getElem? (i := 205) rfl)) rfl
theorem kw_1019 : Cond.code yX7_isDebt cX7_isDebt 3 (some .boolean) ∈ hx_all := kt_g (kt_4 (List.mem_of_getElem? (i := 206) rfl)) rfl
theorem kw_1020 : Cond.methodLink "SmallCourt$Rings" 75 yX7_placeAfter ∈ hx_all := kt_g (kt_4 (List.mem_of_getElem? (i := 207) rfl)) rfl
theorem kw_1022 : Cond.instanceMethod yX7_placeAfter ∈ hx_all := kt_g (kt_4 (List.mem_of_getElem? (i := 209) rfl)) rfl
theorem kw_1023 : Cond.code yX7_placeAfter cX7_placeAfter 2 (some .int) ∈ hx_all := kt_g (kt_4 (List.mem_of_getElem? (i := 210) rfl)) rfl
theorem kw_1024 : Cond.methodLink "SmallCourt" 358 yX9_takeOffRing ∈ hx_all := kt_g (kt_4 (List.mem_of_getElem? (i := 211) rfl)) rfl
theorem kw_1026 : Cond.instanceMethod yX9_takeOffRing ∈ hx_all := kt_g (kt_4 (List.mem_of_getElem? (i := 213) rfl)) rfl
theorem kw_1027 : Cond.code yX9_takeOffRing cX9_takeOffRing 6 (some .int) ∈ hx_all := kt_g (kt_4 (List.mem_of_getElem? (i := 214) rfl)) rfl
theorem kw_1028 : Cond.methodLink "SmallCourt" 371 yX7_takeOff ∈ hx_all := kt_g (kt_4 (List.mem_of_getElem? (i := 215) rfl)) rfl
theorem kw_1029 : Cond.instanceMethod yX7_takeOff ∈ hx_all := kt_g (kt_4 (List.mem_of_getElem? (i := 216) rfl)) rfl
theorem kw_1030 : Cond.selects "SmallCourt$Rings" yX7_takeOff yX7_takeOff ∈ hx_all := kt_g (kt_4 (List.mem_of_getElem? (i := 217) rfl)) rfl
theorem kw_1031 : Cond.code yX7_takeOff cX7_takeOff 2 none ∈ hx_all := kt_g (kt_4 (List.mem_of_getElem? (i := 218) rfl)) rfl
theorem kw_1032 : Cond.methodLink "SmallCourtLaw" 122 yX9_netted ∈ hx_all := kt_g (kt_4 (List.mem_of_getElem? (i := 219) rfl)) rfl
theorem kw_1033 : Cond.instanceMethod yX9_netted ∈ hx_all := kt_g (kt_4 (List.mem_of_getElem? (i := 220) rfl)) rfl
theorem kw_1034 : Cond.selects "SmallCourt" yX9_netted yX9_netted ∈ hx_all := kt_g (kt_4 (List.mem_of_getElem? (i := 221) rfl)) rfl
theorem kw_1035 : Cond.code yX9_netted cX9_netted 2 (some .int) ∈ hx_all := kt_g (kt_4 (List.mem_of_getElem? (i := 222) rfl)) rfl
theorem kw_1036 : Cond.methodLink "SmallCourtLaw" 126 yX9_list ∈ hx_all := kt_g (kt_4 (List.mem_of_getElem? (i := 223) rfl)) rfl
theorem kw_1037 : Cond.instanceMethod yX9_list ∈ hx_all := kt_g (kt_4 (List.mem_of_getElem? (i := 224) rfl)) rfl
theorem kw_1038 : Cond.selects "SmallCourt" yX9_list yX9_list ∈ hx_all := kt_g (kt_4 (List.mem_of_getElem? (i := 225) rfl)) rfl
theorem kw_1039 : Cond.code yX9_list cX9_list 3 (some .int) ∈ hx_all := kt_g (kt_4 (List.mem_of_getElem? (i := 226) rfl)) rfl
theorem kw_1040 : Cond.methodLink "SmallCourt" 378 yX8_isListed ∈ hx_all := kt_g (kt_4 (List.mem_of_getElem? (i := 227) rfl)) rfl
theorem kw_1041 : Cond.instanceMethod yX8_isListed ∈ hx_all := kt_g (kt_4 (List.mem_of_getElem? (i := 228) rfl)) rfl
theorem kw_1042 : Cond.selects "SmallCourt$Walk" yX8_isListed yX8_isListed ∈ hx_all := kt_g (kt_4 (List.mem_of_getElem? (i := 229) rfl)) rfl
theorem kw_1043 : Cond.code yX8_isListed cX8_isListed 3 (some .boolean) ∈ hx_all := kt_g (kt_4 (List.mem_of_getElem? (i := 230) rfl)) rfl
theorem kw_1044 : Cond.methodLink "SmallCourt" 384 yX8_putOnList ∈ hx_all := kt_g (kt_4 (List.mem_of_getElem? (i := 231) rfl)) rfl
theorem kw_1045 : Cond.instanceMethod yX8_putOnList ∈ hx_all := kt_g (kt_4 (List.mem_of_getElem? (i := 232) rfl)) rfl
theorem kw_1046 : Cond.selects "SmallCourt$Walk" yX8_putOnList yX8_putOnList ∈ hx_all := kt_g (kt_4 (List.mem_of_getElem? (i := 233) rfl)) rfl
theorem kw_1047 : Cond.code yX8_putOnList cX8_putOnList 3 none ∈ hx_all := kt_g (kt_4 (List.mem_of_getElem? (i := 234) rfl)) rfl
theorem kw_1048 : Cond.methodLink "SmallCourtLaw" 130 yX9_walk ∈ hx_all := kt_g (kt_4 (List.mem_of_getElem? (i := 235) rfl)) rfl
theorem kw_1049 : Cond.instanceMethod yX9_walk ∈ hx_all := kt_g (kt_4 (List.mem_of_getElem? (i := 236) rfl)) rfl
theorem kw_1050 : Cond.selects "SmallCourt" yX9_walk yX9_walk ∈ hx_all := kt_g (kt_4 (List.mem_of_getElem? (i := 237) rfl)) rfl
theorem kw_1051 : Cond.code yX9_walk cX9_walk 1 (some .int) ∈ hx_all := kt_g (kt_4 (List.mem_of_getElem? (i := 238) rfl)) rfl
theorem kw_1052 : Cond.methodLink "SmallCourt" 388 yX8_walkList ∈ hx_all := kt_g (kt_4 (List.mem_of_getElem? (i := 239) rfl)) rfl
theorem kw_1053 : Cond.instanceMethod yX8_walkList ∈ hx_all := kt_g (kt_5 (List.mem_of_getElem? (i := 0) rfl)) rfl
theorem kw_1054 : Cond.selects "SmallCourt$Walk" yX8_walkList yX8_walkList ∈ hx_all := kt_g (kt_5 (List.mem_of_getElem? (i := 1) rfl)) rfl
theorem kw_1055 : Cond.code yX8_walkList cX8_walkList 4 (some .int) ∈ hx_all := kt_g (kt_5 (List.mem_of_getElem? (i := 2) rfl)) rfl
theorem kw_1056 : Cond.methodLink "SmallCourt$Walk" 31 yX8_isIn ∈ hx_all := kt_g (kt_5 (List.mem_of_getElem? (i := 3) rfl)) rfl
theorem kw_1057 : Cond.static yX8_isIn ∈ hx_all := kt_g (kt_5 (List.mem_of_getElem? (i := 4) rfl)) rfl
theorem kw_1058 : Cond.code yX8_isIn cX8_isIn 2 (some .boolean) ∈ hx_all := kt_g (kt_5 (List.mem_of_getElem? (i := 5) rfl)) rfl
theorem kw_1059 : Cond.methodLink "SmallCourt$Walk" 35 yX8_fromCourt ∈ hx_all := kt_g (kt_5 (List.mem_of_getElem? (i := 6) rfl)) rfl
theorem kw_1061 : Cond.instanceMethod yX8_fromCourt ∈ hx_all := kt_g (kt_5 (List.mem_of_getElem? (i := 8) rfl)) rfl
theorem kw_1062 : Cond.code yX8_fromCourt cX8_fromCourt 3 (some .int) ∈ hx_all := kt_g (kt_5 (List.mem_of_getElem? (i := 9) rfl)) rfl
theorem kw_1063 : Cond.methodLink "SmallCourt$Walk" 76 Lib.Math.abs.name ∈ hx_all := kt_g (kt_5 (List.mem_of_getElem? (i := 10) rfl)) rfl
theorem kw_1064 : Cond.methodLink "SmallCourt$Walk" 39 yX8_leastOn ∈ hx_all := kt_g (kt_5 (List.mem_of_getElem? (i := 11) rfl)) rfl
theorem kw_1066 : Cond.instanceMethod yX8_leastOn ∈ hx_all := kt_g (kt_5 (List.mem_of_getElem? (i := 13) rfl)) rfl
theorem kw_1067 : Cond.code yX8_leastOn cX8_leastOn 5 (some .int) ∈ hx_all := kt_g (kt_5 (List.mem_of_getElem? (i := 14) rfl)) rfl
theorem kw_1068 : Cond.constant "SmallCourt$Walk" 50 (1000000000) ∈ hx_all := kt_g (kt_5 (List.mem_of_getElem? (i := 15) rfl)) rfl
theorem kw_1069 : Cond.methodLink "SmallCourt$Walk" 51 yX8_stepsBy ∈ hx_all := kt_g (kt_5 (List.mem_of_getElem? (i := 16) rfl)) rfl
theorem kw_1071 : Cond.instanceMethod yX8_stepsBy ∈ hx_all := kt_g (kt_5 (List.mem_of_getElem? (i := 18) rfl)) rfl
theorem kw_1072 : Cond.code yX8_stepsBy cX8_stepsBy 5 (some .int) ∈ hx_all := kt_g (kt_5 (List.mem_of_getElem? (i := 19) rfl)) rfl
theorem kw_1073 : Cond.methodLink "SmallCourt$Walk" 67 yX8_between ∈ hx_all := kt_g (kt_5 (List.mem_of_getElem? (i := 20) rfl)) rfl
theorem kw_1074 : Cond.static yX8_between ∈ hx_all := kt_g (kt_5 (List.mem_of_getElem? (i := 21) rfl)) rfl
theorem kw_1075 : Cond.code yX8_between cX8_between 2 (some .int) ∈ hx_all := kt_g (kt_5 (List.mem_of_getElem? (i := 22) rfl)) rfl
theorem kw_1076 : Cond.methodLink "SmallCourt$Walk" 55 Lib.Math.min.name ∈ hx_all := kt_g (kt_5 (List.mem_of_getElem? (i := 23) rfl)) rfl
theorem kw_1077 : Cond.methodLink "SmallCourt$Walk" 43 yX8_retrace ∈ hx_all := kt_g (kt_5 (List.mem_of_getElem? (i := 24) rfl)) rfl
theorem kw_1079 : Cond.instanceMethod yX8_retrace ∈ hx_all := kt_g (kt_5 (List.mem_of_getElem? (i := 26) rfl)) rfl
theorem kw_1080 : Cond.code yX8_retrace cX8_retrace 7 none ∈ hx_all := kt_g (kt_5 (List.mem_of_getElem? (i := 27) rfl)) rfl
theorem kw_1081 : Cond.methodLink "SmallCourt$Walk" 60 yX8_firstOnWay ∈ hx_all := kt_g (kt_5 (List.mem_of_getElem? (i := 28) rfl)) rfl
theorem kw_1083 : Cond.instanceMethod yX8_firstOnWay ∈ hx_all := kt_g (kt_5 (List.mem_of_getElem? (i := 30) rfl)) rfl
theorem kw_1084 : Cond.code yX8_firstOnWay cX8_firstOnWay 5 (some .int) ∈ hx_all := kt_g (kt_5 (List.mem_of_getElem? (i := 31) rfl)) rfl
theorem kw_1085 : Cond.methodLink "SmallCourtLaw" 134 yX9_walked ∈ hx_all := kt_g (kt_5 (List.mem_of_getElem? (i := 32) rfl)) rfl
theorem kw_1086 : Cond.instanceMethod yX9_walked ∈ hx_all := kt_g (kt_5 (List.mem_of_getElem? (i := 33) rfl)) rfl
theorem kw_1087 : Cond.selects "SmallCourt" yX9_walked yX9_walked ∈ hx_all := kt_g (kt_5 (List.mem_of_getElem? (i := 34) rfl)) rfl
theorem kw_1088 : Cond.code yX9_walked cX9_walked 2 (some .int) ∈ hx_all := kt_g (kt_5 (List.mem_of_getElem? (i := 35) rfl)) rfl
theorem kw_1089 : Cond.methodLink "SmallCourtLaw" 138 yX9_habit ∈ hx_all := kt_g (kt_5 (List.mem_of_getElem? (i := 36) rfl)) rfl
theorem kw_1090 : Cond.instanceMethod yX9_habit ∈ hx_all := kt_g (kt_5 (List.mem_of_getElem? (i := 37) rfl)) rfl
theorem kw_1091 : Cond.selects "SmallCourt" yX9_habit yX9_habit ∈ hx_all := kt_g (kt_5 (List.mem_of_getElem? (i := 38) rfl)) rfl
theorem kw_1092 : Cond.code yX9_habit cX9_habit 7 (some .int) ∈ hx_all := kt_g (kt_5 (List.mem_of_getElem? (i := 39) rfl)) rfl
theorem kw_1093 : Cond.methodLink "SmallCourt" 397 yX2_isOnBench ∈ hx_all := kt_g (kt_5 (List.mem_of_getElem? (i := 40) rfl)) rfl
theorem kw_1094 : Cond.instanceMethod yX2_isOnBench ∈ hx_all := kt_g (kt_5 (List.mem_of_getElem? (i := 41) rfl)) rfl
theorem kw_1095 : Cond.selects "SmallCourt$Claim" yX2_isOnBench yX2_isOnBench ∈ hx_all := kt_g (kt_5 (List.mem_of_getElem? (i := 42) rfl)) rfl
theorem kw_1096 : Cond.code yX2_isOnBench cX2_isOnBench 2 (some .boolean) ∈ hx_all := kt_g (kt_5 (List.mem_of_getElem? (i := 43) rfl)) rfl
theorem kw_1097 : Cond.methodLink "SmallCourt" 400 yX9_isBeyondDoubt ∈ hx_all := kt_g (kt_5 (List.mem_of_getElem? (i := 44) rfl)) rfl
theorem kw_1098 : Cond.static yX9_isBeyondDoubt ∈ hx_all := kt_g (kt_5 (List.mem_of_getElem? (i := 45) rfl)) rfl
theorem kw_1099 : Cond.code yX9_isBeyondDoubt cX9_isBeyondDoubt 7 (some .boolean) ∈ hx_all := kt_g (kt_5 (List.mem_of_getElem? (i := 46) rfl)) rfl
theorem kw_1100 : Cond.constantLong "SmallCourt" 403 20 ∈ hx_all := kt_g (kt_5 (List.mem_of_getElem? (i := 47) rfl)) rfl
theorem kw_1101 : Cond.methodLink "SmallCourtLaw" 142 yX9_other ∈ hx_all := kt_g (kt_5 (List.mem_of_getElem? (i := 48) rfl)) rfl
theorem kw_1102 : Cond.instanceMethod yX9_other ∈ hx_all := kt_g (kt_5 (List.mem_of_getElem? (i := 49) rfl)) rfl
theorem kw_1103 : Cond.selects "SmallCourt" yX9_other yX9_other ∈ hx_all := kt_g (kt_5 (List.mem_of_getElem? (i := 50) rfl)) rfl
theorem kw_1104 : Cond.code yX9_other cX9_other 8 (some .int) ∈ hx_all := kt_g (kt_5 (List.mem_of_getElem? (i := 51) rfl)) rfl
theorem kw_1105 : Cond.methodLink "SmallCourtLaw" 146 yX9_count ∈ hx_all := kt_g (kt_5 (List.mem_of_getElem? (i := 52) rfl)) rfl
theorem kw_1106 : Cond.instanceMethod yX9_count ∈ hx_all := kt_g (kt_5 (List.mem_of_getElem? (i := 53) rfl)) rfl
theorem kw_1107 : Cond.selects "SmallCourt" yX9_count yX9_count ∈ hx_all := kt_g (kt_5 (List.mem_of_getElem? (i := 54) rfl)) rfl
theorem kw_1108 : Cond.code yX9_count cX9_count 2 (some .int) ∈ hx_all := kt_g (kt_5 (List.mem_of_getElem? (i := 55) rfl)) rfl
theorem kw_1109 : Cond.methodLink "SmallCourt" 405 yX9_livingJudges ∈ hx_all := kt_g (kt_5 (List.mem_of_getElem? (i := 56) rfl)) rfl
theorem kw_1111 : Cond.instanceMethod yX9_livingJudges ∈ hx_all := kt_g (kt_5 (List.mem_of_getElem? (i := 58) rfl)) rfl
theorem kw_1112 : Cond.code yX9_livingJudges cX9_livingJudges 3 (some .int) ∈ hx_all := kt_g (kt_5 (List.mem_of_getElem? (i := 59) rfl)) rfl
theorem kw_1113 : Cond.classLink "SmallCourtLaw" 10 "SmallCourtModel" ∈ hx_all := kt_g (kt_5 (List.mem_of_getElem? (i := 60) rfl)) rfl
theorem kw_1114 : Cond.instantiable "SmallCourtModel" 98 ∈ hx_all := kt_g (kt_5 (List.mem_of_getElem? (i := 61) rfl)) rfl
theorem kw_1115 : Cond.methodLink "SmallCourtLaw" 12 yX10_init ∈ hx_all := kt_g (kt_5 (List.mem_of_getElem? (i := 62) rfl)) rfl
theorem kw_1116 : Cond.instanceMethod yX10_init ∈ hx_all := kt_g (kt_5 (List.mem_of_getElem? (i := 63) rfl)) rfl
theorem kw_1117 : Cond.code yX10_init cX10_init 2 none ∈ hx_all := kt_g (kt_5 (List.mem_of_getElem? (i := 64) rfl)) rfl
theorem kw_1118 : Cond.methodLink "SmallCourtModel" 1 Lib.objectInit ∈ hx_all := kt_g (kt_5 (List.mem_of_getElem? (i := 65) rfl)) rfl
theorem kw_1119 : Cond.methodLink "SmallCourtModel" 214 yX10_without ∈ hx_all := kt_g (kt_5 (List.mem_of_getElem? (i := 66) rfl)) rfl
theorem kw_1120 : Cond.static yX10_without ∈ hx_all := kt_g (kt_5 (List.mem_of_getElem? (i := 67) rfl)) rfl
theorem kw_1121 : Cond.code yX10_without cX10_without 1 (some .int) ∈ hx_all := kt_g (kt_5 (List.mem_of_getElem? (i := 68) rfl)) rfl
theorem kw_1122 : Cond.methodLink "SmallCourtModel" 218 yX10_clears ∈ hx_all := kt_g (kt_5 (List.mem_of_getElem? (i := 69) rfl)) rfl
theorem kw_1124 : Cond.instanceMethod yX10_clears ∈ hx_all := kt_g (kt_5 (List.mem_of_getElem? (i := 71) rfl)) rfl
theorem kw_1125 : Cond.code yX10_clears cX10_clears 1 none ∈ hx_all := kt_g (kt_5 (List.mem_of_getElem? (i := 72) rfl)) rfl
theorem kw_1126 : Cond.methodLink "SmallCourtModel" 221 yX10_withoutProof ∈ hx_all := kt_g (kt_5 (List.mem_of_getElem? (i := 73) rfl)) rfl
theorem kw_1128 : Cond.instanceMethod yX10_withoutProof ∈ hx_all := kt_g (kt_5 (List.mem_of_getElem? (i := 75) rfl)) rfl
theorem kw_1129 : Cond.code yX10_withoutProof cX10_withoutProof 1 none ∈ hx_all := kt_g (kt_5 (List.mem_of_getElem? (i := 76) rfl)) rfl
theorem kw_1130 : Cond.methodLink "SmallCourtModel" 280 yX10_compareOf ∈ hx_all := kt_g (kt_5 (List.mem_of_getElem? (i := 77) rfl)) rfl
theorem kw_1131 : Cond.static yX10_compareOf ∈ hx_all := kt_g (kt_5 (List.mem_of_getElem? (i := 78) rfl)) rfl
theorem kw_1132 : Cond.code yX10_compareOf cX10_compareOf 3 (some .int) ∈ hx_all := kt_g (kt_5 (List.mem_of_getElem? (i := 79) rfl)) rfl
theorem kw_1133 : Cond.constant "SmallCourtModel" 268 (1000000) ∈ hx_all := kt_g (kt_5 (List.mem_of_getElem? (i := 80) rfl)) rfl
theorem kw_1134 : Cond.constant "SmallCourtModel" 269 (100000) ∈ hx_all := kt_g (kt_5 (List.mem_of_getElem? (i := 81) rfl)) rfl
theorem kw_1135 : Cond.methodLink "SmallCourtModel" 284 yX10_writes ∈ hx_all := kt_g (kt_5 (List.mem_of_getElem? (i := 82) rfl)) rfl
theorem kw_1137 : Cond.instanceMethod yX10_writes ∈ hx_all := kt_g (kt_5 (List.mem_of_getElem? (i := 84) rfl)) rfl
theorem kw_1138 : Cond.code yX10_writes cX10_writes 2 none ∈ hx_all := kt_g (kt_5 (List.mem_of_getElem? (i := 85) rfl)) rfl
theorem kw_1139 : Cond.methodLink "SmallCourtModel" 224 yX10_keepsProof ∈ hx_all := kt_g (kt_5 (List.mem_of_getElem? (i := 86) rfl)) rfl
theorem kw_1141 : Cond.instanceMethod yX10_keepsProof ∈ hx_all := kt_g (kt_5 (List.mem_of_getElem? (i := 88) rfl)) rfl
theorem kw_1142 : Cond.code yX10_keepsProof cX10_keepsProof 3 none ∈ hx_all := kt_g (kt_5 (List.mem_of_getElem? (i := 89) rfl)) rfl
theorem kw_1143 : Cond.fieldLink "SmallCourtModel" 232 "SmallCourtModel" "now" "I" ∈ hx_all := kt_g (kt_5 (List.mem_of_getElem? (i := 90) rfl)) rfl
theorem kw_1144 : Cond.fieldLink "SmallCourtModel" 321 "SmallCourtModel" "acts" "I" ∈ hx_all := kt_g (kt_5 (List.mem_of_getElem? (i := 91) rfl)) rfl
theorem kw_1145 : Cond.fieldLink "SmallCourtModel" 7 "SmallCourtModel" "actDay" "[I" ∈ hx_all := kt_g (kt_5 (List.mem_of_getElem? (i := 92) rfl)) rfl
theorem kw_1146 : Cond.fieldLink "SmallCourtModel" 13 "SmallCourtModel" "rule" "[I" ∈ hx_all := kt_g (kt_5 (List.mem_of_getElem? (i := 93) rfl)) rfl
theorem kw_1147 : Cond.fieldLink "SmallCourtModel" 16 "SmallCourtModel" "proofSteps" "[I" ∈ hx_all := kt_g (kt_5 (List.mem_of_getElem? (i := 94) rfl)) rfl
theorem kw_1148 : Cond.fieldLink "SmallCourtModel" 19 "SmallCourtModel" "proof" "[I" ∈ hx_all := kt_g (kt_5 (List.mem_of_getElem? (i := 95) rfl)) rfl
theorem kw_1149 : Cond.fieldLink "SmallCourtModel" 22 "SmallCourtModel" "tape" "[B" ∈ hx_all := kt_g (kt_5 (List.mem_of_getElem? (i := 96) rfl)) rfl
theorem kw_1150 : Cond.fieldLink "SmallCourtModel" 236 "SmallCourtModel" "taped" "I" ∈ hx_all := kt_g (kt_5 (List.mem_of_getElem? (i := 97) rfl)) rfl
theorem kw_1151 : Cond.fieldLink "SmallCourtModel" 245 "SmallCourtModel" "next" "I" ∈ hx_all := kt_g (kt_5 (List.mem_of_getElem? (i := 98) rfl)) rfl
theorem kw_1152 : Cond.fieldLink "SmallCourtModel" 242 "SmallCourtModel" "fault" "I" ∈ hx_all := kt_g (kt_5 (List.mem_of_getElem? (i := 99) rfl)) rfl
theorem kw_1153 : Cond.fieldLink "SmallCourtModel" 259 "SmallCourtModel" "said" "I" ∈ hx_all := kt_g (kt_5 (List.mem_of_getElem? (i := 100) rfl)) rfl
theorem kw_1154 : Cond.fieldLink "SmallCourtModel" 252 "SmallCourtModel" "wordSize" "I" ∈ hx_all := kt_g (kt_5 (List.mem_of_getElem? (i := 101) rfl)) rfl
theorem kw_1155 : Cond.fieldLink "SmallCourtModel" 26 "SmallCourtModel" "read" "[I" ∈ hx_all := kt_g (kt_5 (List.mem_of_getElem? (i := 102) rfl)) rfl
theorem kw_1156 : Cond.fieldLink "SmallCourtModel" 306 "SmallCourtModel" "seen" "I" ∈ hx_all := kt_g (kt_5 (List.mem_of_getElem? (i := 103) rfl)) rfl
theorem kw_1157 : Cond.fieldLink "SmallCourtModel" 262 "SmallCourtModel" "steps" "I" ∈ hx_all := kt_g (kt_5 (List.mem_of_getElem? (i := 104) rfl)) rfl
theorem kw_1158 : Cond.fieldLink "SmallCourtModel" 29 "SmallCourtModel" "step" "[I" ∈ hx_all := kt_g (kt_5 (List.mem_of_getElem? (i := 105) rfl)) rfl
theorem kw_1159 : Cond.fieldLink "SmallCourtModel" 274 "SmallCourtModel" "compares" "I" ∈ hx_all := kt_g (kt_5 (List.mem_of_getElem? (i := 106) rfl)) rfl
theorem kw_1160 : Cond.fieldLink "SmallCourtModel" 32 "SmallCourtModel" "open" "[I" ∈ hx_all := kt_g (kt_5 (List.mem_of_getElem? (i := 107) rfl)) rfl
theorem kw_1161 : Cond.fieldLink "SmallCourtModel" 265 "SmallCourtModel" "opened" "I" ∈ hx_all := kt_g (kt_5 (List.mem_of_getElem? (i := 108) rfl)) rfl
theorem kw_1162 : Cond.fieldLink "SmallCourtModel" 35 "SmallCourtModel" "words" "[B" ∈ hx_all := kt_g (kt_5 (List.mem_of_getElem? (i := 109) rfl)) rfl
theorem kw_1163 : Cond.fieldLink "SmallCourtModel" 337 "SmallCourtModel" "persons" "I" ∈ hx_all := kt_g (kt_5 (List.mem_of_getElem? (i := 110) rfl)) rfl
theorem kw_1164 : Cond.fieldLink "SmallCourtModel" 38 "SmallCourtModel" "born" "[I" ∈ hx_all := kt_g (kt_5 (List.mem_of_getElem? (i := 111) rfl)) rfl
theorem kw_1165 : Cond.fieldLink "SmallCourtModel" 41 "SmallCourtModel" "earns" "[I" ∈ hx_all := kt_g (kt_5 (List.mem_of_getElem? (i := 112) rfl)) rfl
theorem kw_1166 : Cond.fieldLink "SmallCourtModel" 44 "SmallCourtModel" "heads" "[I" ∈ hx_all := kt_g (kt_5 (List.mem_of_getElem? (i := 113) rfl)) rfl
theorem kw_1167 : Cond.fieldLink "SmallCourtModel" 47 "SmallCourtModel" "doorX" "[I" ∈ hx_all := kt_g (kt_5 (List.mem_of_getElem? (i := 114) rfl)) rfl
theorem kw_1168 : Cond.fieldLink "SmallCourtModel" 50 "SmallCourtModel" "doorY" "[I" ∈ hx_all := kt_g (kt_5 (List.mem_of_getElem? (i := 115) rfl)) rfl
theorem kw_1169 : Cond.fieldLink "SmallCourtModel" 53 "SmallCourtModel" "kin" "[I" ∈ hx_all := kt_g (kt_5 (List.mem_of_getElem? (i := 116) rfl)) rfl
theorem kw_1170 : Cond.fieldLink "SmallCourtModel" 56 "SmallCourtModel" "isDead" "[Z" ∈ hx_all := kt_g (kt_5 (List.mem_of_getElem? (i := 117) rfl)) rfl
theorem kw_1171 : Cond.fieldLink "SmallCourtModel" 60 "SmallCourtModel" "isJudge" "[Z" ∈ hx_all := kt_g (kt_5 (List.mem_of_getElem? (i := 118) rfl)) rfl
theorem kw_1172 : Cond.fieldLink "SmallCourtModel" 351 "SmallCourtModel" "lines" "I" ∈ hx_all := kt_g (kt_5 (List.mem_of_getElem? (i := 119) rfl)) rfl
theorem kw_1173 : Cond.fieldLink "SmallCourtModel" 63 "SmallCourtModel" "lineOf" "[I" ∈ hx_all := kt_g (kt_5 (List.mem_of_getElem? (i := 120) rfl)) rfl
theorem kw_1174 : Cond.fieldLink "SmallCourtModel" 66 "SmallCourtModel" "lineWith" "[I" ∈ hx_all := kt_g (kt_5 (List.mem_of_getElem? (i := 121) rfl)) rfl
theorem kw_1175 : Cond.fieldLink "SmallCourtModel" 69 "SmallCourtModel" "lineDay" "[I" ∈ hx_all := kt_g (kt_5 (List.mem_of_getElem? (i := 122) rfl)) rfl
theorem kw_1176 : Cond.fieldLink "SmallCourtModel" 72 "SmallCourtModel" "lineKind" "[I" ∈ hx_all := kt_g (kt_5 (List.mem_of_getElem? (i := 123) rfl)) rfl
theorem kw_1177 : Cond.fieldLink "SmallCourtModel" 75 "SmallCourtModel" "lineSum" "[I" ∈ hx_all := kt_g (kt_5 (List.mem_of_getElem? (i := 124) rfl)) rfl
theorem kw_1178 : Cond.fieldLink "SmallCourtModel" 78 "SmallCourtModel" "isTwin" "[Z" ∈ hx_all := kt_g (kt_5 (List.mem_of_getElem? (i := 125) rfl)) rfl
theorem kw_1179 : Cond.fieldLink "SmallCourtModel" 367 "SmallCourtModel" "claims" "I" ∈ hx_all := kt_g (kt_5 (List.mem_of_getElem? (i := 126) rfl)) rfl
theorem kw_1180 : Cond.fieldLink "SmallCourtModel" 81 "SmallCourtModel" "by" "[I" ∈ hx_all := kt_g (kt_5 (List.mem_of_getElem? (i := 127) rfl)) rfl
theorem kw_1181 : Cond.fieldLink "SmallCourtModel" 84 "SmallCourtModel" "against" "[I" ∈ hx_all := kt_g (kt_5 (List.mem_of_getElem? (i := 128) rfl)) rfl
theorem kw_1182 : Cond.fieldLink "SmallCourtModel" 87 "SmallCourtModel" "sum" "[I" ∈ hx_all := kt_g (kt_5 (List.mem_of_getElem? (i := 129) rfl)) rfl
theorem kw_1183 : Cond.fieldLink "SmallCourtModel" 90 "SmallCourtModel" "owedFrom" "[I" ∈ hx_all := kt_g (kt_5 (List.mem_of_getElem? (i := 130) rfl)) rfl
theorem kw_1184 : Cond.fieldLink "SmallCourtModel" 93 "SmallCourtModel" "hasNote" "[Z" ∈ hx_all := kt_g (kt_5 (List.mem_of_getElem? (i := 131) rfl)) rfl
theorem kw_1185 : Cond.fieldLink "SmallCourtModel" 96 "SmallCourtModel" "witnesses" "[I" ∈ hx_all := kt_g (kt_5 (List.mem_of_getElem? (i := 132) rfl)) rfl
theorem kw_1186 : Cond.fieldLink "SmallCourtModel" 99 "SmallCourtModel" "filed" "[I" ∈ hx_all := kt_g (kt_5 (List.mem_of_getElem? (i := 133) rfl)) rfl
theorem kw_1187 : Cond.fieldLink "SmallCourtModel" 102 "SmallCourtModel" "place" "[I" ∈ hx_all := kt_g (kt_5 (List.mem_of_getElem? (i := 134) rfl)) rfl
theorem kw_1188 : Cond.fieldLink "SmallCourtModel" 105 "SmallCourtModel" "tries" "[I" ∈ hx_all := kt_g (kt_5 (List.mem_of_getElem? (i := 135) rfl)) rfl
theorem kw_1189 : Cond.fieldLink "SmallCourtModel" 108 "SmallCourtModel" "found" "[I" ∈ hx_all := kt_g (kt_5 (List.mem_of_getElem? (i := 136) rfl)) rfl
theorem kw_1190 : Cond.fieldLink "SmallCourtModel" 111 "SmallCourtModel" "heard" "[I" ∈ hx_all := kt_g (kt_5 (List.mem_of_getElem? (i := 137) rfl)) rfl
theorem kw_1191 : Cond.fieldLink "SmallCourtModel" 114 "SmallCourtModel" "ordered" "[I" ∈ hx_all := kt_g (kt_5 (List.mem_of_getElem? (i := 138) rfl)) rfl
theorem kw_1192 : Cond.fieldLink "SmallCourtModel" 117 "SmallCourtModel" "seized" "[I" ∈ hx_all := kt_g (kt_5 (List.mem_of_getElem? (i := 139) rfl)) rfl
theorem kw_1193 : Cond.fieldLink "SmallCourtModel" 120 "SmallCourtModel" "served" "[I" ∈ hx_all := kt_g (kt_5 (List.mem_of_getElem? (i := 140) rfl)) rfl
theorem kw_1194 : Cond.fieldLink "SmallCourtModel" 123 "SmallCourtModel" "judged" "[I" ∈ hx_all := kt_g (kt_5 (List.mem_of_getElem? (i := 141) rfl)) rfl
theorem kw_1195 : Cond.fieldLink "SmallCourtModel" 126 "SmallCourtModel" "bench" "[I" ∈ hx_all := kt_g (kt_5 (List.mem_of_getElem? (i := 142) rfl)) rfl
theorem kw_1196 : Cond.fieldLink "SmallCourtModel" 129 "SmallCourtModel" "fact" "[I" ∈ hx_all := kt_g (kt_5 (List.mem_of_getElem? (i := 143) rfl)) rfl
theorem kw_1197 : Cond.fieldLink "SmallCourtModel" 132 "SmallCourtModel" "weekly" "[I" ∈ hx_all := kt_g (kt_5 (List.mem_of_getElem? (i := 144) rfl)) rfl
theorem kw_1198 : Cond.fieldLink "SmallCourtModel" 135 "SmallCourtModel" "owed" "[I" ∈ hx_all := kt_g (kt_5 (List.mem_of_getElem? (i := 145) rfl)) rfl
theorem kw_1199 : Cond.fieldLink "SmallCourtModel" 138 "SmallCourtModel" "goods" "[I" ∈ hx_all := kt_g (kt_5 (List.mem_of_getElem? (i := 146) rfl)) rfl
theorem kw_1200 : Cond.fieldLink "SmallCourtModel" 392 "SmallCourtModel" "heardMany" "I" ∈ hx_all := kt_g (kt_5 (List.mem_of_getElem? (i := 147) rfl)) rfl
theorem kw_1201 : Cond.fieldLink "SmallCourtModel" 141 "SmallCourtModel" "heardOf" "[I" ∈ hx_all := kt_g (kt_5 (List.mem_of_getElem? (i := 148) rfl)) rfl
theorem kw_1202 : Cond.fieldLink "SmallCourtModel" 413 "SmallCourtModel" "payments" "I" ∈ hx_all := kt_g (kt_5 (List.mem_of_getElem? (i := 149) rfl)) rfl
theorem kw_1203 : Cond.fieldLink "SmallCourtModel" 144 "SmallCourtModel" "payOf" "[I" ∈ hx_all := kt_g (kt_5 (List.mem_of_getElem? (i := 150) rfl)) rfl
theorem kw_1204 : Cond.fieldLink "SmallCourtModel" 147 "SmallCourtModel" "payDay" "[I" ∈ hx_all := kt_g (kt_5 (List.mem_of_getElem? (i := 151) rfl)) rfl
theorem kw_1205 : Cond.fieldLink "SmallCourtModel" 150 "SmallCourtModel" "paySum" "[I" ∈ hx_all := kt_g (kt_5 (List.mem_of_getElem? (i := 152) rfl)) rfl
theorem kw_1206 : Cond.fieldLink "SmallCourtModel" 153 "SmallCourtModel" "payKnown" "[I" ∈ hx_all := kt_g (kt_5 (List.mem_of_getElem? (i := 153) rfl)) rfl
theorem kw_1207 : Cond.fieldLink "SmallCourtModel" 156 "SmallCourtModel" "payStruck" "[I" ∈ hx_all := kt_g (kt_5 (List.mem_of_getElem? (i := 154) rfl)) rfl
theorem kw_1208 : Cond.fieldLink "SmallCourtModel" 159 "SmallCourtModel" "sitting" "[I" ∈ hx_all := kt_g (kt_5 (List.mem_of_getElem? (i := 155) rfl)) rfl
theorem kw_1209 : Cond.fieldLink "SmallCourtModel" 162 "SmallCourtModel" "stack" "[Z" ∈ hx_all := kt_g (kt_5 (List.mem_of_getElem? (i := 156) rfl)) rfl
theorem kw_1210 : Cond.fieldLink "SmallCourtModel" 398 "SmallCourtModel" "isPaid" "I" ∈ hx_all := kt_g (kt_5 (List.mem_of_getElem? (i := 157) rfl)) rfl
theorem kw_1211 : Cond.fieldLink "SmallCourtModel" 401 "SmallCourtModel" "isRest" "I" ∈ hx_all := kt_g (kt_5 (List.mem_of_getElem? (i := 158) rfl)) rfl
theorem kw_1212 : Cond.fieldLink "SmallCourtModel" 404 "SmallCourtModel" "isOver" "I" ∈ hx_all := kt_g (kt_5 (List.mem_of_getElem? (i := 159) rfl)) rfl
theorem kw_1213 : Cond.fieldLink "SmallCourtModel" 407 "SmallCourtModel" "isMissed" "I" ∈ hx_all := kt_g (kt_5 (List.mem_of_getElem? (i := 160) rfl)) rfl
theorem kw_1214 : Cond.fieldLink "SmallCourtModel" 410 "SmallCourtModel" "isState" "I" ∈ hx_all := kt_g (kt_5 (List.mem_of_getElem? (i := 161) rfl)) rfl
theorem kw_1215 : Cond.fieldLink "SmallCourtModel" 435 "SmallCourtModel" "planMany" "I" ∈ hx_all := kt_g (kt_5 (List.mem_of_getElem? (i := 162) rfl)) rfl
theorem kw_1216 : Cond.fieldLink "SmallCourtModel" 165 "SmallCourtModel" "planClaim" "[I" ∈ hx_all := kt_g (kt_5 (List.mem_of_getElem? (i := 163) rfl)) rfl
theorem kw_1217 : Cond.fieldLink "SmallCourtModel" 168 "SmallCourtModel" "planWeekly" "[I" ∈ hx_all := kt_g (kt_5 (List.mem_of_getElem? (i := 164) rfl)) rfl
theorem kw_1218 : Cond.fieldLink "SmallCourtModel" 428 "SmallCourtModel" "few" "I" ∈ hx_all := kt_g (kt_5 (List.mem_of_getElem? (i := 165) rfl)) rfl
theorem kw_1219 : Cond.fieldLink "SmallCourtModel" 171 "SmallCourtModel" "fewOf" "[I" ∈ hx_all := kt_g (kt_5 (List.mem_of_getElem? (i := 166) rfl)) rfl
theorem kw_1220 : Cond.fieldLink "SmallCourtModel" 174 "SmallCourtModel" "fewRest" "[I" ∈ hx_all := kt_g (kt_5 (List.mem_of_getElem? (i := 167) rfl)) rfl
theorem kw_1221 : Cond.fieldLink "SmallCourtModel" 177 "SmallCourtModel" "fewLeast" "[I" ∈ hx_all := kt_g (kt_5 (List.mem_of_getElem? (i := 168) rfl)) rfl
theorem kw_1222 : Cond.fieldLink "SmallCourtModel" 180 "SmallCourtModel" "more" "[I" ∈ hx_all := kt_g (kt_5 (List.mem_of_getElem? (i := 169) rfl)) rfl
theorem kw_1223 : Cond.fieldLink "SmallCourtModel" 183 "SmallCourtModel" "bestMore" "[I" ∈ hx_all := kt_g (kt_5 (List.mem_of_getElem? (i := 170) rfl)) rfl
theorem kw_1224 : Cond.fieldLink "SmallCourtModel" 186 "SmallCourtModel" "planWeeks" "[I" ∈ hx_all := kt_g (kt_5 (List.mem_of_getElem? (i := 171) rfl)) rfl
theorem kw_1225 : Cond.fieldLink "SmallCourtModel" 189 "SmallCourtModel" "debt" "[I" ∈ hx_all := kt_g (kt_5 (List.mem_of_getElem? (i := 172) rfl)) rfl
theorem kw_1226 : Cond.fieldLink "SmallCourtModel" 451 "SmallCourtModel" "hasNetted" "Z" ∈ hx_all := kt_g (kt_5 (List.mem_of_getElem? (i := 173) rfl)) rfl
theorem kw_1227 : Cond.fieldLink "SmallCourtModel" 455 "SmallCourtModel" "ringMany" "I" ∈ hx_all := kt_g (kt_5 (List.mem_of_getElem? (i := 174) rfl)) rfl
theorem kw_1228 : Cond.fieldLink "SmallCourtModel" 192 "SmallCourtModel" "ringLeast" "[I" ∈ hx_all := kt_g (kt_5 (List.mem_of_getElem? (i := 175) rfl)) rfl
theorem kw_1229 : Cond.fieldLink "SmallCourtModel" 438 "SmallCourtModel" "bestLeast" "I" ∈ hx_all := kt_g (kt_5 (List.mem_of_getElem? (i := 176) rfl)) rfl
theorem kw_1230 : Cond.fieldLink "SmallCourtModel" 441 "SmallCourtModel" "bestSize" "I" ∈ hx_all := kt_g (kt_5 (List.mem_of_getElem? (i := 177) rfl)) rfl
theorem kw_1231 : Cond.fieldLink "SmallCourtModel" 195 "SmallCourtModel" "bestRing" "[I" ∈ hx_all := kt_g (kt_5 (List.mem_of_getElem? (i := 178) rfl)) rfl
theorem kw_1232 : Cond.fieldLink "SmallCourtModel" 198 "SmallCourtModel" "ring" "[I" ∈ hx_all := kt_g (kt_5 (List.mem_of_getElem? (i := 179) rfl)) rfl
theorem kw_1233 : Cond.fieldLink "SmallCourtModel" 468 "SmallCourtModel" "listed" "I" ∈ hx_all := kt_g (kt_5 (List.mem_of_getElem? (i := 180) rfl)) rfl
theorem kw_1234 : Cond.fieldLink "SmallCourtModel" 201 "SmallCourtModel" "list" "[I" ∈ hx_all := kt_g (kt_5 (List.mem_of_getElem? (i := 181) rfl)) rfl
theorem kw_1235 : Cond.fieldLink "SmallCourtModel" 478 "SmallCourtModel" "walkedMany" "I" ∈ hx_all := kt_g (kt_5 (List.mem_of_getElem? (i := 182) rfl)) rfl
theorem kw_1236 : Cond.fieldLink "SmallCourtModel" 204 "SmallCourtModel" "walked" "[I" ∈ hx_all := kt_g (kt_5 (List.mem_of_getElem? (i := 183) rfl)) rfl
theorem kw_1237 : Cond.fieldLink "SmallCourtModel" 207 "SmallCourtModel" "home" "[I" ∈ hx_all := kt_g (kt_5 (List.mem_of_getElem? (i := 184) rfl)) rfl
theorem kw_1238 : Cond.fieldLink "SmallCourtModel" 481 "SmallCourtModel" "habitMany" "I" ∈ hx_all := kt_g (kt_5 (List.mem_of_getElem? (i := 185) rfl)) rfl
theorem kw_1239 : Cond.fieldLink "SmallCourtModel" 484 "SmallCourtModel" "habitProved" "I" ∈ hx_all := kt_g (kt_5 (List.mem_of_getElem? (i := 186) rfl)) rfl
theorem kw_1240 : Cond.fieldLink "SmallCourtModel" 210 "SmallCourtModel" "ways" "[J" ∈ hx_all := kt_g (kt_5 (List.mem_of_getElem? (i := 187) rfl)) rfl
theorem kw_1241 : Cond.lays "SmallCourtModel" "SmallCourtModel" "now" "I" ∈ hx_all := kt_g (kt_5 (List.mem_of_getElem? (i := 188) rfl)) rfl
theorem kw_1243 : Cond.lays "SmallCourtModel" "SmallCourtModel" "acts" "I" ∈ hx_all := kt_g (kt_5 (List.mem_of_getElem? (i := 190) rfl)) rfl
theorem kw_1245 : Cond.laysFinal "SmallCourtModel" "SmallCourtModel" "actDay" "[I" ∈ hx_all := kt_g (kt_5 (List.mem_of_getElem? (i := 192) rfl)) rfl
theorem kw_1247 : Cond.laysFinal "SmallCourtModel" "SmallCourtModel" "rule" "[I" ∈ hx_all := kt_g (kt_5 (List.mem_of_getElem? (i := 194) rfl)) rfl
theorem kw_1249 : Cond.laysFinal "SmallCourtModel" "SmallCourtModel" "proofSteps" "[I" ∈ hx_all := kt_g (kt_5 (List.mem_of_getElem? (i := 196) rfl)) rfl
theorem kw_1251 : Cond.laysFinal "SmallCourtModel" "SmallCourtModel" "proof" "[I" ∈ hx_all := kt_g (kt_5 (List.mem_of_getElem? (i := 198) rfl)) rfl
theorem kw_1253 : Cond.laysFinal "SmallCourtModel" "SmallCourtModel" "tape" "[B" ∈ hx_all := kt_g (kt_5 (List.mem_of_getElem? (i := 200) rfl)) rfl
theorem kw_1255 : Cond.lays "SmallCourtModel" "SmallCourtModel" "taped" "I" ∈ hx_all := kt_g (kt_5 (List.mem_of_getElem? (i := 202) rfl)) rfl
theorem kw_1257 : Cond.lays "SmallCourtModel" "SmallCourtModel" "next" "I" ∈ hx_all := kt_g (kt_5 (List.mem_of_getElem? (i := 204) rfl)) rfl
theorem kw_1259 : Cond.lays "SmallCourtModel" "SmallCourtModel" "fault" "I" ∈ hx_all := kt_g (kt_5 (List.mem_of_getElem? (i := 206) rfl)) rfl
theorem kw_1261 : Cond.lays "SmallCourtModel" "SmallCourtModel" "said" "I" ∈ hx_all := kt_g (kt_5 (List.mem_of_getElem? (i := 208) rfl)) rfl
theorem kw_1263 : Cond.lays "SmallCourtModel" "SmallCourtModel" "wordSize" "I" ∈ hx_all := kt_g (kt_5 (List.mem_of_getElem? (i := 210) rfl)) rfl
theorem kw_1265 : Cond.laysFinal "SmallCourtModel" "SmallCourtModel" "read" "[I" ∈ hx_all := kt_g (kt_5 (List.mem_of_getElem? (i := 212) rfl)) rfl
theorem kw_1267 : Cond.lays "SmallCourtModel" "SmallCourtModel" "seen" "I" ∈ hx_all := kt_g (kt_5 (List.mem_of_getElem? (i := 214) rfl)) rfl
theorem kw_1269 : Cond.lays "SmallCourtModel" "SmallCourtModel" "steps" "I" ∈ hx_all := kt_g (kt_5 (List.mem_of_getElem? (i := 216) rfl)) rfl
theorem kw_1271 : Cond.laysFinal "SmallCourtModel" "SmallCourtModel" "step" "[I" ∈ hx_all := kt_g (kt_5 (List.mem_of_getElem? (i := 218) rfl)) rfl
theorem kw_1273 : Cond.lays "SmallCourtModel" "SmallCourtModel" "compares" "I" ∈ hx_all := kt_g (kt_5 (List.mem_of_getElem? (i := 220) rfl)) rfl
theorem kw_1275 : Cond.laysFinal "SmallCourtModel" "SmallCourtModel" "open" "[I" ∈ hx_all := kt_g (kt_5 (List.mem_of_getElem? (i := 222) rfl)) rfl
theorem kw_1277 : Cond.lays "SmallCourtModel" "SmallCourtModel" "opened" "I" ∈ hx_all := kt_g (kt_5 (List.mem_of_getElem? (i := 224) rfl)) rfl
theorem kw_1279 : Cond.laysFinal "SmallCourtModel" "SmallCourtModel" "words" "[B" ∈ hx_all := kt_g (kt_5 (List.mem_of_getElem? (i := 226) rfl)) rfl
theorem kw_1281 : Cond.lays "SmallCourtModel" "SmallCourtModel" "persons" "I" ∈ hx_all := kt_g (kt_5 (List.mem_of_getElem? (i := 228) rfl)) rfl
theorem kw_1283 : Cond.laysFinal "SmallCourtModel" "SmallCourtModel" "born" "[I" ∈ hx_all := kt_g (kt_5 (List.mem_of_getElem? (i := 230) rfl)) rfl
theorem kw_1285 : Cond.laysFinal "SmallCourtModel" "SmallCourtModel" "earns" "[I" ∈ hx_all := kt_g (kt_5 (List.mem_of_getElem? (i := 232) rfl)) rfl
theorem kw_1287 : Cond.laysFinal "SmallCourtModel" "SmallCourtModel" "heads" "[I" ∈ hx_all := kt_g (kt_5 (List.mem_of_getElem? (i := 234) rfl)) rfl
theorem kw_1289 : Cond.laysFinal "SmallCourtModel" "SmallCourtModel" "doorX" "[I" ∈ hx_all := kt_g (kt_5 (List.mem_of_getElem? (i := 236) rfl)) rfl
theorem kw_1291 : Cond.laysFinal "SmallCourtModel" "SmallCourtModel" "doorY" "[I" ∈ hx_all := kt_g (kt_5 (List.mem_of_getElem? (i := 238) rfl)) rfl
theorem kw_1293 : Cond.laysFinal "SmallCourtModel" "SmallCourtModel" "kin" "[I" ∈ hx_all := kt_g (kt_6 (List.mem_of_getElem? (i := 0) rfl)) rfl
theorem kw_1295 : Cond.laysFinal "SmallCourtModel" "SmallCourtModel" "isDead" "[Z" ∈ hx_all := kt_g (kt_6 (List.mem_of_getElem? (i := 2) rfl)) rfl
theorem kw_1297 : Cond.laysFinal "SmallCourtModel" "SmallCourtModel" "isJudge" "[Z" ∈ hx_all := kt_g (kt_6 (List.mem_of_getElem? (i := 4) rfl)) rfl
theorem kw_1299 : Cond.lays "SmallCourtModel" "SmallCourtModel" "lines" "I" ∈ hx_all := kt_g (kt_6 (List.mem_of_getElem? (i := 6) rfl)) rfl
theorem kw_1301 : Cond.laysFinal "SmallCourtModel" "SmallCourtModel" "lineOf" "[I" ∈ hx_all := kt_g (kt_6 (List.mem_of_getElem? (i := 8) rfl)) rfl
theorem kw_1303 : Cond.laysFinal "SmallCourtModel" "SmallCourtModel" "lineWith" "[I" ∈ hx_all := kt_g (kt_6 (List.mem_of_getElem? (i := 10) rfl)) rfl
theorem kw_1305 : Cond.laysFinal "SmallCourtModel" "SmallCourtModel" "lineDay" "[I" ∈ hx_all := kt_g (kt_6 (List.mem_of_getElem? (i := 12) rfl)) rfl
theorem kw_1307 : Cond.laysFinal "SmallCourtModel" "SmallCourtModel" "lineKind" "[I" ∈ hx_all := kt_g (kt_6 (List.mem_of_getElem? (i := 14) rfl)) rfl
theorem kw_1309 : Cond.laysFinal "SmallCourtModel" "SmallCourtModel" "lineSum" "[I" ∈ hx_all := kt_g (kt_6 (List.mem_of_getElem? (i := 16) rfl)) rfl
theorem kw_1311 : Cond.laysFinal "SmallCourtModel" "SmallCourtModel" "isTwin" "[Z" ∈ hx_all := kt_g (kt_6 (List.mem_of_getElem? (i := 18) rfl)) rfl
theorem kw_1313 : Cond.lays "SmallCourtModel" "SmallCourtModel" "claims" "I" ∈ hx_all := kt_g (kt_6 (List.mem_of_getElem? (i := 20) rfl)) rfl
theorem kw_1315 : Cond.laysFinal "SmallCourtModel" "SmallCourtModel" "by" "[I" ∈ hx_all := kt_g (kt_6 (List.mem_of_getElem? (i := 22) rfl)) rfl
theorem kw_1317 : Cond.laysFinal "SmallCourtModel" "SmallCourtModel" "against" "[I" ∈ hx_all := kt_g (kt_6 (List.mem_of_getElem? (i := 24) rfl)) rfl
theorem kw_1319 : Cond.laysFinal "SmallCourtModel" "SmallCourtModel" "sum" "[I" ∈ hx_all := kt_g (kt_6 (List.mem_of_getElem? (i := 26) rfl)) rfl
theorem kw_1321 : Cond.laysFinal "SmallCourtModel" "SmallCourtModel" "owedFrom" "[I" ∈ hx_all := kt_g (kt_6 (List.mem_of_getElem? (i := 28) rfl)) rfl
theorem kw_1323 : Cond.laysFinal "SmallCourtModel" "SmallCourtModel" "hasNote" "[Z" ∈ hx_all := kt_g (kt_6 (List.mem_of_getElem? (i := 30) rfl)) rfl
theorem kw_1325 : Cond.laysFinal "SmallCourtModel" "SmallCourtModel" "witnesses" "[I" ∈ hx_all := kt_g (kt_6 (List.mem_of_getElem? (i := 32) rfl)) rfl
theorem kw_1327 : Cond.laysFinal "SmallCourtModel" "SmallCourtModel" "filed" "[I" ∈ hx_all := kt_g (kt_6 (List.mem_of_getElem? (i := 34) rfl)) rfl
theorem kw_1329 : Cond.laysFinal "SmallCourtModel" "SmallCourtModel" "place" "[I" ∈ hx_all := kt_g (kt_6 (List.mem_of_getElem? (i := 36) rfl)) rfl
theorem kw_1331 : Cond.laysFinal "SmallCourtModel" "SmallCourtModel" "tries" "[I" ∈ hx_all := kt_g (kt_6 (List.mem_of_getElem? (i := 38) rfl)) rfl
theorem kw_1333 : Cond.laysFinal "SmallCourtModel" "SmallCourtModel" "found" "[I" ∈ hx_all := kt_g (kt_6 (List.mem_of_getElem? (i := 40) rfl)) rfl
theorem kw_1335 : Cond.laysFinal "SmallCourtModel" "SmallCourtModel" "heard" "[I" ∈ hx_all := kt_g (kt_6 (List.mem_of_getElem? (i := 42) rfl)) rfl
theorem kw_1337 : Cond.laysFinal "SmallCourtModel" "SmallCourtModel" "ordered" "[I" ∈ hx_all := kt_g (kt_6 (List.mem_of_getElem? (i := 44) rfl)) rfl
theorem kw_1339 : Cond.laysFinal "SmallCourtModel" "SmallCourtModel" "seized" "[I" ∈ hx_all := kt_g (kt_6 (List.mem_of_getElem? (i := 46) rfl)) rfl
theorem kw_1341 : Cond.laysFinal "SmallCourtModel" "SmallCourtModel" "served" "[I" ∈ hx_all := kt_g (kt_6 (List.mem_of_getElem? (i := 48) rfl)) rfl
theorem kw_1343 : Cond.laysFinal "SmallCourtModel" "SmallCourtModel" "judged" "[I" ∈ hx_all := kt_g (kt_6 (List.mem_of_getElem? (i := 50) rfl)) rfl
theorem kw_1345 : Cond.laysFinal "SmallCourtModel" "SmallCourtModel" "bench" "[I" ∈ hx_all := kt_g (kt_6 (List.mem_of_getElem? (i := 52) rfl)) rfl
theorem kw_1347 : Cond.laysFinal "SmallCourtModel" "SmallCourtModel" "fact" "[I" ∈ hx_all := kt_g (kt_6 (List.mem_of_getElem? (i := 54) rfl)) rfl
theorem kw_1349 : Cond.laysFinal "SmallCourtModel" "SmallCourtModel" "weekly" "[I" ∈ hx_all := kt_g (kt_6 (List.mem_of_getElem? (i := 56) rfl)) rfl
theorem kw_1351 : Cond.laysFinal "SmallCourtModel" "SmallCourtModel" "owed" "[I" ∈ hx_all := kt_g (kt_6 (List.mem_of_getElem? (i := 58) rfl)) rfl
theorem kw_1353 : Cond.laysFinal "SmallCourtModel" "SmallCourtModel" "goods" "[I" ∈ hx_all := kt_g (kt_6 (List.mem_of_getElem? (i := 60) rfl)) rfl
theorem kw_1355 : Cond.lays "SmallCourtModel" "SmallCourtModel" "heardMany" "I" ∈ hx_all := kt_g (kt_6 (List.mem_of_getElem? (i := 62) rfl)) rfl
theorem kw_1357 : Cond.laysFinal "SmallCourtModel" "SmallCourtModel" "heardOf" "[I" ∈ hx_all := kt_g (kt_6 (List.mem_of_getElem? (i := 64) rfl)) rfl
theorem kw_1359 : Cond.lays "SmallCourtModel" "SmallCourtModel" "payments" "I" ∈ hx_all := kt_g (kt_6 (List.mem_of_getElem? (i := 66) rfl)) rfl
theorem kw_1361 : Cond.laysFinal "SmallCourtModel" "SmallCourtModel" "payOf" "[I" ∈ hx_all := kt_g (kt_6 (List.mem_of_getElem? (i := 68) rfl)) rfl
theorem kw_1363 : Cond.laysFinal "SmallCourtModel" "SmallCourtModel" "payDay" "[I" ∈ hx_all := kt_g (kt_6 (List.mem_of_getElem? (i := 70) rfl)) rfl
theorem kw_1365 : Cond.laysFinal "SmallCourtModel" "SmallCourtModel" "paySum" "[I" ∈ hx_all := kt_g (kt_6 (List.mem_of_getElem? (i := 72) rfl)) rfl
theorem kw_1367 : Cond.laysFinal "SmallCourtModel" "SmallCourtModel" "payKnown" "[I" ∈ hx_all := kt_g (kt_6 (List.mem_of_getElem? (i := 74) rfl)) rfl
theorem kw_1369 : Cond.laysFinal "SmallCourtModel" "SmallCourtModel" "payStruck" "[I" ∈ hx_all := kt_g (kt_6 (List.mem_of_getElem? (i := 76) rfl)) rfl
theorem kw_1371 : Cond.laysFinal "SmallCourtModel" "SmallCourtModel" "sitting" "[I" ∈ hx_all := kt_g (kt_6 (List.mem_of_getElem? (i := 78) rfl)) rfl
theorem kw_1373 : Cond.laysFinal "SmallCourtModel" "SmallCourtModel" "stack" "[Z" ∈ hx_all := kt_g (kt_6 (List.mem_of_getElem? (i := 80) rfl)) rfl
theorem kw_1375 : Cond.lays "SmallCourtModel" "SmallCourtModel" "isPaid" "I" ∈ hx_all := kt_g (kt_6 (List.mem_of_getElem? (i := 82) rfl)) rfl
theorem kw_1377 : Cond.lays "SmallCourtModel" "SmallCourtModel" "isRest" "I" ∈ hx_all := kt_g (kt_6 (List.mem_of_getElem? (i := 84) rfl)) rfl
theorem kw_1379 : Cond.lays "SmallCourtModel" "SmallCourtModel" "isOver" "I" ∈ hx_all := kt_g (kt_6 (List.mem_of_getElem? (i := 86) rfl)) rfl
theorem kw_1381 : Cond.lays "SmallCourtModel" "SmallCourtModel" "isMissed" "I" ∈ hx_all := kt_g (kt_6 (List.mem_of_getElem? (i := 88) rfl)) rfl
theorem kw_1383 : Cond.lays "SmallCourtModel" "SmallCourtModel" "isState" "I" ∈ hx_all := kt_g (kt_6 (List.mem_of_getElem? (i := 90) rfl)) rfl
theorem kw_1385 : Cond.lays "SmallCourtModel" "SmallCourtModel" "planMany" "I" ∈ hx_all := kt_g (kt_6 (List.mem_of_getElem? (i := 92) rfl)) rfl
theorem kw_1387 : Cond.laysFinal "SmallCourtModel" "SmallCourtModel" "planClaim" "[I" ∈ hx_all := kt_g (kt_6 (List.mem_of_getElem? (i := 94) rfl)) rfl
theorem kw_1389 : Cond.laysFinal "SmallCourtModel" "SmallCourtModel" "planWeekly" "[I" ∈ hx_all := kt_g (kt_6 (List.mem_of_getElem? (i := 96) rfl)) rfl
theorem kw_1391 : Cond.lays "SmallCourtModel" "SmallCourtModel" "few" "I" ∈ hx_all := kt_g (kt_6 (List.mem_of_getElem? (i := 98) rfl)) rfl
theorem kw_1393 : Cond.laysFinal "SmallCourtModel" "SmallCourtModel" "fewOf" "[I" ∈ hx_all := kt_g (kt_6 (List.mem_of_getElem? (i := 100) rfl)) rfl
theorem kw_1395 : Cond.laysFinal "SmallCourtModel" "SmallCourtModel" "fewRest" "[I" ∈ hx_all := kt_g (kt_6 (List.mem_of_getElem? (i := 102) rfl)) rfl
theorem kw_1397 : Cond.laysFinal "SmallCourtModel" "SmallCourtModel" "fewLeast" "[I" ∈ hx_all := kt_g (kt_6 (List.mem_of_getElem? (i := 104) rfl)) rfl
theorem kw_1399 : Cond.laysFinal "SmallCourtModel" "SmallCourtModel" "more" "[I" ∈ hx_all := kt_g (kt_6 (List.mem_of_getElem? (i := 106) rfl)) rfl
theorem kw_1401 : Cond.laysFinal "SmallCourtModel" "SmallCourtModel" "bestMore" "[I" ∈ hx_all := kt_g (kt_6 (List.mem_of_getElem? (i := 108) rfl)) rfl
theorem kw_1403 : Cond.laysFinal "SmallCourtModel" "SmallCourtModel" "planWeeks" "[I" ∈ hx_all := kt_g (kt_6 (List.mem_of_getElem? (i := 110) rfl)) rfl
theorem kw_1405 : Cond.laysFinal "SmallCourtModel" "SmallCourtModel" "debt" "[I" ∈ hx_all := kt_g (kt_6 (List.mem_of_getElem? (i := 112) rfl)) rfl
theorem kw_1407 : Cond.lays "SmallCourtModel" "SmallCourtModel" "hasNetted" "Z" ∈ hx_all := kt_g (kt_6 (List.mem_of_getElem? (i := 114) rfl)) rfl
theorem kw_1409 : Cond.lays "SmallCourtModel" "SmallCourtModel" "ringMany" "I" ∈ hx_all := kt_g (kt_6 (List.mem_of_getElem? (i := 116) rfl)) rfl
theorem kw_1411 : Cond.laysFinal "SmallCourtModel" "SmallCourtModel" "ringLeast" "[I" ∈ hx_all := kt_g (kt_6 (List.mem_of_getElem? (i := 118) rfl)) rfl
theorem kw_1413 : Cond.lays "SmallCourtModel" "SmallCourtModel" "bestLeast" "I" ∈ hx_all := kt_g (kt_6 (List.mem_of_getElem? (i := 120) rfl)) rfl
theorem kw_1415 : Cond.lays "SmallCourtModel" "SmallCourtModel" "bestSize" "I" ∈ hx_all := kt_g (kt_6 (List.mem_of_getElem? (i := 122) rfl)) rfl
theorem kw_1417 : Cond.laysFinal "SmallCourtModel" "SmallCourtModel" "bestRing" "[I" ∈ hx_all := kt_g (kt_6 (List.mem_of_getElem? (i := 124) rfl)) rfl
theorem kw_1419 : Cond.laysFinal "SmallCourtModel" "SmallCourtModel" "ring" "[I" ∈ hx_all := kt_g (kt_6 (List.mem_of_getElem? (i := 126) rfl)) rfl
theorem kw_1421 : Cond.lays "SmallCourtModel" "SmallCourtModel" "listed" "I" ∈ hx_all := kt_g (kt_6 (List.mem_of_getElem? (i := 128) rfl)) rfl
theorem kw_1423 : Cond.laysFinal "SmallCourtModel" "SmallCourtModel" "list" "[I" ∈ hx_all := kt_g (kt_6 (List.mem_of_getElem? (i := 130) rfl)) rfl
theorem kw_1425 : Cond.lays "SmallCourtModel" "SmallCourtModel" "walkedMany" "I" ∈ hx_all := kt_g (kt_6 (List.mem_of_getElem? (i := 132) rfl)) rfl
theorem kw_1427 : Cond.laysFinal "SmallCourtModel" "SmallCourtModel" "walked" "[I" ∈ hx_all := kt_g (kt_6 (List.mem_of_getElem? (i := 134) rfl)) rfl
theorem kw_1429 : Cond.laysFinal "SmallCourtModel" "SmallCourtModel" "home" "[I" ∈ hx_all := kt_g (kt_6 (List.mem_of_getElem? (i := 136) rfl)) rfl
theorem kw_1431 : Cond.lays "SmallCourtModel" "SmallCourtModel" "habitMany" "I" ∈ hx_all := kt_g (kt_6 (List.mem_of_getElem? (i := 138) rfl)) rfl
theorem kw_1433 : Cond.lays "SmallCourtModel" "SmallCourtModel" "habitProved" "I" ∈ hx_all := kt_g (kt_6 (List.mem_of_getElem? (i := 140) rfl)) rfl
theorem kw_1435 : Cond.laysFinal "SmallCourtModel" "SmallCourtModel" "ways" "[J" ∈ hx_all := kt_g (kt_6 (List.mem_of_getElem? (i := 142) rfl)) rfl
theorem kw_1438 : Cond.arrayClass .long ∈ hx_all := kt_g (kt_6 (List.mem_of_getElem? (i := 145) rfl)) rfl
theorem kw_1439 : Cond.methodLink "SmallCourtLaw" 17 yX10_clock ∈ hx_all := kt_g (kt_6 (List.mem_of_getElem? (i := 146) rfl)) rfl
theorem kw_1440 : Cond.instanceMethod yX10_clock ∈ hx_all := kt_g (kt_6 (List.mem_of_getElem? (i := 147) rfl)) rfl
theorem kw_1441 : Cond.selects "SmallCourtModel" yX10_clock yX10_clock ∈ hx_all := kt_g (kt_6 (List.mem_of_getElem? (i := 148) rfl)) rfl
theorem kw_1442 : Cond.code yX10_clock cX10_clock 2 (some .boolean) ∈ hx_all := kt_g (kt_6 (List.mem_of_getElem? (i := 149) rfl)) rfl
theorem kw_1443 : Cond.methodLink "SmallCourtModel" 228 yX10_in ∈ hx_all := kt_g (kt_6 (List.mem_of_getElem? (i := 150) rfl)) rfl
theorem kw_1444 : Cond.static yX10_in ∈ hx_all := kt_g (kt_6 (List.mem_of_getElem? (i := 151) rfl)) rfl
theorem kw_1445 : Cond.code yX10_in cX10_in 3 (some .boolean) ∈ hx_all := kt_g (kt_6 (List.mem_of_getElem? (i := 152) rfl)) rfl
theorem kw_1446 : Cond.methodLink "SmallCourtLaw" 22 yX10_feed ∈ hx_all := kt_g (kt_6 (List.mem_of_getElem? (i := 153) rfl)) rfl
theorem kw_1447 : Cond.instanceMethod yX10_feed ∈ hx_all := kt_g (kt_6 (List.mem_of_getElem? (i := 154) rfl)) rfl
theorem kw_1448 : Cond.selects "SmallCourtModel" yX10_feed yX10_feed ∈ hx_all := kt_g (kt_6 (List.mem_of_getElem? (i := 155) rfl)) rfl
theorem kw_1449 : Cond.code yX10_feed cX10_feed 6 (some .int) ∈ hx_all := kt_g (kt_6 (List.mem_of_getElem? (i := 156) rfl)) rfl
theorem kw_1450 : Cond.methodLink "SmallCourtModel" 239 yX10_four ∈ hx_all := kt_g (kt_6 (List.mem_of_getElem? (i := 157) rfl)) rfl
theorem kw_1452 : Cond.instanceMethod yX10_four ∈ hx_all := kt_g (kt_6 (List.mem_of_getElem? (i := 159) rfl)) rfl
theorem kw_1453 : Cond.code yX10_four cX10_four 3 none ∈ hx_all := kt_g (kt_6 (List.mem_of_getElem? (i := 160) rfl)) rfl
theorem kw_1454 : Cond.methodLink "SmallCourtLaw" 27 yX10_end ∈ hx_all := kt_g (kt_6 (List.mem_of_getElem? (i := 161) rfl)) rfl
theorem kw_1455 : Cond.instanceMethod yX10_end ∈ hx_all := kt_g (kt_6 (List.mem_of_getElem? (i := 162) rfl)) rfl
theorem kw_1456 : Cond.selects "SmallCourtModel" yX10_end yX10_end ∈ hx_all := kt_g (kt_6 (List.mem_of_getElem? (i := 163) rfl)) rfl
theorem kw_1457 : Cond.code yX10_end cX10_end 2 (some .int) ∈ hx_all := kt_g (kt_6 (List.mem_of_getElem? (i := 164) rfl)) rfl
theorem kw_1458 : Cond.methodLink "SmallCourtLaw" 31 yX10_act ∈ hx_all := kt_g (kt_6 (List.mem_of_getElem? (i := 165) rfl)) rfl
theorem kw_1459 : Cond.instanceMethod yX10_act ∈ hx_all := kt_g (kt_6 (List.mem_of_getElem? (i := 166) rfl)) rfl
theorem kw_1460 : Cond.selects "SmallCourtModel" yX10_act yX10_act ∈ hx_all := kt_g (kt_6 (List.mem_of_getElem? (i := 167) rfl)) rfl
theorem kw_1461 : Cond.code yX10_act cX10_act 5 (some .int) ∈ hx_all := kt_g (kt_6 (List.mem_of_getElem? (i := 168) rfl)) rfl
theorem kw_1462 : Cond.methodLink "SmallCourtModel" 324 yX10_isDay ∈ hx_all := kt_g (kt_6 (List.mem_of_getElem? (i := 169) rfl)) rfl
theorem kw_1463 : Cond.static yX10_isDay ∈ hx_all := kt_g (kt_6 (List.mem_of_getElem? (i := 170) rfl)) rfl
theorem kw_1464 : Cond.code yX10_isDay cX10_isDay 1 (some .boolean) ∈ hx_all := kt_g (kt_6 (List.mem_of_getElem? (i := 171) rfl)) rfl
theorem kw_1465 : Cond.methodLink "SmallCourtModel" 248 yX10_see ∈ hx_all := kt_g (kt_6 (List.mem_of_getElem? (i := 172) rfl)) rfl
theorem kw_1467 : Cond.instanceMethod yX10_see ∈ hx_all := kt_g (kt_6 (List.mem_of_getElem? (i := 174) rfl)) rfl
theorem kw_1468 : Cond.code yX10_see cX10_see 1 (some .int) ∈ hx_all := kt_g (kt_6 (List.mem_of_getElem? (i := 175) rfl)) rfl
theorem kw_1469 : Cond.methodLink "SmallCourtModel" 327 yX10_clause ∈ hx_all := kt_g (kt_6 (List.mem_of_getElem? (i := 176) rfl)) rfl
theorem kw_1471 : Cond.instanceMethod yX10_clause ∈ hx_all := kt_g (kt_6 (List.mem_of_getElem? (i := 178) rfl)) rfl
theorem kw_1472 : Cond.code yX10_clause cX10_clause 4 (some .boolean) ∈ hx_all := kt_g (kt_6 (List.mem_of_getElem? (i := 179) rfl)) rfl
theorem kw_1473 : Cond.methodLink "SmallCourtModel" 277 yX10_wordHere ∈ hx_all := kt_g (kt_6 (List.mem_of_getElem? (i := 180) rfl)) rfl
theorem kw_1475 : Cond.instanceMethod yX10_wordHere ∈ hx_all := kt_g (kt_6 (List.mem_of_getElem? (i := 182) rfl)) rfl
theorem kw_1476 : Cond.code yX10_wordHere cX10_wordHere 5 (some .int) ∈ hx_all := kt_g (kt_6 (List.mem_of_getElem? (i := 183) rfl)) rfl
theorem kw_1477 : Cond.methodLink "SmallCourtModel" 255 yX10_fails ∈ hx_all := kt_g (kt_6 (List.mem_of_getElem? (i := 184) rfl)) rfl
theorem kw_1479 : Cond.instanceMethod yX10_fails ∈ hx_all := kt_g (kt_6 (List.mem_of_getElem? (i := 186) rfl)) rfl
theorem kw_1480 : Cond.code yX10_fails cX10_fails 3 (some .boolean) ∈ hx_all := kt_g (kt_6 (List.mem_of_getElem? (i := 187) rfl)) rfl
theorem kw_1481 : Cond.methodLink "SmallCourtModel" 309 yX10_isNew ∈ hx_all := kt_g (kt_6 (List.mem_of_getElem? (i := 188) rfl)) rfl
theorem kw_1483 : Cond.instanceMethod yX10_isNew ∈ hx_all := kt_g (kt_6 (List.mem_of_getElem? (i := 190) rfl)) rfl
theorem kw_1484 : Cond.code yX10_isNew cX10_isNew 3 (some .boolean) ∈ hx_all := kt_g (kt_6 (List.mem_of_getElem? (i := 191) rfl)) rfl
theorem kw_1485 : Cond.methodLink "SmallCourtModel" 312 yX10_either ∈ hx_all := kt_g (kt_6 (List.mem_of_getElem? (i := 192) rfl)) rfl
theorem kw_1487 : Cond.instanceMethod yX10_either ∈ hx_all := kt_g (kt_6 (List.mem_of_getElem? (i := 194) rfl)) rfl
theorem kw_1488 : Cond.code yX10_either cX10_either 4 (some .boolean) ∈ hx_all := kt_g (kt_6 (List.mem_of_getElem? (i := 195) rfl)) rfl
theorem kw_1489 : Cond.methodLink "SmallCourtModel" 296 yX10_begins ∈ hx_all := kt_g (kt_6 (List.mem_of_getElem? (i := 196) rfl)) rfl
theorem kw_1491 : Cond.instanceMethod yX10_begins ∈ hx_all := kt_g (kt_6 (List.mem_of_getElem? (i := 198) rfl)) rfl
theorem kw_1492 : Cond.code yX10_begins cX10_begins 3 (some .boolean) ∈ hx_all := kt_g (kt_6 (List.mem_of_getElem? (i := 199) rfl)) rfl
theorem kw_1493 : Cond.methodLink "SmallCourtModel" 290 yX10_compare ∈ hx_all := kt_g (kt_6 (List.mem_of_getElem? (i := 200) rfl)) rfl
theorem kw_1495 : Cond.instanceMethod yX10_compare ∈ hx_all := kt_g (kt_6 (List.mem_of_getElem? (i := 202) rfl)) rfl
theorem kw_1496 : Cond.code yX10_compare cX10_compare 6 (some .boolean) ∈ hx_all := kt_g (kt_6 (List.mem_of_getElem? (i := 203) rfl)) rfl
theorem kw_1497 : Cond.methodLink "SmallCourtModel" 270 yX10_isFact ∈ hx_all := kt_g (kt_6 (List.mem_of_getElem? (i := 204) rfl)) rfl
theorem kw_1498 : Cond.static yX10_isFact ∈ hx_all := kt_g (kt_6 (List.mem_of_getElem? (i := 205) rfl)) rfl
theorem kw_1499 : Cond.code yX10_isFact cX10_isFact 1 (some .boolean) ∈ hx_all := kt_g (kt_6 (List.mem_of_getElem? (i := 206) rfl)) rfl
theorem kw_1500 : Cond.methodLink "SmallCourtModel" 287 yX10_number ∈ hx_all := kt_g (kt_6 (List.mem_of_getElem? (i := 207) rfl)) rfl
theorem kw_1502 : Cond.instanceMethod yX10_number ∈ hx_all := kt_g (kt_6 (List.mem_of_getElem? (i := 209) rfl)) rfl
theorem kw_1503 : Cond.code yX10_number cX10_number 7 (some .boolean) ∈ hx_all := kt_g (kt_6 (List.mem_of_getElem? (i := 210) rfl)) rfl
theorem kw_1504 : Cond.methodLink "SmallCourtModel" 293 yX10_deep ∈ hx_all := kt_g (kt_6 (List.mem_of_getElem? (i := 211) rfl)) rfl
theorem kw_1506 : Cond.instanceMethod yX10_deep ∈ hx_all := kt_g (kt_6 (List.mem_of_getElem? (i := 213) rfl)) rfl
theorem kw_1507 : Cond.code yX10_deep cX10_deep 3 (some .int) ∈ hx_all := kt_g (kt_6 (List.mem_of_getElem? (i := 214) rfl)) rfl
theorem kw_1508 : Cond.methodLink "SmallCourtModel" 300 yX10_closesNots ∈ hx_all := kt_g (kt_6 (List.mem_of_getElem? (i := 215) rfl)) rfl
theorem kw_1510 : Cond.instanceMethod yX10_closesNots ∈ hx_all := kt_g (kt_6 (List.mem_of_getElem? (i := 217) rfl)) rfl
theorem kw_1511 : Cond.code yX10_closesNots cX10_closesNots 1 none ∈ hx_all := kt_g (kt_6 (List.mem_of_getElem? (i := 218) rfl)) rfl
theorem kw_1512 : Cond.methodLink "SmallCourtModel" 303 yX10_closesDown ∈ hx_all := kt_g (kt_6 (List.mem_of_getElem? (i := 219) rfl)) rfl
theorem kw_1514 : Cond.instanceMethod yX10_closesDown ∈ hx_all := kt_g (kt_6 (List.mem_of_getElem? (i := 221) rfl)) rfl
theorem kw_1515 : Cond.code yX10_closesDown cX10_closesDown 2 none ∈ hx_all := kt_g (kt_6 (List.mem_of_getElem? (i := 222) rfl)) rfl
theorem kw_1516 : Cond.methodLink "SmallCourtModel" 315 yX10_leastOf ∈ hx_all := kt_g (kt_6 (List.mem_of_getElem? (i := 223) rfl)) rfl
theorem kw_1517 : Cond.static yX10_leastOf ∈ hx_all := kt_g (kt_6 (List.mem_of_getElem? (i := 224) rfl)) rfl
theorem kw_1518 : Cond.code yX10_leastOf cX10_leastOf 1 (some .int) ∈ hx_all := kt_g (kt_6 (List.mem_of_getElem? (i := 225) rfl)) rfl
theorem kw_1519 : Cond.methodLink "SmallCourtModel" 318 yX10_mostOf ∈ hx_all := kt_g (kt_6 (List.mem_of_getElem? (i := 226) rfl)) rfl
theorem kw_1520 : Cond.static yX10_mostOf ∈ hx_all := kt_g (kt_6 (List.mem_of_getElem? (i := 227) rfl)) rfl
theorem kw_1521 : Cond.code yX10_mostOf cX10_mostOf 1 (some .int) ∈ hx_all := kt_g (kt_6 (List.mem_of_getElem? (i := 228) rfl)) rfl
theorem kw_1522 : Cond.methodLink "SmallCourtLaw" 36 yX10_force ∈ hx_all := kt_g (kt_6 (List.mem_of_getElem? (i := 229) rfl)) rfl
theorem kw_1523 : Cond.instanceMethod yX10_force ∈ hx_all := kt_g (kt_6 (List.mem_of_getElem? (i := 230) rfl)) rfl
theorem kw_1524 : Cond.selects "SmallCourtModel" yX10_force yX10_force ∈ hx_all := kt_g (kt_6 (List.mem_of_getElem? (i := 231) rfl)) rfl
theorem kw_1525 : Cond.code yX10_force cX10_force 4 (some .int) ∈ hx_all := kt_g (kt_6 (List.mem_of_getElem? (i := 232) rfl)) rfl
theorem kw_1526 : Cond.methodLink "SmallCourtModel" 330 yX10_inForce ∈ hx_all := kt_g (kt_6 (List.mem_of_getElem? (i := 233) rfl)) rfl
theorem kw_1528 : Cond.instanceMethod yX10_inForce ∈ hx_all := kt_g (kt_6 (List.mem_of_getElem? (i := 235) rfl)) rfl
theorem kw_1529 : Cond.code yX10_inForce cX10_inForce 4 (some .int) ∈ hx_all := kt_g (kt_6 (List.mem_of_getElem? (i := 236) rfl)) rfl
theorem kw_1530 : Cond.methodLink "SmallCourtModel" 333 yX10_ruleOf ∈ hx_all := kt_g (kt_6 (List.mem_of_getElem? (i := 237) rfl)) rfl
theorem kw_1532 : Cond.instanceMethod yX10_ruleOf ∈ hx_all := kt_g (kt_6 (List.mem_of_getElem? (i := 239) rfl)) rfl
theorem kw_1533 : Cond.code yX10_ruleOf cX10_ruleOf 3 (some .int) ∈ hx_all := kt_g (kt_7 (List.mem_of_getElem? (i := 0) rfl)) rfl
theorem kw_1534 : Cond.methodLink "SmallCourtLaw" 41 yX10_person ∈ hx_all := kt_g (kt_7 (List.mem_of_getElem? (i := 1) rfl)) rfl
theorem kw_1535 : Cond.instanceMethod yX10_person ∈ hx_all := kt_g (kt_7 (List.mem_of_getElem? (i := 2) rfl)) rfl
theorem kw_1536 : Cond.selects "SmallCourtModel" yX10_person yX10_person ∈ hx_all := kt_g (kt_7 (List.mem_of_getElem? (i := 3) rfl)) rfl
theorem kw_1537 : Cond.code yX10_person cX10_person 7 (some .int) ∈ hx_all := kt_g (kt_7 (List.mem_of_getElem? (i := 4) rfl)) rfl
theorem kw_1538 : Cond.methodLink "SmallCourtModel" 340 yX10_areLives ∈ hx_all := kt_g (kt_7 (List.mem_of_getElem? (i := 5) rfl)) rfl
theorem kw_1539 : Cond.static yX10_areLives ∈ hx_all := kt_g (kt_7 (List.mem_of_getElem? (i := 6) rfl)) rfl
theorem kw_1540 : Cond.code yX10_areLives cX10_areLives 4 (some .boolean) ∈ hx_all := kt_g (kt_7 (List.mem_of_getElem? (i := 7) rfl)) rfl
theorem kw_1541 : Cond.methodLink "SmallCourtModel" 344 yX10_lives ∈ hx_all := kt_g (kt_7 (List.mem_of_getElem? (i := 8) rfl)) rfl
theorem kw_1543 : Cond.instanceMethod yX10_lives ∈ hx_all := kt_g (kt_7 (List.mem_of_getElem? (i := 10) rfl)) rfl
theorem kw_1544 : Cond.code yX10_lives cX10_lives 6 none ∈ hx_all := kt_g (kt_7 (List.mem_of_getElem? (i := 11) rfl)) rfl
theorem kw_1545 : Cond.methodLink "SmallCourtLaw" 46 yX10_anew ∈ hx_all := kt_g (kt_7 (List.mem_of_getElem? (i := 12) rfl)) rfl
theorem kw_1546 : Cond.instanceMethod yX10_anew ∈ hx_all := kt_g (kt_7 (List.mem_of_getElem? (i := 13) rfl)) rfl
theorem kw_1547 : Cond.selects "SmallCourtModel" yX10_anew yX10_anew ∈ hx_all := kt_g (kt_7 (List.mem_of_getElem? (i := 14) rfl)) rfl
theorem kw_1548 : Cond.code yX10_anew cX10_anew 6 (some .boolean) ∈ hx_all := kt_g (kt_7 (List.mem_of_getElem? (i := 15) rfl)) rfl
theorem kw_1549 : Cond.methodLink "SmallCourtModel" 348 yX10_isPerson ∈ hx_all := kt_g (kt_7 (List.mem_of_getElem? (i := 16) rfl)) rfl
theorem kw_1551 : Cond.instanceMethod yX10_isPerson ∈ hx_all := kt_g (kt_7 (List.mem_of_getElem? (i := 18) rfl)) rfl
theorem kw_1552 : Cond.code yX10_isPerson cX10_isPerson 2 (some .boolean) ∈ hx_all := kt_g (kt_7 (List.mem_of_getElem? (i := 19) rfl)) rfl
theorem kw_1553 : Cond.methodLink "SmallCourtLaw" 50 yX10_dies ∈ hx_all := kt_g (kt_7 (List.mem_of_getElem? (i := 20) rfl)) rfl
theorem kw_1554 : Cond.instanceMethod yX10_dies ∈ hx_all := kt_g (kt_7 (List.mem_of_getElem? (i := 21) rfl)) rfl
theorem kw_1555 : Cond.selects "SmallCourtModel" yX10_dies yX10_dies ∈ hx_all := kt_g (kt_7 (List.mem_of_getElem? (i := 22) rfl)) rfl
theorem kw_1556 : Cond.code yX10_dies cX10_dies 2 (some .boolean) ∈ hx_all := kt_g (kt_7 (List.mem_of_getElem? (i := 23) rfl)) rfl
theorem kw_1557 : Cond.methodLink "SmallCourtLaw" 55 yX10_judge ∈ hx_all := kt_g (kt_7 (List.mem_of_getElem? (i := 24) rfl)) rfl
theorem kw_1558 : Cond.instanceMethod yX10_judge ∈ hx_all := kt_g (kt_7 (List.mem_of_getElem? (i := 25) rfl)) rfl
theorem kw_1559 : Cond.selects "SmallCourtModel" yX10_judge yX10_judge ∈ hx_all := kt_g (kt_7 (List.mem_of_getElem? (i := 26) rfl)) rfl
theorem kw_1560 : Cond.code yX10_judge cX10_judge 3 (some .boolean) ∈ hx_all := kt_g (kt_7 (List.mem_of_getElem? (i := 27) rfl)) rfl
theorem kw_1561 : Cond.methodLink "SmallCourtLaw" 59 yX10_line ∈ hx_all := kt_g (kt_7 (List.mem_of_getElem? (i := 28) rfl)) rfl
theorem kw_1562 : Cond.instanceMethod yX10_line ∈ hx_all := kt_g (kt_7 (List.mem_of_getElem? (i := 29) rfl)) rfl
theorem kw_1563 : Cond.selects "SmallCourtModel" yX10_line yX10_line ∈ hx_all := kt_g (kt_7 (List.mem_of_getElem? (i := 30) rfl)) rfl
theorem kw_1564 : Cond.code yX10_line cX10_line 6 (some .int) ∈ hx_all := kt_g (kt_7 (List.mem_of_getElem? (i := 31) rfl)) rfl
theorem kw_1565 : Cond.methodLink "SmallCourtLaw" 64 yX10_book ∈ hx_all := kt_g (kt_7 (List.mem_of_getElem? (i := 32) rfl)) rfl
theorem kw_1566 : Cond.instanceMethod yX10_book ∈ hx_all := kt_g (kt_7 (List.mem_of_getElem? (i := 33) rfl)) rfl
theorem kw_1567 : Cond.selects "SmallCourtModel" yX10_book yX10_book ∈ hx_all := kt_g (kt_7 (List.mem_of_getElem? (i := 34) rfl)) rfl
theorem kw_1568 : Cond.code yX10_book cX10_book 5 (some .int) ∈ hx_all := kt_g (kt_7 (List.mem_of_getElem? (i := 35) rfl)) rfl
theorem kw_1569 : Cond.constant "SmallCourtModel" 357 (-1000000) ∈ hx_all := kt_g (kt_7 (List.mem_of_getElem? (i := 36) rfl)) rfl
theorem kw_1570 : Cond.methodLink "SmallCourtModel" 358 yX10_bookSum ∈ hx_all := kt_g (kt_7 (List.mem_of_getElem? (i := 37) rfl)) rfl
theorem kw_1572 : Cond.instanceMethod yX10_bookSum ∈ hx_all := kt_g (kt_7 (List.mem_of_getElem? (i := 39) rfl)) rfl
theorem kw_1573 : Cond.code yX10_bookSum cX10_bookSum 6 (some .int) ∈ hx_all := kt_g (kt_7 (List.mem_of_getElem? (i := 40) rfl)) rfl
theorem kw_1574 : Cond.methodLink "SmallCourtModel" 361 yX10_alike ∈ hx_all := kt_g (kt_7 (List.mem_of_getElem? (i := 41) rfl)) rfl
theorem kw_1576 : Cond.instanceMethod yX10_alike ∈ hx_all := kt_g (kt_7 (List.mem_of_getElem? (i := 43) rfl)) rfl
theorem kw_1577 : Cond.code yX10_alike cX10_alike 9 (some .int) ∈ hx_all := kt_g (kt_7 (List.mem_of_getElem? (i := 44) rfl)) rfl
theorem kw_1578 : Cond.methodLink "SmallCourtModel" 354 yX10_areTwins ∈ hx_all := kt_g (kt_7 (List.mem_of_getElem? (i := 45) rfl)) rfl
theorem kw_1580 : Cond.instanceMethod yX10_areTwins ∈ hx_all := kt_g (kt_7 (List.mem_of_getElem? (i := 47) rfl)) rfl
theorem kw_1581 : Cond.code yX10_areTwins cX10_areTwins 4 (some .boolean) ∈ hx_all := kt_g (kt_7 (List.mem_of_getElem? (i := 48) rfl)) rfl
theorem kw_1582 : Cond.methodLink "SmallCourtModel" 364 yX10_disorder ∈ hx_all := kt_g (kt_7 (List.mem_of_getElem? (i := 49) rfl)) rfl
theorem kw_1584 : Cond.instanceMethod yX10_disorder ∈ hx_all := kt_g (kt_7 (List.mem_of_getElem? (i := 51) rfl)) rfl
theorem kw_1585 : Cond.code yX10_disorder cX10_disorder 5 (some .int) ∈ hx_all := kt_g (kt_7 (List.mem_of_getElem? (i := 52) rfl)) rfl
theorem kw_1586 : Cond.methodLink "SmallCourtLaw" 69 yX10_file ∈ hx_all := kt_g (kt_7 (List.mem_of_getElem? (i := 53) rfl)) rfl
theorem kw_1587 : Cond.instanceMethod yX10_file ∈ hx_all := kt_g (kt_7 (List.mem_of_getElem? (i := 54) rfl)) rfl
theorem kw_1588 : Cond.selects "SmallCourtModel" yX10_file yX10_file ∈ hx_all := kt_g (kt_7 (List.mem_of_getElem? (i := 55) rfl)) rfl
theorem kw_1589 : Cond.code yX10_file cX10_file 9 (some .int) ∈ hx_all := kt_g (kt_7 (List.mem_of_getElem? (i := 56) rfl)) rfl
theorem kw_1590 : Cond.methodLink "SmallCourtLaw" 74 yX10_summons ∈ hx_all := kt_g (kt_7 (List.mem_of_getElem? (i := 57) rfl)) rfl
theorem kw_1591 : Cond.instanceMethod yX10_summons ∈ hx_all := kt_g (kt_7 (List.mem_of_getElem? (i := 58) rfl)) rfl
theorem kw_1592 : Cond.selects "SmallCourtModel" yX10_summons yX10_summons ∈ hx_all := kt_g (kt_7 (List.mem_of_getElem? (i := 59) rfl)) rfl
theorem kw_1593 : Cond.code yX10_summons cX10_summons 3 (some .int) ∈ hx_all := kt_g (kt_7 (List.mem_of_getElem? (i := 60) rfl)) rfl
theorem kw_1594 : Cond.methodLink "SmallCourtModel" 370 yX10_isClaim ∈ hx_all := kt_g (kt_7 (List.mem_of_getElem? (i := 61) rfl)) rfl
theorem kw_1596 : Cond.instanceMethod yX10_isClaim ∈ hx_all := kt_g (kt_7 (List.mem_of_getElem? (i := 63) rfl)) rfl
theorem kw_1597 : Cond.code yX10_isClaim cX10_isClaim 2 (some .boolean) ∈ hx_all := kt_g (kt_7 (List.mem_of_getElem? (i := 64) rfl)) rfl
theorem kw_1598 : Cond.methodLink "SmallCourtLaw" 79 yX10_hear ∈ hx_all := kt_g (kt_7 (List.mem_of_getElem? (i := 65) rfl)) rfl
theorem kw_1599 : Cond.instanceMethod yX10_hear ∈ hx_all := kt_g (kt_7 (List.mem_of_getElem? (i := 66) rfl)) rfl
theorem kw_1600 : Cond.selects "SmallCourtModel" yX10_hear yX10_hear ∈ hx_all := kt_g (kt_7 (List.mem_of_getElem? (i := 67) rfl)) rfl
theorem kw_1601 : Cond.code yX10_hear cX10_hear 6 (some .int) ∈ hx_all := kt_g (kt_7 (List.mem_of_getElem? (i := 68) rfl)) rfl
theorem kw_1602 : Cond.methodLink "SmallCourtModel" 385 yX10_sits ∈ hx_all := kt_g (kt_7 (List.mem_of_getElem? (i := 69) rfl)) rfl
theorem kw_1604 : Cond.instanceMethod yX10_sits ∈ hx_all := kt_g (kt_7 (List.mem_of_getElem? (i := 71) rfl)) rfl
theorem kw_1605 : Cond.code yX10_sits cX10_sits 4 (some .int) ∈ hx_all := kt_g (kt_7 (List.mem_of_getElem? (i := 72) rfl)) rfl
theorem kw_1606 : Cond.methodLink "SmallCourtModel" 382 yX10_isKinOf ∈ hx_all := kt_g (kt_7 (List.mem_of_getElem? (i := 73) rfl)) rfl
theorem kw_1608 : Cond.instanceMethod yX10_isKinOf ∈ hx_all := kt_g (kt_7 (List.mem_of_getElem? (i := 75) rfl)) rfl
theorem kw_1609 : Cond.code yX10_isKinOf cX10_isKinOf 3 (some .boolean) ∈ hx_all := kt_g (kt_7 (List.mem_of_getElem? (i := 76) rfl)) rfl
theorem kw_1610 : Cond.methodLink "SmallCourtModel" 388 yX10_draws ∈ hx_all := kt_g (kt_7 (List.mem_of_getElem? (i := 77) rfl)) rfl
theorem kw_1612 : Cond.instanceMethod yX10_draws ∈ hx_all := kt_g (kt_7 (List.mem_of_getElem? (i := 79) rfl)) rfl
theorem kw_1613 : Cond.code yX10_draws cX10_draws 8 none ∈ hx_all := kt_g (kt_7 (List.mem_of_getElem? (i := 80) rfl)) rfl
theorem kw_1614 : Cond.methodLink "SmallCourtModel" 395 yX10_judges ∈ hx_all := kt_g (kt_7 (List.mem_of_getElem? (i := 81) rfl)) rfl
theorem kw_1616 : Cond.instanceMethod yX10_judges ∈ hx_all := kt_g (kt_7 (List.mem_of_getElem? (i := 83) rfl)) rfl
theorem kw_1617 : Cond.code yX10_judges cX10_judges 3 (some .int) ∈ hx_all := kt_g (kt_7 (List.mem_of_getElem? (i := 84) rfl)) rfl
theorem kw_1618 : Cond.methodLink "SmallCourtModel" 376 yX10_isSplit ∈ hx_all := kt_g (kt_7 (List.mem_of_getElem? (i := 85) rfl)) rfl
theorem kw_1620 : Cond.instanceMethod yX10_isSplit ∈ hx_all := kt_g (kt_7 (List.mem_of_getElem? (i := 87) rfl)) rfl
theorem kw_1621 : Cond.code yX10_isSplit cX10_isSplit 6 (some .boolean) ∈ hx_all := kt_g (kt_7 (List.mem_of_getElem? (i := 88) rfl)) rfl
theorem kw_1622 : Cond.methodLink "SmallCourtModel" 379 yX10_isProved ∈ hx_all := kt_g (kt_7 (List.mem_of_getElem? (i := 89) rfl)) rfl
theorem kw_1624 : Cond.instanceMethod yX10_isProved ∈ hx_all := kt_g (kt_7 (List.mem_of_getElem? (i := 91) rfl)) rfl
theorem kw_1625 : Cond.code yX10_isProved cX10_isProved 6 (some .boolean) ∈ hx_all := kt_g (kt_7 (List.mem_of_getElem? (i := 92) rfl)) rfl
theorem kw_1626 : Cond.methodLink "SmallCourtModel" 373 yX10_isSo ∈ hx_all := kt_g (kt_7 (List.mem_of_getElem? (i := 93) rfl)) rfl
theorem kw_1628 : Cond.instanceMethod yX10_isSo ∈ hx_all := kt_g (kt_7 (List.mem_of_getElem? (i := 95) rfl)) rfl
theorem kw_1629 : Cond.code yX10_isSo cX10_isSo 6 (some .boolean) ∈ hx_all := kt_g (kt_7 (List.mem_of_getElem? (i := 96) rfl)) rfl
theorem kw_1630 : Cond.methodLink "SmallCourtLaw" 83 yX10_order ∈ hx_all := kt_g (kt_7 (List.mem_of_getElem? (i := 97) rfl)) rfl
theorem kw_1631 : Cond.instanceMethod yX10_order ∈ hx_all := kt_g (kt_7 (List.mem_of_getElem? (i := 98) rfl)) rfl
theorem kw_1632 : Cond.selects "SmallCourtModel" yX10_order yX10_order ∈ hx_all := kt_g (kt_7 (List.mem_of_getElem? (i := 99) rfl)) rfl
theorem kw_1633 : Cond.code yX10_order cX10_order 7 (some .int) ∈ hx_all := kt_g (kt_7 (List.mem_of_getElem? (i := 100) rfl)) rfl
theorem kw_1634 : Cond.methodLink "SmallCourtModel" 419 yX10_isOpen ∈ hx_all := kt_g (kt_7 (List.mem_of_getElem? (i := 101) rfl)) rfl
theorem kw_1636 : Cond.instanceMethod yX10_isOpen ∈ hx_all := kt_g (kt_7 (List.mem_of_getElem? (i := 103) rfl)) rfl
theorem kw_1637 : Cond.code yX10_isOpen cX10_isOpen 2 (some .boolean) ∈ hx_all := kt_g (kt_7 (List.mem_of_getElem? (i := 104) rfl)) rfl
theorem kw_1638 : Cond.methodLink "SmallCourtModel" 416 yX10_looks ∈ hx_all := kt_g (kt_7 (List.mem_of_getElem? (i := 105) rfl)) rfl
theorem kw_1640 : Cond.instanceMethod yX10_looks ∈ hx_all := kt_g (kt_7 (List.mem_of_getElem? (i := 107) rfl)) rfl
theorem kw_1641 : Cond.code yX10_looks cX10_looks 9 none ∈ hx_all := kt_g (kt_7 (List.mem_of_getElem? (i := 108) rfl)) rfl
theorem kw_1642 : Cond.methodLink "SmallCourtModel" 422 yX10_means ∈ hx_all := kt_g (kt_7 (List.mem_of_getElem? (i := 109) rfl)) rfl
theorem kw_1644 : Cond.instanceMethod yX10_means ∈ hx_all := kt_g (kt_7 (List.mem_of_getElem? (i := 111) rfl)) rfl
theorem kw_1645 : Cond.code yX10_means cX10_means 3 (some .int) ∈ hx_all := kt_g (kt_7 (List.mem_of_getElem? (i := 112) rfl)) rfl
theorem kw_1646 : Cond.methodLink "SmallCourtLaw" 88 yX10_pay ∈ hx_all := kt_g (kt_7 (List.mem_of_getElem? (i := 113) rfl)) rfl
theorem kw_1647 : Cond.instanceMethod yX10_pay ∈ hx_all := kt_g (kt_7 (List.mem_of_getElem? (i := 114) rfl)) rfl
theorem kw_1648 : Cond.selects "SmallCourtModel" yX10_pay yX10_pay ∈ hx_all := kt_g (kt_7 (List.mem_of_getElem? (i := 115) rfl)) rfl
theorem kw_1649 : Cond.code yX10_pay cX10_pay 4 (some .int) ∈ hx_all := kt_g (kt_7 (List.mem_of_getElem? (i := 116) rfl)) rfl
theorem kw_1650 : Cond.methodLink "SmallCourtModel" 425 yX10_pays ∈ hx_all := kt_g (kt_7 (List.mem_of_getElem? (i := 117) rfl)) rfl
theorem kw_1652 : Cond.instanceMethod yX10_pays ∈ hx_all := kt_g (kt_7 (List.mem_of_getElem? (i := 119) rfl)) rfl
theorem kw_1653 : Cond.code yX10_pays cX10_pays 4 (some .int) ∈ hx_all := kt_g (kt_7 (List.mem_of_getElem? (i := 120) rfl)) rfl
theorem kw_1654 : Cond.methodLink "SmallCourtLaw" 92 yX10_strike ∈ hx_all := kt_g (kt_7 (List.mem_of_getElem? (i := 121) rfl)) rfl
theorem kw_1655 : Cond.instanceMethod yX10_strike ∈ hx_all := kt_g (kt_7 (List.mem_of_getElem? (i := 122) rfl)) rfl
theorem kw_1656 : Cond.selects "SmallCourtModel" yX10_strike yX10_strike ∈ hx_all := kt_g (kt_7 (List.mem_of_getElem? (i := 123) rfl)) rfl
theorem kw_1657 : Cond.code yX10_strike cX10_strike 2 (some .boolean) ∈ hx_all := kt_g (kt_7 (List.mem_of_getElem? (i := 124) rfl)) rfl
theorem kw_1658 : Cond.methodLink "SmallCourtLaw" 96 yX10_seize ∈ hx_all := kt_g (kt_7 (List.mem_of_getElem? (i := 125) rfl)) rfl
theorem kw_1659 : Cond.instanceMethod yX10_seize ∈ hx_all := kt_g (kt_7 (List.mem_of_getElem? (i := 126) rfl)) rfl
theorem kw_1660 : Cond.selects "SmallCourtModel" yX10_seize yX10_seize ∈ hx_all := kt_g (kt_7 (List.mem_of_getElem? (i := 127) rfl)) rfl
theorem kw_1661 : Cond.code yX10_seize cX10_seize 3 (some .int) ∈ hx_all := kt_g (kt_7 (List.mem_of_getElem? (i := 128) rfl)) rfl
theorem kw_1662 : Cond.methodLink "SmallCourtLaw" 100 yX10_gaol ∈ hx_all := kt_g (kt_7 (List.mem_of_getElem? (i := 129) rfl)) rfl
theorem kw_1663 : Cond.instanceMethod yX10_gaol ∈ hx_all := kt_g (kt_7 (List.mem_of_getElem? (i := 130) rfl)) rfl
theorem kw_1664 : Cond.selects "SmallCourtModel" yX10_gaol yX10_gaol ∈ hx_all := kt_g (kt_7 (List.mem_of_getElem? (i := 131) rfl)) rfl
theorem kw_1665 : Cond.code yX10_gaol cX10_gaol 3 (some .int) ∈ hx_all := kt_g (kt_7 (List.mem_of_getElem? (i := 132) rfl)) rfl
theorem kw_1666 : Cond.methodLink "SmallCourtLaw" 104 yX10_claim ∈ hx_all := kt_g (kt_7 (List.mem_of_getElem? (i := 133) rfl)) rfl
theorem kw_1667 : Cond.instanceMethod yX10_claim ∈ hx_all := kt_g (kt_7 (List.mem_of_getElem? (i := 134) rfl)) rfl
theorem kw_1668 : Cond.selects "SmallCourtModel" yX10_claim yX10_claim ∈ hx_all := kt_g (kt_7 (List.mem_of_getElem? (i := 135) rfl)) rfl
theorem kw_1669 : Cond.code yX10_claim cX10_claim 3 (some .int) ∈ hx_all := kt_g (kt_7 (List.mem_of_getElem? (i := 136) rfl)) rfl
theorem kw_1670 : Cond.methodLink "SmallCourtLaw" 108 yX10_state ∈ hx_all := kt_g (kt_7 (List.mem_of_getElem? (i := 137) rfl)) rfl
theorem kw_1671 : Cond.instanceMethod yX10_state ∈ hx_all := kt_g (kt_7 (List.mem_of_getElem? (i := 138) rfl)) rfl
theorem kw_1672 : Cond.selects "SmallCourtModel" yX10_state yX10_state ∈ hx_all := kt_g (kt_7 (List.mem_of_getElem? (i := 139) rfl)) rfl
theorem kw_1673 : Cond.code yX10_state cX10_state 5 (some .int) ∈ hx_all := kt_g (kt_7 (List.mem_of_getElem? (i := 140) rfl)) rfl
theorem kw_1674 : Cond.methodLink "SmallCourtLaw" 112 yX10_plan ∈ hx_all := kt_g (kt_7 (List.mem_of_getElem? (i := 141) rfl)) rfl
theorem kw_1675 : Cond.instanceMethod yX10_plan ∈ hx_all := kt_g (kt_7 (List.mem_of_getElem? (i := 142) rfl)) rfl
theorem kw_1676 : Cond.selects "SmallCourtModel" yX10_plan yX10_plan ∈ hx_all := kt_g (kt_7 (List.mem_of_getElem? (i := 143) rfl)) rfl
theorem kw_1677 : Cond.code yX10_plan cX10_plan 12 (some .int) ∈ hx_all := kt_g (kt_7 (List.mem_of_getElem? (i := 144) rfl)) rfl
theorem kw_1678 : Cond.constant "SmallCourtModel" 431 (1000000000) ∈ hx_all := kt_g (kt_7 (List.mem_of_getElem? (i := 145) rfl)) rfl
theorem kw_1679 : Cond.methodLink "SmallCourtModel" 432 yX10_weeksOf ∈ hx_all := kt_g (kt_7 (List.mem_of_getElem? (i := 146) rfl)) rfl
theorem kw_1681 : Cond.instanceMethod yX10_weeksOf ∈ hx_all := kt_g (kt_7 (List.mem_of_getElem? (i := 148) rfl)) rfl
theorem kw_1682 : Cond.code yX10_weeksOf cX10_weeksOf 5 (some .int) ∈ hx_all := kt_g (kt_7 (List.mem_of_getElem? (i := 149) rfl)) rfl
theorem kw_1683 : Cond.methodLink "SmallCourtLaw" 116 yX10_planned ∈ hx_all := kt_g (kt_7 (List.mem_of_getElem? (i := 150) rfl)) rfl
theorem kw_1684 : Cond.instanceMethod yX10_planned ∈ hx_all := kt_g (kt_7 (List.mem_of_getElem? (i := 151) rfl)) rfl
theorem kw_1685 : Cond.selects "SmallCourtModel" yX10_planned yX10_planned ∈ hx_all := kt_g (kt_7 (List.mem_of_getElem? (i := 152) rfl)) rfl
theorem kw_1686 : Cond.code yX10_planned cX10_planned 3 (some .int) ∈ hx_all := kt_g (kt_7 (List.mem_of_getElem? (i := 153) rfl)) rfl
theorem kw_1687 : Cond.methodLink "SmallCourtLaw" 121 yX10_net ∈ hx_all := kt_g (kt_7 (List.mem_of_getElem? (i := 154) rfl)) rfl
theorem kw_1688 : Cond.instanceMethod yX10_net ∈ hx_all := kt_g (kt_7 (List.mem_of_getElem? (i := 155) rfl)) rfl
theorem kw_1689 : Cond.selects "SmallCourtModel" yX10_net yX10_net ∈ hx_all := kt_g (kt_7 (List.mem_of_getElem? (i := 156) rfl)) rfl
theorem kw_1690 : Cond.code yX10_net cX10_net 5 (some .int) ∈ hx_all := kt_g (kt_7 (List.mem_of_getElem? (i := 157) rfl)) rfl
theorem kw_1691 : Cond.methodLink "SmallCourtModel" 458 yX10_debts ∈ hx_all := kt_g (kt_7 (List.mem_of_getElem? (i := 158) rfl)) rfl
theorem kw_1693 : Cond.instanceMethod yX10_debts ∈ hx_all := kt_g (kt_7 (List.mem_of_getElem? (i := 160) rfl)) rfl
theorem kw_1694 : Cond.code yX10_debts cX10_debts 2 none ∈ hx_all := kt_g (kt_7 (List.mem_of_getElem? (i := 161) rfl)) rfl
theorem kw_1695 : Cond.methodLink "SmallCourtModel" 461 yX10_finds ∈ hx_all := kt_g (kt_7 (List.mem_of_getElem? (i := 162) rfl)) rfl
theorem kw_1697 : Cond.instanceMethod yX10_finds ∈ hx_all := kt_g (kt_7 (List.mem_of_getElem? (i := 164) rfl)) rfl
theorem kw_1698 : Cond.code yX10_finds cX10_finds 8 none ∈ hx_all := kt_g (kt_7 (List.mem_of_getElem? (i := 165) rfl)) rfl
theorem kw_1699 : Cond.methodLink "SmallCourtModel" 444 yX10_offers ∈ hx_all := kt_g (kt_7 (List.mem_of_getElem? (i := 166) rfl)) rfl
theorem kw_1701 : Cond.instanceMethod yX10_offers ∈ hx_all := kt_g (kt_7 (List.mem_of_getElem? (i := 168) rfl)) rfl
theorem kw_1702 : Cond.code yX10_offers cX10_offers 6 none ∈ hx_all := kt_g (kt_7 (List.mem_of_getElem? (i := 169) rfl)) rfl
theorem kw_1703 : Cond.methodLink "SmallCourtModel" 448 yX10_lesser ∈ hx_all := kt_g (kt_7 (List.mem_of_getElem? (i := 170) rfl)) rfl
theorem kw_1704 : Cond.static yX10_lesser ∈ hx_all := kt_g (kt_7 (List.mem_of_getElem? (i := 171) rfl)) rfl
theorem kw_1705 : Cond.code yX10_lesser cX10_lesser 2 (some .int) ∈ hx_all := kt_g (kt_7 (List.mem_of_getElem? (i := 172) rfl)) rfl
theorem kw_1706 : Cond.methodLink "SmallCourtModel" 464 yX10_takes ∈ hx_all := kt_g (kt_7 (List.mem_of_getElem? (i := 173) rfl)) rfl
theorem kw_1708 : Cond.instanceMethod yX10_takes ∈ hx_all := kt_g (kt_7 (List.mem_of_getElem? (i := 175) rfl)) rfl
theorem kw_1709 : Cond.code yX10_takes cX10_takes 9 (some .int) ∈ hx_all := kt_g (kt_7 (List.mem_of_getElem? (i := 176) rfl)) rfl
theorem kw_1710 : Cond.methodLink "SmallCourtLaw" 125 yX10_netted ∈ hx_all := kt_g (kt_7 (List.mem_of_getElem? (i := 177) rfl)) rfl
theorem kw_1711 : Cond.instanceMethod yX10_netted ∈ hx_all := kt_g (kt_7 (List.mem_of_getElem? (i := 178) rfl)) rfl
theorem kw_1712 : Cond.selects "SmallCourtModel" yX10_netted yX10_netted ∈ hx_all := kt_g (kt_7 (List.mem_of_getElem? (i := 179) rfl)) rfl
theorem kw_1713 : Cond.code yX10_netted cX10_netted 2 (some .int) ∈ hx_all := kt_g (kt_7 (List.mem_of_getElem? (i := 180) rfl)) rfl
theorem kw_1714 : Cond.methodLink "SmallCourtLaw" 129 yX10_list ∈ hx_all := kt_g (kt_7 (List.mem_of_getElem? (i := 181) rfl)) rfl
theorem kw_1715 : Cond.instanceMethod yX10_list ∈ hx_all := kt_g (kt_7 (List.mem_of_getElem? (i := 182) rfl)) rfl
theorem kw_1716 : Cond.selects "SmallCourtModel" yX10_list yX10_list ∈ hx_all := kt_g (kt_7 (List.mem_of_getElem? (i := 183) rfl)) rfl
theorem kw_1717 : Cond.code yX10_list cX10_list 3 (some .int) ∈ hx_all := kt_g (kt_7 (List.mem_of_getElem? (i := 184) rfl)) rfl
theorem kw_1718 : Cond.methodLink "SmallCourtLaw" 133 yX10_walk ∈ hx_all := kt_g (kt_7 (List.mem_of_getElem? (i := 185) rfl)) rfl
theorem kw_1719 : Cond.instanceMethod yX10_walk ∈ hx_all := kt_g (kt_7 (List.mem_of_getElem? (i := 186) rfl)) rfl
theorem kw_1720 : Cond.selects "SmallCourtModel" yX10_walk yX10_walk ∈ hx_all := kt_g (kt_7 (List.mem_of_getElem? (i := 187) rfl)) rfl
theorem kw_1721 : Cond.code yX10_walk cX10_walk 6 (some .int) ∈ hx_all := kt_g (kt_7 (List.mem_of_getElem? (i := 188) rfl)) rfl
theorem kw_1722 : Cond.methodLink "SmallCourtModel" 475 yX10_far ∈ hx_all := kt_g (kt_7 (List.mem_of_getElem? (i := 189) rfl)) rfl
theorem kw_1724 : Cond.instanceMethod yX10_far ∈ hx_all := kt_g (kt_7 (List.mem_of_getElem? (i := 191) rfl)) rfl
theorem kw_1725 : Cond.code yX10_far cX10_far 7 (some .int) ∈ hx_all := kt_g (kt_7 (List.mem_of_getElem? (i := 192) rfl)) rfl
theorem kw_1726 : Cond.methodLink "SmallCourtModel" 471 yX10_stepsBetween ∈ hx_all := kt_g (kt_7 (List.mem_of_getElem? (i := 193) rfl)) rfl
theorem kw_1727 : Cond.static yX10_stepsBetween ∈ hx_all := kt_g (kt_7 (List.mem_of_getElem? (i := 194) rfl)) rfl
theorem kw_1728 : Cond.code yX10_stepsBetween cX10_stepsBetween 4 (some .int) ∈ hx_all := kt_g (kt_7 (List.mem_of_getElem? (i := 195) rfl)) rfl
theorem kw_1729 : Cond.methodLink "SmallCourtLaw" 137 yX10_walked ∈ hx_all := kt_g (kt_7 (List.mem_of_getElem? (i := 196) rfl)) rfl
theorem kw_1730 : Cond.instanceMethod yX10_walked ∈ hx_all := kt_g (kt_7 (List.mem_of_getElem? (i := 197) rfl)) rfl
theorem kw_1731 : Cond.selects "SmallCourtModel" yX10_walked yX10_walked ∈ hx_all := kt_g (kt_7 (List.mem_of_getElem? (i := 198) rfl)) rfl
theorem kw_1732 : Cond.code yX10_walked cX10_walked 2 (some .int) ∈ hx_all := kt_g (kt_7 (List.mem_of_getElem? (i := 199) rfl)) rfl
theorem kw_1733 : Cond.methodLink "SmallCourtLaw" 141 yX10_habit ∈ hx_all := kt_g (kt_7 (List.mem_of_getElem? (i := 200) rfl)) rfl
theorem kw_1734 : Cond.instanceMethod yX10_habit ∈ hx_all := kt_g (kt_7 (List.mem_of_getElem? (i := 201) rfl)) rfl
theorem kw_1735 : Cond.selects "SmallCourtModel" yX10_habit yX10_habit ∈ hx_all := kt_g (kt_7 (List.mem_of_getElem? (i := 202) rfl)) rfl
theorem kw_1736 : Cond.code yX10_habit cX10_habit 3 (some .int) ∈ hx_all := kt_g (kt_7 (List.mem_of_getElem? (i := 203) rfl)) rfl
theorem kw_1737 : Cond.methodLink "SmallCourtModel" 489 yX10_habits ∈ hx_all := kt_g (kt_7 (List.mem_of_getElem? (i := 204) rfl)) rfl
theorem kw_1739 : Cond.instanceMethod yX10_habits ∈ hx_all := kt_g (kt_7 (List.mem_of_getElem? (i := 206) rfl)) rfl
theorem kw_1740 : Cond.code yX10_habits cX10_habits 4 none ∈ hx_all := kt_g (kt_7 (List.mem_of_getElem? (i := 207) rfl)) rfl
theorem kw_1741 : Cond.methodLink "SmallCourtModel" 492 yX10_isRare ∈ hx_all := kt_g (kt_7 (List.mem_of_getElem? (i := 208) rfl)) rfl
theorem kw_1743 : Cond.instanceMethod yX10_isRare ∈ hx_all := kt_g (kt_7 (List.mem_of_getElem? (i := 210) rfl)) rfl
theorem kw_1744 : Cond.code yX10_isRare cX10_isRare 6 (some .boolean) ∈ hx_all := kt_g (kt_7 (List.mem_of_getElem? (i := 211) rfl)) rfl
theorem kw_1745 : Cond.constantLong "SmallCourtModel" 487 20 ∈ hx_all := kt_g (kt_7 (List.mem_of_getElem? (i := 212) rfl)) rfl
theorem kw_1746 : Cond.methodLink "SmallCourtLaw" 145 yX10_other ∈ hx_all := kt_g (kt_7 (List.mem_of_getElem? (i := 213) rfl)) rfl
theorem kw_1747 : Cond.instanceMethod yX10_other ∈ hx_all := kt_g (kt_7 (List.mem_of_getElem? (i := 214) rfl)) rfl
theorem kw_1748 : Cond.selects "SmallCourtModel" yX10_other yX10_other ∈ hx_all := kt_g (kt_7 (List.mem_of_getElem? (i := 215) rfl)) rfl
theorem kw_1749 : Cond.code yX10_other cX10_other 9 (some .int) ∈ hx_all := kt_g (kt_7 (List.mem_of_getElem? (i := 216) rfl)) rfl
theorem kw_1750 : Cond.methodLink "SmallCourtLaw" 149 yX10_count ∈ hx_all := kt_g (kt_7 (List.mem_of_getElem? (i := 217) rfl)) rfl
theorem kw_1751 : Cond.instanceMethod yX10_count ∈ hx_all := kt_g (kt_7 (List.mem_of_getElem? (i := 218) rfl)) rfl
theorem kw_1752 : Cond.selects "SmallCourtModel" yX10_count yX10_count ∈ hx_all := kt_g (kt_7 (List.mem_of_getElem? (i := 219) rfl)) rfl
theorem kw_1753 : Cond.code yX10_count cX10_count 4 (some .int) ∈ hx_all := kt_g (kt_7 (List.mem_of_getElem? (i := 220) rfl)) rfl
theorem kw_1754 : Cond.fieldLink "java/lang/String" 9 "java/lang/String" "value" "[B" ∈ hx_all := kt_g (kt_7 (List.mem_of_getElem? (i := 221) rfl)) rfl
theorem kw_1755 : Cond.fieldLink "java/lang/String" 15 "java/lang/String" "coder" "B" ∈ hx_all := kt_g (kt_7 (List.mem_of_getElem? (i := 222) rfl)) rfl
def hx_N : List Cond := [Cond.methodLinkNest "SmallCourt" 15 yX6_init "SmallCourt", Cond.fieldLinkNest "SmallCourt$Act" 25 "SmallCourt" "WITHOUT" "[I" "SmallCourt", Cond.methodLinkNest "SmallCourt" 41 yX1_init "SmallCourt", Cond.methodLinkNest "SmallCourt" 57 yX3_init "SmallCourt", Cond.methodLinkNest "SmallCourt" 71 yX5_init "SmallCourt", Cond.methodLinkNest "SmallCourt" 78 yX7_init "SmallCourt", Cond.methodLinkNest "SmallCourt" 85 yX8_init "SmallCourt", Cond.fieldLinkNest "SmallCourt$Reader" 82 "SmallCourt" "LEAST_TOLD" "[I" "SmallCourt", Cond.fieldLinkNest "SmallCourt$Reader" 86 "SmallCourt" "MOST_TOLD" "[I" "SmallCourt", Cond.methodLinkNest "SmallCourt$Claim" 95 yX9_roundUp "SmallCourt", Cond.methodLinkNest "SmallCourt$Plan" 78 yX9_roundUp "SmallCourt"]
theorem kc_0 : ∀ w ∈ u_ws RX0 TX0 5, w ∈ hx_all := fun w hw => by
  obtain ⟨k, hk, rfl⟩ := List.mem_map.mp hw
  have hk := List.mem_range.mp hk
  match k, hk with
  | 0, _ => exact kw_175
  | 1, _ => exact kw_177
  | 2, _ => exact kw_179
  | 3, _ => exact kw_181
  | 4, _ => exact kw_183
  | k + 5, hk => exact absurd hk (by omega)
theorem hC_0 : hx_C hx_all vwCl 0 RX0 TX0 5 tyX0 := ⟨rfl, kc_0, tyX0_ok, nmX0⟩
theorem kc_1 : ∀ w ∈ u_ws RX1 TX1 8, w ∈ hx_all := fun w hw => by
  obtain ⟨k, hk, rfl⟩ := List.mem_map.mp hw
  have hk := List.mem_range.mp hk
  match k, hk with
  | 0, _ => exact kw_205
  | 1, _ => exact kw_207
  | 2, _ => exact kw_209
  | 3, _ => exact kw_211
  | 4, _ => exact kw_213
  | 5, _ => exact kw_215
  | 6, _ => exact kw_217
  | 7, _ => exact kw_219
  | k + 8, hk => exact absurd hk (by omega)
theorem hC_1 : hx_C hx_all vwCl 1 RX1 TX1 8 tyX1 := ⟨rfl, kc_1, tyX1_ok, nmX1⟩
theorem kc_2 : ∀ w ∈ u_ws RX2 TX2 19, w ∈ hx_all := fun w hw => by
  obtain ⟨k, hk, rfl⟩ := List.mem_map.mp hw
  have hk := List.mem_range.mp hk
  match k, hk with
  | 0, _ => exact kw_764
  | 1, _ => exact kw_766
  | 2, _ => exact kw_768
  | 3, _ => exact kw_770
  | 4, _ => exact kw_772
  | 5, _ => exact kw_774
  | 6, _ => exact kw_776
  | 7, _ => exact kw_778
  | 8, _ => exact kw_780
  | 9, _ => exact kw_782
  | 10, _ => exact kw_784
  | 11, _ => exact kw_786
  | 12, _ => exact kw_788
  | 13, _ => exact kw_790
  | 14, _ => exact kw_792
  | 15, _ => exact kw_794
  | 16, _ => exact kw_796
  | 17, _ => exact kw_798
  | 18, _ => exact kw_800
  | k + 19, hk => exact absurd hk (by omega)
theorem hC_2 : hx_C hx_all vwCl 2 RX2 TX2 19 tyX2 := ⟨rfl, kc_2, tyX2_ok, nmX2⟩
theorem kc_3 : ∀ w ∈ u_ws RX3 TX3 6, w ∈ hx_all := fun w hw => by
  obtain ⟨k, hk, rfl⟩ := List.mem_map.mp hw
  have hk := List.mem_range.mp hk
  match k, hk with
  | 0, _ => exact kw_239
  | 1, _ => exact kw_241
  | 2, _ => exact kw_243
  | 3, _ => exact kw_245
  | 4, _ => exact kw_247
  | 5, _ => exact kw_249
  | k + 6, hk => exact absurd hk (by omega)
theorem hC_3 : hx_C hx_all vwCl 3 RX3 TX3 6 tyX3 := ⟨rfl, kc_3, tyX3_ok, nmX3⟩
theorem kc_4 : ∀ w ∈ u_ws RX4 TX4 10, w ∈ hx_all := fun w hw => by
  obtain ⟨k, hk, rfl⟩ := List.mem_map.mp hw
  have hk := List.mem_range.mp hk
  match k, hk with
  | 0, _ => exact kw_627
  | 1, _ => exact kw_629
  | 2, _ => exact kw_631
  | 3, _ => exact kw_633
  | 4, _ => exact kw_635
  | 5, _ => exact kw_637
  | 6, _ => exact kw_639
  | 7, _ => exact kw_641
  | 8, _ => exact kw_643
  | 9, _ => exact kw_645
  | k + 10, hk => exact absurd hk (by omega)
theorem hC_4 : hx_C hx_all vwCl 4 RX4 TX4 10 tyX4 := ⟨rfl, kc_4, tyX4_ok, nmX4⟩
theorem kc_5 : ∀ w ∈ u_ws RX5 TX5 13, w ∈ hx_all := fun w hw => by
  obtain ⟨k, hk, rfl⟩ := List.mem_map.mp hw
  have hk := List.mem_range.mp hk
  match k, hk with
  | 0, _ => exact kw_276
  | 1, _ => exact kw_278
  | 2, _ => exact kw_280
  | 3, _ => exact kw_282
  | 4, _ => exact kw_284
  | 5, _ => exact kw_286
  | 6, _ => exact kw_288
  | 7, _ => exact kw_290
  | 8, _ => exact kw_292
  | 9, _ => exact kw_294
  | 10, _ => exact kw_296
  | 11, _ => exact kw_298
  | 12, _ => exact kw_300
  | k + 13, hk => exact absurd hk (by omega)
theorem hC_5 : hx_C hx_all vwCl 5 RX5 TX5 13 tyX5 := ⟨rfl, kc_5, tyX5_ok, nmX5⟩
theorem kc_6 : ∀ w ∈ u_ws RX6 TX6 7, w ∈ hx_all := fun w hw => by
  obtain ⟨k, hk, rfl⟩ := List.mem_map.mp hw
  have hk := List.mem_range.mp hk
  match k, hk with
  | 0, _ => exact kw_132
  | 1, _ => exact kw_134
  | 2, _ => exact kw_136
  | 3, _ => exact kw_138
  | 4, _ => exact kw_140
  | 5, _ => exact kw_142
  | 6, _ => exact kw_144
  | k + 7, hk => exact absurd hk (by omega)
theorem hC_6 : hx_C hx_all vwCl 6 RX6 TX6 7 tyX6 := ⟨rfl, kc_6, tyX6_ok, nmX6⟩
theorem kc_7 : ∀ w ∈ u_ws RX7 TX7 8, w ∈ hx_all := fun w hw => by
  obtain ⟨k, hk, rfl⟩ := List.mem_map.mp hw
  have hk := List.mem_range.mp hk
  match k, hk with
  | 0, _ => exact kw_321
  | 1, _ => exact kw_323
  | 2, _ => exact kw_325
  | 3, _ => exact kw_327
  | 4, _ => exact kw_329
  | 5, _ => exact kw_331
  | 6, _ => exact kw_333
  | 7, _ => exact kw_335
  | k + 8, hk => exact absurd hk (by omega)
theorem hC_7 : hx_C hx_all vwCl 7 RX7 TX7 8 tyX7 := ⟨rfl, kc_7, tyX7_ok, nmX7⟩
theorem kc_8 : ∀ w ∈ u_ws RX8 TX8 5, w ∈ hx_all := fun w hw => by
  obtain ⟨k, hk, rfl⟩ := List.mem_map.mp hw
  have hk := List.mem_range.mp hk
  match k, hk with
  | 0, _ => exact kw_353
  | 1, _ => exact kw_355
  | 2, _ => exact kw_357
  | 3, _ => exact kw_359
  | 4, _ => exact kw_361
  | k + 5, hk => exact absurd hk (by omega)
theorem hC_8 : hx_C hx_all vwCl 8 RX8 TX8 5 tyX8 := ⟨rfl, kc_8, tyX8_ok, nmX8⟩
theorem kc_9 : ∀ w ∈ u_ws RX9 TX9 20, w ∈ hx_all := fun w hw => by
  obtain ⟨k, hk, rfl⟩ := List.mem_map.mp hw
  have hk := List.mem_range.mp hk
  match k, hk with
  | 0, _ => exact kw_384
  | 1, _ => exact kw_386
  | 2, _ => exact kw_388
  | 3, _ => exact kw_390
  | 4, _ => exact kw_392
  | 5, _ => exact kw_394
  | 6, _ => exact kw_396
  | 7, _ => exact kw_398
  | 8, _ => exact kw_400
  | 9, _ => exact kw_402
  | 10, _ => exact kw_404
  | 11, _ => exact kw_406
  | 12, _ => exact kw_408
  | 13, _ => exact kw_410
  | 14, _ => exact kw_412
  | 15, _ => exact kw_414
  | 16, _ => exact kw_416
  | 17, _ => exact kw_418
  | 18, _ => exact kw_420
  | 19, _ => exact kw_422
  | k + 20, hk => exact absurd hk (by omega)
theorem hC_9 : hx_C hx_all vwCl 9 RX9 TX9 20 tyX9 := ⟨rfl, kc_9, tyX9_ok, nmX9⟩
theorem kc_10 : ∀ w ∈ u_ws RX10 TX10 98, w ∈ hx_all := fun w hw => by
  obtain ⟨k, hk, rfl⟩ := List.mem_map.mp hw
  have hk := List.mem_range.mp hk
  match k, hk with
  | 0, _ => exact kw_1241
  | 1, _ => exact kw_1243
  | 2, _ => exact kw_1245
  | 3, _ => exact kw_1247
  | 4, _ => exact kw_1249
  | 5, _ => exact kw_1251
  | 6, _ => exact kw_1253
  | 7, _ => exact kw_1255
  | 8, _ => exact kw_1257
  | 9, _ => exact kw_1259
  | 10, _ => exact kw_1261
  | 11, _ => exact kw_1263
  | 12, _ => exact kw_1265
  | 13, _ => exact kw_1267
  | 14, _ => exact kw_1269
  | 15, _ => exact kw_1271
  | 16, _ => exact kw_1273
  | 17, _ => exact kw_1275
  | 18, _ => exact kw_1277
  | 19, _ => exact kw_1279
  | 20, _ => exact kw_1281
  | 21, _ => exact kw_1283
  | 22, _ => exact kw_1285
  | 23, _ => exact kw_1287
  | 24, _ => exact kw_1289
  | 25, _ => exact kw_1291
  | 26, _ => exact kw_1293
  | 27, _ => exact kw_1295
  | 28, _ => exact kw_1297
  | 29, _ => exact kw_1299
  | 30, _ => exact kw_1301
  | 31, _ => exact kw_1303
  | 32, _ => exact kw_1305
  | 33, _ => exact kw_1307
  | 34, _ => exact kw_1309
  | 35, _ => exact kw_1311
  | 36, _ => exact kw_1313
  | 37, _ => exact kw_1315
  | 38, _ => exact kw_1317
  | 39, _ => exact kw_1319
  | 40, _ => exact kw_1321
  | 41, _ => exact kw_1323
  | 42, _ => exact kw_1325
  | 43, _ => exact kw_1327
  | 44, _ => exact kw_1329
  | 45, _ => exact kw_1331
  | 46, _ => exact kw_1333
  | 47, _ => exact kw_1335
  | 48, _ => exact kw_1337
  | 49, _ => exact kw_1339
  | 50, _ => exact kw_1341
  | 51, _ => exact kw_1343
  | 52, _ => exact kw_1345
  | 53, _ => exact kw_1347
  | 54, _ => exact kw_1349
  | 55, _ => exact kw_1351
  | 56, _ => exact kw_1353
  | 57, _ => exact kw_1355
  | 58, _ => exact kw_1357
  | 59, _ => exact kw_1359
  | 60, _ => exact kw_1361
  | 61, _ => exact kw_1363
  | 62, _ => exact kw_1365
  | 63, _ => exact kw_1367
  | 64, _ => exact kw_1369
  | 65, _ => exact kw_1371
  | 66, _ => exact kw_1373
  | 67, _ => exact kw_1375
  | 68, _ => exact kw_1377
  | 69, _ => exact kw_1379
  | 70, _ => exact kw_1381
  | 71, _ => exact kw_1383
  | 72, _ => exact kw_1385
  | 73, _ => exact kw_1387
  | 74, _ => exact kw_1389
  | 75, _ => exact kw_1391
  | 76, _ => exact kw_1393
  | 77, _ => exact kw_1395
  | 78, _ => exact kw_1397
  | 79, _ => exact kw_1399
  | 80, _ => exact kw_1401
  | 81, _ => exact kw_1403
  | 82, _ => exact kw_1405
  | 83, _ => exact kw_1407
  | 84, _ => exact kw_1409
  | 85, _ => exact kw_1411
  | 86, _ => exact kw_1413
  | 87, _ => exact kw_1415
  | 88, _ => exact kw_1417
  | 89, _ => exact kw_1419
  | 90, _ => exact kw_1421
  | 91, _ => exact kw_1423
  | 92, _ => exact kw_1425
  | 93, _ => exact kw_1427
  | 94, _ => exact kw_1429
  | 95, _ => exact kw_1431
  | 96, _ => exact kw_1433
  | 97, _ => exact kw_1435
  | k + 98, hk => exact absurd hk (by omega)
theorem hC_10 : hx_C hx_all vwCl 10 RX10 TX10 98 tyX10 := ⟨rfl, kc_10, tyX10_ok, nmX10⟩
