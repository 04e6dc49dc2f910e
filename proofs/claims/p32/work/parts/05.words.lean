section
/-! THE WORDS that the methods need, by their places in the tables -/
def hx_all : List Cond := lw_tbl.filter goodWord
theorem hx_ok : ∀ w ∈ hx_all, (w.onTables && w.keeps) = true ∨ ∃ ty, w = .arrayClass ty := fun w h => good_of_word (List.mem_filter.mp h).2
theorem hx_sub : ∀ w ∈ hx_all, w ∈ lw_tbl := fun w h => (List.mem_filter.mp h).1
theorem hx_gA {y : MethodName} {cc : ByteArray} {n : Nat} {ret : Option FieldType} {ws : List Cond} (hc : Cond.code y cc n ret ∈ hx_all) (h : ∀ w ∈ ws, w ∈ hx_all) : GoodIn hx_all (ws ++ (Cond.code y cc n ret :: hx_all)) := by
  intro w hw
  have hw2 : w ∈ hx_all := by
    rcases List.mem_append.mp hw with q | q
    · exact h w q
    · rcases List.mem_cons.mp q with q | q
      · rw [q]; exact hc
      · exact q
  exact ⟨hw2, hx_ok w hw2⟩
theorem hx_gC {y : MethodName} {cc : ByteArray} {n : Nat} {ret : Option FieldType} (hc : Cond.code y cc n ret ∈ hx_all) : GoodIn hx_all (Cond.code y cc n ret :: hx_all) := hx_gA (ws := []) hc (fun _ h => by cases h)
theorem hx_gV {own : String} {idx : Nat} {C : String} {y : MethodName} {cc : ByteArray} {n : Nat} {ret : Option FieldType} (hc : Cond.code y cc n ret ∈ hx_all) (h1 : Cond.methodLink own idx y ∈ hx_all) (h2 : Cond.instanceMethod y ∈ hx_all) (h3 : Cond.selects C y y ∈ hx_all) (h4 : Cond.initialized C ∈ hx_all) : GoodIn hx_all (wsV own idx C y (Cond.code y cc n ret :: hx_all)) := by
  refine hx_gA hc (fun w hw => ?_)
  simp only [List.mem_cons, List.not_mem_nil, or_false] at hw
  rcases hw with rfl | rfl | rfl | rfl <;> assumption
theorem hx_gS {own : String} {idx : Nat} {y : MethodName} {cc : ByteArray} {n : Nat} {ret : Option FieldType} (hc : Cond.code y cc n ret ∈ hx_all) (h1 : Cond.methodLink own idx y ∈ hx_all) (h2 : Cond.static y ∈ hx_all) (h4 : Cond.initialized y.cls ∈ hx_all) : GoodIn hx_all (va_wsS own idx y (Cond.code y cc n ret :: hx_all)) := by
  refine hx_gA hc (fun w hw => ?_)
  simp only [List.mem_cons, List.not_mem_nil, or_false] at hw
  rcases hw with rfl | rfl | rfl <;> assumption
theorem kt_1 {w : Cond} (h : w ∈ tables_1_1) : w ∈ lw_tbl := List.mem_append_right _ (show w ∈ tables_1 from List.mem_append_left _ h)
theorem kt_2 {w : Cond} (h : w ∈ tables_1_2) : w ∈ lw_tbl := List.mem_append_right _ (show w ∈ tables_1 from List.mem_append_right _ (List.mem_append_left _ h))
theorem kt_3 {w : Cond} (h : w ∈ tables_1_3) : w ∈ lw_tbl := List.mem_append_right _ (show w ∈ tables_1 from List.mem_append_right _ (List.mem_append_right _ (List.mem_append_left _ h)))
theorem kt_4 {w : Cond} (h : w ∈ tables_1_4) : w ∈ lw_tbl := List.mem_append_right _ (show w ∈ tables_1 from List.mem_append_right _ (List.mem_append_right _ (List.mem_append_right _ (List.mem_append_left _ h))))
theorem kt_5 {w : Cond} (h : w ∈ tables_1_5) : w ∈ lw_tbl := List.mem_append_right _ (show w ∈ tables_1 from List.mem_append_right _ (List.mem_append_right _ (List.mem_append_right _ (List.mem_append_right _ (List.mem_append_left _ h)))))
theorem kt_6 {w : Cond} (h : w ∈ tables_1_6) : w ∈ lw_tbl := List.mem_append_right _ (show w ∈ tables_1 from List.mem_append_right _ (List.mem_append_right _ (List.mem_append_right _ (List.mem_append_right _ (List.mem_append_right _ (List.mem_append_left _ h))))))
theorem kt_7 {w : Cond} (h : w ∈ tables_1_7) : w ∈ lw_tbl := List.mem_append_right _ (show w ∈ tables_1 from List.mem_append_right _ (List.mem_append_right _ (List.mem_append_right _ (List.mem_append_right _ (List.mem_append_right _ (List.mem_append_right _ (h)))))))
theorem kt_0 {w : Cond} (i : Nat) (h : (k2_sels lw_privs)[i]? = some w) : w ∈ lw_tbl := List.mem_append_left _ (List.mem_of_getElem? h)
theorem kt_g {w : Cond} (h : w ∈ lw_tbl) (g : goodWord w = true) : w ∈ hx_all := List.mem_filter.mpr ⟨h, g⟩
theorem kw_0 : Cond.selects "SmallCourt" yX9_feedBytes yX9_feedBytes ∈ hx_all := kt_g (kt_0 0 rfl) rfl
theorem kw_1 : Cond.selects "SmallCourt$Reader" yX6_skipBlanks yX6_skipBlanks ∈ hx_all := kt_g (kt_0 1 rfl) rfl
theorem kw_2 : Cond.selects "SmallCourt$Reader" yX6_readClause yX6_readClause ∈ hx_all := kt_g (kt_0 2 rfl) rfl
theorem kw_3 : Cond.selects "SmallCourt$Reader" yX6_readWord yX6_readWord ∈ hx_all := kt_g (kt_0 3 rfl) rfl
theorem kw_4 : Cond.selects "SmallCourt$Reader" yX6_wordEnd yX6_wordEnd ∈ hx_all := kt_g (kt_0 4 rfl) rfl
theorem kw_5 : Cond.selects "SmallCourt$Reader" yX6_isSlot yX6_isSlot ∈ hx_all := kt_g (kt_0 5 rfl) rfl
theorem kw_6 : Cond.selects "SmallCourt$Reader" yX6_refuse yX6_refuse ∈ hx_all := kt_g (kt_0 6 rfl) rfl
theorem kw_7 : Cond.selects "SmallCourt$Reader" yX6_readCost yX6_readCost ∈ hx_all := kt_g (kt_0 7 rfl) rfl
theorem kw_8 : Cond.selects "SmallCourt$Reader" yX6_tellOnce yX6_tellOnce ∈ hx_all := kt_g (kt_0 8 rfl) rfl
theorem kw_9 : Cond.selects "SmallCourt$Reader" yX6_readTold yX6_readTold ∈ hx_all := kt_g (kt_0 9 rfl) rfl
theorem kw_10 : Cond.selects "SmallCourt$Reader" yX6_isDigit yX6_isDigit ∈ hx_all := kt_g (kt_0 10 rfl) rfl
theorem kw_11 : Cond.selects "SmallCourt$Reader" yX6_readNumber yX6_readNumber ∈ hx_all := kt_g (kt_0 11 rfl) rfl
theorem kw_12 : Cond.selects "SmallCourt$Reader" yX6_readEither yX6_readEither ∈ hx_all := kt_g (kt_0 12 rfl) rfl
theorem kw_13 : Cond.selects "SmallCourt$Reader" yX6_readOne yX6_readOne ∈ hx_all := kt_g (kt_0 13 rfl) rfl
theorem kw_14 : Cond.selects "SmallCourt$Reader" yX6_isNextWord yX6_isNextWord ∈ hx_all := kt_g (kt_0 14 rfl) rfl
theorem kw_15 : Cond.selects "SmallCourt$Reader" yX6_isByte yX6_isByte ∈ hx_all := kt_g (kt_0 15 rfl) rfl
theorem kw_16 : Cond.selects "SmallCourt$Reader" yX6_readTerm yX6_readTerm ∈ hx_all := kt_g (kt_0 16 rfl) rfl
theorem kw_17 : Cond.selects "SmallCourt$Reader" yX6_readSign yX6_readSign ∈ hx_all := kt_g (kt_0 17 rfl) rfl
theorem kw_18 : Cond.selects "SmallCourt$Reader" yX6_isAnotherClause yX6_isAnotherClause ∈ hx_all := kt_g (kt_0 18 rfl) rfl
theorem kw_19 : Cond.selects "SmallCourt" yX9_inForce yX9_inForce ∈ hx_all := kt_g (kt_0 19 rfl) rfl
theorem kw_20 : Cond.selects "SmallCourt" yX9_personAt yX9_personAt ∈ hx_all := kt_g (kt_0 20 rfl) rfl
theorem kw_21 : Cond.selects "SmallCourt" yX9_areTwo yX9_areTwo ∈ hx_all := kt_g (kt_0 21 rfl) rfl
theorem kw_22 : Cond.selects "SmallCourt$Books" yX1_isLine yX1_isLine ∈ hx_all := kt_g (kt_0 22 rfl) rfl
theorem kw_23 : Cond.selects "SmallCourt$Books" yX1_takeTwin yX1_takeTwin ∈ hx_all := kt_g (kt_0 23 rfl) rfl
theorem kw_24 : Cond.selects "SmallCourt$Books" yX1_areTwins yX1_areTwins ∈ hx_all := kt_g (kt_0 24 rfl) rfl
theorem kw_25 : Cond.selects "SmallCourt" yX9_claimAt yX9_claimAt ∈ hx_all := kt_g (kt_0 25 rfl) rfl
theorem kw_26 : Cond.selects "SmallCourt" yX9_drawBench yX9_drawBench ∈ hx_all := kt_g (kt_0 26 rfl) rfl
theorem kw_27 : Cond.selects "SmallCourt$Person" yX4_isKinOf yX4_isKinOf ∈ hx_all := kt_g (kt_0 27 rfl) rfl
theorem kw_28 : Cond.selects "SmallCourt" yX9_judgement yX9_judgement ∈ hx_all := kt_g (kt_0 28 rfl) rfl
theorem kw_29 : Cond.selects "SmallCourt" yX9_sumOfSplit yX9_sumOfSplit ∈ hx_all := kt_g (kt_0 29 rfl) rfl
theorem kw_30 : Cond.selects "SmallCourt" yX9_openInstalments yX9_openInstalments ∈ hx_all := kt_g (kt_0 30 rfl) rfl
theorem kw_31 : Cond.selects "SmallCourt$Claim" yX2_owedOn yX2_owedOn ∈ hx_all := kt_g (kt_0 31 rfl) rfl
theorem kw_32 : Cond.selects "SmallCourt$Claim" yX2_stateAheadOfOrder yX2_stateAheadOfOrder ∈ hx_all := kt_g (kt_0 32 rfl) rfl
theorem kw_33 : Cond.selects "SmallCourt$Plan" yX5_leastFrom yX5_leastFrom ∈ hx_all := kt_g (kt_0 33 rfl) rfl
theorem kw_34 : Cond.selects "SmallCourt$Plan" yX5_tryFrom yX5_tryFrom ∈ hx_all := kt_g (kt_0 34 rfl) rfl
theorem kw_35 : Cond.selects "SmallCourt$Plan" yX5_keepIfBetter yX5_keepIfBetter ∈ hx_all := kt_g (kt_0 35 rfl) rfl
theorem kw_36 : Cond.selects "SmallCourt$Rings" yX7_goOn yX7_goOn ∈ hx_all := kt_g (kt_0 36 rfl) rfl
theorem kw_37 : Cond.selects "SmallCourt$Rings" yX7_keepIfBetter yX7_keepIfBetter ∈ hx_all := kt_g (kt_0 37 rfl) rfl
theorem kw_38 : Cond.selects "SmallCourt$Rings" yX7_isInRing yX7_isInRing ∈ hx_all := kt_g (kt_0 38 rfl) rfl
theorem kw_39 : Cond.selects "SmallCourt" yX9_ringNeeds yX9_ringNeeds ∈ hx_all := kt_g (kt_0 39 rfl) rfl
theorem kw_40 : Cond.selects "SmallCourt$Rings" yX7_placeAfter yX7_placeAfter ∈ hx_all := kt_g (kt_0 40 rfl) rfl
theorem kw_41 : Cond.selects "SmallCourt" yX9_takeOffRing yX9_takeOffRing ∈ hx_all := kt_g (kt_0 41 rfl) rfl
theorem kw_42 : Cond.selects "SmallCourt$Walk" yX8_fromCourt yX8_fromCourt ∈ hx_all := kt_g (kt_0 42 rfl) rfl
theorem kw_43 : Cond.selects "SmallCourt$Walk" yX8_leastOn yX8_leastOn ∈ hx_all := kt_g (kt_0 43 rfl) rfl
theorem kw_44 : Cond.selects "SmallCourt$Walk" yX8_stepsBy yX8_stepsBy ∈ hx_all := kt_g (kt_0 44 rfl) rfl
theorem kw_45 : Cond.selects "SmallCourt$Walk" yX8_retrace yX8_retrace ∈ hx_all := kt_g (kt_0 45 rfl) rfl
theorem kw_46 : Cond.selects "SmallCourt$Walk" yX8_firstOnWay yX8_firstOnWay ∈ hx_all := kt_g (kt_0 46 rfl) rfl
theorem kw_47 : Cond.selects "SmallCourt" yX9_livingJudges yX9_livingJudges ∈ hx_all := kt_g (kt_0 47 rfl) rfl
theorem kw_48 : Cond.selects "SmallCourtModel" yX10_clears yX10_clears ∈ hx_all := kt_g (kt_0 48 rfl) rfl
theorem kw_49 : Cond.selects "SmallCourtModel" yX10_withoutProof yX10_withoutProof ∈ hx_all := kt_g (kt_0 49 rfl) rfl
theorem kw_50 : Cond.selects "SmallCourtModel" yX10_writes yX10_writes ∈ hx_all := kt_g (kt_0 50 rfl) rfl
theorem kw_51 : Cond.selects "SmallCourtModel" yX10_keepsProof yX10_keepsProof ∈ hx_all := kt_g (kt_0 51 rfl) rfl
theorem kw_52 : Cond.selects "SmallCourtModel" yX10_four yX10_four ∈ hx_all := kt_g (kt_0 52 rfl) rfl
theorem kw_53 : Cond.selects "SmallCourtModel" yX10_see yX10_see ∈ hx_all := kt_g (kt_0 53 rfl) rfl
theorem kw_54 : Cond.selects "SmallCourtModel" yX10_clause yX10_clause ∈ hx_all := kt_g (kt_0 54 rfl) rfl
theorem kw_55 : Cond.selects "SmallCourtModel" yX10_wordHere yX10_wordHere ∈ hx_all := kt_g (kt_0 55 rfl) rfl
theorem kw_56 : Cond.selects "SmallCourtModel" yX10_fails yX10_fails ∈ hx_all := kt_g (kt_0 56 rfl) rfl
theorem kw_57 : Cond.selects "SmallCourtModel" yX10_isNew yX10_isNew ∈ hx_all := kt_g (kt_0 57 rfl) rfl
theorem kw_58 : Cond.selects "SmallCourtModel" yX10_either yX10_either ∈ hx_all := kt_g (kt_0 58 rfl) rfl
theorem kw_59 : Cond.selects "SmallCourtModel" yX10_begins yX10_begins ∈ hx_all := kt_g (kt_0 59 rfl) rfl
theorem kw_60 : Cond.selects "SmallCourtModel" yX10_compare yX10_compare ∈ hx_all := kt_g (kt_0 60 rfl) rfl
theorem kw_61 : Cond.selects "SmallCourtModel" yX10_number yX10_number ∈ hx_all := kt_g (kt_0 61 rfl) rfl
theorem kw_62 : Cond.selects "SmallCourtModel" yX10_deep yX10_deep ∈ hx_all := kt_g (kt_0 62 rfl) rfl
theorem kw_63 : Cond.selects "SmallCourtModel" yX10_closesNots yX10_closesNots ∈ hx_all := kt_g (kt_0 63 rfl) rfl
theorem kw_64 : Cond.selects "SmallCourtModel" yX10_closesDown yX10_closesDown ∈ hx_all := kt_g (kt_0 64 rfl) rfl
theorem kw_65 : Cond.selects "SmallCourtModel" yX10_inForce yX10_inForce ∈ hx_all := kt_g (kt_0 65 rfl) rfl
theorem kw_66 : Cond.selects "SmallCourtModel" yX10_ruleOf yX10_ruleOf ∈ hx_all := kt_g (kt_0 66 rfl) rfl
theorem kw_67 : Cond.selects "SmallCourtModel" yX10_lives yX10_lives ∈ hx_all := kt_g (kt_0 67 rfl) rfl
theorem kw_68 : Cond.selects "SmallCourtModel" yX10_isPerson yX10_isPerson ∈ hx_all := kt_g (kt_0 68 rfl) rfl
theorem kw_69 : Cond.selects "SmallCourtModel" yX10_bookSum yX10_bookSum ∈ hx_all := kt_g (kt_0 69 rfl) rfl
theorem kw_70 : Cond.selects "SmallCourtModel" yX10_alike yX10_alike ∈ hx_all := kt_g (kt_0 70 rfl) rfl
theorem kw_71 : Cond.selects "SmallCourtModel" yX10_areTwins yX10_areTwins ∈ hx_all := kt_g (kt_0 71 rfl) rfl
theorem kw_72 : Cond.selects "SmallCourtModel" yX10_disorder yX10_disorder ∈ hx_all := kt_g (kt_0 72 rfl) rfl
theorem kw_73 : Cond.selects "SmallCourtModel" yX10_isClaim yX10_isClaim ∈ hx_all := kt_g (kt_0 73 rfl) rfl
theorem kw_74 : Cond.selects "SmallCourtModel" yX10_sits yX10_sits ∈ hx_all := kt_g (kt_0 74 rfl) rfl
theorem kw_75 : Cond.selects "SmallCourtModel" yX10_isKinOf yX10_isKinOf ∈ hx_all := kt_g (kt_0 75 rfl) rfl
theorem kw_76 : Cond.selects "SmallCourtModel" yX10_draws yX10_draws ∈ hx_all := kt_g (kt_0 76 rfl) rfl
theorem kw_77 : Cond.selects "SmallCourtModel" yX10_judges yX10_judges ∈ hx_all := kt_g (kt_0 77 rfl) rfl
theorem kw_78 : Cond.selects "SmallCourtModel" yX10_isSplit yX10_isSplit ∈ hx_all := kt_g (kt_0 78 rfl) rfl
theorem kw_79 : Cond.selects "SmallCourtModel" yX10_isProved yX10_isProved ∈ hx_all := kt_g (kt_0 79 rfl) rfl
theorem kw_80 : Cond.selects "SmallCourtModel" yX10_isSo yX10_isSo ∈ hx_all := kt_g (kt_0 80 rfl) rfl
theorem kw_81 : Cond.selects "SmallCourtModel" yX10_isOpen yX10_isOpen ∈ hx_all := kt_g (kt_0 81 rfl) rfl
theorem kw_82 : Cond.selects "SmallCourtModel" yX10_looks yX10_looks ∈ hx_all := kt_g (kt_0 82 rfl) rfl
theorem kw_83 : Cond.selects "SmallCourtModel" yX10_means yX10_means ∈ hx_all := kt_g (kt_0 83 rfl) rfl
theorem kw_84 : Cond.selects "SmallCourtModel" yX10_pays yX10_pays ∈ hx_all := kt_g (kt_0 84 rfl) rfl
theorem kw_85 : Cond.selects "SmallCourtModel" yX10_weeksOf yX10_weeksOf ∈ hx_all := kt_g (kt_0 85 rfl) rfl
theorem kw_86 : Cond.selects "SmallCourtModel" yX10_debts yX10_debts ∈ hx_all := kt_g (kt_0 86 rfl) rfl
theorem kw_87 : Cond.selects "SmallCourtModel" yX10_finds yX10_finds ∈ hx_all := kt_g (kt_0 87 rfl) rfl
theorem kw_88 : Cond.selects "SmallCourtModel" yX10_offers yX10_offers ∈ hx_all := kt_g (kt_0 88 rfl) rfl
theorem kw_89 : Cond.selects "SmallCourtModel" yX10_takes yX10_takes ∈ hx_all := kt_g (kt_0 89 rfl) rfl
theorem kw_90 : Cond.selects "SmallCourtModel" yX10_far yX10_far ∈ hx_all := kt_g (kt_0 90 rfl) rfl
theorem kw_91 : Cond.selects "SmallCourtModel" yX10_habits yX10_habits ∈ hx_all := kt_g (kt_0 91 rfl) rfl
theorem kw_92 : Cond.selects "SmallCourtModel" yX10_isRare yX10_isRare ∈ hx_all := kt_g (kt_0 92 rfl) rfl
theorem kw_94 : Cond.initialized "SmallCourt" ∈ hx_all := kt_g (kt_1 (List.mem_of_getElem? (i := 1) rfl)) rfl
theorem kw_95 : Cond.initialized "SmallCourt$Reader" ∈ hx_all := kt_g (kt_1 (List.mem_of_getElem? (i := 2) rfl)) rfl
theorem kw_96 : Cond.initialized "SmallCourt$Act" ∈ hx_all := kt_g (kt_1 (List.mem_of_getElem? (i := 3) rfl)) rfl
theorem kw_97 : Cond.initialized "java/lang/System" ∈ hx_all := kt_g (kt_1 (List.mem_of_getElem? (i := 4) rfl)) rfl
theorem kw_98 : Cond.initialized "SmallCourt$Books" ∈ hx_all := kt_g (kt_1 (List.mem_of_getElem? (i := 5) rfl)) rfl
theorem kw_99 : Cond.initialized "SmallCourt$Payments" ∈ hx_all := kt_g (kt_1 (List.mem_of_getElem? (i := 6) rfl)) rfl
theorem kw_100 : Cond.initialized "SmallCourt$Plan" ∈ hx_all := kt_g (kt_1 (List.mem_of_getElem? (i := 7) rfl)) rfl
theorem kw_101 : Cond.initialized "SmallCourt$Rings" ∈ hx_all := kt_g (kt_1 (List.mem_of_getElem? (i := 8) rfl)) rfl
theorem kw_102 : Cond.initialized "SmallCourt$Walk" ∈ hx_all := kt_g (kt_1 (List.mem_of_getElem? (i := 9) rfl)) rfl
theorem kw_103 : Cond.initialized "SmallCourtModel" ∈ hx_all := kt_g (kt_1 (List.mem_of_getElem? (i := 10) rfl)) rfl
theorem kw_104 : Cond.initialized "java/lang/String" ∈ hx_all := kt_g (kt_1 (List.mem_of_getElem? (i := 11) rfl)) rfl
theorem kw_105 : Cond.initialized "java/lang/StringLatin1" ∈ hx_all := kt_g (kt_1 (List.mem_of_getElem? (i := 12) rfl)) rfl
theorem kw_106 : Cond.initialized "jdk/internal/util/Preconditions" ∈ hx_all := kt_g (kt_1 (List.mem_of_getElem? (i := 13) rfl)) rfl
theorem kw_108 : Cond.initialized "SmallCourt$Person" ∈ hx_all := kt_g (kt_1 (List.mem_of_getElem? (i := 15) rfl)) rfl
theorem kw_109 : Cond.initialized "java/lang/Math" ∈ hx_all := kt_g (kt_1 (List.mem_of_getElem? (i := 16) rfl)) rfl
theorem kw_110 : Cond.initialized "SmallCourt$Claim" ∈ hx_all := kt_g (kt_1 (List.mem_of_getElem? (i := 17) rfl)) rfl
theorem kw_111 : Cond.classLink "SmallCourtLaw" 7 "SmallCourt" ∈ hx_all := kt_g (kt_1 (List.mem_of_getElem? (i := 18) rfl)) rfl
theorem kw_112 : Cond.instantiable "SmallCourt" 20 ∈ hx_all := kt_g (kt_1 (List.mem_of_getElem? (i := 19) rfl)) rfl
theorem kw_113 : Cond.methodLink "SmallCourtLaw" 9 yX9_init ∈ hx_all := kt_g (kt_1 (List.mem_of_getElem? (i := 20) rfl)) rfl
theorem kw_114 : Cond.instanceMethod yX9_init ∈ hx_all := kt_g (kt_1 (List.mem_of_getElem? (i := 21) rfl)) rfl
theorem kw_115 : Cond.code yX9_init cX9_init 1 none ∈ hx_all := kt_g (kt_1 (List.mem_of_getElem? (i := 22) rfl)) rfl
theorem kw_116 : Cond.methodLink "SmallCourt" 3 Lib.objectInit ∈ hx_all := kt_g (kt_1 (List.mem_of_getElem? (i := 23) rfl)) rfl
theorem kw_117 : Cond.instanceMethod Lib.objectInit ∈ hx_all := kt_g (kt_1 (List.mem_of_getElem? (i := 24) rfl)) rfl
theorem kw_118 : Cond.code Lib.objectInit ⟨#[0xb1]⟩ 1 none ∈ hx_all := kt_g (kt_1 (List.mem_of_getElem? (i := 25) rfl)) rfl
theorem kw_119 : Cond.classLink "SmallCourt" 13 "SmallCourt$Reader" ∈ hx_all := kt_g (kt_1 (List.mem_of_getElem? (i := 26) rfl)) rfl
theorem kw_120 : Cond.instantiable "SmallCourt$Reader" 7 ∈ hx_all := kt_g (kt_1 (List.mem_of_getElem? (i := 27) rfl)) rfl
theorem kw_121 : Cond.methodLinkNest "SmallCourt" 15 yX6_init "SmallCourt" ∈ lw_tbl := kt_1 (List.mem_of_getElem? (i := 28) rfl)
theorem kw_122 : Cond.instanceMethod yX6_init ∈ hx_all := kt_g (kt_1 (List.mem_of_getElem? (i := 29) rfl)) rfl
theorem kw_123 : Cond.code yX6_init cX6_init 1 none ∈ hx_all := kt_g (kt_1 (List.mem_of_getElem? (i := 30) rfl)) rfl
theorem kw_124 : Cond.methodLink "SmallCourt$Reader" 3 Lib.objectInit ∈ hx_all := kt_g (kt_1 (List.mem_of_getElem? (i := 31) rfl)) rfl
theorem kw_125 : Cond.fieldLink "SmallCourt$Reader" 9 "SmallCourt$Reader" "text" "[B" ∈ hx_all := kt_g (kt_1 (List.mem_of_getElem? (i := 32) rfl)) rfl
theorem kw_126 : Cond.fieldLink "SmallCourt$Reader" 15 "SmallCourt$Reader" "length" "I" ∈ hx_all := kt_g (kt_1 (List.mem_of_getElem? (i := 33) rfl)) rfl
theorem kw_127 : Cond.fieldLink "SmallCourt$Reader" 19 "SmallCourt$Reader" "at" "I" ∈ hx_all := kt_g (kt_1 (List.mem_of_getElem? (i := 34) rfl)) rfl
theorem kw_128 : Cond.fieldLink "SmallCourt$Reader" 22 "SmallCourt$Reader" "fault" "I" ∈ hx_all := kt_g (kt_1 (List.mem_of_getElem? (i := 35) rfl)) rfl
theorem kw_129 : Cond.fieldLink "SmallCourt$Reader" 25 "SmallCourt$Reader" "toldOnce" "I" ∈ hx_all := kt_g (kt_1 (List.mem_of_getElem? (i := 36) rfl)) rfl
theorem kw_130 : Cond.fieldLink "SmallCourt$Reader" 28 "SmallCourt$Reader" "terms" "I" ∈ hx_all := kt_g (kt_1 (List.mem_of_getElem? (i := 37) rfl)) rfl
theorem kw_131 : Cond.fieldLink "SmallCourt$Reader" 31 "SmallCourt$Reader" "into" "LSmallCourt$Act;" ∈ hx_all := kt_g (kt_1 (List.mem_of_getElem? (i := 38) rfl)) rfl
theorem kw_132 : Cond.lays "SmallCourt$Reader" "SmallCourt$Reader" "text" "[B" ∈ hx_all := kt_g (kt_1 (List.mem_of_getElem? (i := 39) rfl)) rfl
theorem kw_134 : Cond.lays "SmallCourt$Reader" "SmallCourt$Reader" "length" "I" ∈ hx_all := kt_g (kt_1 (List.mem_of_getElem? (i := 41) rfl)) rfl
theorem kw_136 : Cond.lays "SmallCourt$Reader" "SmallCourt$Reader" "at" "I" ∈ hx_all := kt_g (kt_1 (List.mem_of_getElem? (i := 43) rfl)) rfl
theorem kw_138 : Cond.lays "SmallCourt$Reader" "SmallCourt$Reader" "fault" "I" ∈ hx_all := kt_g (kt_1 (List.mem_of_getElem? (i := 45) rfl)) rfl
theorem kw_140 : Cond.lays "SmallCourt$Reader" "SmallCourt$Reader" "toldOnce" "I" ∈ hx_all := kt_g (kt_1 (List.mem_of_getElem? (i := 47) rfl)) rfl
theorem kw_142 : Cond.lays "SmallCourt$Reader" "SmallCourt$Reader" "terms" "I" ∈ hx_all := kt_g (kt_1 (List.mem_of_getElem? (i := 49) rfl)) rfl
theorem kw_144 : Cond.lays "SmallCourt$Reader" "SmallCourt$Reader" "into" "LSmallCourt$Act;" ∈ hx_all := kt_g (kt_1 (List.mem_of_getElem? (i := 51) rfl)) rfl
theorem kw_147 : Cond.arrayClass .byte ∈ hx_all := kt_g (kt_1 (List.mem_of_getElem? (i := 54) rfl)) rfl
theorem kw_148 : Cond.classLink "SmallCourt" 20 "SmallCourt$Act" ∈ hx_all := kt_g (kt_1 (List.mem_of_getElem? (i := 55) rfl)) rfl
theorem kw_149 : Cond.instantiable "SmallCourt$Act" 5 ∈ hx_all := kt_g (kt_1 (List.mem_of_getElem? (i := 56) rfl)) rfl
theorem kw_150 : Cond.methodLink "SmallCourt" 22 yX0_init ∈ hx_all := kt_g (kt_1 (List.mem_of_getElem? (i := 57) rfl)) rfl
theorem kw_151 : Cond.instanceMethod yX0_init ∈ hx_all := kt_g (kt_1 (List.mem_of_getElem? (i := 58) rfl)) rfl
theorem kw_152 : Cond.code yX0_init cX0_init 3 none ∈ hx_all := kt_g (kt_1 (List.mem_of_getElem? (i := 59) rfl)) rfl
theorem kw_153 : Cond.methodLink "SmallCourt$Act" 3 Lib.objectInit ∈ hx_all := kt_g (kt_1 (List.mem_of_getElem? (i := 60) rfl)) rfl
theorem kw_154 : Cond.fieldLinkNest "SmallCourt$Act" 25 "SmallCourt" "WITHOUT" "[I" "SmallCourt" ∈ lw_tbl := kt_1 (List.mem_of_getElem? (i := 61) rfl)
theorem kw_156 : Cond.methodLink "SmallCourt$Act" 28 arraycopyName ∈ hx_all := kt_g (kt_1 (List.mem_of_getElem? (i := 63) rfl)) rfl
theorem kw_157 : Cond.static arraycopyName ∈ hx_all := kt_g (kt_1 (List.mem_of_getElem? (i := 64) rfl)) rfl
theorem kw_158 : Cond.native arraycopyName ∈ hx_all := kt_g (kt_1 (List.mem_of_getElem? (i := 65) rfl)) rfl
theorem kw_159 : Cond.methodLink "SmallCourt$Act" 34 yX0_term ∈ hx_all := kt_g (kt_1 (List.mem_of_getElem? (i := 66) rfl)) rfl
theorem kw_160 : Cond.static yX0_term ∈ hx_all := kt_g (kt_1 (List.mem_of_getElem? (i := 67) rfl)) rfl
theorem kw_161 : Cond.code yX0_term cX0_term 4 (some .int) ∈ hx_all := kt_g (kt_1 (List.mem_of_getElem? (i := 68) rfl)) rfl
theorem kw_162 : Cond.fieldLink "SmallCourt$Act" 18 "SmallCourt$Act" "number" "I" ∈ hx_all := kt_g (kt_1 (List.mem_of_getElem? (i := 69) rfl)) rfl
theorem kw_163 : Cond.fieldLink "SmallCourt" 112 "SmallCourt$Act" "number" "I" ∈ hx_all := kt_g (kt_1 (List.mem_of_getElem? (i := 70) rfl)) rfl
theorem kw_164 : Cond.fieldLink "SmallCourt$Act" 22 "SmallCourt$Act" "day" "I" ∈ hx_all := kt_g (kt_1 (List.mem_of_getElem? (i := 71) rfl)) rfl
theorem kw_165 : Cond.fieldLink "SmallCourt" 122 "SmallCourt$Act" "day" "I" ∈ hx_all := kt_g (kt_1 (List.mem_of_getElem? (i := 72) rfl)) rfl
theorem kw_166 : Cond.fieldLink "SmallCourt$Act" 9 "SmallCourt$Act" "told" "[I" ∈ hx_all := kt_g (kt_1 (List.mem_of_getElem? (i := 73) rfl)) rfl
theorem kw_167 : Cond.fieldLink "SmallCourt$Claim" 51 "SmallCourt$Act" "told" "[I" ∈ hx_all := kt_g (kt_1 (List.mem_of_getElem? (i := 74) rfl)) rfl
theorem kw_168 : Cond.fieldLink "SmallCourt$Person" 33 "SmallCourt$Act" "told" "[I" ∈ hx_all := kt_g (kt_1 (List.mem_of_getElem? (i := 75) rfl)) rfl
theorem kw_169 : Cond.fieldLink "SmallCourt$Plan" 52 "SmallCourt$Act" "told" "[I" ∈ hx_all := kt_g (kt_1 (List.mem_of_getElem? (i := 76) rfl)) rfl
theorem kw_170 : Cond.fieldLink "SmallCourt" 119 "SmallCourt$Act" "told" "[I" ∈ hx_all := kt_g (kt_1 (List.mem_of_getElem? (i := 77) rfl)) rfl
theorem kw_171 : Cond.fieldLink "SmallCourt$Reader" 89 "SmallCourt$Act" "told" "[I" ∈ hx_all := kt_g (kt_1 (List.mem_of_getElem? (i := 78) rfl)) rfl
theorem kw_172 : Cond.fieldLink "SmallCourt$Act" 15 "SmallCourt$Act" "proof" "[I" ∈ hx_all := kt_g (kt_1 (List.mem_of_getElem? (i := 79) rfl)) rfl
theorem kw_173 : Cond.fieldLink "SmallCourt$Act" 38 "SmallCourt$Act" "proofLength" "I" ∈ hx_all := kt_g (kt_1 (List.mem_of_getElem? (i := 80) rfl)) rfl
theorem kw_174 : Cond.fieldLink "SmallCourt$Reader" 58 "SmallCourt$Act" "proofLength" "I" ∈ hx_all := kt_g (kt_1 (List.mem_of_getElem? (i := 81) rfl)) rfl
theorem kw_175 : Cond.laysFinal "SmallCourt$Act" "SmallCourt$Act" "number" "I" ∈ hx_all := kt_g (kt_1 (List.mem_of_getElem? (i := 82) rfl)) rfl
theorem kw_177 : Cond.laysFinal "SmallCourt$Act" "SmallCourt$Act" "day" "I" ∈ hx_all := kt_g (kt_1 (List.mem_of_getElem? (i := 84) rfl)) rfl
theorem kw_179 : Cond.laysFinal "SmallCourt$Act" "SmallCourt$Act" "told" "[I" ∈ hx_all := kt_g (kt_1 (List.mem_of_getElem? (i := 86) rfl)) rfl
theorem kw_181 : Cond.laysFinal "SmallCourt$Act" "SmallCourt$Act" "proof" "[I" ∈ hx_all := kt_g (kt_1 (List.mem_of_getElem? (i := 88) rfl)) rfl
theorem kw_183 : Cond.lays "SmallCourt$Act" "SmallCourt$Act" "proofLength" "I" ∈ hx_all := kt_g (kt_1 (List.mem_of_getElem? (i := 90) rfl)) rfl
theorem kw_186 : Cond.arrayClass .int ∈ hx_all := kt_g (kt_1 (List.mem_of_getElem? (i := 93) rfl)) rfl
theorem kw_187 : Cond.arrayOver (.object "SmallCourt$Act") ∈ lw_tbl := kt_1 (List.mem_of_getElem? (i := 94) rfl)
theorem kw_188 : Cond.classLink "SmallCourt" 33 "SmallCourt$Person" ∈ hx_all := kt_g (kt_1 (List.mem_of_getElem? (i := 95) rfl)) rfl
theorem kw_189 : Cond.arrayOver (.object "SmallCourt$Person") ∈ lw_tbl := kt_1 (List.mem_of_getElem? (i := 96) rfl)
theorem kw_190 : Cond.classLink "SmallCourt" 39 "SmallCourt$Books" ∈ hx_all := kt_g (kt_1 (List.mem_of_getElem? (i := 97) rfl)) rfl
theorem kw_191 : Cond.instantiable "SmallCourt$Books" 8 ∈ hx_all := kt_g (kt_1 (List.mem_of_getElem? (i := 98) rfl)) rfl
theorem kw_192 : Cond.methodLinkNest "SmallCourt" 41 yX1_init "SmallCourt" ∈ lw_tbl := kt_1 (List.mem_of_getElem? (i := 99) rfl)
theorem kw_193 : Cond.instanceMethod yX1_init ∈ hx_all := kt_g (kt_1 (List.mem_of_getElem? (i := 100) rfl)) rfl
theorem kw_194 : Cond.code yX1_init cX1_init 1 none ∈ hx_all := kt_g (kt_1 (List.mem_of_getElem? (i := 101) rfl)) rfl
theorem kw_195 : Cond.methodLink "SmallCourt$Books" 3 Lib.objectInit ∈ hx_all := kt_g (kt_1 (List.mem_of_getElem? (i := 102) rfl)) rfl
theorem kw_196 : Cond.fieldLink "SmallCourt$Books" 34 "SmallCourt$Books" "count" "I" ∈ hx_all := kt_g (kt_1 (List.mem_of_getElem? (i := 103) rfl)) rfl
theorem kw_197 : Cond.fieldLink "SmallCourt" 158 "SmallCourt$Books" "count" "I" ∈ hx_all := kt_g (kt_1 (List.mem_of_getElem? (i := 104) rfl)) rfl
theorem kw_198 : Cond.fieldLink "SmallCourt$Books" 9 "SmallCourt$Books" "owner" "[I" ∈ hx_all := kt_g (kt_1 (List.mem_of_getElem? (i := 105) rfl)) rfl
theorem kw_199 : Cond.fieldLink "SmallCourt$Books" 15 "SmallCourt$Books" "with" "[I" ∈ hx_all := kt_g (kt_1 (List.mem_of_getElem? (i := 106) rfl)) rfl
theorem kw_200 : Cond.fieldLink "SmallCourt$Books" 18 "SmallCourt$Books" "day" "[I" ∈ hx_all := kt_g (kt_1 (List.mem_of_getElem? (i := 107) rfl)) rfl
theorem kw_201 : Cond.fieldLink "SmallCourt$Books" 21 "SmallCourt$Books" "kind" "[I" ∈ hx_all := kt_g (kt_1 (List.mem_of_getElem? (i := 108) rfl)) rfl
theorem kw_202 : Cond.fieldLink "SmallCourt$Books" 24 "SmallCourt$Books" "sum" "[I" ∈ hx_all := kt_g (kt_1 (List.mem_of_getElem? (i := 109) rfl)) rfl
theorem kw_203 : Cond.fieldLink "SmallCourt$Books" 27 "SmallCourt$Books" "byDay" "[I" ∈ hx_all := kt_g (kt_1 (List.mem_of_getElem? (i := 110) rfl)) rfl
theorem kw_204 : Cond.fieldLink "SmallCourt$Books" 30 "SmallCourt$Books" "taken" "[Z" ∈ hx_all := kt_g (kt_1 (List.mem_of_getElem? (i := 111) rfl)) rfl
theorem kw_205 : Cond.lays "SmallCourt$Books" "SmallCourt$Books" "count" "I" ∈ hx_all := kt_g (kt_1 (List.mem_of_getElem? (i := 112) rfl)) rfl
theorem kw_207 : Cond.laysFinal "SmallCourt$Books" "SmallCourt$Books" "owner" "[I" ∈ hx_all := kt_g (kt_1 (List.mem_of_getElem? (i := 114) rfl)) rfl
theorem kw_209 : Cond.laysFinal "SmallCourt$Books" "SmallCourt$Books" "with" "[I" ∈ hx_all := kt_g (kt_1 (List.mem_of_getElem? (i := 116) rfl)) rfl
theorem kw_211 : Cond.laysFinal "SmallCourt$Books" "SmallCourt$Books" "day" "[I" ∈ hx_all := kt_g (kt_1 (List.mem_of_getElem? (i := 118) rfl)) rfl
theorem kw_213 : Cond.laysFinal "SmallCourt$Books" "SmallCourt$Books" "kind" "[I" ∈ hx_all := kt_g (kt_1 (List.mem_of_getElem? (i := 120) rfl)) rfl
theorem kw_215 : Cond.laysFinal "SmallCourt$Books" "SmallCourt$Books" "sum" "[I" ∈ hx_all := kt_g (kt_1 (List.mem_of_getElem? (i := 122) rfl)) rfl
theorem kw_217 : Cond.laysFinal "SmallCourt$Books" "SmallCourt$Books" "byDay" "[I" ∈ hx_all := kt_g (kt_1 (List.mem_of_getElem? (i := 124) rfl)) rfl
theorem kw_219 : Cond.laysFinal "SmallCourt$Books" "SmallCourt$Books" "taken" "[Z" ∈ hx_all := kt_g (kt_1 (List.mem_of_getElem? (i := 126) rfl)) rfl
theorem kw_222 : Cond.arrayClass .boolean ∈ hx_all := kt_g (kt_1 (List.mem_of_getElem? (i := 129) rfl)) rfl
theorem kw_223 : Cond.classLink "SmallCourt" 46 "SmallCourt$Claim" ∈ hx_all := kt_g (kt_1 (List.mem_of_getElem? (i := 130) rfl)) rfl
theorem kw_224 : Cond.arrayOver (.object "SmallCourt$Claim") ∈ lw_tbl := kt_1 (List.mem_of_getElem? (i := 131) rfl)
theorem kw_225 : Cond.classLink "SmallCourt" 55 "SmallCourt$Payments" ∈ hx_all := kt_g (kt_1 (List.mem_of_getElem? (i := 132) rfl)) rfl
theorem kw_226 : Cond.instantiable "SmallCourt$Payments" 6 ∈ hx_all := kt_g (kt_1 (List.mem_of_getElem? (i := 133) rfl)) rfl
theorem kw_227 : Cond.methodLinkNest "SmallCourt" 57 yX3_init "SmallCourt" ∈ lw_tbl := kt_1 (List.mem_of_getElem? (i := 134) rfl)
theorem kw_228 : Cond.instanceMethod yX3_init ∈ hx_all := kt_g (kt_1 (List.mem_of_getElem? (i := 135) rfl)) rfl
theorem kw_229 : Cond.code yX3_init cX3_init 1 none ∈ hx_all := kt_g (kt_1 (List.mem_of_getElem? (i := 136) rfl)) rfl
theorem kw_230 : Cond.methodLink "SmallCourt$Payments" 3 Lib.objectInit ∈ hx_all := kt_g (kt_1 (List.mem_of_getElem? (i := 137) rfl)) rfl
theorem kw_231 : Cond.fieldLink "SmallCourt$Payments" 27 "SmallCourt$Payments" "count" "I" ∈ hx_all := kt_g (kt_1 (List.mem_of_getElem? (i := 138) rfl)) rfl
theorem kw_232 : Cond.fieldLink "SmallCourt" 278 "SmallCourt$Payments" "count" "I" ∈ hx_all := kt_g (kt_1 (List.mem_of_getElem? (i := 139) rfl)) rfl
theorem kw_233 : Cond.fieldLink "SmallCourt$Payments" 9 "SmallCourt$Payments" "struck" "[I" ∈ hx_all := kt_g (kt_1 (List.mem_of_getElem? (i := 140) rfl)) rfl
theorem kw_234 : Cond.fieldLink "SmallCourt" 286 "SmallCourt$Payments" "struck" "[I" ∈ hx_all := kt_g (kt_1 (List.mem_of_getElem? (i := 141) rfl)) rfl
theorem kw_235 : Cond.fieldLink "SmallCourt$Payments" 15 "SmallCourt$Payments" "of" "[I" ∈ hx_all := kt_g (kt_1 (List.mem_of_getElem? (i := 142) rfl)) rfl
theorem kw_236 : Cond.fieldLink "SmallCourt$Payments" 18 "SmallCourt$Payments" "day" "[I" ∈ hx_all := kt_g (kt_1 (List.mem_of_getElem? (i := 143) rfl)) rfl
theorem kw_237 : Cond.fieldLink "SmallCourt$Payments" 21 "SmallCourt$Payments" "known" "[I" ∈ hx_all := kt_g (kt_1 (List.mem_of_getElem? (i := 144) rfl)) rfl
theorem kw_238 : Cond.fieldLink "SmallCourt$Payments" 24 "SmallCourt$Payments" "sum" "[I" ∈ hx_all := kt_g (kt_1 (List.mem_of_getElem? (i := 145) rfl)) rfl
theorem kw_239 : Cond.lays "SmallCourt$Payments" "SmallCourt$Payments" "count" "I" ∈ hx_all := kt_g (kt_1 (List.mem_of_getElem? (i := 146) rfl)) rfl
theorem kw_241 : Cond.laysFinal "SmallCourt$Payments" "SmallCourt$Payments" "struck" "[I" ∈ hx_all := kt_g (kt_1 (List.mem_of_getElem? (i := 148) rfl)) rfl
theorem kw_243 : Cond.laysFinal "SmallCourt$Payments" "SmallCourt$Payments" "of" "[I" ∈ hx_all := kt_g (kt_1 (List.mem_of_getElem? (i := 150) rfl)) rfl
theorem kw_245 : Cond.laysFinal "SmallCourt$Payments" "SmallCourt$Payments" "day" "[I" ∈ hx_all := kt_g (kt_1 (List.mem_of_getElem? (i := 152) rfl)) rfl
theorem kw_247 : Cond.laysFinal "SmallCourt$Payments" "SmallCourt$Payments" "known" "[I" ∈ hx_all := kt_g (kt_1 (List.mem_of_getElem? (i := 154) rfl)) rfl
theorem kw_249 : Cond.laysFinal "SmallCourt$Payments" "SmallCourt$Payments" "sum" "[I" ∈ hx_all := kt_g (kt_1 (List.mem_of_getElem? (i := 156) rfl)) rfl
theorem kw_252 : Cond.classLink "SmallCourt" 69 "SmallCourt$Plan" ∈ hx_all := kt_g (kt_1 (List.mem_of_getElem? (i := 159) rfl)) rfl
theorem kw_253 : Cond.instantiable "SmallCourt$Plan" 13 ∈ hx_all := kt_g (kt_1 (List.mem_of_getElem? (i := 160) rfl)) rfl
theorem kw_254 : Cond.methodLinkNest "SmallCourt" 71 yX5_init "SmallCourt" ∈ lw_tbl := kt_1 (List.mem_of_getElem? (i := 161) rfl)
theorem kw_255 : Cond.instanceMethod yX5_init ∈ hx_all := kt_g (kt_1 (List.mem_of_getElem? (i := 162) rfl)) rfl
theorem kw_256 : Cond.code yX5_init cX5_init 1 none ∈ hx_all := kt_g (kt_1 (List.mem_of_getElem? (i := 163) rfl)) rfl
theorem kw_257 : Cond.methodLink "SmallCourt$Plan" 3 Lib.objectInit ∈ hx_all := kt_g (kt_1 (List.mem_of_getElem? (i := 164) rfl)) rfl
theorem kw_258 : Cond.fieldLink "SmallCourt$Plan" 33 "SmallCourt$Plan" "open" "I" ∈ hx_all := kt_g (kt_1 (List.mem_of_getElem? (i := 165) rfl)) rfl
theorem kw_259 : Cond.fieldLink "SmallCourt" 326 "SmallCourt$Plan" "open" "I" ∈ hx_all := kt_g (kt_1 (List.mem_of_getElem? (i := 166) rfl)) rfl
theorem kw_260 : Cond.fieldLink "SmallCourt$Plan" 81 "SmallCourt$Plan" "told" "I" ∈ hx_all := kt_g (kt_1 (List.mem_of_getElem? (i := 167) rfl)) rfl
theorem kw_261 : Cond.fieldLink "SmallCourt" 337 "SmallCourt$Plan" "told" "I" ∈ hx_all := kt_g (kt_1 (List.mem_of_getElem? (i := 168) rfl)) rfl
theorem kw_262 : Cond.fieldLink "SmallCourt$Plan" 9 "SmallCourt$Plan" "claims" "[I" ∈ hx_all := kt_g (kt_1 (List.mem_of_getElem? (i := 169) rfl)) rfl
theorem kw_263 : Cond.fieldLink "SmallCourt" 339 "SmallCourt$Plan" "claims" "[I" ∈ hx_all := kt_g (kt_1 (List.mem_of_getElem? (i := 170) rfl)) rfl
theorem kw_264 : Cond.fieldLink "SmallCourt$Plan" 15 "SmallCourt$Plan" "weekly" "[I" ∈ hx_all := kt_g (kt_1 (List.mem_of_getElem? (i := 171) rfl)) rfl
theorem kw_265 : Cond.fieldLink "SmallCourt" 341 "SmallCourt$Plan" "weekly" "[I" ∈ hx_all := kt_g (kt_1 (List.mem_of_getElem? (i := 172) rfl)) rfl
theorem kw_266 : Cond.fieldLink "SmallCourt$Plan" 18 "SmallCourt$Plan" "weeks" "[I" ∈ hx_all := kt_g (kt_1 (List.mem_of_getElem? (i := 173) rfl)) rfl
theorem kw_267 : Cond.fieldLink "SmallCourt" 343 "SmallCourt$Plan" "weeks" "[I" ∈ hx_all := kt_g (kt_1 (List.mem_of_getElem? (i := 174) rfl)) rfl
theorem kw_268 : Cond.fieldLink "SmallCourt$Plan" 21 "SmallCourt$Plan" "opened" "[I" ∈ hx_all := kt_g (kt_1 (List.mem_of_getElem? (i := 175) rfl)) rfl
theorem kw_269 : Cond.fieldLink "SmallCourt$Plan" 24 "SmallCourt$Plan" "rest" "[I" ∈ hx_all := kt_g (kt_1 (List.mem_of_getElem? (i := 176) rfl)) rfl
theorem kw_270 : Cond.fieldLink "SmallCourt$Plan" 27 "SmallCourt$Plan" "least" "[I" ∈ hx_all := kt_g (kt_1 (List.mem_of_getElem? (i := 177) rfl)) rfl
theorem kw_271 : Cond.fieldLink "SmallCourt$Plan" 30 "SmallCourt$Plan" "tried" "[I" ∈ hx_all := kt_g (kt_1 (List.mem_of_getElem? (i := 178) rfl)) rfl
theorem kw_272 : Cond.fieldLink "SmallCourt$Plan" 37 "SmallCourt$Plan" "unit" "I" ∈ hx_all := kt_g (kt_1 (List.mem_of_getElem? (i := 179) rfl)) rfl
theorem kw_273 : Cond.fieldLink "SmallCourt$Plan" 40 "SmallCourt$Plan" "means" "I" ∈ hx_all := kt_g (kt_1 (List.mem_of_getElem? (i := 180) rfl)) rfl
theorem kw_274 : Cond.fieldLink "SmallCourt$Plan" 68 "SmallCourt$Plan" "bestLast" "I" ∈ hx_all := kt_g (kt_1 (List.mem_of_getElem? (i := 181) rfl)) rfl
theorem kw_275 : Cond.fieldLink "SmallCourt$Plan" 71 "SmallCourt$Plan" "bestAll" "I" ∈ hx_all := kt_g (kt_1 (List.mem_of_getElem? (i := 182) rfl)) rfl
theorem kw_276 : Cond.lays "SmallCourt$Plan" "SmallCourt$Plan" "open" "I" ∈ hx_all := kt_g (kt_1 (List.mem_of_getElem? (i := 183) rfl)) rfl
theorem kw_278 : Cond.lays "SmallCourt$Plan" "SmallCourt$Plan" "told" "I" ∈ hx_all := kt_g (kt_1 (List.mem_of_getElem? (i := 185) rfl)) rfl
theorem kw_280 : Cond.laysFinal "SmallCourt$Plan" "SmallCourt$Plan" "claims" "[I" ∈ hx_all := kt_g (kt_1 (List.mem_of_getElem? (i := 187) rfl)) rfl
theorem kw_282 : Cond.laysFinal "SmallCourt$Plan" "SmallCourt$Plan" "weekly" "[I" ∈ hx_all := kt_g (kt_1 (List.mem_of_getElem? (i := 189) rfl)) rfl
theorem kw_284 : Cond.laysFinal "SmallCourt$Plan" "SmallCourt$Plan" "weeks" "[I" ∈ hx_all := kt_g (kt_1 (List.mem_of_getElem? (i := 191) rfl)) rfl
theorem kw_286 : Cond.laysFinal "SmallCourt$Plan" "SmallCourt$Plan" "opened" "[I" ∈ hx_all := kt_g (kt_1 (List.mem_of_getElem? (i := 193) rfl)) rfl
theorem kw_288 : Cond.laysFinal "SmallCourt$Plan" "SmallCourt$Plan" "rest" "[I" ∈ hx_all := kt_g (kt_1 (List.mem_of_getElem? (i := 195) rfl)) rfl
theorem kw_290 : Cond.laysFinal "SmallCourt$Plan" "SmallCourt$Plan" "least" "[I" ∈ hx_all := kt_g (kt_1 (List.mem_of_getElem? (i := 197) rfl)) rfl
theorem kw_292 : Cond.laysFinal "SmallCourt$Plan" "SmallCourt$Plan" "tried" "[I" ∈ hx_all := kt_g (kt_1 (List.mem_of_getElem? (i := 199) rfl)) rfl
theorem kw_294 : Cond.lays "SmallCourt$Plan" "SmallCourt$Plan" "unit" "I" ∈ hx_all := kt_g (kt_1 (List.mem_of_getElem? (i := 201) rfl)) rfl
theorem kw_296 : Cond.lays "SmallCourt$Plan" "SmallCourt$Plan" "means" "I" ∈ hx_all := kt_g (kt_1 (List.mem_of_getElem? (i := 203) rfl)) rfl
theorem kw_298 : Cond.lays "SmallCourt$Plan" "SmallCourt$Plan" "bestLast" "I" ∈ hx_all := kt_g (kt_1 (List.mem_of_getElem? (i := 205) rfl)) rfl
theorem kw_300 : Cond.lays "SmallCourt$Plan" "SmallCourt$Plan" "bestAll" "I" ∈ hx_all := kt_g (kt_1 (List.mem_of_getElem? (i := 207) rfl)) rfl
theorem kw_303 : Cond.classLink "SmallCourt" 76 "SmallCourt$Rings" ∈ hx_all := kt_g (kt_1 (List.mem_of_getElem? (i := 210) rfl)) rfl
theorem kw_304 : Cond.instantiable "SmallCourt$Rings" 8 ∈ hx_all := kt_g (kt_1 (List.mem_of_getElem? (i := 211) rfl)) rfl
theorem kw_305 : Cond.methodLinkNest "SmallCourt" 78 yX7_init "SmallCourt" ∈ lw_tbl := kt_1 (List.mem_of_getElem? (i := 212) rfl)
theorem kw_306 : Cond.instanceMethod yX7_init ∈ hx_all := kt_g (kt_1 (List.mem_of_getElem? (i := 213) rfl)) rfl
theorem kw_307 : Cond.code yX7_init cX7_init 1 none ∈ hx_all := kt_g (kt_1 (List.mem_of_getElem? (i := 214) rfl)) rfl
theorem kw_308 : Cond.methodLink "SmallCourt$Rings" 3 Lib.objectInit ∈ hx_all := kt_g (kt_1 (List.mem_of_getElem? (i := 215) rfl)) rfl
theorem kw_309 : Cond.fieldLink "SmallCourt$Rings" 9 "SmallCourt$Rings" "count" "I" ∈ hx_all := kt_g (kt_1 (List.mem_of_getElem? (i := 216) rfl)) rfl
theorem kw_310 : Cond.fieldLink "SmallCourt" 374 "SmallCourt$Rings" "count" "I" ∈ hx_all := kt_g (kt_1 (List.mem_of_getElem? (i := 217) rfl)) rfl
theorem kw_311 : Cond.fieldLink "SmallCourt$Rings" 31 "SmallCourt$Rings" "bestLength" "I" ∈ hx_all := kt_g (kt_1 (List.mem_of_getElem? (i := 218) rfl)) rfl
theorem kw_312 : Cond.fieldLink "SmallCourt" 361 "SmallCourt$Rings" "bestLength" "I" ∈ hx_all := kt_g (kt_1 (List.mem_of_getElem? (i := 219) rfl)) rfl
theorem kw_313 : Cond.fieldLink "SmallCourt$Rings" 34 "SmallCourt$Rings" "bestLeast" "I" ∈ hx_all := kt_g (kt_1 (List.mem_of_getElem? (i := 220) rfl)) rfl
theorem kw_314 : Cond.fieldLink "SmallCourt" 364 "SmallCourt$Rings" "bestLeast" "I" ∈ hx_all := kt_g (kt_1 (List.mem_of_getElem? (i := 221) rfl)) rfl
theorem kw_315 : Cond.fieldLink "SmallCourt$Rings" 15 "SmallCourt$Rings" "leasts" "[I" ∈ hx_all := kt_g (kt_1 (List.mem_of_getElem? (i := 222) rfl)) rfl
theorem kw_316 : Cond.fieldLink "SmallCourt" 375 "SmallCourt$Rings" "leasts" "[I" ∈ hx_all := kt_g (kt_1 (List.mem_of_getElem? (i := 223) rfl)) rfl
theorem kw_317 : Cond.fieldLink "SmallCourt$Rings" 28 "SmallCourt$Rings" "size" "I" ∈ hx_all := kt_g (kt_1 (List.mem_of_getElem? (i := 224) rfl)) rfl
theorem kw_318 : Cond.fieldLink "SmallCourt$Rings" 19 "SmallCourt$Rings" "owes" "[I" ∈ hx_all := kt_g (kt_1 (List.mem_of_getElem? (i := 225) rfl)) rfl
theorem kw_319 : Cond.fieldLink "SmallCourt$Rings" 22 "SmallCourt$Rings" "ring" "[I" ∈ hx_all := kt_g (kt_1 (List.mem_of_getElem? (i := 226) rfl)) rfl
theorem kw_320 : Cond.fieldLink "SmallCourt$Rings" 25 "SmallCourt$Rings" "best" "[I" ∈ hx_all := kt_g (kt_1 (List.mem_of_getElem? (i := 227) rfl)) rfl
theorem kw_321 : Cond.lays "SmallCourt$Rings" "SmallCourt$Rings" "count" "I" ∈ hx_all := kt_g (kt_1 (List.mem_of_getElem? (i := 228) rfl)) rfl
theorem kw_323 : Cond.lays "SmallCourt$Rings" "SmallCourt$Rings" "bestLength" "I" ∈ hx_all := kt_g (kt_1 (List.mem_of_getElem? (i := 230) rfl)) rfl
theorem kw_325 : Cond.lays "SmallCourt$Rings" "SmallCourt$Rings" "bestLeast" "I" ∈ hx_all := kt_g (kt_1 (List.mem_of_getElem? (i := 232) rfl)) rfl
theorem kw_327 : Cond.laysFinal "SmallCourt$Rings" "SmallCourt$Rings" "leasts" "[I" ∈ hx_all := kt_g (kt_1 (List.mem_of_getElem? (i := 234) rfl)) rfl
theorem kw_329 : Cond.lays "SmallCourt$Rings" "SmallCourt$Rings" "size" "I" ∈ hx_all := kt_g (kt_1 (List.mem_of_getElem? (i := 236) rfl)) rfl
theorem kw_331 : Cond.laysFinal "SmallCourt$Rings" "SmallCourt$Rings" "owes" "[I" ∈ hx_all := kt_g (kt_1 (List.mem_of_getElem? (i := 238) rfl)) rfl
theorem kw_333 : Cond.laysFinal "SmallCourt$Rings" "SmallCourt$Rings" "ring" "[I" ∈ hx_all := kt_g (kt_2 (List.mem_of_getElem? (i := 0) rfl)) rfl
theorem kw_335 : Cond.laysFinal "SmallCourt$Rings" "SmallCourt$Rings" "best" "[I" ∈ hx_all := kt_g (kt_2 (List.mem_of_getElem? (i := 2) rfl)) rfl
theorem kw_338 : Cond.classLink "SmallCourt" 83 "SmallCourt$Walk" ∈ hx_all := kt_g (kt_2 (List.mem_of_getElem? (i := 5) rfl)) rfl
theorem kw_339 : Cond.instantiable "SmallCourt$Walk" 5 ∈ hx_all := kt_g (kt_2 (List.mem_of_getElem? (i := 6) rfl)) rfl
theorem kw_340 : Cond.methodLinkNest "SmallCourt" 85 yX8_init "SmallCourt" ∈ lw_tbl := kt_2 (List.mem_of_getElem? (i := 7) rfl)
theorem kw_341 : Cond.instanceMethod yX8_init ∈ hx_all := kt_g (kt_2 (List.mem_of_getElem? (i := 8) rfl)) rfl
theorem kw_342 : Cond.code yX8_init cX8_init 1 none ∈ hx_all := kt_g (kt_2 (List.mem_of_getElem? (i := 9) rfl)) rfl
theorem kw_343 : Cond.methodLink "SmallCourt$Walk" 3 Lib.objectInit ∈ hx_all := kt_g (kt_2 (List.mem_of_getElem? (i := 10) rfl)) rfl
theorem kw_344 : Cond.classLink "SmallCourt$Walk" 15 "SmallCourt$Claim" ∈ hx_all := kt_g (kt_2 (List.mem_of_getElem? (i := 11) rfl)) rfl
theorem kw_345 : Cond.fieldLink "SmallCourt$Walk" 24 "SmallCourt$Walk" "listed" "I" ∈ hx_all := kt_g (kt_2 (List.mem_of_getElem? (i := 12) rfl)) rfl
theorem kw_346 : Cond.fieldLink "SmallCourt" 381 "SmallCourt$Walk" "listed" "I" ∈ hx_all := kt_g (kt_2 (List.mem_of_getElem? (i := 13) rfl)) rfl
theorem kw_347 : Cond.fieldLink "SmallCourt$Walk" 47 "SmallCourt$Walk" "walked" "I" ∈ hx_all := kt_g (kt_2 (List.mem_of_getElem? (i := 14) rfl)) rfl
theorem kw_348 : Cond.fieldLink "SmallCourt" 391 "SmallCourt$Walk" "walked" "I" ∈ hx_all := kt_g (kt_2 (List.mem_of_getElem? (i := 15) rfl)) rfl
theorem kw_349 : Cond.fieldLink "SmallCourt$Walk" 9 "SmallCourt$Walk" "latest" "[I" ∈ hx_all := kt_g (kt_2 (List.mem_of_getElem? (i := 16) rfl)) rfl
theorem kw_350 : Cond.fieldLink "SmallCourt" 394 "SmallCourt$Walk" "latest" "[I" ∈ hx_all := kt_g (kt_2 (List.mem_of_getElem? (i := 17) rfl)) rfl
theorem kw_351 : Cond.fieldLink "SmallCourt$Walk" 17 "SmallCourt$Walk" "list" "[LSmallCourt$Claim;" ∈ hx_all := kt_g (kt_2 (List.mem_of_getElem? (i := 18) rfl)) rfl
theorem kw_352 : Cond.fieldLink "SmallCourt$Walk" 21 "SmallCourt$Walk" "left" "[I" ∈ hx_all := kt_g (kt_2 (List.mem_of_getElem? (i := 19) rfl)) rfl
theorem kw_353 : Cond.lays "SmallCourt$Walk" "SmallCourt$Walk" "listed" "I" ∈ hx_all := kt_g (kt_2 (List.mem_of_getElem? (i := 20) rfl)) rfl
theorem kw_355 : Cond.lays "SmallCourt$Walk" "SmallCourt$Walk" "walked" "I" ∈ hx_all := kt_g (kt_2 (List.mem_of_getElem? (i := 22) rfl)) rfl
theorem kw_357 : Cond.laysFinal "SmallCourt$Walk" "SmallCourt$Walk" "latest" "[I" ∈ hx_all := kt_g (kt_2 (List.mem_of_getElem? (i := 24) rfl)) rfl
theorem kw_359 : Cond.laysFinal "SmallCourt$Walk" "SmallCourt$Walk" "list" "[LSmallCourt$Claim;" ∈ hx_all := kt_g (kt_2 (List.mem_of_getElem? (i := 26) rfl)) rfl
theorem kw_361 : Cond.laysFinal "SmallCourt$Walk" "SmallCourt$Walk" "left" "[I" ∈ hx_all := kt_g (kt_2 (List.mem_of_getElem? (i := 28) rfl)) rfl
theorem kw_364 : Cond.fieldLink "SmallCourt" 9 "SmallCourt" "tape" "[B" ∈ hx_all := kt_g (kt_2 (List.mem_of_getElem? (i := 31) rfl)) rfl
theorem kw_365 : Cond.fieldLink "SmallCourt" 98 "SmallCourt" "tapeLength" "I" ∈ hx_all := kt_g (kt_2 (List.mem_of_getElem? (i := 32) rfl)) rfl
theorem kw_366 : Cond.fieldLink "SmallCourt" 94 "SmallCourt" "now" "I" ∈ hx_all := kt_g (kt_2 (List.mem_of_getElem? (i := 33) rfl)) rfl
theorem kw_367 : Cond.fieldLink "SmallCourt" 16 "SmallCourt" "reader" "LSmallCourt$Reader;" ∈ hx_all := kt_g (kt_2 (List.mem_of_getElem? (i := 34) rfl)) rfl
theorem kw_368 : Cond.fieldLink "SmallCourt" 25 "SmallCourt" "without" "LSmallCourt$Act;" ∈ hx_all := kt_g (kt_2 (List.mem_of_getElem? (i := 35) rfl)) rfl
theorem kw_369 : Cond.fieldLink "SmallCourt" 29 "SmallCourt" "acts" "[LSmallCourt$Act;" ∈ hx_all := kt_g (kt_2 (List.mem_of_getElem? (i := 36) rfl)) rfl
theorem kw_370 : Cond.fieldLink "SmallCourt" 105 "SmallCourt" "actCount" "I" ∈ hx_all := kt_g (kt_2 (List.mem_of_getElem? (i := 37) rfl)) rfl
theorem kw_371 : Cond.fieldLink "SmallCourt" 35 "SmallCourt" "persons" "[LSmallCourt$Person;" ∈ hx_all := kt_g (kt_2 (List.mem_of_getElem? (i := 38) rfl)) rfl
theorem kw_372 : Cond.fieldLink "SmallCourt" 125 "SmallCourt" "personCount" "I" ∈ hx_all := kt_g (kt_2 (List.mem_of_getElem? (i := 39) rfl)) rfl
theorem kw_373 : Cond.fieldLink "SmallCourt" 42 "SmallCourt" "books" "LSmallCourt$Books;" ∈ hx_all := kt_g (kt_2 (List.mem_of_getElem? (i := 40) rfl)) rfl
theorem kw_374 : Cond.fieldLink "SmallCourt" 48 "SmallCourt" "claims" "[LSmallCourt$Claim;" ∈ hx_all := kt_g (kt_2 (List.mem_of_getElem? (i := 41) rfl)) rfl
theorem kw_375 : Cond.fieldLink "SmallCourt" 181 "SmallCourt" "claimCount" "I" ∈ hx_all := kt_g (kt_2 (List.mem_of_getElem? (i := 42) rfl)) rfl
theorem kw_376 : Cond.fieldLink "SmallCourt" 52 "SmallCourt" "heard" "[LSmallCourt$Claim;" ∈ hx_all := kt_g (kt_2 (List.mem_of_getElem? (i := 43) rfl)) rfl
theorem kw_377 : Cond.fieldLink "SmallCourt" 216 "SmallCourt" "heardCount" "I" ∈ hx_all := kt_g (kt_2 (List.mem_of_getElem? (i := 44) rfl)) rfl
theorem kw_378 : Cond.fieldLink "SmallCourt" 58 "SmallCourt" "payments" "LSmallCourt$Payments;" ∈ hx_all := kt_g (kt_2 (List.mem_of_getElem? (i := 45) rfl)) rfl
theorem kw_379 : Cond.fieldLink "SmallCourt" 62 "SmallCourt" "fit" "[I" ∈ hx_all := kt_g (kt_2 (List.mem_of_getElem? (i := 46) rfl)) rfl
theorem kw_380 : Cond.fieldLink "SmallCourt" 66 "SmallCourt" "rests" "[I" ∈ hx_all := kt_g (kt_2 (List.mem_of_getElem? (i := 47) rfl)) rfl
theorem kw_381 : Cond.fieldLink "SmallCourt" 72 "SmallCourt" "planning" "LSmallCourt$Plan;" ∈ hx_all := kt_g (kt_2 (List.mem_of_getElem? (i := 48) rfl)) rfl
theorem kw_382 : Cond.fieldLink "SmallCourt" 79 "SmallCourt" "rings" "LSmallCourt$Rings;" ∈ hx_all := kt_g (kt_2 (List.mem_of_getElem? (i := 49) rfl)) rfl
theorem kw_383 : Cond.fieldLink "SmallCourt" 86 "SmallCourt" "walking" "LSmallCourt$Walk;" ∈ hx_all := kt_g (kt_2 (List.mem_of_getElem? (i := 50) rfl)) rfl
theorem kw_384 : Cond.laysFinal "SmallCourt" "SmallCourt" "tape" "[B" ∈ hx_all := kt_g (kt_2 (List.mem_of_getElem? (i := 51) rfl)) rfl
theorem kw_386 : Cond.lays "SmallCourt" "SmallCourt" "tapeLength" "I" ∈ hx_all := kt_g (kt_2 (List.mem_of_getElem? (i := 53) rfl)) rfl
theorem kw_388 : Cond.lays "SmallCourt" "SmallCourt" "now" "I" ∈ hx_all := kt_g (kt_2 (List.mem_of_getElem? (i := 55) rfl)) rfl
theorem kw_390 : Cond.laysFinal "SmallCourt" "SmallCourt" "reader" "LSmallCourt$Reader;" ∈ hx_all := kt_g (kt_2 (List.mem_of_getElem? (i := 57) rfl)) rfl
theorem kw_392 : Cond.laysFinal "SmallCourt" "SmallCourt" "without" "LSmallCourt$Act;" ∈ hx_all := kt_g (kt_2 (List.mem_of_getElem? (i := 59) rfl)) rfl
theorem kw_394 : Cond.laysFinal "SmallCourt" "SmallCourt" "acts" "[LSmallCourt$Act;" ∈ hx_all := kt_g (kt_2 (List.mem_of_getElem? (i := 61) rfl)) rfl
theorem kw_396 : Cond.lays "SmallCourt" "SmallCourt" "actCount" "I" ∈ hx_all := kt_g (kt_2 (List.mem_of_getElem? (i := 63) rfl)) rfl
theorem kw_398 : Cond.laysFinal "SmallCourt" "SmallCourt" "persons" "[LSmallCourt$Person;" ∈ hx_all := kt_g (kt_2 (List.mem_of_getElem? (i := 65) rfl)) rfl
theorem kw_400 : Cond.lays "SmallCourt" "SmallCourt" "personCount" "I" ∈ hx_all := kt_g (kt_2 (List.mem_of_getElem? (i := 67) rfl)) rfl
theorem kw_402 : Cond.laysFinal "SmallCourt" "SmallCourt" "books" "LSmallCourt$Books;" ∈ hx_all := kt_g (kt_2 (List.mem_of_getElem? (i := 69) rfl)) rfl
theorem kw_404 : Cond.laysFinal "SmallCourt" "SmallCourt" "claims" "[LSmallCourt$Claim;" ∈ hx_all := kt_g (kt_2 (List.mem_of_getElem? (i := 71) rfl)) rfl
theorem kw_406 : Cond.lays "SmallCourt" "SmallCourt" "claimCount" "I" ∈ hx_all := kt_g (kt_2 (List.mem_of_getElem? (i := 73) rfl)) rfl
theorem kw_408 : Cond.laysFinal "SmallCourt" "SmallCourt" "heard" "[LSmallCourt$Claim;" ∈ hx_all := kt_g (kt_2 (List.mem_of_getElem? (i := 75) rfl)) rfl
theorem kw_410 : Cond.lays "SmallCourt" "SmallCourt" "heardCount" "I" ∈ hx_all := kt_g (kt_2 (List.mem_of_getElem? (i := 77) rfl)) rfl
theorem kw_412 : Cond.laysFinal "SmallCourt" "SmallCourt" "payments" "LSmallCourt$Payments;" ∈ hx_all := kt_g (kt_2 (List.mem_of_getElem? (i := 79) rfl)) rfl
theorem kw_414 : Cond.laysFinal "SmallCourt" "SmallCourt" "fit" "[I" ∈ hx_all := kt_g (kt_2 (List.mem_of_getElem? (i := 81) rfl)) rfl
theorem kw_416 : Cond.laysFinal "SmallCourt" "SmallCourt" "rests" "[I" ∈ hx_all := kt_g (kt_2 (List.mem_of_getElem? (i := 83) rfl)) rfl
theorem kw_418 : Cond.laysFinal "SmallCourt" "SmallCourt" "planning" "LSmallCourt$Plan;" ∈ hx_all := kt_g (kt_2 (List.mem_of_getElem? (i := 85) rfl)) rfl
theorem kw_420 : Cond.laysFinal "SmallCourt" "SmallCourt" "rings" "LSmallCourt$Rings;" ∈ hx_all := kt_g (kt_2 (List.mem_of_getElem? (i := 87) rfl)) rfl
theorem kw_422 : Cond.laysFinal "SmallCourt" "SmallCourt" "walking" "LSmallCourt$Walk;" ∈ hx_all := kt_g (kt_2 (List.mem_of_getElem? (i := 89) rfl)) rfl
theorem kw_425 : Cond.methodLink "SmallCourtLaw" 13 yX9_clock ∈ hx_all := kt_g (kt_2 (List.mem_of_getElem? (i := 92) rfl)) rfl
theorem kw_426 : Cond.instanceMethod yX9_clock ∈ hx_all := kt_g (kt_2 (List.mem_of_getElem? (i := 93) rfl)) rfl
theorem kw_427 : Cond.selects "SmallCourt" yX9_clock yX9_clock ∈ hx_all := kt_g (kt_2 (List.mem_of_getElem? (i := 94) rfl)) rfl
theorem kw_428 : Cond.code yX9_clock cX9_clock 2 (some .boolean) ∈ hx_all := kt_g (kt_2 (List.mem_of_getElem? (i := 95) rfl)) rfl
theorem kw_429 : Cond.methodLink "SmallCourt" 90 yX9_isDay ∈ hx_all := kt_g (kt_2 (List.mem_of_getElem? (i := 96) rfl)) rfl
theorem kw_430 : Cond.static yX9_isDay ∈ hx_all := kt_g (kt_2 (List.mem_of_getElem? (i := 97) rfl)) rfl
theorem kw_431 : Cond.code yX9_isDay cX9_isDay 1 (some .boolean) ∈ hx_all := kt_g (kt_2 (List.mem_of_getElem? (i := 98) rfl)) rfl
theorem kw_432 : Cond.methodLink "SmallCourt" 128 yX9_isWithin ∈ hx_all := kt_g (kt_2 (List.mem_of_getElem? (i := 99) rfl)) rfl
theorem kw_433 : Cond.static yX9_isWithin ∈ hx_all := kt_g (kt_2 (List.mem_of_getElem? (i := 100) rfl)) rfl
theorem kw_434 : Cond.code yX9_isWithin cX9_isWithin 3 (some .boolean) ∈ hx_all := kt_g (kt_2 (List.mem_of_getElem? (i := 101) rfl)) rfl
theorem kw_435 : Cond.methodLink "SmallCourtLaw" 18 yX9_feed ∈ hx_all := kt_g (kt_2 (List.mem_of_getElem? (i := 102) rfl)) rfl
theorem kw_436 : Cond.instanceMethod yX9_feed ∈ hx_all := kt_g (kt_2 (List.mem_of_getElem? (i := 103) rfl)) rfl
theorem kw_437 : Cond.selects "SmallCourt" yX9_feed yX9_feed ∈ hx_all := kt_g (kt_2 (List.mem_of_getElem? (i := 104) rfl)) rfl
theorem kw_438 : Cond.code yX9_feed cX9_feed 6 (some .int) ∈ hx_all := kt_g (kt_2 (List.mem_of_getElem? (i := 105) rfl)) rfl
theorem kw_439 : Cond.methodLink "SmallCourt" 101 yX9_feedBytes ∈ hx_all := kt_g (kt_2 (List.mem_of_getElem? (i := 106) rfl)) rfl
theorem kw_441 : Cond.instanceMethod yX9_feedBytes ∈ hx_all := kt_g (kt_2 (List.mem_of_getElem? (i := 108) rfl)) rfl
theorem kw_442 : Cond.code yX9_feedBytes cX9_feedBytes 3 none ∈ hx_all := kt_g (kt_2 (List.mem_of_getElem? (i := 109) rfl)) rfl
theorem kw_443 : Cond.methodLink "SmallCourtLaw" 23 yX9_end ∈ hx_all := kt_g (kt_2 (List.mem_of_getElem? (i := 110) rfl)) rfl
theorem kw_444 : Cond.instanceMethod yX9_end ∈ hx_all := kt_g (kt_2 (List.mem_of_getElem? (i := 111) rfl)) rfl
theorem kw_445 : Cond.selects "SmallCourt" yX9_end yX9_end ∈ hx_all := kt_g (kt_2 (List.mem_of_getElem? (i := 112) rfl)) rfl
theorem kw_446 : Cond.code yX9_end cX9_end 2 (some .int) ∈ hx_all := kt_g (kt_2 (List.mem_of_getElem? (i := 113) rfl)) rfl
theorem kw_447 : Cond.methodLink "SmallCourtLaw" 28 yX9_act ∈ hx_all := kt_g (kt_2 (List.mem_of_getElem? (i := 114) rfl)) rfl
theorem kw_448 : Cond.instanceMethod yX9_act ∈ hx_all := kt_g (kt_2 (List.mem_of_getElem? (i := 115) rfl)) rfl
theorem kw_449 : Cond.selects "SmallCourt" yX9_act yX9_act ∈ hx_all := kt_g (kt_2 (List.mem_of_getElem? (i := 116) rfl)) rfl
theorem kw_450 : Cond.code yX9_act cX9_act 4 (some .int) ∈ hx_all := kt_g (kt_2 (List.mem_of_getElem? (i := 117) rfl)) rfl
theorem kw_451 : Cond.methodLink "SmallCourt" 108 yX6_readAct ∈ hx_all := kt_g (kt_2 (List.mem_of_getElem? (i := 118) rfl)) rfl
theorem kw_452 : Cond.instanceMethod yX6_readAct ∈ hx_all := kt_g (kt_2 (List.mem_of_getElem? (i := 119) rfl)) rfl
theorem kw_453 : Cond.selects "SmallCourt$Reader" yX6_readAct yX6_readAct ∈ hx_all := kt_g (kt_2 (List.mem_of_getElem? (i := 120) rfl)) rfl
theorem kw_454 : Cond.code yX6_readAct cX6_readAct 6 (some .int) ∈ hx_all := kt_g (kt_2 (List.mem_of_getElem? (i := 121) rfl)) rfl
theorem kw_455 : Cond.methodLink "SmallCourt$Reader" 35 yX6_skipBlanks ∈ hx_all := kt_g (kt_2 (List.mem_of_getElem? (i := 122) rfl)) rfl
theorem kw_457 : Cond.instanceMethod yX6_skipBlanks ∈ hx_all := kt_g (kt_2 (List.mem_of_getElem? (i := 124) rfl)) rfl
theorem kw_458 : Cond.code yX6_skipBlanks cX6_skipBlanks 1 none ∈ hx_all := kt_g (kt_2 (List.mem_of_getElem? (i := 125) rfl)) rfl
theorem kw_459 : Cond.methodLink "SmallCourt$Reader" 38 yX6_readClause ∈ hx_all := kt_g (kt_2 (List.mem_of_getElem? (i := 126) rfl)) rfl
theorem kw_461 : Cond.instanceMethod yX6_readClause ∈ hx_all := kt_g (kt_2 (List.mem_of_getElem? (i := 128) rfl)) rfl
theorem kw_462 : Cond.code yX6_readClause cX6_readClause 3 (some .boolean) ∈ hx_all := kt_g (kt_2 (List.mem_of_getElem? (i := 129) rfl)) rfl
theorem kw_464 : Cond.methodLink "SmallCourt$Reader" 51 yX6_readWord ∈ hx_all := kt_g (kt_2 (List.mem_of_getElem? (i := 131) rfl)) rfl
theorem kw_466 : Cond.instanceMethod yX6_readWord ∈ hx_all := kt_g (kt_2 (List.mem_of_getElem? (i := 133) rfl)) rfl
theorem kw_467 : Cond.code yX6_readWord cX6_readWord 4 (some .int) ∈ hx_all := kt_g (kt_2 (List.mem_of_getElem? (i := 134) rfl)) rfl
theorem kw_468 : Cond.methodLink "SmallCourt$Reader" 125 yX6_wordEnd ∈ hx_all := kt_g (kt_2 (List.mem_of_getElem? (i := 135) rfl)) rfl
theorem kw_470 : Cond.instanceMethod yX6_wordEnd ∈ hx_all := kt_g (kt_2 (List.mem_of_getElem? (i := 137) rfl)) rfl
theorem kw_471 : Cond.code yX6_wordEnd cX6_wordEnd 2 (some .int) ∈ hx_all := kt_g (kt_2 (List.mem_of_getElem? (i := 138) rfl)) rfl
theorem kw_472 : Cond.methodLink "SmallCourt$Reader" 128 yJ0_length_8abf5 ∈ hx_all := kt_g (kt_2 (List.mem_of_getElem? (i := 139) rfl)) rfl
theorem kw_473 : Cond.instanceMethod yJ0_length_8abf5 ∈ hx_all := kt_g (kt_2 (List.mem_of_getElem? (i := 140) rfl)) rfl
theorem kw_474 : Cond.selects "java/lang/String" yJ0_length_8abf5 yJ0_length_8abf5 ∈ hx_all := kt_g (kt_2 (List.mem_of_getElem? (i := 141) rfl)) rfl
theorem kw_475 : Cond.code yJ0_length_8abf5 cJ0_length_8abf5 1 (some .int) ∈ hx_all := kt_g (kt_2 (List.mem_of_getElem? (i := 142) rfl)) rfl
theorem kw_476 : Cond.methodLink "java/lang/String" 335 yJ0_coder_7d493 ∈ hx_all := kt_g (kt_2 (List.mem_of_getElem? (i := 143) rfl)) rfl
theorem kw_477 : Cond.instanceMethod yJ0_coder_7d493 ∈ hx_all := kt_g (kt_2 (List.mem_of_getElem? (i := 144) rfl)) rfl
theorem kw_478 : Cond.selects "java/lang/String" yJ0_coder_7d493 yJ0_coder_7d493 ∈ hx_all := kt_g (kt_2 (List.mem_of_getElem? (i := 145) rfl)) rfl
theorem kw_479 : Cond.code yJ0_coder_7d493 cJ0_coder_7d493 1 (some .byte) ∈ hx_all := kt_g (kt_2 (List.mem_of_getElem? (i := 146) rfl)) rfl
theorem kw_480 : Cond.fieldLink "java/lang/String" 38 "java/lang/String" "COMPACT_STRINGS" "Z" ∈ hx_all := kt_g (kt_2 (List.mem_of_getElem? (i := 147) rfl)) rfl
theorem kw_482 : Cond.methodLink "SmallCourt$Reader" 132 yX6_isSlot ∈ hx_all := kt_g (kt_2 (List.mem_of_getElem? (i := 149) rfl)) rfl
theorem kw_484 : Cond.instanceMethod yX6_isSlot ∈ hx_all := kt_g (kt_2 (List.mem_of_getElem? (i := 151) rfl)) rfl
theorem kw_485 : Cond.code yX6_isSlot cX6_isSlot 6 (some .boolean) ∈ hx_all := kt_g (kt_2 (List.mem_of_getElem? (i := 152) rfl)) rfl
theorem kw_486 : Cond.methodLink "SmallCourt$Reader" 136 yJ0_charAt_5068e ∈ hx_all := kt_g (kt_2 (List.mem_of_getElem? (i := 153) rfl)) rfl
theorem kw_487 : Cond.instanceMethod yJ0_charAt_5068e ∈ hx_all := kt_g (kt_2 (List.mem_of_getElem? (i := 154) rfl)) rfl
theorem kw_488 : Cond.selects "java/lang/String" yJ0_charAt_5068e yJ0_charAt_5068e ∈ hx_all := kt_g (kt_2 (List.mem_of_getElem? (i := 155) rfl)) rfl
theorem kw_489 : Cond.code yJ0_charAt_5068e cJ0_charAt_5068e 2 (some .char) ∈ hx_all := kt_g (kt_2 (List.mem_of_getElem? (i := 156) rfl)) rfl
theorem kw_490 : Cond.methodLink "java/lang/String" 492 yJ0_isLatin1_aae02 ∈ hx_all := kt_g (kt_2 (List.mem_of_getElem? (i := 157) rfl)) rfl
theorem kw_491 : Cond.instanceMethod yJ0_isLatin1_aae02 ∈ hx_all := kt_g (kt_2 (List.mem_of_getElem? (i := 158) rfl)) rfl
theorem kw_492 : Cond.selects "java/lang/String" yJ0_isLatin1_aae02 yJ0_isLatin1_aae02 ∈ hx_all := kt_g (kt_2 (List.mem_of_getElem? (i := 159) rfl)) rfl
theorem kw_493 : Cond.code yJ0_isLatin1_aae02 cJ0_isLatin1_aae02 1 (some .boolean) ∈ hx_all := kt_g (kt_2 (List.mem_of_getElem? (i := 160) rfl)) rfl
theorem kw_494 : Cond.methodLink "java/lang/String" 495 yJ1_charAt_3b067 ∈ hx_all := kt_g (kt_2 (List.mem_of_getElem? (i := 161) rfl)) rfl
theorem kw_495 : Cond.static yJ1_charAt_3b067 ∈ hx_all := kt_g (kt_2 (List.mem_of_getElem? (i := 162) rfl)) rfl
theorem kw_496 : Cond.code yJ1_charAt_3b067 cJ1_charAt_3b067 2 (some .char) ∈ hx_all := kt_g (kt_2 (List.mem_of_getElem? (i := 163) rfl)) rfl
theorem kw_497 : Cond.methodLink "java/lang/StringLatin1" 9 yJ0_checkIndex_df160 ∈ hx_all := kt_g (kt_2 (List.mem_of_getElem? (i := 164) rfl)) rfl
theorem kw_498 : Cond.static yJ0_checkIndex_df160 ∈ hx_all := kt_g (kt_2 (List.mem_of_getElem? (i := 165) rfl)) rfl
theorem kw_499 : Cond.code yJ0_checkIndex_df160 cJ0_checkIndex_df160 2 none ∈ hx_all := kt_g (kt_2 (List.mem_of_getElem? (i := 166) rfl)) rfl
theorem kw_500 : Cond.fieldLink "java/lang/String" 1053 "jdk/internal/util/Preconditions" "SIOOBE_FORMATTER" "Ljava/util/function/BiFunction;" ∈ hx_all := kt_g (kt_2 (List.mem_of_getElem? (i := 167) rfl)) rfl
theorem kw_502 : Cond.methodLink "java/lang/String" 1059 yJ3_checkIndex_8e157 ∈ hx_all := kt_g (kt_2 (List.mem_of_getElem? (i := 169) rfl)) rfl
theorem kw_503 : Cond.static yJ3_checkIndex_8e157 ∈ hx_all := kt_g (kt_2 (List.mem_of_getElem? (i := 170) rfl)) rfl
theorem kw_504 : Cond.code yJ3_checkIndex_8e157 cJ3_checkIndex_8e157 3 (some .int) ∈ hx_all := kt_g (kt_2 (List.mem_of_getElem? (i := 171) rfl)) rfl
theorem kw_524 : Cond.methodLink "SmallCourt$Reader" 45 yX6_refuse ∈ hx_all := kt_g (kt_2 (List.mem_of_getElem? (i := 191) rfl)) rfl
theorem kw_526 : Cond.instanceMethod yX6_refuse ∈ hx_all := kt_g (kt_2 (List.mem_of_getElem? (i := 193) rfl)) rfl
theorem kw_527 : Cond.code yX6_refuse cX6_refuse 3 (some .boolean) ∈ hx_all := kt_g (kt_2 (List.mem_of_getElem? (i := 194) rfl)) rfl
theorem kw_528 : Cond.methodLink "SmallCourt$Reader" 55 yX6_readCost ∈ hx_all := kt_g (kt_2 (List.mem_of_getElem? (i := 195) rfl)) rfl
theorem kw_530 : Cond.instanceMethod yX6_readCost ∈ hx_all := kt_g (kt_2 (List.mem_of_getElem? (i := 197) rfl)) rfl
theorem kw_531 : Cond.code yX6_readCost cX6_readCost 3 (some .boolean) ∈ hx_all := kt_g (kt_2 (List.mem_of_getElem? (i := 198) rfl)) rfl
theorem kw_533 : Cond.methodLink "SmallCourt$Reader" 63 yX6_tellOnce ∈ hx_all := kt_g (kt_2 (List.mem_of_getElem? (i := 200) rfl)) rfl
theorem kw_535 : Cond.instanceMethod yX6_tellOnce ∈ hx_all := kt_g (kt_2 (List.mem_of_getElem? (i := 202) rfl)) rfl
theorem kw_536 : Cond.code yX6_tellOnce cX6_tellOnce 4 (some .boolean) ∈ hx_all := kt_g (kt_2 (List.mem_of_getElem? (i := 203) rfl)) rfl
theorem kw_537 : Cond.methodLink "SmallCourt$Reader" 70 yX6_readTold ∈ hx_all := kt_g (kt_2 (List.mem_of_getElem? (i := 204) rfl)) rfl
theorem kw_539 : Cond.instanceMethod yX6_readTold ∈ hx_all := kt_g (kt_2 (List.mem_of_getElem? (i := 206) rfl)) rfl
theorem kw_540 : Cond.code yX6_readTold cX6_readTold 4 (some .boolean) ∈ hx_all := kt_g (kt_2 (List.mem_of_getElem? (i := 207) rfl)) rfl
theorem kw_541 : Cond.methodLink "SmallCourt$Reader" 75 yX6_isDigit ∈ hx_all := kt_g (kt_2 (List.mem_of_getElem? (i := 208) rfl)) rfl
theorem kw_543 : Cond.instanceMethod yX6_isDigit ∈ hx_all := kt_g (kt_2 (List.mem_of_getElem? (i := 210) rfl)) rfl
theorem kw_544 : Cond.code yX6_isDigit cX6_isDigit 2 (some .boolean) ∈ hx_all := kt_g (kt_2 (List.mem_of_getElem? (i := 211) rfl)) rfl
theorem kw_545 : Cond.methodLink "SmallCourt$Reader" 78 yX6_readNumber ∈ hx_all := kt_g (kt_2 (List.mem_of_getElem? (i := 212) rfl)) rfl
theorem kw_547 : Cond.instanceMethod yX6_readNumber ∈ hx_all := kt_g (kt_2 (List.mem_of_getElem? (i := 214) rfl)) rfl
theorem kw_548 : Cond.code yX6_readNumber cX6_readNumber 3 (some .int) ∈ hx_all := kt_g (kt_2 (List.mem_of_getElem? (i := 215) rfl)) rfl
theorem kw_549 : Cond.fieldLinkNest "SmallCourt$Reader" 82 "SmallCourt" "LEAST_TOLD" "[I" "SmallCourt" ∈ lw_tbl := kt_2 (List.mem_of_getElem? (i := 216) rfl)
theorem kw_551 : Cond.fieldLinkNest "SmallCourt$Reader" 86 "SmallCourt" "MOST_TOLD" "[I" "SmallCourt" ∈ lw_tbl := kt_2 (List.mem_of_getElem? (i := 218) rfl)
theorem kw_553 : Cond.methodLink "SmallCourt$Reader" 66 yX6_readEither ∈ hx_all := kt_g (kt_2 (List.mem_of_getElem? (i := 220) rfl)) rfl
theorem kw_555 : Cond.instanceMethod yX6_readEither ∈ hx_all := kt_g (kt_2 (List.mem_of_getElem? (i := 222) rfl)) rfl
theorem kw_556 : Cond.code yX6_readEither cX6_readEither 5 (some .boolean) ∈ hx_all := kt_g (kt_2 (List.mem_of_getElem? (i := 223) rfl)) rfl
theorem kw_557 : Cond.methodLink "SmallCourt$Reader" 92 yX6_readOne ∈ hx_all := kt_g (kt_2 (List.mem_of_getElem? (i := 224) rfl)) rfl
theorem kw_559 : Cond.instanceMethod yX6_readOne ∈ hx_all := kt_g (kt_2 (List.mem_of_getElem? (i := 226) rfl)) rfl
theorem kw_560 : Cond.code yX6_readOne cX6_readOne 3 (some .boolean) ∈ hx_all := kt_g (kt_2 (List.mem_of_getElem? (i := 227) rfl)) rfl
theorem kw_562 : Cond.methodLink "SmallCourt$Reader" 101 yX6_isNextWord ∈ hx_all := kt_g (kt_2 (List.mem_of_getElem? (i := 229) rfl)) rfl
theorem kw_564 : Cond.instanceMethod yX6_isNextWord ∈ hx_all := kt_g (kt_2 (List.mem_of_getElem? (i := 231) rfl)) rfl
theorem kw_565 : Cond.code yX6_isNextWord cX6_isNextWord 3 (some .boolean) ∈ hx_all := kt_g (kt_2 (List.mem_of_getElem? (i := 232) rfl)) rfl
theorem kw_566 : Cond.methodLink "SmallCourt$Reader" 109 yX6_isByte ∈ hx_all := kt_g (kt_2 (List.mem_of_getElem? (i := 233) rfl)) rfl
theorem kw_568 : Cond.instanceMethod yX6_isByte ∈ hx_all := kt_g (kt_2 (List.mem_of_getElem? (i := 235) rfl)) rfl
theorem kw_569 : Cond.code yX6_isByte cX6_isByte 2 (some .boolean) ∈ hx_all := kt_g (kt_2 (List.mem_of_getElem? (i := 236) rfl)) rfl
theorem kw_570 : Cond.methodLink "SmallCourt$Reader" 113 yX6_readTerm ∈ hx_all := kt_g (kt_2 (List.mem_of_getElem? (i := 237) rfl)) rfl
theorem kw_572 : Cond.instanceMethod yX6_readTerm ∈ hx_all := kt_g (kt_2 (List.mem_of_getElem? (i := 239) rfl)) rfl
theorem kw_573 : Cond.code yX6_readTerm cX6_readTerm 6 (some .boolean) ∈ hx_all := kt_g (kt_3 (List.mem_of_getElem? (i := 0) rfl)) rfl
theorem kw_575 : Cond.methodLink "SmallCourt$Reader" 118 yX6_readSign ∈ hx_all := kt_g (kt_3 (List.mem_of_getElem? (i := 2) rfl)) rfl
theorem kw_577 : Cond.instanceMethod yX6_readSign ∈ hx_all := kt_g (kt_3 (List.mem_of_getElem? (i := 4) rfl)) rfl
theorem kw_578 : Cond.code yX6_readSign cX6_readSign 2 (some .int) ∈ hx_all := kt_g (kt_3 (List.mem_of_getElem? (i := 5) rfl)) rfl
theorem kw_579 : Cond.methodLink "SmallCourt$Reader" 121 yX0_term ∈ hx_all := kt_g (kt_3 (List.mem_of_getElem? (i := 6) rfl)) rfl
theorem kw_580 : Cond.methodLink "SmallCourt$Reader" 95 yX0_addProof ∈ hx_all := kt_g (kt_3 (List.mem_of_getElem? (i := 7) rfl)) rfl
theorem kw_581 : Cond.instanceMethod yX0_addProof ∈ hx_all := kt_g (kt_3 (List.mem_of_getElem? (i := 8) rfl)) rfl
theorem kw_582 : Cond.selects "SmallCourt$Act" yX0_addProof yX0_addProof ∈ hx_all := kt_g (kt_3 (List.mem_of_getElem? (i := 9) rfl)) rfl
theorem kw_583 : Cond.code yX0_addProof cX0_addProof 2 none ∈ hx_all := kt_g (kt_3 (List.mem_of_getElem? (i := 10) rfl)) rfl
theorem kw_586 : Cond.methodLink "SmallCourt$Reader" 42 yX6_isAnotherClause ∈ hx_all := kt_g (kt_3 (List.mem_of_getElem? (i := 13) rfl)) rfl
theorem kw_588 : Cond.instanceMethod yX6_isAnotherClause ∈ hx_all := kt_g (kt_3 (List.mem_of_getElem? (i := 15) rfl)) rfl
theorem kw_589 : Cond.code yX6_isAnotherClause cX6_isAnotherClause 1 (some .boolean) ∈ hx_all := kt_g (kt_3 (List.mem_of_getElem? (i := 16) rfl)) rfl
theorem kw_590 : Cond.methodLink "SmallCourtLaw" 32 yX9_force ∈ hx_all := kt_g (kt_3 (List.mem_of_getElem? (i := 17) rfl)) rfl
theorem kw_591 : Cond.instanceMethod yX9_force ∈ hx_all := kt_g (kt_3 (List.mem_of_getElem? (i := 18) rfl)) rfl
theorem kw_592 : Cond.selects "SmallCourt" yX9_force yX9_force ∈ hx_all := kt_g (kt_3 (List.mem_of_getElem? (i := 19) rfl)) rfl
theorem kw_593 : Cond.code yX9_force cX9_force 4 (some .int) ∈ hx_all := kt_g (kt_3 (List.mem_of_getElem? (i := 20) rfl)) rfl
theorem kw_594 : Cond.methodLink "SmallCourt" 115 yX9_inForce ∈ hx_all := kt_g (kt_3 (List.mem_of_getElem? (i := 21) rfl)) rfl
theorem kw_596 : Cond.instanceMethod yX9_inForce ∈ hx_all := kt_g (kt_3 (List.mem_of_getElem? (i := 23) rfl)) rfl
theorem kw_597 : Cond.code yX9_inForce cX9_inForce 4 (some (.object "SmallCourt$Act")) ∈ hx_all := kt_g (kt_3 (List.mem_of_getElem? (i := 24) rfl)) rfl
theorem kw_598 : Cond.methodLink "SmallCourtLaw" 37 yX9_person ∈ hx_all := kt_g (kt_3 (List.mem_of_getElem? (i := 25) rfl)) rfl
theorem kw_599 : Cond.instanceMethod yX9_person ∈ hx_all := kt_g (kt_3 (List.mem_of_getElem? (i := 26) rfl)) rfl
theorem kw_600 : Cond.selects "SmallCourt" yX9_person yX9_person ∈ hx_all := kt_g (kt_3 (List.mem_of_getElem? (i := 27) rfl)) rfl
theorem kw_601 : Cond.code yX9_person cX9_person 8 (some .int) ∈ hx_all := kt_g (kt_3 (List.mem_of_getElem? (i := 28) rfl)) rfl
theorem kw_602 : Cond.methodLink "SmallCourt" 132 yX9_isHousehold ∈ hx_all := kt_g (kt_3 (List.mem_of_getElem? (i := 29) rfl)) rfl
theorem kw_603 : Cond.static yX9_isHousehold ∈ hx_all := kt_g (kt_3 (List.mem_of_getElem? (i := 30) rfl)) rfl
theorem kw_604 : Cond.code yX9_isHousehold cX9_isHousehold 4 (some .boolean) ∈ hx_all := kt_g (kt_3 (List.mem_of_getElem? (i := 31) rfl)) rfl
theorem kw_605 : Cond.instantiable "SmallCourt$Person" 10 ∈ hx_all := kt_g (kt_3 (List.mem_of_getElem? (i := 32) rfl)) rfl
theorem kw_606 : Cond.methodLink "SmallCourt" 136 yX4_init ∈ hx_all := kt_g (kt_3 (List.mem_of_getElem? (i := 33) rfl)) rfl
theorem kw_607 : Cond.instanceMethod yX4_init ∈ hx_all := kt_g (kt_3 (List.mem_of_getElem? (i := 34) rfl)) rfl
theorem kw_608 : Cond.code yX4_init cX4_init 4 none ∈ hx_all := kt_g (kt_3 (List.mem_of_getElem? (i := 35) rfl)) rfl
theorem kw_609 : Cond.methodLink "SmallCourt$Person" 3 Lib.objectInit ∈ hx_all := kt_g (kt_3 (List.mem_of_getElem? (i := 36) rfl)) rfl
theorem kw_610 : Cond.fieldLink "SmallCourt$Person" 9 "SmallCourt$Person" "number" "I" ∈ hx_all := kt_g (kt_3 (List.mem_of_getElem? (i := 37) rfl)) rfl
theorem kw_611 : Cond.fieldLink "SmallCourt$Rings" 67 "SmallCourt$Person" "number" "I" ∈ hx_all := kt_g (kt_3 (List.mem_of_getElem? (i := 38) rfl)) rfl
theorem kw_612 : Cond.fieldLink "SmallCourt" 143 "SmallCourt$Person" "number" "I" ∈ hx_all := kt_g (kt_3 (List.mem_of_getElem? (i := 39) rfl)) rfl
theorem kw_613 : Cond.fieldLink "SmallCourt$Person" 15 "SmallCourt$Person" "born" "I" ∈ hx_all := kt_g (kt_3 (List.mem_of_getElem? (i := 40) rfl)) rfl
theorem kw_614 : Cond.fieldLink "SmallCourt" 243 "SmallCourt$Person" "born" "I" ∈ hx_all := kt_g (kt_3 (List.mem_of_getElem? (i := 41) rfl)) rfl
theorem kw_615 : Cond.fieldLink "SmallCourt$Person" 18 "SmallCourt$Person" "kin" "I" ∈ hx_all := kt_g (kt_3 (List.mem_of_getElem? (i := 42) rfl)) rfl
theorem kw_616 : Cond.fieldLink "SmallCourt$Person" 21 "SmallCourt$Person" "earns" "I" ∈ hx_all := kt_g (kt_3 (List.mem_of_getElem? (i := 43) rfl)) rfl
theorem kw_617 : Cond.fieldLink "SmallCourt$Person" 24 "SmallCourt$Person" "heads" "I" ∈ hx_all := kt_g (kt_3 (List.mem_of_getElem? (i := 44) rfl)) rfl
theorem kw_618 : Cond.fieldLink "SmallCourt$Person" 27 "SmallCourt$Person" "x" "I" ∈ hx_all := kt_g (kt_3 (List.mem_of_getElem? (i := 45) rfl)) rfl
theorem kw_619 : Cond.fieldLink "SmallCourt$Walk" 71 "SmallCourt$Person" "x" "I" ∈ hx_all := kt_g (kt_3 (List.mem_of_getElem? (i := 46) rfl)) rfl
theorem kw_620 : Cond.fieldLink "SmallCourt$Person" 30 "SmallCourt$Person" "y" "I" ∈ hx_all := kt_g (kt_3 (List.mem_of_getElem? (i := 47) rfl)) rfl
theorem kw_621 : Cond.fieldLink "SmallCourt$Walk" 79 "SmallCourt$Person" "y" "I" ∈ hx_all := kt_g (kt_3 (List.mem_of_getElem? (i := 48) rfl)) rfl
theorem kw_622 : Cond.fieldLink "SmallCourt$Person" 43 "SmallCourt$Person" "dead" "Z" ∈ hx_all := kt_g (kt_3 (List.mem_of_getElem? (i := 49) rfl)) rfl
theorem kw_623 : Cond.fieldLink "SmallCourt" 148 "SmallCourt$Person" "dead" "Z" ∈ hx_all := kt_g (kt_3 (List.mem_of_getElem? (i := 50) rfl)) rfl
theorem kw_624 : Cond.fieldLink "SmallCourt$Person" 39 "SmallCourt$Person" "isJudge" "Z" ∈ hx_all := kt_g (kt_3 (List.mem_of_getElem? (i := 51) rfl)) rfl
theorem kw_625 : Cond.fieldLink "SmallCourt" 152 "SmallCourt$Person" "isJudge" "Z" ∈ hx_all := kt_g (kt_3 (List.mem_of_getElem? (i := 52) rfl)) rfl
theorem kw_626 : Cond.fieldLink "SmallCourt" 155 "SmallCourt$Person" "wasJudge" "Z" ∈ hx_all := kt_g (kt_3 (List.mem_of_getElem? (i := 53) rfl)) rfl
theorem kw_627 : Cond.laysFinal "SmallCourt$Person" "SmallCourt$Person" "number" "I" ∈ hx_all := kt_g (kt_3 (List.mem_of_getElem? (i := 54) rfl)) rfl
theorem kw_629 : Cond.laysFinal "SmallCourt$Person" "SmallCourt$Person" "born" "I" ∈ hx_all := kt_g (kt_3 (List.mem_of_getElem? (i := 56) rfl)) rfl
theorem kw_631 : Cond.laysFinal "SmallCourt$Person" "SmallCourt$Person" "kin" "I" ∈ hx_all := kt_g (kt_3 (List.mem_of_getElem? (i := 58) rfl)) rfl
theorem kw_633 : Cond.lays "SmallCourt$Person" "SmallCourt$Person" "earns" "I" ∈ hx_all := kt_g (kt_3 (List.mem_of_getElem? (i := 60) rfl)) rfl
theorem kw_635 : Cond.lays "SmallCourt$Person" "SmallCourt$Person" "heads" "I" ∈ hx_all := kt_g (kt_3 (List.mem_of_getElem? (i := 62) rfl)) rfl
theorem kw_637 : Cond.lays "SmallCourt$Person" "SmallCourt$Person" "x" "I" ∈ hx_all := kt_g (kt_3 (List.mem_of_getElem? (i := 64) rfl)) rfl
theorem kw_639 : Cond.lays "SmallCourt$Person" "SmallCourt$Person" "y" "I" ∈ hx_all := kt_g (kt_3 (List.mem_of_getElem? (i := 66) rfl)) rfl
theorem kw_641 : Cond.lays "SmallCourt$Person" "SmallCourt$Person" "dead" "Z" ∈ hx_all := kt_g (kt_3 (List.mem_of_getElem? (i := 68) rfl)) rfl
theorem kw_643 : Cond.lays "SmallCourt$Person" "SmallCourt$Person" "isJudge" "Z" ∈ hx_all := kt_g (kt_3 (List.mem_of_getElem? (i := 70) rfl)) rfl
theorem kw_645 : Cond.lays "SmallCourt$Person" "SmallCourt$Person" "wasJudge" "Z" ∈ hx_all := kt_g (kt_3 (List.mem_of_getElem? (i := 72) rfl)) rfl
theorem kw_648 : Cond.methodLink "SmallCourt" 139 yX4_tell ∈ hx_all := kt_g (kt_3 (List.mem_of_getElem? (i := 75) rfl)) rfl
theorem kw_649 : Cond.instanceMethod yX4_tell ∈ hx_all := kt_g (kt_3 (List.mem_of_getElem? (i := 76) rfl)) rfl
theorem kw_650 : Cond.selects "SmallCourt$Person" yX4_tell yX4_tell ∈ hx_all := kt_g (kt_3 (List.mem_of_getElem? (i := 77) rfl)) rfl
theorem kw_651 : Cond.code yX4_tell cX4_tell 5 none ∈ hx_all := kt_g (kt_3 (List.mem_of_getElem? (i := 78) rfl)) rfl
theorem kw_652 : Cond.methodLink "SmallCourtLaw" 42 yX9_anew ∈ hx_all := kt_g (kt_3 (List.mem_of_getElem? (i := 79) rfl)) rfl
theorem kw_653 : Cond.instanceMethod yX9_anew ∈ hx_all := kt_g (kt_3 (List.mem_of_getElem? (i := 80) rfl)) rfl
theorem kw_654 : Cond.selects "SmallCourt" yX9_anew yX9_anew ∈ hx_all := kt_g (kt_3 (List.mem_of_getElem? (i := 81) rfl)) rfl
theorem kw_655 : Cond.code yX9_anew cX9_anew 7 (some .boolean) ∈ hx_all := kt_g (kt_3 (List.mem_of_getElem? (i := 82) rfl)) rfl
theorem kw_656 : Cond.methodLink "SmallCourt" 144 yX9_personAt ∈ hx_all := kt_g (kt_3 (List.mem_of_getElem? (i := 83) rfl)) rfl
theorem kw_658 : Cond.instanceMethod yX9_personAt ∈ hx_all := kt_g (kt_3 (List.mem_of_getElem? (i := 85) rfl)) rfl
theorem kw_659 : Cond.code yX9_personAt cX9_personAt 2 (some (.object "SmallCourt$Person")) ∈ hx_all := kt_g (kt_3 (List.mem_of_getElem? (i := 86) rfl)) rfl
theorem kw_660 : Cond.methodLink "SmallCourtLaw" 47 yX9_dies ∈ hx_all := kt_g (kt_3 (List.mem_of_getElem? (i := 87) rfl)) rfl
theorem kw_661 : Cond.instanceMethod yX9_dies ∈ hx_all := kt_g (kt_3 (List.mem_of_getElem? (i := 88) rfl)) rfl
theorem kw_662 : Cond.selects "SmallCourt" yX9_dies yX9_dies ∈ hx_all := kt_g (kt_3 (List.mem_of_getElem? (i := 89) rfl)) rfl
theorem kw_663 : Cond.code yX9_dies cX9_dies 3 (some .boolean) ∈ hx_all := kt_g (kt_3 (List.mem_of_getElem? (i := 90) rfl)) rfl
theorem kw_664 : Cond.methodLink "SmallCourtLaw" 51 yX9_judge ∈ hx_all := kt_g (kt_3 (List.mem_of_getElem? (i := 91) rfl)) rfl
theorem kw_665 : Cond.instanceMethod yX9_judge ∈ hx_all := kt_g (kt_3 (List.mem_of_getElem? (i := 92) rfl)) rfl
theorem kw_666 : Cond.selects "SmallCourt" yX9_judge yX9_judge ∈ hx_all := kt_g (kt_3 (List.mem_of_getElem? (i := 93) rfl)) rfl
theorem kw_667 : Cond.code yX9_judge cX9_judge 4 (some .boolean) ∈ hx_all := kt_g (kt_3 (List.mem_of_getElem? (i := 94) rfl)) rfl
theorem kw_668 : Cond.methodLink "SmallCourtLaw" 56 yX9_line ∈ hx_all := kt_g (kt_3 (List.mem_of_getElem? (i := 95) rfl)) rfl
theorem kw_669 : Cond.instanceMethod yX9_line ∈ hx_all := kt_g (kt_3 (List.mem_of_getElem? (i := 96) rfl)) rfl
theorem kw_670 : Cond.selects "SmallCourt" yX9_line yX9_line ∈ hx_all := kt_g (kt_3 (List.mem_of_getElem? (i := 97) rfl)) rfl
theorem kw_671 : Cond.code yX9_line cX9_line 6 (some .int) ∈ hx_all := kt_g (kt_3 (List.mem_of_getElem? (i := 98) rfl)) rfl
theorem kw_672 : Cond.methodLink "SmallCourt" 161 yX9_areTwo ∈ hx_all := kt_g (kt_3 (List.mem_of_getElem? (i := 99) rfl)) rfl
theorem kw_674 : Cond.instanceMethod yX9_areTwo ∈ hx_all := kt_g (kt_3 (List.mem_of_getElem? (i := 101) rfl)) rfl
theorem kw_675 : Cond.code yX9_areTwo cX9_areTwo 3 (some .boolean) ∈ hx_all := kt_g (kt_3 (List.mem_of_getElem? (i := 102) rfl)) rfl
theorem kw_676 : Cond.methodLink "SmallCourt" 165 yX1_addLine ∈ hx_all := kt_g (kt_3 (List.mem_of_getElem? (i := 103) rfl)) rfl
theorem kw_677 : Cond.instanceMethod yX1_addLine ∈ hx_all := kt_g (kt_3 (List.mem_of_getElem? (i := 104) rfl)) rfl
theorem kw_678 : Cond.selects "SmallCourt$Books" yX1_addLine yX1_addLine ∈ hx_all := kt_g (kt_3 (List.mem_of_getElem? (i := 105) rfl)) rfl
theorem kw_679 : Cond.code yX1_addLine cX1_addLine 7 none ∈ hx_all := kt_g (kt_3 (List.mem_of_getElem? (i := 106) rfl)) rfl
theorem kw_680 : Cond.methodLink "SmallCourtLaw" 60 yX9_book ∈ hx_all := kt_g (kt_3 (List.mem_of_getElem? (i := 107) rfl)) rfl
theorem kw_681 : Cond.instanceMethod yX9_book ∈ hx_all := kt_g (kt_3 (List.mem_of_getElem? (i := 108) rfl)) rfl
theorem kw_682 : Cond.selects "SmallCourt" yX9_book yX9_book ∈ hx_all := kt_g (kt_3 (List.mem_of_getElem? (i := 109) rfl)) rfl
theorem kw_683 : Cond.code yX9_book cX9_book 5 (some .int) ∈ hx_all := kt_g (kt_3 (List.mem_of_getElem? (i := 110) rfl)) rfl
theorem kw_684 : Cond.constant "SmallCourt" 169 (-1000000) ∈ hx_all := kt_g (kt_3 (List.mem_of_getElem? (i := 111) rfl)) rfl
theorem kw_685 : Cond.methodLink "SmallCourt" 170 yX1_sumWith ∈ hx_all := kt_g (kt_3 (List.mem_of_getElem? (i := 112) rfl)) rfl
theorem kw_686 : Cond.instanceMethod yX1_sumWith ∈ hx_all := kt_g (kt_3 (List.mem_of_getElem? (i := 113) rfl)) rfl
theorem kw_687 : Cond.selects "SmallCourt$Books" yX1_sumWith yX1_sumWith ∈ hx_all := kt_g (kt_3 (List.mem_of_getElem? (i := 114) rfl)) rfl
theorem kw_688 : Cond.code yX1_sumWith cX1_sumWith 6 (some .int) ∈ hx_all := kt_g (kt_3 (List.mem_of_getElem? (i := 115) rfl)) rfl
theorem kw_689 : Cond.methodLink "SmallCourt$Books" 38 yX1_isLine ∈ hx_all := kt_g (kt_3 (List.mem_of_getElem? (i := 116) rfl)) rfl
theorem kw_691 : Cond.instanceMethod yX1_isLine ∈ hx_all := kt_g (kt_3 (List.mem_of_getElem? (i := 118) rfl)) rfl
theorem kw_692 : Cond.code yX1_isLine cX1_isLine 5 (some .boolean) ∈ hx_all := kt_g (kt_3 (List.mem_of_getElem? (i := 119) rfl)) rfl
theorem kw_693 : Cond.methodLink "SmallCourt" 174 yX1_twinPairs ∈ hx_all := kt_g (kt_3 (List.mem_of_getElem? (i := 120) rfl)) rfl
theorem kw_694 : Cond.instanceMethod yX1_twinPairs ∈ hx_all := kt_g (kt_3 (List.mem_of_getElem? (i := 121) rfl)) rfl
theorem kw_695 : Cond.selects "SmallCourt$Books" yX1_twinPairs yX1_twinPairs ∈ hx_all := kt_g (kt_3 (List.mem_of_getElem? (i := 122) rfl)) rfl
theorem kw_696 : Cond.code yX1_twinPairs cX1_twinPairs 6 (some .int) ∈ hx_all := kt_g (kt_3 (List.mem_of_getElem? (i := 123) rfl)) rfl
theorem kw_697 : Cond.methodLink "SmallCourt$Books" 42 yX1_takeTwin ∈ hx_all := kt_g (kt_3 (List.mem_of_getElem? (i := 124) rfl)) rfl
theorem kw_699 : Cond.instanceMethod yX1_takeTwin ∈ hx_all := kt_g (kt_3 (List.mem_of_getElem? (i := 126) rfl)) rfl
theorem kw_700 : Cond.code yX1_takeTwin cX1_takeTwin 5 (some .boolean) ∈ hx_all := kt_g (kt_3 (List.mem_of_getElem? (i := 127) rfl)) rfl
theorem kw_701 : Cond.methodLink "SmallCourt$Books" 46 yX1_areTwins ∈ hx_all := kt_g (kt_3 (List.mem_of_getElem? (i := 128) rfl)) rfl
theorem kw_703 : Cond.instanceMethod yX1_areTwins ∈ hx_all := kt_g (kt_3 (List.mem_of_getElem? (i := 130) rfl)) rfl
theorem kw_704 : Cond.code yX1_areTwins cX1_areTwins 3 (some .boolean) ∈ hx_all := kt_g (kt_3 (List.mem_of_getElem? (i := 131) rfl)) rfl
theorem kw_705 : Cond.methodLink "SmallCourt$Books" 49 Lib.Math.abs.name ∈ hx_all := kt_g (kt_3 (List.mem_of_getElem? (i := 132) rfl)) rfl
theorem kw_706 : Cond.static Lib.Math.abs.name ∈ hx_all := kt_g (kt_3 (List.mem_of_getElem? (i := 133) rfl)) rfl
theorem kw_707 : Cond.code Lib.Math.abs.name Lib.Math.abs.code 1 (some .int) ∈ hx_all := kt_g (kt_3 (List.mem_of_getElem? (i := 134) rfl)) rfl
theorem kw_708 : Cond.methodLink "SmallCourt" 177 yX1_disorder ∈ hx_all := kt_g (kt_3 (List.mem_of_getElem? (i := 135) rfl)) rfl
theorem kw_709 : Cond.instanceMethod yX1_disorder ∈ hx_all := kt_g (kt_3 (List.mem_of_getElem? (i := 136) rfl)) rfl
theorem kw_710 : Cond.selects "SmallCourt$Books" yX1_disorder yX1_disorder ∈ hx_all := kt_g (kt_3 (List.mem_of_getElem? (i := 137) rfl)) rfl
theorem kw_711 : Cond.code yX1_disorder cX1_disorder 5 (some .int) ∈ hx_all := kt_g (kt_3 (List.mem_of_getElem? (i := 138) rfl)) rfl
theorem kw_712 : Cond.methodLink "SmallCourtLaw" 65 yX9_file ∈ hx_all := kt_g (kt_3 (List.mem_of_getElem? (i := 139) rfl)) rfl
theorem kw_713 : Cond.instanceMethod yX9_file ∈ hx_all := kt_g (kt_3 (List.mem_of_getElem? (i := 140) rfl)) rfl
theorem kw_714 : Cond.selects "SmallCourt" yX9_file yX9_file ∈ hx_all := kt_g (kt_3 (List.mem_of_getElem? (i := 141) rfl)) rfl
theorem kw_715 : Cond.code yX9_file cX9_file 10 (some .int) ∈ hx_all := kt_g (kt_3 (List.mem_of_getElem? (i := 142) rfl)) rfl
theorem kw_716 : Cond.instantiable "SmallCourt$Claim" 19 ∈ hx_all := kt_g (kt_3 (List.mem_of_getElem? (i := 143) rfl)) rfl
theorem kw_717 : Cond.methodLink "SmallCourt" 184 yX2_init ∈ hx_all := kt_g (kt_3 (List.mem_of_getElem? (i := 144) rfl)) rfl
theorem kw_718 : Cond.instanceMethod yX2_init ∈ hx_all := kt_g (kt_3 (List.mem_of_getElem? (i := 145) rfl)) rfl
theorem kw_719 : Cond.code yX2_init cX2_init 5 none ∈ hx_all := kt_g (kt_3 (List.mem_of_getElem? (i := 146) rfl)) rfl
theorem kw_720 : Cond.methodLink "SmallCourt$Claim" 3 Lib.objectInit ∈ hx_all := kt_g (kt_3 (List.mem_of_getElem? (i := 147) rfl)) rfl
theorem kw_721 : Cond.fieldLink "SmallCourt$Claim" 34 "SmallCourt$Claim" "number" "I" ∈ hx_all := kt_g (kt_3 (List.mem_of_getElem? (i := 148) rfl)) rfl
theorem kw_722 : Cond.fieldLink "SmallCourt$Plan" 43 "SmallCourt$Claim" "number" "I" ∈ hx_all := kt_g (kt_3 (List.mem_of_getElem? (i := 149) rfl)) rfl
theorem kw_723 : Cond.fieldLink "SmallCourt$Walk" 28 "SmallCourt$Claim" "number" "I" ∈ hx_all := kt_g (kt_3 (List.mem_of_getElem? (i := 150) rfl)) rfl
theorem kw_724 : Cond.fieldLink "SmallCourt" 199 "SmallCourt$Claim" "number" "I" ∈ hx_all := kt_g (kt_3 (List.mem_of_getElem? (i := 151) rfl)) rfl
theorem kw_725 : Cond.fieldLink "SmallCourt$Claim" 37 "SmallCourt$Claim" "plaintiff" "LSmallCourt$Person;" ∈ hx_all := kt_g (kt_3 (List.mem_of_getElem? (i := 152) rfl)) rfl
theorem kw_726 : Cond.fieldLink "SmallCourt$Person" 46 "SmallCourt$Claim" "plaintiff" "LSmallCourt$Person;" ∈ hx_all := kt_g (kt_3 (List.mem_of_getElem? (i := 153) rfl)) rfl
theorem kw_727 : Cond.fieldLink "SmallCourt$Rings" 72 "SmallCourt$Claim" "plaintiff" "LSmallCourt$Person;" ∈ hx_all := kt_g (kt_3 (List.mem_of_getElem? (i := 154) rfl)) rfl
theorem kw_728 : Cond.fieldLink "SmallCourt" 223 "SmallCourt$Claim" "plaintiff" "LSmallCourt$Person;" ∈ hx_all := kt_g (kt_3 (List.mem_of_getElem? (i := 155) rfl)) rfl
theorem kw_729 : Cond.fieldLink "SmallCourt$Claim" 41 "SmallCourt$Claim" "defendant" "LSmallCourt$Person;" ∈ hx_all := kt_g (kt_3 (List.mem_of_getElem? (i := 156) rfl)) rfl
theorem kw_730 : Cond.fieldLink "SmallCourt$Person" 56 "SmallCourt$Claim" "defendant" "LSmallCourt$Person;" ∈ hx_all := kt_g (kt_3 (List.mem_of_getElem? (i := 157) rfl)) rfl
theorem kw_731 : Cond.fieldLink "SmallCourt$Rings" 61 "SmallCourt$Claim" "defendant" "LSmallCourt$Person;" ∈ hx_all := kt_g (kt_3 (List.mem_of_getElem? (i := 158) rfl)) rfl
theorem kw_732 : Cond.fieldLink "SmallCourt$Walk" 63 "SmallCourt$Claim" "defendant" "LSmallCourt$Person;" ∈ hx_all := kt_g (kt_3 (List.mem_of_getElem? (i := 159) rfl)) rfl
theorem kw_733 : Cond.fieldLink "SmallCourt" 212 "SmallCourt$Claim" "defendant" "LSmallCourt$Person;" ∈ hx_all := kt_g (kt_3 (List.mem_of_getElem? (i := 160) rfl)) rfl
theorem kw_734 : Cond.fieldLink "SmallCourt$Claim" 44 "SmallCourt$Claim" "act" "LSmallCourt$Act;" ∈ hx_all := kt_g (kt_3 (List.mem_of_getElem? (i := 161) rfl)) rfl
theorem kw_735 : Cond.fieldLink "SmallCourt$Plan" 48 "SmallCourt$Claim" "act" "LSmallCourt$Act;" ∈ hx_all := kt_g (kt_3 (List.mem_of_getElem? (i := 162) rfl)) rfl
theorem kw_736 : Cond.fieldLink "SmallCourt" 226 "SmallCourt$Claim" "act" "LSmallCourt$Act;" ∈ hx_all := kt_g (kt_3 (List.mem_of_getElem? (i := 163) rfl)) rfl
theorem kw_737 : Cond.fieldLink "SmallCourt$Claim" 9 "SmallCourt$Claim" "facts" "[I" ∈ hx_all := kt_g (kt_3 (List.mem_of_getElem? (i := 164) rfl)) rfl
theorem kw_738 : Cond.fieldLink "SmallCourt" 196 "SmallCourt$Claim" "facts" "[I" ∈ hx_all := kt_g (kt_3 (List.mem_of_getElem? (i := 165) rfl)) rfl
theorem kw_739 : Cond.fieldLink "SmallCourt$Claim" 15 "SmallCourt$Claim" "bench" "[I" ∈ hx_all := kt_g (kt_3 (List.mem_of_getElem? (i := 166) rfl)) rfl
theorem kw_740 : Cond.fieldLink "SmallCourt" 240 "SmallCourt$Claim" "bench" "[I" ∈ hx_all := kt_g (kt_3 (List.mem_of_getElem? (i := 167) rfl)) rfl
theorem kw_741 : Cond.fieldLink "SmallCourt" 187 "SmallCourt$Claim" "sum" "I" ∈ hx_all := kt_g (kt_3 (List.mem_of_getElem? (i := 168) rfl)) rfl
theorem kw_742 : Cond.fieldLink "SmallCourt" 190 "SmallCourt$Claim" "from" "I" ∈ hx_all := kt_g (kt_3 (List.mem_of_getElem? (i := 169) rfl)) rfl
theorem kw_743 : Cond.fieldLink "SmallCourt" 193 "SmallCourt$Claim" "filed" "I" ∈ hx_all := kt_g (kt_3 (List.mem_of_getElem? (i := 170) rfl)) rfl
theorem kw_744 : Cond.fieldLink "SmallCourt$Claim" 48 "SmallCourt$Claim" "tries" "I" ∈ hx_all := kt_g (kt_3 (List.mem_of_getElem? (i := 171) rfl)) rfl
theorem kw_745 : Cond.fieldLink "SmallCourt" 207 "SmallCourt$Claim" "tries" "I" ∈ hx_all := kt_g (kt_3 (List.mem_of_getElem? (i := 172) rfl)) rfl
theorem kw_746 : Cond.fieldLink "SmallCourt$Claim" 18 "SmallCourt$Claim" "found" "I" ∈ hx_all := kt_g (kt_3 (List.mem_of_getElem? (i := 173) rfl)) rfl
theorem kw_747 : Cond.fieldLink "SmallCourt" 204 "SmallCourt$Claim" "found" "I" ∈ hx_all := kt_g (kt_3 (List.mem_of_getElem? (i := 174) rfl)) rfl
theorem kw_748 : Cond.fieldLink "SmallCourt$Claim" 22 "SmallCourt$Claim" "heard" "I" ∈ hx_all := kt_g (kt_3 (List.mem_of_getElem? (i := 175) rfl)) rfl
theorem kw_749 : Cond.fieldLink "SmallCourt" 210 "SmallCourt$Claim" "heard" "I" ∈ hx_all := kt_g (kt_3 (List.mem_of_getElem? (i := 176) rfl)) rfl
theorem kw_750 : Cond.fieldLink "SmallCourt$Claim" 71 "SmallCourt$Claim" "judged" "I" ∈ hx_all := kt_g (kt_3 (List.mem_of_getElem? (i := 177) rfl)) rfl
theorem kw_751 : Cond.fieldLink "SmallCourt" 233 "SmallCourt$Claim" "judged" "I" ∈ hx_all := kt_g (kt_3 (List.mem_of_getElem? (i := 178) rfl)) rfl
theorem kw_752 : Cond.fieldLink "SmallCourt$Claim" 25 "SmallCourt$Claim" "ordered" "I" ∈ hx_all := kt_g (kt_3 (List.mem_of_getElem? (i := 179) rfl)) rfl
theorem kw_753 : Cond.fieldLink "SmallCourt" 253 "SmallCourt$Claim" "ordered" "I" ∈ hx_all := kt_g (kt_3 (List.mem_of_getElem? (i := 180) rfl)) rfl
theorem kw_754 : Cond.fieldLink "SmallCourt$Claim" 86 "SmallCourt$Claim" "weekly" "I" ∈ hx_all := kt_g (kt_3 (List.mem_of_getElem? (i := 181) rfl)) rfl
theorem kw_755 : Cond.fieldLink "SmallCourt" 271 "SmallCourt$Claim" "weekly" "I" ∈ hx_all := kt_g (kt_3 (List.mem_of_getElem? (i := 182) rfl)) rfl
theorem kw_756 : Cond.fieldLink "SmallCourt$Claim" 107 "SmallCourt$Claim" "owed" "I" ∈ hx_all := kt_g (kt_3 (List.mem_of_getElem? (i := 183) rfl)) rfl
theorem kw_757 : Cond.fieldLink "SmallCourt" 268 "SmallCourt$Claim" "owed" "I" ∈ hx_all := kt_g (kt_3 (List.mem_of_getElem? (i := 184) rfl)) rfl
theorem kw_758 : Cond.fieldLink "SmallCourt$Claim" 28 "SmallCourt$Claim" "seized" "I" ∈ hx_all := kt_g (kt_3 (List.mem_of_getElem? (i := 185) rfl)) rfl
theorem kw_759 : Cond.fieldLink "SmallCourt" 289 "SmallCourt$Claim" "seized" "I" ∈ hx_all := kt_g (kt_3 (List.mem_of_getElem? (i := 186) rfl)) rfl
theorem kw_760 : Cond.fieldLink "SmallCourt$Claim" 98 "SmallCourt$Claim" "worth" "I" ∈ hx_all := kt_g (kt_3 (List.mem_of_getElem? (i := 187) rfl)) rfl
theorem kw_761 : Cond.fieldLink "SmallCourt" 296 "SmallCourt$Claim" "worth" "I" ∈ hx_all := kt_g (kt_3 (List.mem_of_getElem? (i := 188) rfl)) rfl
theorem kw_762 : Cond.fieldLink "SmallCourt$Claim" 31 "SmallCourt$Claim" "served" "I" ∈ hx_all := kt_g (kt_3 (List.mem_of_getElem? (i := 189) rfl)) rfl
theorem kw_763 : Cond.fieldLink "SmallCourt" 279 "SmallCourt$Claim" "served" "I" ∈ hx_all := kt_g (kt_3 (List.mem_of_getElem? (i := 190) rfl)) rfl
theorem kw_764 : Cond.laysFinal "SmallCourt$Claim" "SmallCourt$Claim" "number" "I" ∈ hx_all := kt_g (kt_3 (List.mem_of_getElem? (i := 191) rfl)) rfl
theorem kw_766 : Cond.laysFinal "SmallCourt$Claim" "SmallCourt$Claim" "plaintiff" "LSmallCourt$Person;" ∈ hx_all := kt_g (kt_3 (List.mem_of_getElem? (i := 193) rfl)) rfl
theorem kw_768 : Cond.laysFinal "SmallCourt$Claim" "SmallCourt$Claim" "defendant" "LSmallCourt$Person;" ∈ hx_all := kt_g (kt_3 (List.mem_of_getElem? (i := 195) rfl)) rfl
theorem kw_770 : Cond.laysFinal "SmallCourt$Claim" "SmallCourt$Claim" "act" "LSmallCourt$Act;" ∈ hx_all := kt_g (kt_3 (List.mem_of_getElem? (i := 197) rfl)) rfl
theorem kw_772 : Cond.laysFinal "SmallCourt$Claim" "SmallCourt$Claim" "facts" "[I" ∈ hx_all := kt_g (kt_3 (List.mem_of_getElem? (i := 199) rfl)) rfl
theorem kw_774 : Cond.laysFinal "SmallCourt$Claim" "SmallCourt$Claim" "bench" "[I" ∈ hx_all := kt_g (kt_3 (List.mem_of_getElem? (i := 201) rfl)) rfl
theorem kw_776 : Cond.lays "SmallCourt$Claim" "SmallCourt$Claim" "sum" "I" ∈ hx_all := kt_g (kt_3 (List.mem_of_getElem? (i := 203) rfl)) rfl
theorem kw_778 : Cond.lays "SmallCourt$Claim" "SmallCourt$Claim" "from" "I" ∈ hx_all := kt_g (kt_3 (List.mem_of_getElem? (i := 205) rfl)) rfl
theorem kw_780 : Cond.lays "SmallCourt$Claim" "SmallCourt$Claim" "filed" "I" ∈ hx_all := kt_g (kt_3 (List.mem_of_getElem? (i := 207) rfl)) rfl
theorem kw_782 : Cond.lays "SmallCourt$Claim" "SmallCourt$Claim" "tries" "I" ∈ hx_all := kt_g (kt_3 (List.mem_of_getElem? (i := 209) rfl)) rfl
theorem kw_784 : Cond.lays "SmallCourt$Claim" "SmallCourt$Claim" "found" "I" ∈ hx_all := kt_g (kt_3 (List.mem_of_getElem? (i := 211) rfl)) rfl
theorem kw_786 : Cond.lays "SmallCourt$Claim" "SmallCourt$Claim" "heard" "I" ∈ hx_all := kt_g (kt_3 (List.mem_of_getElem? (i := 213) rfl)) rfl
theorem kw_788 : Cond.lays "SmallCourt$Claim" "SmallCourt$Claim" "judged" "I" ∈ hx_all := kt_g (kt_3 (List.mem_of_getElem? (i := 215) rfl)) rfl
theorem kw_790 : Cond.lays "SmallCourt$Claim" "SmallCourt$Claim" "ordered" "I" ∈ hx_all := kt_g (kt_3 (List.mem_of_getElem? (i := 217) rfl)) rfl
theorem kw_792 : Cond.lays "SmallCourt$Claim" "SmallCourt$Claim" "weekly" "I" ∈ hx_all := kt_g (kt_3 (List.mem_of_getElem? (i := 219) rfl)) rfl
theorem kw_794 : Cond.lays "SmallCourt$Claim" "SmallCourt$Claim" "owed" "I" ∈ hx_all := kt_g (kt_3 (List.mem_of_getElem? (i := 221) rfl)) rfl
theorem kw_796 : Cond.lays "SmallCourt$Claim" "SmallCourt$Claim" "seized" "I" ∈ hx_all := kt_g (kt_3 (List.mem_of_getElem? (i := 223) rfl)) rfl
theorem kw_798 : Cond.lays "SmallCourt$Claim" "SmallCourt$Claim" "worth" "I" ∈ hx_all := kt_g (kt_3 (List.mem_of_getElem? (i := 225) rfl)) rfl
theorem kw_800 : Cond.lays "SmallCourt$Claim" "SmallCourt$Claim" "served" "I" ∈ hx_all := kt_g (kt_3 (List.mem_of_getElem? (i := 227) rfl)) rfl
theorem kw_803 : Cond.methodLink "SmallCourtLaw" 70 yX9_summons ∈ hx_all := kt_g (kt_3 (List.mem_of_getElem? (i := 230) rfl)) rfl
theorem kw_804 : Cond.instanceMethod yX9_summons ∈ hx_all := kt_g (kt_3 (List.mem_of_getElem? (i := 231) rfl)) rfl
theorem kw_805 : Cond.selects "SmallCourt" yX9_summons yX9_summons ∈ hx_all := kt_g (kt_3 (List.mem_of_getElem? (i := 232) rfl)) rfl
theorem kw_806 : Cond.code yX9_summons cX9_summons 4 (some .int) ∈ hx_all := kt_g (kt_3 (List.mem_of_getElem? (i := 233) rfl)) rfl
theorem kw_807 : Cond.methodLink "SmallCourt" 200 yX9_claimAt ∈ hx_all := kt_g (kt_3 (List.mem_of_getElem? (i := 234) rfl)) rfl
theorem kw_809 : Cond.instanceMethod yX9_claimAt ∈ hx_all := kt_g (kt_3 (List.mem_of_getElem? (i := 236) rfl)) rfl
theorem kw_810 : Cond.code yX9_claimAt cX9_claimAt 2 (some (.object "SmallCourt$Claim")) ∈ hx_all := kt_g (kt_3 (List.mem_of_getElem? (i := 237) rfl)) rfl
theorem kw_811 : Cond.methodLink "SmallCourtLaw" 75 yX9_hear ∈ hx_all := kt_g (kt_3 (List.mem_of_getElem? (i := 238) rfl)) rfl
theorem kw_812 : Cond.instanceMethod yX9_hear ∈ hx_all := kt_g (kt_3 (List.mem_of_getElem? (i := 239) rfl)) rfl
theorem kw_813 : Cond.selects "SmallCourt" yX9_hear yX9_hear ∈ hx_all := kt_g (kt_4 (List.mem_of_getElem? (i := 0) rfl)) rfl
theorem kw_814 : Cond.code yX9_hear cX9_hear 8 (some .int) ∈ hx_all := kt_g (kt_4 (List.mem_of_getElem? (i := 1) rfl)) rfl
theorem kw_815 : Cond.methodLink "SmallCourt" 219 yX9_drawBench ∈ hx_all := kt_g (kt_4 (List.mem_of_getElem? (i := 2) rfl)) rfl
theorem kw_817 : Cond.instanceMethod yX9_drawBench ∈ hx_all := kt_g (kt_4 (List.mem_of_getElem? (i := 4) rfl)) rfl
theorem kw_818 : Cond.code yX9_drawBench cX9_drawBench 9 (some .boolean) ∈ hx_all := kt_g (kt_4 (List.mem_of_getElem? (i := 5) rfl)) rfl
theorem kw_819 : Cond.methodLink "SmallCourt" 236 yX4_maySit ∈ hx_all := kt_g (kt_4 (List.mem_of_getElem? (i := 6) rfl)) rfl
theorem kw_820 : Cond.instanceMethod yX4_maySit ∈ hx_all := kt_g (kt_4 (List.mem_of_getElem? (i := 7) rfl)) rfl
theorem kw_821 : Cond.selects "SmallCourt$Person" yX4_maySit yX4_maySit ∈ hx_all := kt_g (kt_4 (List.mem_of_getElem? (i := 8) rfl)) rfl
theorem kw_822 : Cond.code yX4_maySit cX4_maySit 2 (some .boolean) ∈ hx_all := kt_g (kt_4 (List.mem_of_getElem? (i := 9) rfl)) rfl
theorem kw_823 : Cond.methodLink "SmallCourt$Person" 52 yX4_isKinOf ∈ hx_all := kt_g (kt_4 (List.mem_of_getElem? (i := 10) rfl)) rfl
theorem kw_825 : Cond.instanceMethod yX4_isKinOf ∈ hx_all := kt_g (kt_4 (List.mem_of_getElem? (i := 12) rfl)) rfl
theorem kw_826 : Cond.code yX4_isKinOf cX4_isKinOf 2 (some .boolean) ∈ hx_all := kt_g (kt_4 (List.mem_of_getElem? (i := 13) rfl)) rfl
theorem kw_827 : Cond.methodLink "SmallCourt" 229 yX9_judgement ∈ hx_all := kt_g (kt_4 (List.mem_of_getElem? (i := 14) rfl)) rfl
theorem kw_829 : Cond.instanceMethod yX9_judgement ∈ hx_all := kt_g (kt_4 (List.mem_of_getElem? (i := 16) rfl)) rfl
theorem kw_830 : Cond.code yX9_judgement cX9_judgement 3 (some .int) ∈ hx_all := kt_g (kt_4 (List.mem_of_getElem? (i := 17) rfl)) rfl
theorem kw_831 : Cond.methodLink "SmallCourt" 246 yX9_sumOfSplit ∈ hx_all := kt_g (kt_4 (List.mem_of_getElem? (i := 18) rfl)) rfl
theorem kw_833 : Cond.instanceMethod yX9_sumOfSplit ∈ hx_all := kt_g (kt_4 (List.mem_of_getElem? (i := 20) rfl)) rfl
theorem kw_834 : Cond.code yX9_sumOfSplit cX9_sumOfSplit 6 (some .int) ∈ hx_all := kt_g (kt_4 (List.mem_of_getElem? (i := 21) rfl)) rfl
theorem kw_835 : Cond.methodLink "SmallCourt" 249 yX0_proves ∈ hx_all := kt_g (kt_4 (List.mem_of_getElem? (i := 22) rfl)) rfl
theorem kw_836 : Cond.instanceMethod yX0_proves ∈ hx_all := kt_g (kt_4 (List.mem_of_getElem? (i := 23) rfl)) rfl
theorem kw_837 : Cond.selects "SmallCourt$Act" yX0_proves yX0_proves ∈ hx_all := kt_g (kt_4 (List.mem_of_getElem? (i := 24) rfl)) rfl
theorem kw_838 : Cond.code yX0_proves cX0_proves 6 (some .boolean) ∈ hx_all := kt_g (kt_4 (List.mem_of_getElem? (i := 25) rfl)) rfl
theorem kw_839 : Cond.methodLink "SmallCourt$Act" 41 yX0_holds ∈ hx_all := kt_g (kt_4 (List.mem_of_getElem? (i := 26) rfl)) rfl
theorem kw_840 : Cond.static yX0_holds ∈ hx_all := kt_g (kt_4 (List.mem_of_getElem? (i := 27) rfl)) rfl
theorem kw_841 : Cond.code yX0_holds cX0_holds 5 (some .boolean) ∈ hx_all := kt_g (kt_4 (List.mem_of_getElem? (i := 28) rfl)) rfl
theorem kw_842 : Cond.methodLink "SmallCourtLaw" 80 yX9_order ∈ hx_all := kt_g (kt_4 (List.mem_of_getElem? (i := 29) rfl)) rfl
theorem kw_843 : Cond.instanceMethod yX9_order ∈ hx_all := kt_g (kt_4 (List.mem_of_getElem? (i := 30) rfl)) rfl
theorem kw_844 : Cond.selects "SmallCourt" yX9_order yX9_order ∈ hx_all := kt_g (kt_4 (List.mem_of_getElem? (i := 31) rfl)) rfl
theorem kw_845 : Cond.code yX9_order cX9_order 5 (some .int) ∈ hx_all := kt_g (kt_4 (List.mem_of_getElem? (i := 32) rfl)) rfl
theorem kw_846 : Cond.methodLink "SmallCourt" 256 yX2_costsBy ∈ hx_all := kt_g (kt_4 (List.mem_of_getElem? (i := 33) rfl)) rfl
theorem kw_847 : Cond.instanceMethod yX2_costsBy ∈ hx_all := kt_g (kt_4 (List.mem_of_getElem? (i := 34) rfl)) rfl
theorem kw_848 : Cond.selects "SmallCourt$Claim" yX2_costsBy yX2_costsBy ∈ hx_all := kt_g (kt_4 (List.mem_of_getElem? (i := 35) rfl)) rfl
theorem kw_849 : Cond.code yX2_costsBy cX2_costsBy 4 (some .int) ∈ hx_all := kt_g (kt_4 (List.mem_of_getElem? (i := 36) rfl)) rfl
theorem kw_850 : Cond.methodLink "SmallCourt" 260 yX9_openInstalments ∈ hx_all := kt_g (kt_4 (List.mem_of_getElem? (i := 37) rfl)) rfl
theorem kw_852 : Cond.instanceMethod yX9_openInstalments ∈ hx_all := kt_g (kt_4 (List.mem_of_getElem? (i := 39) rfl)) rfl
theorem kw_853 : Cond.code yX9_openInstalments cX9_openInstalments 4 (some .int) ∈ hx_all := kt_g (kt_4 (List.mem_of_getElem? (i := 40) rfl)) rfl
theorem kw_854 : Cond.methodLink "SmallCourt" 274 yX2_isOpen ∈ hx_all := kt_g (kt_4 (List.mem_of_getElem? (i := 41) rfl)) rfl
theorem kw_855 : Cond.instanceMethod yX2_isOpen ∈ hx_all := kt_g (kt_4 (List.mem_of_getElem? (i := 42) rfl)) rfl
theorem kw_856 : Cond.selects "SmallCourt$Claim" yX2_isOpen yX2_isOpen ∈ hx_all := kt_g (kt_4 (List.mem_of_getElem? (i := 43) rfl)) rfl
theorem kw_857 : Cond.code yX2_isOpen cX2_isOpen 3 (some .boolean) ∈ hx_all := kt_g (kt_4 (List.mem_of_getElem? (i := 44) rfl)) rfl
theorem kw_858 : Cond.methodLink "SmallCourt$Claim" 56 yX2_restOn ∈ hx_all := kt_g (kt_4 (List.mem_of_getElem? (i := 45) rfl)) rfl
theorem kw_859 : Cond.instanceMethod yX2_restOn ∈ hx_all := kt_g (kt_4 (List.mem_of_getElem? (i := 46) rfl)) rfl
theorem kw_860 : Cond.selects "SmallCourt$Claim" yX2_restOn yX2_restOn ∈ hx_all := kt_g (kt_4 (List.mem_of_getElem? (i := 47) rfl)) rfl
theorem kw_861 : Cond.code yX2_restOn cX2_restOn 4 (some .int) ∈ hx_all := kt_g (kt_4 (List.mem_of_getElem? (i := 48) rfl)) rfl
theorem kw_862 : Cond.methodLink "SmallCourt$Claim" 60 yX2_isDone ∈ hx_all := kt_g (kt_4 (List.mem_of_getElem? (i := 49) rfl)) rfl
theorem kw_863 : Cond.static yX2_isDone ∈ hx_all := kt_g (kt_4 (List.mem_of_getElem? (i := 50) rfl)) rfl
theorem kw_864 : Cond.code yX2_isDone cX2_isDone 2 (some .boolean) ∈ hx_all := kt_g (kt_4 (List.mem_of_getElem? (i := 51) rfl)) rfl
theorem kw_865 : Cond.methodLink "SmallCourt$Claim" 74 yX2_balanceOn ∈ hx_all := kt_g (kt_4 (List.mem_of_getElem? (i := 52) rfl)) rfl
theorem kw_866 : Cond.instanceMethod yX2_balanceOn ∈ hx_all := kt_g (kt_4 (List.mem_of_getElem? (i := 53) rfl)) rfl
theorem kw_867 : Cond.selects "SmallCourt$Claim" yX2_balanceOn yX2_balanceOn ∈ hx_all := kt_g (kt_4 (List.mem_of_getElem? (i := 54) rfl)) rfl
theorem kw_868 : Cond.code yX2_balanceOn cX2_balanceOn 4 (some .int) ∈ hx_all := kt_g (kt_4 (List.mem_of_getElem? (i := 55) rfl)) rfl
theorem kw_869 : Cond.methodLink "SmallCourt$Claim" 83 yX2_owedOn ∈ hx_all := kt_g (kt_4 (List.mem_of_getElem? (i := 56) rfl)) rfl
theorem kw_871 : Cond.instanceMethod yX2_owedOn ∈ hx_all := kt_g (kt_4 (List.mem_of_getElem? (i := 58) rfl)) rfl
theorem kw_872 : Cond.code yX2_owedOn cX2_owedOn 2 (some .int) ∈ hx_all := kt_g (kt_4 (List.mem_of_getElem? (i := 59) rfl)) rfl
theorem kw_873 : Cond.methodLink "SmallCourt$Claim" 92 yX2_paidOn ∈ hx_all := kt_g (kt_4 (List.mem_of_getElem? (i := 60) rfl)) rfl
theorem kw_874 : Cond.instanceMethod yX2_paidOn ∈ hx_all := kt_g (kt_4 (List.mem_of_getElem? (i := 61) rfl)) rfl
theorem kw_875 : Cond.selects "SmallCourt$Claim" yX2_paidOn yX2_paidOn ∈ hx_all := kt_g (kt_4 (List.mem_of_getElem? (i := 62) rfl)) rfl
theorem kw_876 : Cond.code yX2_paidOn cX2_paidOn 5 (some .int) ∈ hx_all := kt_g (kt_4 (List.mem_of_getElem? (i := 63) rfl)) rfl
theorem kw_877 : Cond.methodLink "SmallCourt$Claim" 101 yX3_sumFor ∈ hx_all := kt_g (kt_4 (List.mem_of_getElem? (i := 64) rfl)) rfl
theorem kw_878 : Cond.instanceMethod yX3_sumFor ∈ hx_all := kt_g (kt_4 (List.mem_of_getElem? (i := 65) rfl)) rfl
theorem kw_879 : Cond.selects "SmallCourt$Payments" yX3_sumFor yX3_sumFor ∈ hx_all := kt_g (kt_4 (List.mem_of_getElem? (i := 66) rfl)) rfl
theorem kw_880 : Cond.code yX3_sumFor cX3_sumFor 7 (some .int) ∈ hx_all := kt_g (kt_4 (List.mem_of_getElem? (i := 67) rfl)) rfl
theorem kw_881 : Cond.methodLink "SmallCourt$Claim" 77 Lib.Math.max.name ∈ hx_all := kt_g (kt_4 (List.mem_of_getElem? (i := 68) rfl)) rfl
theorem kw_882 : Cond.static Lib.Math.max.name ∈ hx_all := kt_g (kt_4 (List.mem_of_getElem? (i := 69) rfl)) rfl
theorem kw_883 : Cond.code Lib.Math.max.name Lib.Math.max.code 2 (some .int) ∈ hx_all := kt_g (kt_4 (List.mem_of_getElem? (i := 70) rfl)) rfl
theorem kw_884 : Cond.methodLink "SmallCourt" 264 yX4_meansBy ∈ hx_all := kt_g (kt_4 (List.mem_of_getElem? (i := 71) rfl)) rfl
theorem kw_885 : Cond.instanceMethod yX4_meansBy ∈ hx_all := kt_g (kt_4 (List.mem_of_getElem? (i := 72) rfl)) rfl
theorem kw_886 : Cond.selects "SmallCourt$Person" yX4_meansBy yX4_meansBy ∈ hx_all := kt_g (kt_4 (List.mem_of_getElem? (i := 73) rfl)) rfl
theorem kw_887 : Cond.code yX4_meansBy cX4_meansBy 2 (some .int) ∈ hx_all := kt_g (kt_4 (List.mem_of_getElem? (i := 74) rfl)) rfl
theorem kw_888 : Cond.methodLink "SmallCourtLaw" 84 yX9_pay ∈ hx_all := kt_g (kt_4 (List.mem_of_getElem? (i := 75) rfl)) rfl
theorem kw_889 : Cond.instanceMethod yX9_pay ∈ hx_all := kt_g (kt_4 (List.mem_of_getElem? (i := 76) rfl)) rfl
theorem kw_890 : Cond.selects "SmallCourt" yX9_pay yX9_pay ∈ hx_all := kt_g (kt_4 (List.mem_of_getElem? (i := 77) rfl)) rfl
theorem kw_891 : Cond.code yX9_pay cX9_pay 5 (some .int) ∈ hx_all := kt_g (kt_4 (List.mem_of_getElem? (i := 78) rfl)) rfl
theorem kw_892 : Cond.methodLink "SmallCourt" 282 yX3_addPayment ∈ hx_all := kt_g (kt_4 (List.mem_of_getElem? (i := 79) rfl)) rfl
theorem kw_893 : Cond.instanceMethod yX3_addPayment ∈ hx_all := kt_g (kt_4 (List.mem_of_getElem? (i := 80) rfl)) rfl
theorem kw_894 : Cond.selects "SmallCourt$Payments" yX3_addPayment yX3_addPayment ∈ hx_all := kt_g (kt_4 (List.mem_of_getElem? (i := 81) rfl)) rfl
theorem kw_895 : Cond.code yX3_addPayment cX3_addPayment 5 (some .int) ∈ hx_all := kt_g (kt_4 (List.mem_of_getElem? (i := 82) rfl)) rfl
theorem kw_896 : Cond.methodLink "SmallCourtLaw" 89 yX9_strike ∈ hx_all := kt_g (kt_4 (List.mem_of_getElem? (i := 83) rfl)) rfl
theorem kw_897 : Cond.instanceMethod yX9_strike ∈ hx_all := kt_g (kt_4 (List.mem_of_getElem? (i := 84) rfl)) rfl
theorem kw_898 : Cond.selects "SmallCourt" yX9_strike yX9_strike ∈ hx_all := kt_g (kt_4 (List.mem_of_getElem? (i := 85) rfl)) rfl
theorem kw_899 : Cond.code yX9_strike cX9_strike 2 (some .boolean) ∈ hx_all := kt_g (kt_4 (List.mem_of_getElem? (i := 86) rfl)) rfl
theorem kw_900 : Cond.methodLink "SmallCourtLaw" 93 yX9_seize ∈ hx_all := kt_g (kt_4 (List.mem_of_getElem? (i := 87) rfl)) rfl
theorem kw_901 : Cond.instanceMethod yX9_seize ∈ hx_all := kt_g (kt_4 (List.mem_of_getElem? (i := 88) rfl)) rfl
theorem kw_902 : Cond.selects "SmallCourt" yX9_seize yX9_seize ∈ hx_all := kt_g (kt_4 (List.mem_of_getElem? (i := 89) rfl)) rfl
theorem kw_903 : Cond.code yX9_seize cX9_seize 5 (some .int) ∈ hx_all := kt_g (kt_4 (List.mem_of_getElem? (i := 90) rfl)) rfl
theorem kw_904 : Cond.methodLink "SmallCourt" 292 yX2_stateOn ∈ hx_all := kt_g (kt_4 (List.mem_of_getElem? (i := 91) rfl)) rfl
theorem kw_905 : Cond.instanceMethod yX2_stateOn ∈ hx_all := kt_g (kt_4 (List.mem_of_getElem? (i := 92) rfl)) rfl
theorem kw_906 : Cond.selects "SmallCourt$Claim" yX2_stateOn yX2_stateOn ∈ hx_all := kt_g (kt_4 (List.mem_of_getElem? (i := 93) rfl)) rfl
theorem kw_907 : Cond.code yX2_stateOn cX2_stateOn 5 (some .int) ∈ hx_all := kt_g (kt_4 (List.mem_of_getElem? (i := 94) rfl)) rfl
theorem kw_908 : Cond.methodLink "SmallCourt$Claim" 64 yX2_stateAheadOfOrder ∈ hx_all := kt_g (kt_4 (List.mem_of_getElem? (i := 95) rfl)) rfl
theorem kw_910 : Cond.instanceMethod yX2_stateAheadOfOrder ∈ hx_all := kt_g (kt_4 (List.mem_of_getElem? (i := 97) rfl)) rfl
theorem kw_911 : Cond.code yX2_stateAheadOfOrder cX2_stateAheadOfOrder 2 (some .int) ∈ hx_all := kt_g (kt_4 (List.mem_of_getElem? (i := 98) rfl)) rfl
theorem kw_912 : Cond.methodLink "SmallCourt$Claim" 68 yX2_missedOn ∈ hx_all := kt_g (kt_4 (List.mem_of_getElem? (i := 99) rfl)) rfl
theorem kw_913 : Cond.instanceMethod yX2_missedOn ∈ hx_all := kt_g (kt_4 (List.mem_of_getElem? (i := 100) rfl)) rfl
theorem kw_914 : Cond.selects "SmallCourt$Claim" yX2_missedOn yX2_missedOn ∈ hx_all := kt_g (kt_4 (List.mem_of_getElem? (i := 101) rfl)) rfl
theorem kw_915 : Cond.code yX2_missedOn cX2_missedOn 5 (some .int) ∈ hx_all := kt_g (kt_4 (List.mem_of_getElem? (i := 102) rfl)) rfl
theorem kw_916 : Cond.methodLink "SmallCourt$Claim" 89 Lib.Math.min.name ∈ hx_all := kt_g (kt_4 (List.mem_of_getElem? (i := 103) rfl)) rfl
theorem kw_917 : Cond.static Lib.Math.min.name ∈ hx_all := kt_g (kt_4 (List.mem_of_getElem? (i := 104) rfl)) rfl
theorem kw_918 : Cond.code Lib.Math.min.name Lib.Math.min.code 2 (some .int) ∈ hx_all := kt_g (kt_4 (List.mem_of_getElem? (i := 105) rfl)) rfl
theorem kw_919 : Cond.methodLinkNest "SmallCourt$Claim" 95 yX9_roundUp "SmallCourt" ∈ lw_tbl := kt_4 (List.mem_of_getElem? (i := 106) rfl)
theorem kw_920 : Cond.static yX9_roundUp ∈ hx_all := kt_g (kt_4 (List.mem_of_getElem? (i := 107) rfl)) rfl
theorem kw_921 : Cond.code yX9_roundUp cX9_roundUp 2 (some .int) ∈ hx_all := kt_g (kt_4 (List.mem_of_getElem? (i := 108) rfl)) rfl
theorem kw_922 : Cond.methodLink "SmallCourt" 299 yX2_balanceOn ∈ hx_all := kt_g (kt_4 (List.mem_of_getElem? (i := 109) rfl)) rfl
theorem kw_923 : Cond.methodLink "SmallCourtLaw" 97 yX9_gaol ∈ hx_all := kt_g (kt_4 (List.mem_of_getElem? (i := 110) rfl)) rfl
theorem kw_924 : Cond.instanceMethod yX9_gaol ∈ hx_all := kt_g (kt_4 (List.mem_of_getElem? (i := 111) rfl)) rfl
theorem kw_925 : Cond.selects "SmallCourt" yX9_gaol yX9_gaol ∈ hx_all := kt_g (kt_4 (List.mem_of_getElem? (i := 112) rfl)) rfl
theorem kw_926 : Cond.code yX9_gaol cX9_gaol 4 (some .int) ∈ hx_all := kt_g (kt_4 (List.mem_of_getElem? (i := 113) rfl)) rfl
theorem kw_927 : Cond.methodLink "SmallCourt" 302 yX2_restOn ∈ hx_all := kt_g (kt_4 (List.mem_of_getElem? (i := 114) rfl)) rfl
theorem kw_928 : Cond.methodLink "SmallCourt" 305 yX9_roundUp ∈ hx_all := kt_g (kt_4 (List.mem_of_getElem? (i := 115) rfl)) rfl
theorem kw_929 : Cond.methodLink "SmallCourt" 309 Lib.Math.min.name ∈ hx_all := kt_g (kt_4 (List.mem_of_getElem? (i := 116) rfl)) rfl
theorem kw_930 : Cond.methodLink "SmallCourtLaw" 101 yX9_claim ∈ hx_all := kt_g (kt_4 (List.mem_of_getElem? (i := 117) rfl)) rfl
theorem kw_931 : Cond.instanceMethod yX9_claim ∈ hx_all := kt_g (kt_4 (List.mem_of_getElem? (i := 118) rfl)) rfl
theorem kw_932 : Cond.selects "SmallCourt" yX9_claim yX9_claim ∈ hx_all := kt_g (kt_4 (List.mem_of_getElem? (i := 119) rfl)) rfl
theorem kw_933 : Cond.code yX9_claim cX9_claim 4 (some .int) ∈ hx_all := kt_g (kt_4 (List.mem_of_getElem? (i := 120) rfl)) rfl
theorem kw_934 : Cond.methodLink "SmallCourtLaw" 105 yX9_state ∈ hx_all := kt_g (kt_4 (List.mem_of_getElem? (i := 121) rfl)) rfl
theorem kw_935 : Cond.instanceMethod yX9_state ∈ hx_all := kt_g (kt_4 (List.mem_of_getElem? (i := 122) rfl)) rfl
theorem kw_936 : Cond.selects "SmallCourt" yX9_state yX9_state ∈ hx_all := kt_g (kt_4 (List.mem_of_getElem? (i := 123) rfl)) rfl
theorem kw_937 : Cond.code yX9_state cX9_state 6 (some .int) ∈ hx_all := kt_g (kt_4 (List.mem_of_getElem? (i := 124) rfl)) rfl
theorem kw_938 : Cond.methodLink "SmallCourt" 314 yX2_missedOn ∈ hx_all := kt_g (kt_4 (List.mem_of_getElem? (i := 125) rfl)) rfl
theorem kw_939 : Cond.methodLink "SmallCourt" 317 yX2_paidOn ∈ hx_all := kt_g (kt_4 (List.mem_of_getElem? (i := 126) rfl)) rfl
theorem kw_940 : Cond.methodLink "SmallCourt" 320 yX2_overOn ∈ hx_all := kt_g (kt_4 (List.mem_of_getElem? (i := 127) rfl)) rfl
theorem kw_941 : Cond.instanceMethod yX2_overOn ∈ hx_all := kt_g (kt_4 (List.mem_of_getElem? (i := 128) rfl)) rfl
theorem kw_942 : Cond.selects "SmallCourt$Claim" yX2_overOn yX2_overOn ∈ hx_all := kt_g (kt_4 (List.mem_of_getElem? (i := 129) rfl)) rfl
theorem kw_943 : Cond.code yX2_overOn cX2_overOn 4 (some .int) ∈ hx_all := kt_g (kt_4 (List.mem_of_getElem? (i := 130) rfl)) rfl
theorem kw_944 : Cond.methodLink "SmallCourtLaw" 109 yX9_plan ∈ hx_all := kt_g (kt_4 (List.mem_of_getElem? (i := 131) rfl)) rfl
theorem kw_945 : Cond.instanceMethod yX9_plan ∈ hx_all := kt_g (kt_4 (List.mem_of_getElem? (i := 132) rfl)) rfl
theorem kw_946 : Cond.selects "SmallCourt" yX9_plan yX9_plan ∈ hx_all := kt_g (kt_4 (List.mem_of_getElem? (i := 133) rfl)) rfl
theorem kw_947 : Cond.code yX9_plan cX9_plan 6 (some .int) ∈ hx_all := kt_g (kt_4 (List.mem_of_getElem? (i := 134) rfl)) rfl
theorem kw_948 : Cond.methodLink "SmallCourt" 323 yX5_clear ∈ hx_all := kt_g (kt_4 (List.mem_of_getElem? (i := 135) rfl)) rfl
theorem kw_949 : Cond.instanceMethod yX5_clear ∈ hx_all := kt_g (kt_4 (List.mem_of_getElem? (i := 136) rfl)) rfl
theorem kw_950 : Cond.selects "SmallCourt$Plan" yX5_clear yX5_clear ∈ hx_all := kt_g (kt_4 (List.mem_of_getElem? (i := 137) rfl)) rfl
theorem kw_951 : Cond.code yX5_clear cX5_clear 3 none ∈ hx_all := kt_g (kt_4 (List.mem_of_getElem? (i := 138) rfl)) rfl
theorem kw_952 : Cond.methodLink "SmallCourt" 329 yX5_addOpen ∈ hx_all := kt_g (kt_4 (List.mem_of_getElem? (i := 139) rfl)) rfl
theorem kw_953 : Cond.instanceMethod yX5_addOpen ∈ hx_all := kt_g (kt_4 (List.mem_of_getElem? (i := 140) rfl)) rfl
theorem kw_954 : Cond.selects "SmallCourt$Plan" yX5_addOpen yX5_addOpen ∈ hx_all := kt_g (kt_4 (List.mem_of_getElem? (i := 141) rfl)) rfl
theorem kw_955 : Cond.code yX5_addOpen cX5_addOpen 3 none ∈ hx_all := kt_g (kt_4 (List.mem_of_getElem? (i := 142) rfl)) rfl
theorem kw_956 : Cond.methodLink "SmallCourt$Plan" 57 Lib.Math.min.name ∈ hx_all := kt_g (kt_4 (List.mem_of_getElem? (i := 143) rfl)) rfl
theorem kw_957 : Cond.methodLink "SmallCourt" 333 yX5_settle ∈ hx_all := kt_g (kt_4 (List.mem_of_getElem? (i := 144) rfl)) rfl
theorem kw_958 : Cond.instanceMethod yX5_settle ∈ hx_all := kt_g (kt_4 (List.mem_of_getElem? (i := 145) rfl)) rfl
theorem kw_959 : Cond.selects "SmallCourt$Plan" yX5_settle yX5_settle ∈ hx_all := kt_g (kt_4 (List.mem_of_getElem? (i := 146) rfl)) rfl
theorem kw_960 : Cond.code yX5_settle cX5_settle 2 (some .int) ∈ hx_all := kt_g (kt_4 (List.mem_of_getElem? (i := 147) rfl)) rfl
theorem kw_961 : Cond.methodLink "SmallCourt$Plan" 63 yX5_leastFrom ∈ hx_all := kt_g (kt_4 (List.mem_of_getElem? (i := 148) rfl)) rfl
theorem kw_963 : Cond.instanceMethod yX5_leastFrom ∈ hx_all := kt_g (kt_4 (List.mem_of_getElem? (i := 150) rfl)) rfl
theorem kw_964 : Cond.code yX5_leastFrom cX5_leastFrom 4 (some .int) ∈ hx_all := kt_g (kt_4 (List.mem_of_getElem? (i := 151) rfl)) rfl
theorem kw_965 : Cond.constant "SmallCourt$Plan" 67 (1000000000) ∈ hx_all := kt_g (kt_4 (List.mem_of_getElem? (i := 152) rfl)) rfl
theorem kw_966 : Cond.methodLink "SmallCourt$Plan" 74 yX5_tryFrom ∈ hx_all := kt_g (kt_4 (List.mem_of_getElem? (i := 153) rfl)) rfl
theorem kw_968 : Cond.instanceMethod yX5_tryFrom ∈ hx_all := kt_g (kt_4 (List.mem_of_getElem? (i := 155) rfl)) rfl
theorem kw_969 : Cond.code yX5_tryFrom cX5_tryFrom 9 none ∈ hx_all := kt_g (kt_4 (List.mem_of_getElem? (i := 156) rfl)) rfl
theorem kw_970 : Cond.methodLink "SmallCourt$Plan" 83 yX5_keepIfBetter ∈ hx_all := kt_g (kt_4 (List.mem_of_getElem? (i := 157) rfl)) rfl
theorem kw_972 : Cond.instanceMethod yX5_keepIfBetter ∈ hx_all := kt_g (kt_4 (List.mem_of_getElem? (i := 159) rfl)) rfl
theorem kw_973 : Cond.code yX5_keepIfBetter cX5_keepIfBetter 3 none ∈ hx_all := kt_g (kt_4 (List.mem_of_getElem? (i := 160) rfl)) rfl
theorem kw_974 : Cond.methodLink "SmallCourt$Plan" 90 arraycopyName ∈ hx_all := kt_g (kt_4 (List.mem_of_getElem? (i := 161) rfl)) rfl
theorem kw_975 : Cond.methodLinkNest "SmallCourt$Plan" 78 yX9_roundUp "SmallCourt" ∈ lw_tbl := kt_4 (List.mem_of_getElem? (i := 162) rfl)
theorem kw_976 : Cond.methodLink "SmallCourt$Plan" 87 Lib.Math.max.name ∈ hx_all := kt_g (kt_4 (List.mem_of_getElem? (i := 163) rfl)) rfl
theorem kw_977 : Cond.methodLink "SmallCourtLaw" 113 yX9_planned ∈ hx_all := kt_g (kt_4 (List.mem_of_getElem? (i := 164) rfl)) rfl
theorem kw_978 : Cond.instanceMethod yX9_planned ∈ hx_all := kt_g (kt_4 (List.mem_of_getElem? (i := 165) rfl)) rfl
theorem kw_979 : Cond.selects "SmallCourt" yX9_planned yX9_planned ∈ hx_all := kt_g (kt_4 (List.mem_of_getElem? (i := 166) rfl)) rfl
theorem kw_980 : Cond.code yX9_planned cX9_planned 3 (some .int) ∈ hx_all := kt_g (kt_4 (List.mem_of_getElem? (i := 167) rfl)) rfl
theorem kw_981 : Cond.methodLink "SmallCourtLaw" 117 yX9_net ∈ hx_all := kt_g (kt_4 (List.mem_of_getElem? (i := 168) rfl)) rfl
theorem kw_982 : Cond.instanceMethod yX9_net ∈ hx_all := kt_g (kt_4 (List.mem_of_getElem? (i := 169) rfl)) rfl
theorem kw_983 : Cond.selects "SmallCourt" yX9_net yX9_net ∈ hx_all := kt_g (kt_4 (List.mem_of_getElem? (i := 170) rfl)) rfl
theorem kw_984 : Cond.code yX9_net cX9_net 3 (some .int) ∈ hx_all := kt_g (kt_4 (List.mem_of_getElem? (i := 171) rfl)) rfl
theorem kw_985 : Cond.methodLink "SmallCourt" 346 yX7_clear ∈ hx_all := kt_g (kt_4 (List.mem_of_getElem? (i := 172) rfl)) rfl
theorem kw_986 : Cond.instanceMethod yX7_clear ∈ hx_all := kt_g (kt_4 (List.mem_of_getElem? (i := 173) rfl)) rfl
theorem kw_987 : Cond.selects "SmallCourt$Rings" yX7_clear yX7_clear ∈ hx_all := kt_g (kt_4 (List.mem_of_getElem? (i := 174) rfl)) rfl
theorem kw_988 : Cond.code yX7_clear cX7_clear 3 none ∈ hx_all := kt_g (kt_4 (List.mem_of_getElem? (i := 175) rfl)) rfl
theorem kw_989 : Cond.methodLink "SmallCourt" 348 yX7_owe ∈ hx_all := kt_g (kt_4 (List.mem_of_getElem? (i := 176) rfl)) rfl
theorem kw_990 : Cond.instanceMethod yX7_owe ∈ hx_all := kt_g (kt_4 (List.mem_of_getElem? (i := 177) rfl)) rfl
theorem kw_991 : Cond.selects "SmallCourt$Rings" yX7_owe yX7_owe ∈ hx_all := kt_g (kt_4 (List.mem_of_getElem? (i := 178) rfl)) rfl
theorem kw_992 : Cond.code yX7_owe cX7_owe 4 none ∈ hx_all := kt_g (kt_4 (List.mem_of_getElem? (i := 179) rfl)) rfl
theorem kw_993 : Cond.methodLink "SmallCourt" 351 yX7_findBest ∈ hx_all := kt_g (kt_4 (List.mem_of_getElem? (i := 180) rfl)) rfl
theorem kw_994 : Cond.instanceMethod yX7_findBest ∈ hx_all := kt_g (kt_4 (List.mem_of_getElem? (i := 181) rfl)) rfl
theorem kw_995 : Cond.selects "SmallCourt$Rings" yX7_findBest yX7_findBest ∈ hx_all := kt_g (kt_4 (List.mem_of_getElem? (i := 182) rfl)) rfl
theorem kw_996 : Cond.code yX7_findBest cX7_findBest 2 (some .boolean) ∈ hx_all := kt_g (kt_4 (List.mem_of_getElem? (i := 183) rfl)) rfl
theorem kw_997 : Cond.constant "SmallCourt$Rings" 37 (1000000000) ∈ hx_all := kt_g (kt_4 (List.mem_of_getElem? (i := 184) rfl)) rfl
theorem kw_998 : Cond.methodLink "SmallCourt$Rings" 38 yX7_goOn ∈ hx_all := kt_g (kt_4 (List.mem_of_getElem? (i := 185) rfl)) rfl
theorem kw_1000 : Cond.instanceMethod yX7_goOn ∈ hx_all := kt_g (kt_4 (List.mem_of_getElem? (i := 187) rfl)) rfl
theorem kw_1001 : Cond.code yX7_goOn cX7_goOn 6 none ∈ hx_all := kt_g (kt_4 (List.mem_of_getElem? (i := 188) rfl)) rfl
theorem kw_1002 : Cond.methodLink "SmallCourt$Rings" 42 Lib.Math.min.name ∈ hx_all := kt_g (kt_4 (List.mem_of_getElem? (i := 189) rfl)) rfl
theorem kw_1003 : Cond.methodLink "SmallCourt$Rings" 48 yX7_keepIfBetter ∈ hx_all := kt_g (kt_4 (List.mem_of_getElem? (i := 190) rfl)) rfl
theorem kw_1005 : Cond.instanceMethod yX7_keepIfBetter ∈ hx_all := kt_g (kt_4 (List.mem_of_getElem? (i := 192) rfl)) rfl
theorem kw_1006 : Cond.code yX7_keepIfBetter cX7_keepIfBetter 3 none ∈ hx_all := kt_g (kt_4 (List.mem_of_getElem? (i := 193) rfl)) rfl
theorem kw_1007 : Cond.methodLink "SmallCourt$Rings" 55 arraycopyName ∈ hx_all := kt_g (kt_4 (List.mem_of_getElem? (i := 194) rfl)) rfl
theorem kw_1008 : Cond.methodLink "SmallCourt$Rings" 51 yX7_isInRing ∈ hx_all := kt_g (kt_4 (List.mem_of_getElem? (i := 195) rfl)) rfl
theorem kw_1010 : Cond.instanceMethod yX7_isInRing ∈ hx_all := kt_g (kt_4 (List.mem_of_getElem? (i := 197) rfl)) rfl
theorem kw_1011 : Cond.code yX7_isInRing cX7_isInRing 4 (some .boolean) ∈ hx_all := kt_g (kt_4 (List.mem_of_getElem? (i := 198) rfl)) rfl
theorem kw_1012 : Cond.methodLink "SmallCourt" 355 yX9_ringNeeds ∈ hx_all := kt_g (kt_4 (List.mem_of_getElem? (i := 199) rfl)) rfl
theorem kw_1014 : Cond.instanceMethod yX9_ringNeeds ∈ hx_all := kt_g (kt_4 (List.mem_of_getElem? (i := 201) rfl)) rfl
theorem kw_1015 : Cond.code yX9_ringNeeds cX9_ringNeeds 5 (some .int) ∈ hx_all := kt_g (kt_4 (List.mem_of_getElem? (i := 202) rfl)) rfl
theorem kw_1016 : Cond.methodLink "SmallCourt" 367 yX7_isDebt ∈ hx_all := kt_g (kt_4 (List.mem_of_getElem? (i := 203) rfl)) rfl
theorem kw_1017 : Cond.instanceMethod yX7_isDebt ∈ hx_all := kt_g (kt_4 (List.mem_of_getElem? (i := 204) rfl)) rfl
theorem kw_1018 : Cond.selects "SmallCourt$Rings" yX7_isDebt yX7_isDebt ∈ hx_all := kt_g (kt_4 (List.mem_of_getElem? (i := 205) rfl)) rfl
theorem kw_1019 : Cond.code yX7_isDebt cX7_isDebt 3 (some .boolean) ∈ hx_all := kt_g (kt_4 (List.mem_of_getElem? (i := 206) rfl)) rfl
theorem kw_1020 : Cond.methodLink "SmallCourt$Rings" 75 yX7_placeAfter ∈ hx_all := kt_g (kt_4 (List.mem_of_getElem? (i := 207) rfl)) rfl
theorem kw_1022 : Cond.instanceMethod yX7_placeAfter ∈ hx_all := kt_g (kt_4 (List.mem_of_getElem? (i := 209) rfl)) rfl
theorem kw_1023 : Cond.code yX7_placeAfter cX7_placeAfter 2 (some .int) ∈ hx_all := kt_g (kt_4 (List.mem_of_getElem? (i := 210) rfl)) rfl
theorem kw_1024 : Cond.methodLink "SmallCourt" 358 yX9_takeOffRing ∈ hx_all := kt_g (kt_4 (List.mem_of_getElem? (i := 211) rfl)) rfl
theorem kw_1026 : Cond.instanceMethod yX9_takeOffRing ∈ hx_all := kt_g (kt_4 (List.mem_of_getElem? (i := 213) rfl)) rfl
theorem kw_1027 : Cond.code yX9_takeOffRing cX9_takeOffRing 6 (some .int) ∈ hx_all := kt_g (kt_4 (List.mem_of_getElem? (i := 214) rfl)) rfl
theorem kw_1028 : Cond.methodLink "SmallCourt" 371 yX7_takeOff ∈ hx_all := kt_g (kt_4 (List.mem_of_getElem? (i := 215) rfl)) rfl
theorem kw_1029 : Cond.instanceMethod yX7_takeOff ∈ hx_all := kt_g (kt_4 (List.mem_of_getElem? (i := 216) rfl)) rfl
theorem kw_1030 : Cond.selects "SmallCourt$Rings" yX7_takeOff yX7_takeOff ∈ hx_all := kt_g (kt_4 (List.mem_of_getElem? (i := 217) rfl)) rfl
theorem kw_1031 : Cond.code yX7_takeOff cX7_takeOff 2 none ∈ hx_all := kt_g (kt_4 (List.mem_of_getElem? (i := 218) rfl)) rfl
theorem kw_1032 : Cond.methodLink "SmallCourtLaw" 122 yX9_netted ∈ hx_all := kt_g (kt_4 (List.mem_of_getElem? (i := 219) rfl)) rfl
theorem kw_1033 : Cond.instanceMethod yX9_netted ∈ hx_all := kt_g (kt_4 (List.mem_of_getElem? (i := 220) rfl)) rfl
theorem kw_1034 : Cond.selects "SmallCourt" yX9_netted yX9_netted ∈ hx_all := kt_g (kt_4 (List.mem_of_getElem? (i := 221) rfl)) rfl
theorem kw_1035 : Cond.code yX9_netted cX9_netted 2 (some .int) ∈ hx_all := kt_g (kt_4 (List.mem_of_getElem? (i := 222) rfl)) rfl
theorem kw_1036 : Cond.methodLink "SmallCourtLaw" 126 yX9_list ∈ hx_all := kt_g (kt_4 (List.mem_of_getElem? (i := 223) rfl)) rfl
theorem kw_1037 : Cond.instanceMethod yX9_list ∈ hx_all := kt_g (kt_4 (List.mem_of_getElem? (i := 224) rfl)) rfl
theorem kw_1038 : Cond.selects "SmallCourt" yX9_list yX9_list ∈ hx_all := kt_g (kt_4 (List.mem_of_getElem? (i := 225) rfl)) rfl
theorem kw_1039 : Cond.code yX9_list cX9_list 3 (some .int) ∈ hx_all := kt_g (kt_4 (List.mem_of_getElem? (i := 226) rfl)) rfl
theorem kw_1040 : Cond.methodLink "SmallCourt" 378 yX8_isListed ∈ hx_all := kt_g (kt_4 (List.mem_of_getElem? (i := 227) rfl)) rfl
theorem kw_1041 : Cond.instanceMethod yX8_isListed ∈ hx_all := kt_g (kt_4 (List.mem_of_getElem? (i := 228) rfl)) rfl
theorem kw_1042 : Cond.selects "SmallCourt$Walk" yX8_isListed yX8_isListed ∈ hx_all := kt_g (kt_4 (List.mem_of_getElem? (i := 229) rfl)) rfl
theorem kw_1043 : Cond.code yX8_isListed cX8_isListed 3 (some .boolean) ∈ hx_all := kt_g (kt_4 (List.mem_of_getElem? (i := 230) rfl)) rfl
theorem kw_1044 : Cond.methodLink "SmallCourt" 384 yX8_putOnList ∈ hx_all := kt_g (kt_4 (List.mem_of_getElem? (i := 231) rfl)) rfl
theorem kw_1045 : Cond.instanceMethod yX8_putOnList ∈ hx_all := kt_g (kt_4 (List.mem_of_getElem? (i := 232) rfl)) rfl
theorem kw_1046 : Cond.selects "SmallCourt$Walk" yX8_putOnList yX8_putOnList ∈ hx_all := kt_g (kt_4 (List.mem_of_getElem? (i := 233) rfl)) rfl
theorem kw_1047 : Cond.code yX8_putOnList cX8_putOnList 3 none ∈ hx_all := kt_g (kt_4 (List.mem_of_getElem? (i := 234) rfl)) rfl
theorem kw_1048 : Cond.methodLink "SmallCourtLaw" 130 yX9_walk ∈ hx_all := kt_g (kt_4 (List.mem_of_getElem? (i := 235) rfl)) rfl
theorem kw_1049 : Cond.instanceMethod yX9_walk ∈ hx_all := kt_g (kt_4 (List.mem_of_getElem? (i := 236) rfl)) rfl
theorem kw_1050 : Cond.selects "SmallCourt" yX9_walk yX9_walk ∈ hx_all := kt_g (kt_4 (List.mem_of_getElem? (i := 237) rfl)) rfl
theorem kw_1051 : Cond.code yX9_walk cX9_walk 1 (some .int) ∈ hx_all := kt_g (kt_4 (List.mem_of_getElem? (i := 238) rfl)) rfl
theorem kw_1052 : Cond.methodLink "SmallCourt" 388 yX8_walkList ∈ hx_all := kt_g (kt_4 (List.mem_of_getElem? (i := 239) rfl)) rfl
theorem kw_1053 : Cond.instanceMethod yX8_walkList ∈ hx_all := kt_g (kt_5 (List.mem_of_getElem? (i := 0) rfl)) rfl
theorem kw_1054 : Cond.selects "SmallCourt$Walk" yX8_walkList yX8_walkList ∈ hx_all := kt_g (kt_5 (List.mem_of_getElem? (i := 1) rfl)) rfl
theorem kw_1055 : Cond.code yX8_walkList cX8_walkList 4 (some .int) ∈ hx_all := kt_g (kt_5 (List.mem_of_getElem? (i := 2) rfl)) rfl
theorem kw_1056 : Cond.methodLink "SmallCourt$Walk" 31 yX8_isIn ∈ hx_all := kt_g (kt_5 (List.mem_of_getElem? (i := 3) rfl)) rfl
theorem kw_1057 : Cond.static yX8_isIn ∈ hx_all := kt_g (kt_5 (List.mem_of_getElem? (i := 4) rfl)) rfl
theorem kw_1058 : Cond.code yX8_isIn cX8_isIn 2 (some .boolean) ∈ hx_all := kt_g (kt_5 (List.mem_of_getElem? (i := 5) rfl)) rfl
theorem kw_1059 : Cond.methodLink "SmallCourt$Walk" 35 yX8_fromCourt ∈ hx_all := kt_g (kt_5 (List.mem_of_getElem? (i := 6) rfl)) rfl
theorem kw_1061 : Cond.instanceMethod yX8_fromCourt ∈ hx_all := kt_g (kt_5 (List.mem_of_getElem? (i := 8) rfl)) rfl
theorem kw_1062 : Cond.code yX8_fromCourt cX8_fromCourt 3 (some .int) ∈ hx_all := kt_g (kt_5 (List.mem_of_getElem? (i := 9) rfl)) rfl
theorem kw_1063 : Cond.methodLink "SmallCourt$Walk" 76 Lib.Math.abs.name ∈ hx_all := kt_g (kt_5 (List.mem_of_getElem? (i := 10) rfl)) rfl
theorem kw_1064 : Cond.methodLink "SmallCourt$Walk" 39 yX8_leastOn ∈ hx_all := kt_g (kt_5 (List.mem_of_getElem? (i := 11) rfl)) rfl
theorem kw_1066 : Cond.instanceMethod yX8_leastOn ∈ hx_all := kt_g (kt_5 (List.mem_of_getElem? (i := 13) rfl)) rfl
theorem kw_1067 : Cond.code yX8_leastOn cX8_leastOn 5 (some .int) ∈ hx_all := kt_g (kt_5 (List.mem_of_getElem? (i := 14) rfl)) rfl
theorem kw_1068 : Cond.constant "SmallCourt$Walk" 50 (1000000000) ∈ hx_all := kt_g (kt_5 (List.mem_of_getElem? (i := 15) rfl)) rfl
theorem kw_1069 : Cond.methodLink "SmallCourt$Walk" 51 yX8_stepsBy ∈ hx_all := kt_g (kt_5 (List.mem_of_getElem? (i := 16) rfl)) rfl
theorem kw_1071 : Cond.instanceMethod yX8_stepsBy ∈ hx_all := kt_g (kt_5 (List.mem_of_getElem? (i := 18) rfl)) rfl
theorem kw_1072 : Cond.code yX8_stepsBy cX8_stepsBy 5 (some .int) ∈ hx_all := kt_g (kt_5 (List.mem_of_getElem? (i := 19) rfl)) rfl
theorem kw_1073 : Cond.methodLink "SmallCourt$Walk" 67 yX8_between ∈ hx_all := kt_g (kt_5 (List.mem_of_getElem? (i := 20) rfl)) rfl
theorem kw_1074 : Cond.static yX8_between ∈ hx_all := kt_g (kt_5 (List.mem_of_getElem? (i := 21) rfl)) rfl
theorem kw_1075 : Cond.code yX8_between cX8_between 2 (some .int) ∈ hx_all := kt_g (kt_5 (List.mem_of_getElem? (i := 22) rfl)) rfl
theorem kw_1076 : Cond.methodLink "SmallCourt$Walk" 55 Lib.Math.min.name ∈ hx_all := kt_g (kt_5 (List.mem_of_getElem? (i := 23) rfl)) rfl
theorem kw_1077 : Cond.methodLink "SmallCourt$Walk" 43 yX8_retrace ∈ hx_all := kt_g (kt_5 (List.mem_of_getElem? (i := 24) rfl)) rfl
theorem kw_1079 : Cond.instanceMethod yX8_retrace ∈ hx_all := kt_g (kt_5 (List.mem_of_getElem? (i := 26) rfl)) rfl
theorem kw_1080 : Cond.code yX8_retrace cX8_retrace 7 none ∈ hx_all := kt_g (kt_5 (List.mem_of_getElem? (i := 27) rfl)) rfl
theorem kw_1081 : Cond.methodLink "SmallCourt$Walk" 60 yX8_firstOnWay ∈ hx_all := kt_g (kt_5 (List.mem_of_getElem? (i := 28) rfl)) rfl
theorem kw_1083 : Cond.instanceMethod yX8_firstOnWay ∈ hx_all := kt_g (kt_5 (List.mem_of_getElem? (i := 30) rfl)) rfl
theorem kw_1084 : Cond.code yX8_firstOnWay cX8_firstOnWay 5 (some .int) ∈ hx_all := kt_g (kt_5 (List.mem_of_getElem? (i := 31) rfl)) rfl
theorem kw_1085 : Cond.methodLink "SmallCourtLaw" 134 yX9_walked ∈ hx_all := kt_g (kt_5 (List.mem_of_getElem? (i := 32) rfl)) rfl
theorem kw_1086 : Cond.instanceMethod yX9_walked ∈ hx_all := kt_g (kt_5 (List.mem_of_getElem? (i := 33) rfl)) rfl
theorem kw_1087 : Cond.selects "SmallCourt" yX9_walked yX9_walked ∈ hx_all := kt_g (kt_5 (List.mem_of_getElem? (i := 34) rfl)) rfl
theorem kw_1088 : Cond.code yX9_walked cX9_walked 2 (some .int) ∈ hx_all := kt_g (kt_5 (List.mem_of_getElem? (i := 35) rfl)) rfl
theorem kw_1089 : Cond.methodLink "SmallCourtLaw" 138 yX9_habit ∈ hx_all := kt_g (kt_5 (List.mem_of_getElem? (i := 36) rfl)) rfl
theorem kw_1090 : Cond.instanceMethod yX9_habit ∈ hx_all := kt_g (kt_5 (List.mem_of_getElem? (i := 37) rfl)) rfl
theorem kw_1091 : Cond.selects "SmallCourt" yX9_habit yX9_habit ∈ hx_all := kt_g (kt_5 (List.mem_of_getElem? (i := 38) rfl)) rfl
theorem kw_1092 : Cond.code yX9_habit cX9_habit 7 (some .int) ∈ hx_all := kt_g (kt_5 (List.mem_of_getElem? (i := 39) rfl)) rfl
theorem kw_1093 : Cond.methodLink "SmallCourt" 397 yX2_isOnBench ∈ hx_all := kt_g (kt_5 (List.mem_of_getElem? (i := 40) rfl)) rfl
theorem kw_1094 : Cond.instanceMethod yX2_isOnBench ∈ hx_all := kt_g (kt_5 (List.mem_of_getElem? (i := 41) rfl)) rfl
theorem kw_1095 : Cond.selects "SmallCourt$Claim" yX2_isOnBench yX2_isOnBench ∈ hx_all := kt_g (kt_5 (List.mem_of_getElem? (i := 42) rfl)) rfl
theorem kw_1096 : Cond.code yX2_isOnBench cX2_isOnBench 2 (some .boolean) ∈ hx_all := kt_g (kt_5 (List.mem_of_getElem? (i := 43) rfl)) rfl
theorem kw_1097 : Cond.methodLink "SmallCourt" 400 yX9_isBeyondDoubt ∈ hx_all := kt_g (kt_5 (List.mem_of_getElem? (i := 44) rfl)) rfl
theorem kw_1098 : Cond.static yX9_isBeyondDoubt ∈ hx_all := kt_g (kt_5 (List.mem_of_getElem? (i := 45) rfl)) rfl
theorem kw_1099 : Cond.code yX9_isBeyondDoubt cX9_isBeyondDoubt 7 (some .boolean) ∈ hx_all := kt_g (kt_5 (List.mem_of_getElem? (i := 46) rfl)) rfl
theorem kw_1100 : Cond.constantLong "SmallCourt" 403 20 ∈ hx_all := kt_g (kt_5 (List.mem_of_getElem? (i := 47) rfl)) rfl
theorem kw_1101 : Cond.methodLink "SmallCourtLaw" 142 yX9_other ∈ hx_all := kt_g (kt_5 (List.mem_of_getElem? (i := 48) rfl)) rfl
theorem kw_1102 : Cond.instanceMethod yX9_other ∈ hx_all := kt_g (kt_5 (List.mem_of_getElem? (i := 49) rfl)) rfl
theorem kw_1103 : Cond.selects "SmallCourt" yX9_other yX9_other ∈ hx_all := kt_g (kt_5 (List.mem_of_getElem? (i := 50) rfl)) rfl
theorem kw_1104 : Cond.code yX9_other cX9_other 8 (some .int) ∈ hx_all := kt_g (kt_5 (List.mem_of_getElem? (i := 51) rfl)) rfl
theorem kw_1105 : Cond.methodLink "SmallCourtLaw" 146 yX9_count ∈ hx_all := kt_g (kt_5 (List.mem_of_getElem? (i := 52) rfl)) rfl
theorem kw_1106 : Cond.instanceMethod yX9_count ∈ hx_all := kt_g (kt_5 (List.mem_of_getElem? (i := 53) rfl)) rfl
theorem kw_1107 : Cond.selects "SmallCourt" yX9_count yX9_count ∈ hx_all := kt_g (kt_5 (List.mem_of_getElem? (i := 54) rfl)) rfl
theorem kw_1108 : Cond.code yX9_count cX9_count 2 (some .int) ∈ hx_all := kt_g (kt_5 (List.mem_of_getElem? (i := 55) rfl)) rfl
theorem kw_1109 : Cond.methodLink "SmallCourt" 405 yX9_livingJudges ∈ hx_all := kt_g (kt_5 (List.mem_of_getElem? (i := 56) rfl)) rfl
theorem kw_1111 : Cond.instanceMethod yX9_livingJudges ∈ hx_all := kt_g (kt_5 (List.mem_of_getElem? (i := 58) rfl)) rfl
theorem kw_1112 : Cond.code yX9_livingJudges cX9_livingJudges 3 (some .int) ∈ hx_all := kt_g (kt_5 (List.mem_of_getElem? (i := 59) rfl)) rfl
theorem kw_1113 : Cond.classLink "SmallCourtLaw" 10 "SmallCourtModel" ∈ hx_all := kt_g (kt_5 (List.mem_of_getElem? (i := 60) rfl)) rfl
theorem kw_1114 : Cond.instantiable "SmallCourtModel" 98 ∈ hx_all := kt_g (kt_5 (List.mem_of_getElem? (i := 61) rfl)) rfl
theorem kw_1115 : Cond.methodLink "SmallCourtLaw" 12 yX10_init ∈ hx_all := kt_g (kt_5 (List.mem_of_getElem? (i := 62) rfl)) rfl
theorem kw_1116 : Cond.instanceMethod yX10_init ∈ hx_all := kt_g (kt_5 (List.mem_of_getElem? (i := 63) rfl)) rfl
theorem kw_1117 : Cond.code yX10_init cX10_init 2 none ∈ hx_all := kt_g (kt_5 (List.mem_of_getElem? (i := 64) rfl)) rfl
theorem kw_1118 : Cond.methodLink "SmallCourtModel" 1 Lib.objectInit ∈ hx_all := kt_g (kt_5 (List.mem_of_getElem? (i := 65) rfl)) rfl
theorem kw_1119 : Cond.methodLink "SmallCourtModel" 214 yX10_without ∈ hx_all := kt_g (kt_5 (List.mem_of_getElem? (i := 66) rfl)) rfl
theorem kw_1120 : Cond.static yX10_without ∈ hx_all := kt_g (kt_5 (List.mem_of_getElem? (i := 67) rfl)) rfl
theorem kw_1121 : Cond.code yX10_without cX10_without 1 (some .int) ∈ hx_all := kt_g (kt_5 (List.mem_of_getElem? (i := 68) rfl)) rfl
theorem kw_1122 : Cond.methodLink "SmallCourtModel" 218 yX10_clears ∈ hx_all := kt_g (kt_5 (List.mem_of_getElem? (i := 69) rfl)) rfl
theorem kw_1124 : Cond.instanceMethod yX10_clears ∈ hx_all := kt_g (kt_5 (List.mem_of_getElem? (i := 71) rfl)) rfl
theorem kw_1125 : Cond.code yX10_clears cX10_clears 1 none ∈ hx_all := kt_g (kt_5 (List.mem_of_getElem? (i := 72) rfl)) rfl
theorem kw_1126 : Cond.methodLink "SmallCourtModel" 221 yX10_withoutProof ∈ hx_all := kt_g (kt_5 (List.mem_of_getElem? (i := 73) rfl)) rfl
theorem kw_1128 : Cond.instanceMethod yX10_withoutProof ∈ hx_all := kt_g (kt_5 (List.mem_of_getElem? (i := 75) rfl)) rfl
theorem kw_1129 : Cond.code yX10_withoutProof cX10_withoutProof 1 none ∈ hx_all := kt_g (kt_5 (List.mem_of_getElem? (i := 76) rfl)) rfl
theorem kw_1130 : Cond.methodLink "SmallCourtModel" 280 yX10_compareOf ∈ hx_all := kt_g (kt_5 (List.mem_of_getElem? (i := 77) rfl)) rfl
theorem kw_1131 : Cond.static yX10_compareOf ∈ hx_all := kt_g (kt_5 (List.mem_of_getElem? (i := 78) rfl)) rfl
theorem kw_1132 : Cond.code yX10_compareOf cX10_compareOf 3 (some .int) ∈ hx_all := kt_g (kt_5 (List.mem_of_getElem? (i := 79) rfl)) rfl
theorem kw_1133 : Cond.constant "SmallCourtModel" 268 (1000000) ∈ hx_all := kt_g (kt_5 (List.mem_of_getElem? (i := 80) rfl)) rfl
theorem kw_1134 : Cond.constant "SmallCourtModel" 269 (100000) ∈ hx_all := kt_g (kt_5 (List.mem_of_getElem? (i := 81) rfl)) rfl
theorem kw_1135 : Cond.methodLink "SmallCourtModel" 284 yX10_writes ∈ hx_all := kt_g (kt_5 (List.mem_of_getElem? (i := 82) rfl)) rfl
theorem kw_1137 : Cond.instanceMethod yX10_writes ∈ hx_all := kt_g (kt_5 (List.mem_of_getElem? (i := 84) rfl)) rfl
theorem kw_1138 : Cond.code yX10_writes cX10_writes 2 none ∈ hx_all := kt_g (kt_5 (List.mem_of_getElem? (i := 85) rfl)) rfl
theorem kw_1139 : Cond.methodLink "SmallCourtModel" 224 yX10_keepsProof ∈ hx_all := kt_g (kt_5 (List.mem_of_getElem? (i := 86) rfl)) rfl
theorem kw_1141 : Cond.instanceMethod yX10_keepsProof ∈ hx_all := kt_g (kt_5 (List.mem_of_getElem? (i := 88) rfl)) rfl
theorem kw_1142 : Cond.code yX10_keepsProof cX10_keepsProof 3 none ∈ hx_all := kt_g (kt_5 (List.mem_of_getElem? (i := 89) rfl)) rfl
theorem kw_1143 : Cond.fieldLink "SmallCourtModel" 232 "SmallCourtModel" "now" "I" ∈ hx_all := kt_g (kt_5 (List.mem_of_getElem? (i := 90) rfl)) rfl
theorem kw_1144 : Cond.fieldLink "SmallCourtModel" 321 "SmallCourtModel" "acts" "I" ∈ hx_all := kt_g (kt_5 (List.mem_of_getElem? (i := 91) rfl)) rfl
theorem kw_1145 : Cond.fieldLink "SmallCourtModel" 7 "SmallCourtModel" "actDay" "[I" ∈ hx_all := kt_g (kt_5 (List.mem_of_getElem? (i := 92) rfl)) rfl
theorem kw_1146 : Cond.fieldLink "SmallCourtModel" 13 "SmallCourtModel" "rule" "[I" ∈ hx_all := kt_g (kt_5 (List.mem_of_getElem? (i := 93) rfl)) rfl
theorem kw_1147 : Cond.fieldLink "SmallCourtModel" 16 "SmallCourtModel" "proofSteps" "[I" ∈ hx_all := kt_g (kt_5 (List.mem_of_getElem? (i := 94) rfl)) rfl
theorem kw_1148 : Cond.fieldLink "SmallCourtModel" 19 "SmallCourtModel" "proof" "[I" ∈ hx_all := kt_g (kt_5 (List.mem_of_getElem? (i := 95) rfl)) rfl
theorem kw_1149 : Cond.fieldLink "SmallCourtModel" 22 "SmallCourtModel" "tape" "[B" ∈ hx_all := kt_g (kt_5 (List.mem_of_getElem? (i := 96) rfl)) rfl
theorem kw_1150 : Cond.fieldLink "SmallCourtModel" 236 "SmallCourtModel" "taped" "I" ∈ hx_all := kt_g (kt_5 (List.mem_of_getElem? (i := 97) rfl)) rfl
theorem kw_1151 : Cond.fieldLink "SmallCourtModel" 245 "SmallCourtModel" "next" "I" ∈ hx_all := kt_g (kt_5 (List.mem_of_getElem? (i := 98) rfl)) rfl
theorem kw_1152 : Cond.fieldLink "SmallCourtModel" 242 "SmallCourtModel" "fault" "I" ∈ hx_all := kt_g (kt_5 (List.mem_of_getElem? (i := 99) rfl)) rfl
theorem kw_1153 : Cond.fieldLink "SmallCourtModel" 259 "SmallCourtModel" "said" "I" ∈ hx_all := kt_g (kt_5 (List.mem_of_getElem? (i := 100) rfl)) rfl
theorem kw_1154 : Cond.fieldLink "SmallCourtModel" 252 "SmallCourtModel" "wordSize" "I" ∈ hx_all := kt_g (kt_5 (List.mem_of_getElem? (i := 101) rfl)) rfl
theorem kw_1155 : Cond.fieldLink "SmallCourtModel" 26 "SmallCourtModel" "read" "[I" ∈ hx_all := kt_g (kt_5 (List.mem_of_getElem? (i := 102) rfl)) rfl
theorem kw_1156 : Cond.fieldLink "SmallCourtModel" 306 "SmallCourtModel" "seen" "I" ∈ hx_all := kt_g (kt_5 (List.mem_of_getElem? (i := 103) rfl)) rfl
theorem kw_1157 : Cond.fieldLink "SmallCourtModel" 262 "SmallCourtModel" "steps" "I" ∈ hx_all := kt_g (kt_5 (List.mem_of_getElem? (i := 104) rfl)) rfl
theorem kw_1158 : Cond.fieldLink "SmallCourtModel" 29 "SmallCourtModel" "step" "[I" ∈ hx_all := kt_g (kt_5 (List.mem_of_getElem? (i := 105) rfl)) rfl
theorem kw_1159 : Cond.fieldLink "SmallCourtModel" 274 "SmallCourtModel" "compares" "I" ∈ hx_all := kt_g (kt_5 (List.mem_of_getElem? (i := 106) rfl)) rfl
theorem kw_1160 : Cond.fieldLink "SmallCourtModel" 32 "SmallCourtModel" "open" "[I" ∈ hx_all := kt_g (kt_5 (List.mem_of_getElem? (i := 107) rfl)) rfl
theorem kw_1161 : Cond.fieldLink "SmallCourtModel" 265 "SmallCourtModel" "opened" "I" ∈ hx_all := kt_g (kt_5 (List.mem_of_getElem? (i := 108) rfl)) rfl
theorem kw_1162 : Cond.fieldLink "SmallCourtModel" 35 "SmallCourtModel" "words" "[B" ∈ hx_all := kt_g (kt_5 (List.mem_of_getElem? (i := 109) rfl)) rfl
theorem kw_1163 : Cond.fieldLink "SmallCourtModel" 337 "SmallCourtModel" "persons" "I" ∈ hx_all := kt_g (kt_5 (List.mem_of_getElem? (i := 110) rfl)) rfl
theorem kw_1164 : Cond.fieldLink "SmallCourtModel" 38 "SmallCourtModel" "born" "[I" ∈ hx_all := kt_g (kt_5 (List.mem_of_getElem? (i := 111) rfl)) rfl
theorem kw_1165 : Cond.fieldLink "SmallCourtModel" 41 "SmallCourtModel" "earns" "[I" ∈ hx_all := kt_g (kt_5 (List.mem_of_getElem? (i := 112) rfl)) rfl
theorem kw_1166 : Cond.fieldLink "SmallCourtModel" 44 "SmallCourtModel" "heads" "[I" ∈ hx_all := kt_g (kt_5 (List.mem_of_getElem? (i := 113) rfl)) rfl
theorem kw_1167 : Cond.fieldLink "SmallCourtModel" 47 "SmallCourtModel" "doorX" "[I" ∈ hx_all := kt_g (kt_5 (List.mem_of_getElem? (i := 114) rfl)) rfl
theorem kw_1168 : Cond.fieldLink "SmallCourtModel" 50 "SmallCourtModel" "doorY" "[I" ∈ hx_all := kt_g (kt_5 (List.mem_of_getElem? (i := 115) rfl)) rfl
theorem kw_1169 : Cond.fieldLink "SmallCourtModel" 53 "SmallCourtModel" "kin" "[I" ∈ hx_all := kt_g (kt_5 (List.mem_of_getElem? (i := 116) rfl)) rfl
theorem kw_1170 : Cond.fieldLink "SmallCourtModel" 56 "SmallCourtModel" "isDead" "[Z" ∈ hx_all := kt_g (kt_5 (List.mem_of_getElem? (i := 117) rfl)) rfl
theorem kw_1171 : Cond.fieldLink "SmallCourtModel" 60 "SmallCourtModel" "isJudge" "[Z" ∈ hx_all := kt_g (kt_5 (List.mem_of_getElem? (i := 118) rfl)) rfl
theorem kw_1172 : Cond.fieldLink "SmallCourtModel" 351 "SmallCourtModel" "lines" "I" ∈ hx_all := kt_g (kt_5 (List.mem_of_getElem? (i := 119) rfl)) rfl
theorem kw_1173 : Cond.fieldLink "SmallCourtModel" 63 "SmallCourtModel" "lineOf" "[I" ∈ hx_all := kt_g (kt_5 (List.mem_of_getElem? (i := 120) rfl)) rfl
theorem kw_1174 : Cond.fieldLink "SmallCourtModel" 66 "SmallCourtModel" "lineWith" "[I" ∈ hx_all := kt_g (kt_5 (List.mem_of_getElem? (i := 121) rfl)) rfl
theorem kw_1175 : Cond.fieldLink "SmallCourtModel" 69 "SmallCourtModel" "lineDay" "[I" ∈ hx_all := kt_g (kt_5 (List.mem_of_getElem? (i := 122) rfl)) rfl
theorem kw_1176 : Cond.fieldLink "SmallCourtModel" 72 "SmallCourtModel" "lineKind" "[I" ∈ hx_all := kt_g (kt_5 (List.mem_of_getElem? (i := 123) rfl)) rfl
theorem kw_1177 : Cond.fieldLink "SmallCourtModel" 75 "SmallCourtModel" "lineSum" "[I" ∈ hx_all := kt_g (kt_5 (List.mem_of_getElem? (i := 124) rfl)) rfl
theorem kw_1178 : Cond.fieldLink "SmallCourtModel" 78 "SmallCourtModel" "isTwin" "[Z" ∈ hx_all := kt_g (kt_5 (List.mem_of_getElem? (i := 125) rfl)) rfl
theorem kw_1179 : Cond.fieldLink "SmallCourtModel" 367 "SmallCourtModel" "claims" "I" ∈ hx_all := kt_g (kt_5 (List.mem_of_getElem? (i := 126) rfl)) rfl
theorem kw_1180 : Cond.fieldLink "SmallCourtModel" 81 "SmallCourtModel" "by" "[I" ∈ hx_all := kt_g (kt_5 (List.mem_of_getElem? (i := 127) rfl)) rfl
theorem kw_1181 : Cond.fieldLink "SmallCourtModel" 84 "SmallCourtModel" "against" "[I" ∈ hx_all := kt_g (kt_5 (List.mem_of_getElem? (i := 128) rfl)) rfl
theorem kw_1182 : Cond.fieldLink "SmallCourtModel" 87 "SmallCourtModel" "sum" "[I" ∈ hx_all := kt_g (kt_5 (List.mem_of_getElem? (i := 129) rfl)) rfl
theorem kw_1183 : Cond.fieldLink "SmallCourtModel" 90 "SmallCourtModel" "owedFrom" "[I" ∈ hx_all := kt_g (kt_5 (List.mem_of_getElem? (i := 130) rfl)) rfl
theorem kw_1184 : Cond.fieldLink "SmallCourtModel" 93 "SmallCourtModel" "hasNote" "[Z" ∈ hx_all := kt_g (kt_5 (List.mem_of_getElem? (i := 131) rfl)) rfl
theorem kw_1185 : Cond.fieldLink "SmallCourtModel" 96 "SmallCourtModel" "witnesses" "[I" ∈ hx_all := kt_g (kt_5 (List.mem_of_getElem? (i := 132) rfl)) rfl
theorem kw_1186 : Cond.fieldLink "SmallCourtModel" 99 "SmallCourtModel" "filed" "[I" ∈ hx_all := kt_g (kt_5 (List.mem_of_getElem? (i := 133) rfl)) rfl
theorem kw_1187 : Cond.fieldLink "SmallCourtModel" 102 "SmallCourtModel" "place" "[I" ∈ hx_all := kt_g (kt_5 (List.mem_of_getElem? (i := 134) rfl)) rfl
theorem kw_1188 : Cond.fieldLink "SmallCourtModel" 105 "SmallCourtModel" "tries" "[I" ∈ hx_all := kt_g (kt_5 (List.mem_of_getElem? (i := 135) rfl)) rfl
theorem kw_1189 : Cond.fieldLink "SmallCourtModel" 108 "SmallCourtModel" "found" "[I" ∈ hx_all := kt_g (kt_5 (List.mem_of_getElem? (i := 136) rfl)) rfl
theorem kw_1190 : Cond.fieldLink "SmallCourtModel" 111 "SmallCourtModel" "heard" "[I" ∈ hx_all := kt_g (kt_5 (List.mem_of_getElem? (i := 137) rfl)) rfl
theorem kw_1191 : Cond.fieldLink "SmallCourtModel" 114 "SmallCourtModel" "ordered" "[I" ∈ hx_all := kt_g (kt_5 (List.mem_of_getElem? (i := 138) rfl)) rfl
theorem kw_1192 : Cond.fieldLink "SmallCourtModel" 117 "SmallCourtModel" "seized" "[I" ∈ hx_all := kt_g (kt_5 (List.mem_of_getElem? (i := 139) rfl)) rfl
theorem kw_1193 : Cond.fieldLink "SmallCourtModel" 120 "SmallCourtModel" "served" "[I" ∈ hx_all := kt_g (kt_5 (List.mem_of_getElem? (i := 140) rfl)) rfl
theorem kw_1194 : Cond.fieldLink "SmallCourtModel" 123 "SmallCourtModel" "judged" "[I" ∈ hx_all := kt_g (kt_5 (List.mem_of_getElem? (i := 141) rfl)) rfl
theorem kw_1195 : Cond.fieldLink "SmallCourtModel" 126 "SmallCourtModel" "bench" "[I" ∈ hx_all := kt_g (kt_5 (List.mem_of_getElem? (i := 142) rfl)) rfl
theorem kw_1196 : Cond.fieldLink "SmallCourtModel" 129 "SmallCourtModel" "fact" "[I" ∈ hx_all := kt_g (kt_5 (List.mem_of_getElem? (i := 143) rfl)) rfl
theorem kw_1197 : Cond.fieldLink "SmallCourtModel" 132 "SmallCourtModel" "weekly" "[I" ∈ hx_all := kt_g (kt_5 (List.mem_of_getElem? (i := 144) rfl)) rfl
theorem kw_1198 : Cond.fieldLink "SmallCourtModel" 135 "SmallCourtModel" "owed" "[I" ∈ hx_all := kt_g (kt_5 (List.mem_of_getElem? (i := 145) rfl)) rfl
theorem kw_1199 : Cond.fieldLink "SmallCourtModel" 138 "SmallCourtModel" "goods" "[I" ∈ hx_all := kt_g (kt_5 (List.mem_of_getElem? (i := 146) rfl)) rfl
theorem kw_1200 : Cond.fieldLink "SmallCourtModel" 392 "SmallCourtModel" "heardMany" "I" ∈ hx_all := kt_g (kt_5 (List.mem_of_getElem? (i := 147) rfl)) rfl
theorem kw_1201 : Cond.fieldLink "SmallCourtModel" 141 "SmallCourtModel" "heardOf" "[I" ∈ hx_all := kt_g (kt_5 (List.mem_of_getElem? (i := 148) rfl)) rfl
theorem kw_1202 : Cond.fieldLink "SmallCourtModel" 413 "SmallCourtModel" "payments" "I" ∈ hx_all := kt_g (kt_5 (List.mem_of_getElem? (i := 149) rfl)) rfl
theorem kw_1203 : Cond.fieldLink "SmallCourtModel" 144 "SmallCourtModel" "payOf" "[I" ∈ hx_all := kt_g (kt_5 (List.mem_of_getElem? (i := 150) rfl)) rfl
theorem kw_1204 : Cond.fieldLink "SmallCourtModel" 147 "SmallCourtModel" "payDay" "[I" ∈ hx_all := kt_g (kt_5 (List.mem_of_getElem? (i := 151) rfl)) rfl
theorem kw_1205 : Cond.fieldLink "SmallCourtModel" 150 "SmallCourtModel" "paySum" "[I" ∈ hx_all := kt_g (kt_5 (List.mem_of_getElem? (i := 152) rfl)) rfl
theorem kw_1206 : Cond.fieldLink "SmallCourtModel" 153 "SmallCourtModel" "payKnown" "[I" ∈ hx_all := kt_g (kt_5 (List.mem_of_getElem? (i := 153) rfl)) rfl
theorem kw_1207 : Cond.fieldLink "SmallCourtModel" 156 "SmallCourtModel" "payStruck" "[I" ∈ hx_all := kt_g (kt_5 (List.mem_of_getElem? (i := 154) rfl)) rfl
theorem kw_1208 : Cond.fieldLink "SmallCourtModel" 159 "SmallCourtModel" "sitting" "[I" ∈ hx_all := kt_g (kt_5 (List.mem_of_getElem? (i := 155) rfl)) rfl
theorem kw_1209 : Cond.fieldLink "SmallCourtModel" 162 "SmallCourtModel" "stack" "[Z" ∈ hx_all := kt_g (kt_5 (List.mem_of_getElem? (i := 156) rfl)) rfl
theorem kw_1210 : Cond.fieldLink "SmallCourtModel" 398 "SmallCourtModel" "isPaid" "I" ∈ hx_all := kt_g (kt_5 (List.mem_of_getElem? (i := 157) rfl)) rfl
theorem kw_1211 : Cond.fieldLink "SmallCourtModel" 401 "SmallCourtModel" "isRest" "I" ∈ hx_all := kt_g (kt_5 (List.mem_of_getElem? (i := 158) rfl)) rfl
theorem kw_1212 : Cond.fieldLink "SmallCourtModel" 404 "SmallCourtModel" "isOver" "I" ∈ hx_all := kt_g (kt_5 (List.mem_of_getElem? (i := 159) rfl)) rfl
theorem kw_1213 : Cond.fieldLink "SmallCourtModel" 407 "SmallCourtModel" "isMissed" "I" ∈ hx_all := kt_g (kt_5 (List.mem_of_getElem? (i := 160) rfl)) rfl
theorem kw_1214 : Cond.fieldLink "SmallCourtModel" 410 "SmallCourtModel" "isState" "I" ∈ hx_all := kt_g (kt_5 (List.mem_of_getElem? (i := 161) rfl)) rfl
theorem kw_1215 : Cond.fieldLink "SmallCourtModel" 435 "SmallCourtModel" "planMany" "I" ∈ hx_all := kt_g (kt_5 (List.mem_of_getElem? (i := 162) rfl)) rfl
theorem kw_1216 : Cond.fieldLink "SmallCourtModel" 165 "SmallCourtModel" "planClaim" "[I" ∈ hx_all := kt_g (kt_5 (List.mem_of_getElem? (i := 163) rfl)) rfl
theorem kw_1217 : Cond.fieldLink "SmallCourtModel" 168 "SmallCourtModel" "planWeekly" "[I" ∈ hx_all := kt_g (kt_5 (List.mem_of_getElem? (i := 164) rfl)) rfl
theorem kw_1218 : Cond.fieldLink "SmallCourtModel" 428 "SmallCourtModel" "few" "I" ∈ hx_all := kt_g (kt_5 (List.mem_of_getElem? (i := 165) rfl)) rfl
theorem kw_1219 : Cond.fieldLink "SmallCourtModel" 171 "SmallCourtModel" "fewOf" "[I" ∈ hx_all := kt_g (kt_5 (List.mem_of_getElem? (i := 166) rfl)) rfl
theorem kw_1220 : Cond.fieldLink "SmallCourtModel" 174 "SmallCourtModel" "fewRest" "[I" ∈ hx_all := kt_g (kt_5 (List.mem_of_getElem? (i := 167) rfl)) rfl
theorem kw_1221 : Cond.fieldLink "SmallCourtModel" 177 "SmallCourtModel" "fewLeast" "[I" ∈ hx_all := kt_g (kt_5 (List.mem_of_getElem? (i := 168) rfl)) rfl
theorem kw_1222 : Cond.fieldLink "SmallCourtModel" 180 "SmallCourtModel" "more" "[I" ∈ hx_all := kt_g (kt_5 (List.mem_of_getElem? (i := 169) rfl)) rfl
theorem kw_1223 : Cond.fieldLink "SmallCourtModel" 183 "SmallCourtModel" "bestMore" "[I" ∈ hx_all := kt_g (kt_5 (List.mem_of_getElem? (i := 170) rfl)) rfl
theorem kw_1224 : Cond.fieldLink "SmallCourtModel" 186 "SmallCourtModel" "planWeeks" "[I" ∈ hx_all := kt_g (kt_5 (List.mem_of_getElem? (i := 171) rfl)) rfl
theorem kw_1225 : Cond.fieldLink "SmallCourtModel" 189 "SmallCourtModel" "debt" "[I" ∈ hx_all := kt_g (kt_5 (List.mem_of_getElem? (i := 172) rfl)) rfl
theorem kw_1226 : Cond.fieldLink "SmallCourtModel" 451 "SmallCourtModel" "hasNetted" "Z" ∈ hx_all := kt_g (kt_5 (List.mem_of_getElem? (i := 173) rfl)) rfl
theorem kw_1227 : Cond.fieldLink "SmallCourtModel" 455 "SmallCourtModel" "ringMany" "I" ∈ hx_all := kt_g (kt_5 (List.mem_of_getElem? (i := 174) rfl)) rfl
theorem kw_1228 : Cond.fieldLink "SmallCourtModel" 192 "SmallCourtModel" "ringLeast" "[I" ∈ hx_all := kt_g (kt_5 (List.mem_of_getElem? (i := 175) rfl)) rfl
theorem kw_1229 : Cond.fieldLink "SmallCourtModel" 438 "SmallCourtModel" "bestLeast" "I" ∈ hx_all := kt_g (kt_5 (List.mem_of_getElem? (i := 176) rfl)) rfl
theorem kw_1230 : Cond.fieldLink "SmallCourtModel" 441 "SmallCourtModel" "bestSize" "I" ∈ hx_all := kt_g (kt_5 (List.mem_of_getElem? (i := 177) rfl)) rfl
theorem kw_1231 : Cond.fieldLink "SmallCourtModel" 195 "SmallCourtModel" "bestRing" "[I" ∈ hx_all := kt_g (kt_5 (List.mem_of_getElem? (i := 178) rfl)) rfl
theorem kw_1232 : Cond.fieldLink "SmallCourtModel" 198 "SmallCourtModel" "ring" "[I" ∈ hx_all := kt_g (kt_5 (List.mem_of_getElem? (i := 179) rfl)) rfl
theorem kw_1233 : Cond.fieldLink "SmallCourtModel" 468 "SmallCourtModel" "listed" "I" ∈ hx_all := kt_g (kt_5 (List.mem_of_getElem? (i := 180) rfl)) rfl
theorem kw_1234 : Cond.fieldLink "SmallCourtModel" 201 "SmallCourtModel" "list" "[I" ∈ hx_all := kt_g (kt_5 (List.mem_of_getElem? (i := 181) rfl)) rfl
theorem kw_1235 : Cond.fieldLink "SmallCourtModel" 478 "SmallCourtModel" "walkedMany" "I" ∈ hx_all := kt_g (kt_5 (List.mem_of_getElem? (i := 182) rfl)) rfl
theorem kw_1236 : Cond.fieldLink "SmallCourtModel" 204 "SmallCourtModel" "walked" "[I" ∈ hx_all := kt_g (kt_5 (List.mem_of_getElem? (i := 183) rfl)) rfl
theorem kw_1237 : Cond.fieldLink "SmallCourtModel" 207 "SmallCourtModel" "home" "[I" ∈ hx_all := kt_g (kt_5 (List.mem_of_getElem? (i := 184) rfl)) rfl
theorem kw_1238 : Cond.fieldLink "SmallCourtModel" 481 "SmallCourtModel" "habitMany" "I" ∈ hx_all := kt_g (kt_5 (List.mem_of_getElem? (i := 185) rfl)) rfl
theorem kw_1239 : Cond.fieldLink "SmallCourtModel" 484 "SmallCourtModel" "habitProved" "I" ∈ hx_all := kt_g (kt_5 (List.mem_of_getElem? (i := 186) rfl)) rfl
theorem kw_1240 : Cond.fieldLink "SmallCourtModel" 210 "SmallCourtModel" "ways" "[J" ∈ hx_all := kt_g (kt_5 (List.mem_of_getElem? (i := 187) rfl)) rfl
theorem kw_1241 : Cond.lays "SmallCourtModel" "SmallCourtModel" "now" "I" ∈ hx_all := kt_g (kt_5 (List.mem_of_getElem? (i := 188) rfl)) rfl
theorem kw_1243 : Cond.lays "SmallCourtModel" "SmallCourtModel" "acts" "I" ∈ hx_all := kt_g (kt_5 (List.mem_of_getElem? (i := 190) rfl)) rfl
theorem kw_1245 : Cond.laysFinal "SmallCourtModel" "SmallCourtModel" "actDay" "[I" ∈ hx_all := kt_g (kt_5 (List.mem_of_getElem? (i := 192) rfl)) rfl
theorem kw_1247 : Cond.laysFinal "SmallCourtModel" "SmallCourtModel" "rule" "[I" ∈ hx_all := kt_g (kt_5 (List.mem_of_getElem? (i := 194) rfl)) rfl
theorem kw_1249 : Cond.laysFinal "SmallCourtModel" "SmallCourtModel" "proofSteps" "[I" ∈ hx_all := kt_g (kt_5 (List.mem_of_getElem? (i := 196) rfl)) rfl
theorem kw_1251 : Cond.laysFinal "SmallCourtModel" "SmallCourtModel" "proof" "[I" ∈ hx_all := kt_g (kt_5 (List.mem_of_getElem? (i := 198) rfl)) rfl
theorem kw_1253 : Cond.laysFinal "SmallCourtModel" "SmallCourtModel" "tape" "[B" ∈ hx_all := kt_g (kt_5 (List.mem_of_getElem? (i := 200) rfl)) rfl
theorem kw_1255 : Cond.lays "SmallCourtModel" "SmallCourtModel" "taped" "I" ∈ hx_all := kt_g (kt_5 (List.mem_of_getElem? (i := 202) rfl)) rfl
theorem kw_1257 : Cond.lays "SmallCourtModel" "SmallCourtModel" "next" "I" ∈ hx_all := kt_g (kt_5 (List.mem_of_getElem? (i := 204) rfl)) rfl
theorem kw_1259 : Cond.lays "SmallCourtModel" "SmallCourtModel" "fault" "I" ∈ hx_all := kt_g (kt_5 (List.mem_of_getElem? (i := 206) rfl)) rfl
theorem kw_1261 : Cond.lays "SmallCourtModel" "SmallCourtModel" "said" "I" ∈ hx_all := kt_g (kt_5 (List.mem_of_getElem? (i := 208) rfl)) rfl
theorem kw_1263 : Cond.lays "SmallCourtModel" "SmallCourtModel" "wordSize" "I" ∈ hx_all := kt_g (kt_5 (List.mem_of_getElem? (i := 210) rfl)) rfl
theorem kw_1265 : Cond.laysFinal "SmallCourtModel" "SmallCourtModel" "read" "[I" ∈ hx_all := kt_g (kt_5 (List.mem_of_getElem? (i := 212) rfl)) rfl
theorem kw_1267 : Cond.lays "SmallCourtModel" "SmallCourtModel" "seen" "I" ∈ hx_all := kt_g (kt_5 (List.mem_of_getElem? (i := 214) rfl)) rfl
theorem kw_1269 : Cond.lays "SmallCourtModel" "SmallCourtModel" "steps" "I" ∈ hx_all := kt_g (kt_5 (List.mem_of_getElem? (i := 216) rfl)) rfl
theorem kw_1271 : Cond.laysFinal "SmallCourtModel" "SmallCourtModel" "step" "[I" ∈ hx_all := kt_g (kt_5 (List.mem_of_getElem? (i := 218) rfl)) rfl
theorem kw_1273 : Cond.lays "SmallCourtModel" "SmallCourtModel" "compares" "I" ∈ hx_all := kt_g (kt_5 (List.mem_of_getElem? (i := 220) rfl)) rfl
theorem kw_1275 : Cond.laysFinal "SmallCourtModel" "SmallCourtModel" "open" "[I" ∈ hx_all := kt_g (kt_5 (List.mem_of_getElem? (i := 222) rfl)) rfl
theorem kw_1277 : Cond.lays "SmallCourtModel" "SmallCourtModel" "opened" "I" ∈ hx_all := kt_g (kt_5 (List.mem_of_getElem? (i := 224) rfl)) rfl
theorem kw_1279 : Cond.laysFinal "SmallCourtModel" "SmallCourtModel" "words" "[B" ∈ hx_all := kt_g (kt_5 (List.mem_of_getElem? (i := 226) rfl)) rfl
theorem kw_1281 : Cond.lays "SmallCourtModel" "SmallCourtModel" "persons" "I" ∈ hx_all := kt_g (kt_5 (List.mem_of_getElem? (i := 228) rfl)) rfl
theorem kw_1283 : Cond.laysFinal "SmallCourtModel" "SmallCourtModel" "born" "[I" ∈ hx_all := kt_g (kt_5 (List.mem_of_getElem? (i := 230) rfl)) rfl
theorem kw_1285 : Cond.laysFinal "SmallCourtModel" "SmallCourtModel" "earns" "[I" ∈ hx_all := kt_g (kt_5 (List.mem_of_getElem? (i := 232) rfl)) rfl
theorem kw_1287 : Cond.laysFinal "SmallCourtModel" "SmallCourtModel" "heads" "[I" ∈ hx_all := kt_g (kt_5 (List.mem_of_getElem? (i := 234) rfl)) rfl
theorem kw_1289 : Cond.laysFinal "SmallCourtModel" "SmallCourtModel" "doorX" "[I" ∈ hx_all := kt_g (kt_5 (List.mem_of_getElem? (i := 236) rfl)) rfl
theorem kw_1291 : Cond.laysFinal "SmallCourtModel" "SmallCourtModel" "doorY" "[I" ∈ hx_all := kt_g (kt_5 (List.mem_of_getElem? (i := 238) rfl)) rfl
theorem kw_1293 : Cond.laysFinal "SmallCourtModel" "SmallCourtModel" "kin" "[I" ∈ hx_all := kt_g (kt_6 (List.mem_of_getElem? (i := 0) rfl)) rfl
theorem kw_1295 : Cond.laysFinal "SmallCourtModel" "SmallCourtModel" "isDead" "[Z" ∈ hx_all := kt_g (kt_6 (List.mem_of_getElem? (i := 2) rfl)) rfl
theorem kw_1297 : Cond.laysFinal "SmallCourtModel" "SmallCourtModel" "isJudge" "[Z" ∈ hx_all := kt_g (kt_6 (List.mem_of_getElem? (i := 4) rfl)) rfl
theorem kw_1299 : Cond.lays "SmallCourtModel" "SmallCourtModel" "lines" "I" ∈ hx_all := kt_g (kt_6 (List.mem_of_getElem? (i := 6) rfl)) rfl
theorem kw_1301 : Cond.laysFinal "SmallCourtModel" "SmallCourtModel" "lineOf" "[I" ∈ hx_all := kt_g (kt_6 (List.mem_of_getElem? (i := 8) rfl)) rfl
theorem kw_1303 : Cond.laysFinal "SmallCourtModel" "SmallCourtModel" "lineWith" "[I" ∈ hx_all := kt_g (kt_6 (List.mem_of_getElem? (i := 10) rfl)) rfl
theorem kw_1305 : Cond.laysFinal "SmallCourtModel" "SmallCourtModel" "lineDay" "[I" ∈ hx_all := kt_g (kt_6 (List.mem_of_getElem? (i := 12) rfl)) rfl
theorem kw_1307 : Cond.laysFinal "SmallCourtModel" "SmallCourtModel" "lineKind" "[I" ∈ hx_all := kt_g (kt_6 (List.mem_of_getElem? (i := 14) rfl)) rfl
theorem kw_1309 : Cond.laysFinal "SmallCourtModel" "SmallCourtModel" "lineSum" "[I" ∈ hx_all := kt_g (kt_6 (List.mem_of_getElem? (i := 16) rfl)) rfl
theorem kw_1311 : Cond.laysFinal "SmallCourtModel" "SmallCourtModel" "isTwin" "[Z" ∈ hx_all := kt_g (kt_6 (List.mem_of_getElem? (i := 18) rfl)) rfl
theorem kw_1313 : Cond.lays "SmallCourtModel" "SmallCourtModel" "claims" "I" ∈ hx_all := kt_g (kt_6 (List.mem_of_getElem? (i := 20) rfl)) rfl
theorem kw_1315 : Cond.laysFinal "SmallCourtModel" "SmallCourtModel" "by" "[I" ∈ hx_all := kt_g (kt_6 (List.mem_of_getElem? (i := 22) rfl)) rfl
theorem kw_1317 : Cond.laysFinal "SmallCourtModel" "SmallCourtModel" "against" "[I" ∈ hx_all := kt_g (kt_6 (List.mem_of_getElem? (i := 24) rfl)) rfl
theorem kw_1319 : Cond.laysFinal "SmallCourtModel" "SmallCourtModel" "sum" "[I" ∈ hx_all := kt_g (kt_6 (List.mem_of_getElem? (i := 26) rfl)) rfl
theorem kw_1321 : Cond.laysFinal "SmallCourtModel" "SmallCourtModel" "owedFrom" "[I" ∈ hx_all := kt_g (kt_6 (List.mem_of_getElem? (i := 28) rfl)) rfl
theorem kw_1323 : Cond.laysFinal "SmallCourtModel" "SmallCourtModel" "hasNote" "[Z" ∈ hx_all := kt_g (kt_6 (List.mem_of_getElem? (i := 30) rfl)) rfl
theorem kw_1325 : Cond.laysFinal "SmallCourtModel" "SmallCourtModel" "witnesses" "[I" ∈ hx_all := kt_g (kt_6 (List.mem_of_getElem? (i := 32) rfl)) rfl
theorem kw_1327 : Cond.laysFinal "SmallCourtModel" "SmallCourtModel" "filed" "[I" ∈ hx_all := kt_g (kt_6 (List.mem_of_getElem? (i := 34) rfl)) rfl
theorem kw_1329 : Cond.laysFinal "SmallCourtModel" "SmallCourtModel" "place" "[I" ∈ hx_all := kt_g (kt_6 (List.mem_of_getElem? (i := 36) rfl)) rfl
theorem kw_1331 : Cond.laysFinal "SmallCourtModel" "SmallCourtModel" "tries" "[I" ∈ hx_all := kt_g (kt_6 (List.mem_of_getElem? (i := 38) rfl)) rfl
theorem kw_1333 : Cond.laysFinal "SmallCourtModel" "SmallCourtModel" "found" "[I" ∈ hx_all := kt_g (kt_6 (List.mem_of_getElem? (i := 40) rfl)) rfl
theorem kw_1335 : Cond.laysFinal "SmallCourtModel" "SmallCourtModel" "heard" "[I" ∈ hx_all := kt_g (kt_6 (List.mem_of_getElem? (i := 42) rfl)) rfl
theorem kw_1337 : Cond.laysFinal "SmallCourtModel" "SmallCourtModel" "ordered" "[I" ∈ hx_all := kt_g (kt_6 (List.mem_of_getElem? (i := 44) rfl)) rfl
theorem kw_1339 : Cond.laysFinal "SmallCourtModel" "SmallCourtModel" "seized" "[I" ∈ hx_all := kt_g (kt_6 (List.mem_of_getElem? (i := 46) rfl)) rfl
theorem kw_1341 : Cond.laysFinal "SmallCourtModel" "SmallCourtModel" "served" "[I" ∈ hx_all := kt_g (kt_6 (List.mem_of_getElem? (i := 48) rfl)) rfl
theorem kw_1343 : Cond.laysFinal "SmallCourtModel" "SmallCourtModel" "judged" "[I" ∈ hx_all := kt_g (kt_6 (List.mem_of_getElem? (i := 50) rfl)) rfl
theorem kw_1345 : Cond.laysFinal "SmallCourtModel" "SmallCourtModel" "bench" "[I" ∈ hx_all := kt_g (kt_6 (List.mem_of_getElem? (i := 52) rfl)) rfl
theorem kw_1347 : Cond.laysFinal "SmallCourtModel" "SmallCourtModel" "fact" "[I" ∈ hx_all := kt_g (kt_6 (List.mem_of_getElem? (i := 54) rfl)) rfl
theorem kw_1349 : Cond.laysFinal "SmallCourtModel" "SmallCourtModel" "weekly" "[I" ∈ hx_all := kt_g (kt_6 (List.mem_of_getElem? (i := 56) rfl)) rfl
theorem kw_1351 : Cond.laysFinal "SmallCourtModel" "SmallCourtModel" "owed" "[I" ∈ hx_all := kt_g (kt_6 (List.mem_of_getElem? (i := 58) rfl)) rfl
theorem kw_1353 : Cond.laysFinal "SmallCourtModel" "SmallCourtModel" "goods" "[I" ∈ hx_all := kt_g (kt_6 (List.mem_of_getElem? (i := 60) rfl)) rfl
theorem kw_1355 : Cond.lays "SmallCourtModel" "SmallCourtModel" "heardMany" "I" ∈ hx_all := kt_g (kt_6 (List.mem_of_getElem? (i := 62) rfl)) rfl
theorem kw_1357 : Cond.laysFinal "SmallCourtModel" "SmallCourtModel" "heardOf" "[I" ∈ hx_all := kt_g (kt_6 (List.mem_of_getElem? (i := 64) rfl)) rfl
theorem kw_1359 : Cond.lays "SmallCourtModel" "SmallCourtModel" "payments" "I" ∈ hx_all := kt_g (kt_6 (List.mem_of_getElem? (i := 66) rfl)) rfl
theorem kw_1361 : Cond.laysFinal "SmallCourtModel" "SmallCourtModel" "payOf" "[I" ∈ hx_all := kt_g (kt_6 (List.mem_of_getElem? (i := 68) rfl)) rfl
theorem kw_1363 : Cond.laysFinal "SmallCourtModel" "SmallCourtModel" "payDay" "[I" ∈ hx_all := kt_g (kt_6 (List.mem_of_getElem? (i := 70) rfl)) rfl
theorem kw_1365 : Cond.laysFinal "SmallCourtModel" "SmallCourtModel" "paySum" "[I" ∈ hx_all := kt_g (kt_6 (List.mem_of_getElem? (i := 72) rfl)) rfl
theorem kw_1367 : Cond.laysFinal "SmallCourtModel" "SmallCourtModel" "payKnown" "[I" ∈ hx_all := kt_g (kt_6 (List.mem_of_getElem? (i := 74) rfl)) rfl
theorem kw_1369 : Cond.laysFinal "SmallCourtModel" "SmallCourtModel" "payStruck" "[I" ∈ hx_all := kt_g (kt_6 (List.mem_of_getElem? (i := 76) rfl)) rfl
theorem kw_1371 : Cond.laysFinal "SmallCourtModel" "SmallCourtModel" "sitting" "[I" ∈ hx_all := kt_g (kt_6 (List.mem_of_getElem? (i := 78) rfl)) rfl
theorem kw_1373 : Cond.laysFinal "SmallCourtModel" "SmallCourtModel" "stack" "[Z" ∈ hx_all := kt_g (kt_6 (List.mem_of_getElem? (i := 80) rfl)) rfl
theorem kw_1375 : Cond.lays "SmallCourtModel" "SmallCourtModel" "isPaid" "I" ∈ hx_all := kt_g (kt_6 (List.mem_of_getElem? (i := 82) rfl)) rfl
theorem kw_1377 : Cond.lays "SmallCourtModel" "SmallCourtModel" "isRest" "I" ∈ hx_all := kt_g (kt_6 (List.mem_of_getElem? (i := 84) rfl)) rfl
theorem kw_1379 : Cond.lays "SmallCourtModel" "SmallCourtModel" "isOver" "I" ∈ hx_all := kt_g (kt_6 (List.mem_of_getElem? (i := 86) rfl)) rfl
theorem kw_1381 : Cond.lays "SmallCourtModel" "SmallCourtModel" "isMissed" "I" ∈ hx_all := kt_g (kt_6 (List.mem_of_getElem? (i := 88) rfl)) rfl
theorem kw_1383 : Cond.lays "SmallCourtModel" "SmallCourtModel" "isState" "I" ∈ hx_all := kt_g (kt_6 (List.mem_of_getElem? (i := 90) rfl)) rfl
theorem kw_1385 : Cond.lays "SmallCourtModel" "SmallCourtModel" "planMany" "I" ∈ hx_all := kt_g (kt_6 (List.mem_of_getElem? (i := 92) rfl)) rfl
theorem kw_1387 : Cond.laysFinal "SmallCourtModel" "SmallCourtModel" "planClaim" "[I" ∈ hx_all := kt_g (kt_6 (List.mem_of_getElem? (i := 94) rfl)) rfl
theorem kw_1389 : Cond.laysFinal "SmallCourtModel" "SmallCourtModel" "planWeekly" "[I" ∈ hx_all := kt_g (kt_6 (List.mem_of_getElem? (i := 96) rfl)) rfl
theorem kw_1391 : Cond.lays "SmallCourtModel" "SmallCourtModel" "few" "I" ∈ hx_all := kt_g (kt_6 (List.mem_of_getElem? (i := 98) rfl)) rfl
theorem kw_1393 : Cond.laysFinal "SmallCourtModel" "SmallCourtModel" "fewOf" "[I" ∈ hx_all := kt_g (kt_6 (List.mem_of_getElem? (i := 100) rfl)) rfl
theorem kw_1395 : Cond.laysFinal "SmallCourtModel" "SmallCourtModel" "fewRest" "[I" ∈ hx_all := kt_g (kt_6 (List.mem_of_getElem? (i := 102) rfl)) rfl
theorem kw_1397 : Cond.laysFinal "SmallCourtModel" "SmallCourtModel" "fewLeast" "[I" ∈ hx_all := kt_g (kt_6 (List.mem_of_getElem? (i := 104) rfl)) rfl
theorem kw_1399 : Cond.laysFinal "SmallCourtModel" "SmallCourtModel" "more" "[I" ∈ hx_all := kt_g (kt_6 (List.mem_of_getElem? (i := 106) rfl)) rfl
theorem kw_1401 : Cond.laysFinal "SmallCourtModel" "SmallCourtModel" "bestMore" "[I" ∈ hx_all := kt_g (kt_6 (List.mem_of_getElem? (i := 108) rfl)) rfl
theorem kw_1403 : Cond.laysFinal "SmallCourtModel" "SmallCourtModel" "planWeeks" "[I" ∈ hx_all := kt_g (kt_6 (List.mem_of_getElem? (i := 110) rfl)) rfl
theorem kw_1405 : Cond.laysFinal "SmallCourtModel" "SmallCourtModel" "debt" "[I" ∈ hx_all := kt_g (kt_6 (List.mem_of_getElem? (i := 112) rfl)) rfl
theorem kw_1407 : Cond.lays "SmallCourtModel" "SmallCourtModel" "hasNetted" "Z" ∈ hx_all := kt_g (kt_6 (List.mem_of_getElem? (i := 114) rfl)) rfl
theorem kw_1409 : Cond.lays "SmallCourtModel" "SmallCourtModel" "ringMany" "I" ∈ hx_all := kt_g (kt_6 (List.mem_of_getElem? (i := 116) rfl)) rfl
theorem kw_1411 : Cond.laysFinal "SmallCourtModel" "SmallCourtModel" "ringLeast" "[I" ∈ hx_all := kt_g (kt_6 (List.mem_of_getElem? (i := 118) rfl)) rfl
theorem kw_1413 : Cond.lays "SmallCourtModel" "SmallCourtModel" "bestLeast" "I" ∈ hx_all := kt_g (kt_6 (List.mem_of_getElem? (i := 120) rfl)) rfl
theorem kw_1415 : Cond.lays "SmallCourtModel" "SmallCourtModel" "bestSize" "I" ∈ hx_all := kt_g (kt_6 (List.mem_of_getElem? (i := 122) rfl)) rfl
theorem kw_1417 : Cond.laysFinal "SmallCourtModel" "SmallCourtModel" "bestRing" "[I" ∈ hx_all := kt_g (kt_6 (List.mem_of_getElem? (i := 124) rfl)) rfl
theorem kw_1419 : Cond.laysFinal "SmallCourtModel" "SmallCourtModel" "ring" "[I" ∈ hx_all := kt_g (kt_6 (List.mem_of_getElem? (i := 126) rfl)) rfl
theorem kw_1421 : Cond.lays "SmallCourtModel" "SmallCourtModel" "listed" "I" ∈ hx_all := kt_g (kt_6 (List.mem_of_getElem? (i := 128) rfl)) rfl
theorem kw_1423 : Cond.laysFinal "SmallCourtModel" "SmallCourtModel" "list" "[I" ∈ hx_all := kt_g (kt_6 (List.mem_of_getElem? (i := 130) rfl)) rfl
theorem kw_1425 : Cond.lays "SmallCourtModel" "SmallCourtModel" "walkedMany" "I" ∈ hx_all := kt_g (kt_6 (List.mem_of_getElem? (i := 132) rfl)) rfl
theorem kw_1427 : Cond.laysFinal "SmallCourtModel" "SmallCourtModel" "walked" "[I" ∈ hx_all := kt_g (kt_6 (List.mem_of_getElem? (i := 134) rfl)) rfl
theorem kw_1429 : Cond.laysFinal "SmallCourtModel" "SmallCourtModel" "home" "[I" ∈ hx_all := kt_g (kt_6 (List.mem_of_getElem? (i := 136) rfl)) rfl
theorem kw_1431 : Cond.lays "SmallCourtModel" "SmallCourtModel" "habitMany" "I" ∈ hx_all := kt_g (kt_6 (List.mem_of_getElem? (i := 138) rfl)) rfl
theorem kw_1433 : Cond.lays "SmallCourtModel" "SmallCourtModel" "habitProved" "I" ∈ hx_all := kt_g (kt_6 (List.mem_of_getElem? (i := 140) rfl)) rfl
theorem kw_1435 : Cond.laysFinal "SmallCourtModel" "SmallCourtModel" "ways" "[J" ∈ hx_all := kt_g (kt_6 (List.mem_of_getElem? (i := 142) rfl)) rfl
theorem kw_1438 : Cond.arrayClass .long ∈ hx_all := kt_g (kt_6 (List.mem_of_getElem? (i := 145) rfl)) rfl
theorem kw_1439 : Cond.methodLink "SmallCourtLaw" 17 yX10_clock ∈ hx_all := kt_g (kt_6 (List.mem_of_getElem? (i := 146) rfl)) rfl
theorem kw_1440 : Cond.instanceMethod yX10_clock ∈ hx_all := kt_g (kt_6 (List.mem_of_getElem? (i := 147) rfl)) rfl
theorem kw_1441 : Cond.selects "SmallCourtModel" yX10_clock yX10_clock ∈ hx_all := kt_g (kt_6 (List.mem_of_getElem? (i := 148) rfl)) rfl
theorem kw_1442 : Cond.code yX10_clock cX10_clock 2 (some .boolean) ∈ hx_all := kt_g (kt_6 (List.mem_of_getElem? (i := 149) rfl)) rfl
theorem kw_1443 : Cond.methodLink "SmallCourtModel" 228 yX10_in ∈ hx_all := kt_g (kt_6 (List.mem_of_getElem? (i := 150) rfl)) rfl
theorem kw_1444 : Cond.static yX10_in ∈ hx_all := kt_g (kt_6 (List.mem_of_getElem? (i := 151) rfl)) rfl
theorem kw_1445 : Cond.code yX10_in cX10_in 3 (some .boolean) ∈ hx_all := kt_g (kt_6 (List.mem_of_getElem? (i := 152) rfl)) rfl
theorem kw_1446 : Cond.methodLink "SmallCourtLaw" 22 yX10_feed ∈ hx_all := kt_g (kt_6 (List.mem_of_getElem? (i := 153) rfl)) rfl
theorem kw_1447 : Cond.instanceMethod yX10_feed ∈ hx_all := kt_g (kt_6 (List.mem_of_getElem? (i := 154) rfl)) rfl
theorem kw_1448 : Cond.selects "SmallCourtModel" yX10_feed yX10_feed ∈ hx_all := kt_g (kt_6 (List.mem_of_getElem? (i := 155) rfl)) rfl
theorem kw_1449 : Cond.code yX10_feed cX10_feed 6 (some .int) ∈ hx_all := kt_g (kt_6 (List.mem_of_getElem? (i := 156) rfl)) rfl
theorem kw_1450 : Cond.methodLink "SmallCourtModel" 239 yX10_four ∈ hx_all := kt_g (kt_6 (List.mem_of_getElem? (i := 157) rfl)) rfl
theorem kw_1452 : Cond.instanceMethod yX10_four ∈ hx_all := kt_g (kt_6 (List.mem_of_getElem? (i := 159) rfl)) rfl
theorem kw_1453 : Cond.code yX10_four cX10_four 3 none ∈ hx_all := kt_g (kt_6 (List.mem_of_getElem? (i := 160) rfl)) rfl
theorem kw_1454 : Cond.methodLink "SmallCourtLaw" 27 yX10_end ∈ hx_all := kt_g (kt_6 (List.mem_of_getElem? (i := 161) rfl)) rfl
theorem kw_1455 : Cond.instanceMethod yX10_end ∈ hx_all := kt_g (kt_6 (List.mem_of_getElem? (i := 162) rfl)) rfl
theorem kw_1456 : Cond.selects "SmallCourtModel" yX10_end yX10_end ∈ hx_all := kt_g (kt_6 (List.mem_of_getElem? (i := 163) rfl)) rfl
theorem kw_1457 : Cond.code yX10_end cX10_end 2 (some .int) ∈ hx_all := kt_g (kt_6 (List.mem_of_getElem? (i := 164) rfl)) rfl
theorem kw_1458 : Cond.methodLink "SmallCourtLaw" 31 yX10_act ∈ hx_all := kt_g (kt_6 (List.mem_of_getElem? (i := 165) rfl)) rfl
theorem kw_1459 : Cond.instanceMethod yX10_act ∈ hx_all := kt_g (kt_6 (List.mem_of_getElem? (i := 166) rfl)) rfl
theorem kw_1460 : Cond.selects "SmallCourtModel" yX10_act yX10_act ∈ hx_all := kt_g (kt_6 (List.mem_of_getElem? (i := 167) rfl)) rfl
theorem kw_1461 : Cond.code yX10_act cX10_act 5 (some .int) ∈ hx_all := kt_g (kt_6 (List.mem_of_getElem? (i := 168) rfl)) rfl
theorem kw_1462 : Cond.methodLink "SmallCourtModel" 324 yX10_isDay ∈ hx_all := kt_g (kt_6 (List.mem_of_getElem? (i := 169) rfl)) rfl
theorem kw_1463 : Cond.static yX10_isDay ∈ hx_all := kt_g (kt_6 (List.mem_of_getElem? (i := 170) rfl)) rfl
theorem kw_1464 : Cond.code yX10_isDay cX10_isDay 1 (some .boolean) ∈ hx_all := kt_g (kt_6 (List.mem_of_getElem? (i := 171) rfl)) rfl
theorem kw_1465 : Cond.methodLink "SmallCourtModel" 248 yX10_see ∈ hx_all := kt_g (kt_6 (List.mem_of_getElem? (i := 172) rfl)) rfl
theorem kw_1467 : Cond.instanceMethod yX10_see ∈ hx_all := kt_g (kt_6 (List.mem_of_getElem? (i := 174) rfl)) rfl
theorem kw_1468 : Cond.code yX10_see cX10_see 1 (some .int) ∈ hx_all := kt_g (kt_6 (List.mem_of_getElem? (i := 175) rfl)) rfl
theorem kw_1469 : Cond.methodLink "SmallCourtModel" 327 yX10_clause ∈ hx_all := kt_g (kt_6 (List.mem_of_getElem? (i := 176) rfl)) rfl
theorem kw_1471 : Cond.instanceMethod yX10_clause ∈ hx_all := kt_g (kt_6 (List.mem_of_getElem? (i := 178) rfl)) rfl
theorem kw_1472 : Cond.code yX10_clause cX10_clause 4 (some .boolean) ∈ hx_all := kt_g (kt_6 (List.mem_of_getElem? (i := 179) rfl)) rfl
theorem kw_1473 : Cond.methodLink "SmallCourtModel" 277 yX10_wordHere ∈ hx_all := kt_g (kt_6 (List.mem_of_getElem? (i := 180) rfl)) rfl
theorem kw_1475 : Cond.instanceMethod yX10_wordHere ∈ hx_all := kt_g (kt_6 (List.mem_of_getElem? (i := 182) rfl)) rfl
theorem kw_1476 : Cond.code yX10_wordHere cX10_wordHere 5 (some .int) ∈ hx_all := kt_g (kt_6 (List.mem_of_getElem? (i := 183) rfl)) rfl
theorem kw_1477 : Cond.methodLink "SmallCourtModel" 255 yX10_fails ∈ hx_all := kt_g (kt_6 (List.mem_of_getElem? (i := 184) rfl)) rfl
theorem kw_1479 : Cond.instanceMethod yX10_fails ∈ hx_all := kt_g (kt_6 (List.mem_of_getElem? (i := 186) rfl)) rfl
theorem kw_1480 : Cond.code yX10_fails cX10_fails 3 (some .boolean) ∈ hx_all := kt_g (kt_6 (List.mem_of_getElem? (i := 187) rfl)) rfl
theorem kw_1481 : Cond.methodLink "SmallCourtModel" 309 yX10_isNew ∈ hx_all := kt_g (kt_6 (List.mem_of_getElem? (i := 188) rfl)) rfl
theorem kw_1483 : Cond.instanceMethod yX10_isNew ∈ hx_all := kt_g (kt_6 (List.mem_of_getElem? (i := 190) rfl)) rfl
theorem kw_1484 : Cond.code yX10_isNew cX10_isNew 3 (some .boolean) ∈ hx_all := kt_g (kt_6 (List.mem_of_getElem? (i := 191) rfl)) rfl
theorem kw_1485 : Cond.methodLink "SmallCourtModel" 312 yX10_either ∈ hx_all := kt_g (kt_6 (List.mem_of_getElem? (i := 192) rfl)) rfl
theorem kw_1487 : Cond.instanceMethod yX10_either ∈ hx_all := kt_g (kt_6 (List.mem_of_getElem? (i := 194) rfl)) rfl
theorem kw_1488 : Cond.code yX10_either cX10_either 4 (some .boolean) ∈ hx_all := kt_g (kt_6 (List.mem_of_getElem? (i := 195) rfl)) rfl
theorem kw_1489 : Cond.methodLink "SmallCourtModel" 296 yX10_begins ∈ hx_all := kt_g (kt_6 (List.mem_of_getElem? (i := 196) rfl)) rfl
theorem kw_1491 : Cond.instanceMethod yX10_begins ∈ hx_all := kt_g (kt_6 (List.mem_of_getElem? (i := 198) rfl)) rfl
theorem kw_1492 : Cond.code yX10_begins cX10_begins 3 (some .boolean) ∈ hx_all := kt_g (kt_6 (List.mem_of_getElem? (i := 199) rfl)) rfl
theorem kw_1493 : Cond.methodLink "SmallCourtModel" 290 yX10_compare ∈ hx_all := kt_g (kt_6 (List.mem_of_getElem? (i := 200) rfl)) rfl
theorem kw_1495 : Cond.instanceMethod yX10_compare ∈ hx_all := kt_g (kt_6 (List.mem_of_getElem? (i := 202) rfl)) rfl
theorem kw_1496 : Cond.code yX10_compare cX10_compare 6 (some .boolean) ∈ hx_all := kt_g (kt_6 (List.mem_of_getElem? (i := 203) rfl)) rfl
theorem kw_1497 : Cond.methodLink "SmallCourtModel" 270 yX10_isFact ∈ hx_all := kt_g (kt_6 (List.mem_of_getElem? (i := 204) rfl)) rfl
theorem kw_1498 : Cond.static yX10_isFact ∈ hx_all := kt_g (kt_6 (List.mem_of_getElem? (i := 205) rfl)) rfl
theorem kw_1499 : Cond.code yX10_isFact cX10_isFact 1 (some .boolean) ∈ hx_all := kt_g (kt_6 (List.mem_of_getElem? (i := 206) rfl)) rfl
theorem kw_1500 : Cond.methodLink "SmallCourtModel" 287 yX10_number ∈ hx_all := kt_g (kt_6 (List.mem_of_getElem? (i := 207) rfl)) rfl
theorem kw_1502 : Cond.instanceMethod yX10_number ∈ hx_all := kt_g (kt_6 (List.mem_of_getElem? (i := 209) rfl)) rfl
theorem kw_1503 : Cond.code yX10_number cX10_number 7 (some .boolean) ∈ hx_all := kt_g (kt_6 (List.mem_of_getElem? (i := 210) rfl)) rfl
theorem kw_1504 : Cond.methodLink "SmallCourtModel" 293 yX10_deep ∈ hx_all := kt_g (kt_6 (List.mem_of_getElem? (i := 211) rfl)) rfl
theorem kw_1506 : Cond.instanceMethod yX10_deep ∈ hx_all := kt_g (kt_6 (List.mem_of_getElem? (i := 213) rfl)) rfl
theorem kw_1507 : Cond.code yX10_deep cX10_deep 3 (some .int) ∈ hx_all := kt_g (kt_6 (List.mem_of_getElem? (i := 214) rfl)) rfl
theorem kw_1508 : Cond.methodLink "SmallCourtModel" 300 yX10_closesNots ∈ hx_all := kt_g (kt_6 (List.mem_of_getElem? (i := 215) rfl)) rfl
theorem kw_1510 : Cond.instanceMethod yX10_closesNots ∈ hx_all := kt_g (kt_6 (List.mem_of_getElem? (i := 217) rfl)) rfl
theorem kw_1511 : Cond.code yX10_closesNots cX10_closesNots 1 none ∈ hx_all := kt_g (kt_6 (List.mem_of_getElem? (i := 218) rfl)) rfl
theorem kw_1512 : Cond.methodLink "SmallCourtModel" 303 yX10_closesDown ∈ hx_all := kt_g (kt_6 (List.mem_of_getElem? (i := 219) rfl)) rfl
theorem kw_1514 : Cond.instanceMethod yX10_closesDown ∈ hx_all := kt_g (kt_6 (List.mem_of_getElem? (i := 221) rfl)) rfl
theorem kw_1515 : Cond.code yX10_closesDown cX10_closesDown 2 none ∈ hx_all := kt_g (kt_6 (List.mem_of_getElem? (i := 222) rfl)) rfl
theorem kw_1516 : Cond.methodLink "SmallCourtModel" 315 yX10_leastOf ∈ hx_all := kt_g (kt_6 (List.mem_of_getElem? (i := 223) rfl)) rfl
theorem kw_1517 : Cond.static yX10_leastOf ∈ hx_all := kt_g (kt_6 (List.mem_of_getElem? (i := 224) rfl)) rfl
theorem kw_1518 : Cond.code yX10_leastOf cX10_leastOf 1 (some .int) ∈ hx_all := kt_g (kt_6 (List.mem_of_getElem? (i := 225) rfl)) rfl
theorem kw_1519 : Cond.methodLink "SmallCourtModel" 318 yX10_mostOf ∈ hx_all := kt_g (kt_6 (List.mem_of_getElem? (i := 226) rfl)) rfl
theorem kw_1520 : Cond.static yX10_mostOf ∈ hx_all := kt_g (kt_6 (List.mem_of_getElem? (i := 227) rfl)) rfl
theorem kw_1521 : Cond.code yX10_mostOf cX10_mostOf 1 (some .int) ∈ hx_all := kt_g (kt_6 (List.mem_of_getElem? (i := 228) rfl)) rfl
theorem kw_1522 : Cond.methodLink "SmallCourtLaw" 36 yX10_force ∈ hx_all := kt_g (kt_6 (List.mem_of_getElem? (i := 229) rfl)) rfl
theorem kw_1523 : Cond.instanceMethod yX10_force ∈ hx_all := kt_g (kt_6 (List.mem_of_getElem? (i := 230) rfl)) rfl
theorem kw_1524 : Cond.selects "SmallCourtModel" yX10_force yX10_force ∈ hx_all := kt_g (kt_6 (List.mem_of_getElem? (i := 231) rfl)) rfl
theorem kw_1525 : Cond.code yX10_force cX10_force 4 (some .int) ∈ hx_all := kt_g (kt_6 (List.mem_of_getElem? (i := 232) rfl)) rfl
theorem kw_1526 : Cond.methodLink "SmallCourtModel" 330 yX10_inForce ∈ hx_all := kt_g (kt_6 (List.mem_of_getElem? (i := 233) rfl)) rfl
theorem kw_1528 : Cond.instanceMethod yX10_inForce ∈ hx_all := kt_g (kt_6 (List.mem_of_getElem? (i := 235) rfl)) rfl
theorem kw_1529 : Cond.code yX10_inForce cX10_inForce 4 (some .int) ∈ hx_all := kt_g (kt_6 (List.mem_of_getElem? (i := 236) rfl)) rfl
theorem kw_1530 : Cond.methodLink "SmallCourtModel" 333 yX10_ruleOf ∈ hx_all := kt_g (kt_6 (List.mem_of_getElem? (i := 237) rfl)) rfl
theorem kw_1532 : Cond.instanceMethod yX10_ruleOf ∈ hx_all := kt_g (kt_6 (List.mem_of_getElem? (i := 239) rfl)) rfl
theorem kw_1533 : Cond.code yX10_ruleOf cX10_ruleOf 3 (some .int) ∈ hx_all := kt_g (kt_7 (List.mem_of_getElem? (i := 0) rfl)) rfl
theorem kw_1534 : Cond.methodLink "SmallCourtLaw" 41 yX10_person ∈ hx_all := kt_g (kt_7 (List.mem_of_getElem? (i := 1) rfl)) rfl
theorem kw_1535 : Cond.instanceMethod yX10_person ∈ hx_all := kt_g (kt_7 (List.mem_of_getElem? (i := 2) rfl)) rfl
theorem kw_1536 : Cond.selects "SmallCourtModel" yX10_person yX10_person ∈ hx_all := kt_g (kt_7 (List.mem_of_getElem? (i := 3) rfl)) rfl
theorem kw_1537 : Cond.code yX10_person cX10_person 7 (some .int) ∈ hx_all := kt_g (kt_7 (List.mem_of_getElem? (i := 4) rfl)) rfl
theorem kw_1538 : Cond.methodLink "SmallCourtModel" 340 yX10_areLives ∈ hx_all := kt_g (kt_7 (List.mem_of_getElem? (i := 5) rfl)) rfl
theorem kw_1539 : Cond.static yX10_areLives ∈ hx_all := kt_g (kt_7 (List.mem_of_getElem? (i := 6) rfl)) rfl
theorem kw_1540 : Cond.code yX10_areLives cX10_areLives 4 (some .boolean) ∈ hx_all := kt_g (kt_7 (List.mem_of_getElem? (i := 7) rfl)) rfl
theorem kw_1541 : Cond.methodLink "SmallCourtModel" 344 yX10_lives ∈ hx_all := kt_g (kt_7 (List.mem_of_getElem? (i := 8) rfl)) rfl
theorem kw_1543 : Cond.instanceMethod yX10_lives ∈ hx_all := kt_g (kt_7 (List.mem_of_getElem? (i := 10) rfl)) rfl
theorem kw_1544 : Cond.code yX10_lives cX10_lives 6 none ∈ hx_all := kt_g (kt_7 (List.mem_of_getElem? (i := 11) rfl)) rfl
theorem kw_1545 : Cond.methodLink "SmallCourtLaw" 46 yX10_anew ∈ hx_all := kt_g (kt_7 (List.mem_of_getElem? (i := 12) rfl)) rfl
theorem kw_1546 : Cond.instanceMethod yX10_anew ∈ hx_all := kt_g (kt_7 (List.mem_of_getElem? (i := 13) rfl)) rfl
theorem kw_1547 : Cond.selects "SmallCourtModel" yX10_anew yX10_anew ∈ hx_all := kt_g (kt_7 (List.mem_of_getElem? (i := 14) rfl)) rfl
theorem kw_1548 : Cond.code yX10_anew cX10_anew 6 (some .boolean) ∈ hx_all := kt_g (kt_7 (List.mem_of_getElem? (i := 15) rfl)) rfl
theorem kw_1549 : Cond.methodLink "SmallCourtModel" 348 yX10_isPerson ∈ hx_all := kt_g (kt_7 (List.mem_of_getElem? (i := 16) rfl)) rfl
theorem kw_1551 : Cond.instanceMethod yX10_isPerson ∈ hx_all := kt_g (kt_7 (List.mem_of_getElem? (i := 18) rfl)) rfl
theorem kw_1552 : Cond.code yX10_isPerson cX10_isPerson 2 (some .boolean) ∈ hx_all := kt_g (kt_7 (List.mem_of_getElem? (i := 19) rfl)) rfl
theorem kw_1553 : Cond.methodLink "SmallCourtLaw" 50 yX10_dies ∈ hx_all := kt_g (kt_7 (List.mem_of_getElem? (i := 20) rfl)) rfl
theorem kw_1554 : Cond.instanceMethod yX10_dies ∈ hx_all := kt_g (kt_7 (List.mem_of_getElem? (i := 21) rfl)) rfl
theorem kw_1555 : Cond.selects "SmallCourtModel" yX10_dies yX10_dies ∈ hx_all := kt_g (kt_7 (List.mem_of_getElem? (i := 22) rfl)) rfl
theorem kw_1556 : Cond.code yX10_dies cX10_dies 2 (some .boolean) ∈ hx_all := kt_g (kt_7 (List.mem_of_getElem? (i := 23) rfl)) rfl
theorem kw_1557 : Cond.methodLink "SmallCourtLaw" 55 yX10_judge ∈ hx_all := kt_g (kt_7 (List.mem_of_getElem? (i := 24) rfl)) rfl
theorem kw_1558 : Cond.instanceMethod yX10_judge ∈ hx_all := kt_g (kt_7 (List.mem_of_getElem? (i := 25) rfl)) rfl
theorem kw_1559 : Cond.selects "SmallCourtModel" yX10_judge yX10_judge ∈ hx_all := kt_g (kt_7 (List.mem_of_getElem? (i := 26) rfl)) rfl
theorem kw_1560 : Cond.code yX10_judge cX10_judge 3 (some .boolean) ∈ hx_all := kt_g (kt_7 (List.mem_of_getElem? (i := 27) rfl)) rfl
theorem kw_1561 : Cond.methodLink "SmallCourtLaw" 59 yX10_line ∈ hx_all := kt_g (kt_7 (List.mem_of_getElem? (i := 28) rfl)) rfl
theorem kw_1562 : Cond.instanceMethod yX10_line ∈ hx_all := kt_g (kt_7 (List.mem_of_getElem? (i := 29) rfl)) rfl
theorem kw_1563 : Cond.selects "SmallCourtModel" yX10_line yX10_line ∈ hx_all := kt_g (kt_7 (List.mem_of_getElem? (i := 30) rfl)) rfl
theorem kw_1564 : Cond.code yX10_line cX10_line 6 (some .int) ∈ hx_all := kt_g (kt_7 (List.mem_of_getElem? (i := 31) rfl)) rfl
theorem kw_1565 : Cond.methodLink "SmallCourtLaw" 64 yX10_book ∈ hx_all := kt_g (kt_7 (List.mem_of_getElem? (i := 32) rfl)) rfl
theorem kw_1566 : Cond.instanceMethod yX10_book ∈ hx_all := kt_g (kt_7 (List.mem_of_getElem? (i := 33) rfl)) rfl
theorem kw_1567 : Cond.selects "SmallCourtModel" yX10_book yX10_book ∈ hx_all := kt_g (kt_7 (List.mem_of_getElem? (i := 34) rfl)) rfl
theorem kw_1568 : Cond.code yX10_book cX10_book 5 (some .int) ∈ hx_all := kt_g (kt_7 (List.mem_of_getElem? (i := 35) rfl)) rfl
theorem kw_1569 : Cond.constant "SmallCourtModel" 357 (-1000000) ∈ hx_all := kt_g (kt_7 (List.mem_of_getElem? (i := 36) rfl)) rfl
theorem kw_1570 : Cond.methodLink "SmallCourtModel" 358 yX10_bookSum ∈ hx_all := kt_g (kt_7 (List.mem_of_getElem? (i := 37) rfl)) rfl
theorem kw_1572 : Cond.instanceMethod yX10_bookSum ∈ hx_all := kt_g (kt_7 (List.mem_of_getElem? (i := 39) rfl)) rfl
theorem kw_1573 : Cond.code yX10_bookSum cX10_bookSum 6 (some .int) ∈ hx_all := kt_g (kt_7 (List.mem_of_getElem? (i := 40) rfl)) rfl
theorem kw_1574 : Cond.methodLink "SmallCourtModel" 361 yX10_alike ∈ hx_all := kt_g (kt_7 (List.mem_of_getElem? (i := 41) rfl)) rfl
theorem kw_1576 : Cond.instanceMethod yX10_alike ∈ hx_all := kt_g (kt_7 (List.mem_of_getElem? (i := 43) rfl)) rfl
theorem kw_1577 : Cond.code yX10_alike cX10_alike 9 (some .int) ∈ hx_all := kt_g (kt_7 (List.mem_of_getElem? (i := 44) rfl)) rfl
theorem kw_1578 : Cond.methodLink "SmallCourtModel" 354 yX10_areTwins ∈ hx_all := kt_g (kt_7 (List.mem_of_getElem? (i := 45) rfl)) rfl
theorem kw_1580 : Cond.instanceMethod yX10_areTwins ∈ hx_all := kt_g (kt_7 (List.mem_of_getElem? (i := 47) rfl)) rfl
theorem kw_1581 : Cond.code yX10_areTwins cX10_areTwins 4 (some .boolean) ∈ hx_all := kt_g (kt_7 (List.mem_of_getElem? (i := 48) rfl)) rfl
theorem kw_1582 : Cond.methodLink "SmallCourtModel" 364 yX10_disorder ∈ hx_all := kt_g (kt_7 (List.mem_of_getElem? (i := 49) rfl)) rfl
theorem kw_1584 : Cond.instanceMethod yX10_disorder ∈ hx_all := kt_g (kt_7 (List.mem_of_getElem? (i := 51) rfl)) rfl
theorem kw_1585 : Cond.code yX10_disorder cX10_disorder 5 (some .int) ∈ hx_all := kt_g (kt_7 (List.mem_of_getElem? (i := 52) rfl)) rfl
theorem kw_1586 : Cond.methodLink "SmallCourtLaw" 69 yX10_file ∈ hx_all := kt_g (kt_7 (List.mem_of_getElem? (i := 53) rfl)) rfl
theorem kw_1587 : Cond.instanceMethod yX10_file ∈ hx_all := kt_g (kt_7 (List.mem_of_getElem? (i := 54) rfl)) rfl
theorem kw_1588 : Cond.selects "SmallCourtModel" yX10_file yX10_file ∈ hx_all := kt_g (kt_7 (List.mem_of_getElem? (i := 55) rfl)) rfl
theorem kw_1589 : Cond.code yX10_file cX10_file 9 (some .int) ∈ hx_all := kt_g (kt_7 (List.mem_of_getElem? (i := 56) rfl)) rfl
theorem kw_1590 : Cond.methodLink "SmallCourtLaw" 74 yX10_summons ∈ hx_all := kt_g (kt_7 (List.mem_of_getElem? (i := 57) rfl)) rfl
theorem kw_1591 : Cond.instanceMethod yX10_summons ∈ hx_all := kt_g (kt_7 (List.mem_of_getElem? (i := 58) rfl)) rfl
theorem kw_1592 : Cond.selects "SmallCourtModel" yX10_summons yX10_summons ∈ hx_all := kt_g (kt_7 (List.mem_of_getElem? (i := 59) rfl)) rfl
theorem kw_1593 : Cond.code yX10_summons cX10_summons 3 (some .int) ∈ hx_all := kt_g (kt_7 (List.mem_of_getElem? (i := 60) rfl)) rfl
theorem kw_1594 : Cond.methodLink "SmallCourtModel" 370 yX10_isClaim ∈ hx_all := kt_g (kt_7 (List.mem_of_getElem? (i := 61) rfl)) rfl
theorem kw_1596 : Cond.instanceMethod yX10_isClaim ∈ hx_all := kt_g (kt_7 (List.mem_of_getElem? (i := 63) rfl)) rfl
theorem kw_1597 : Cond.code yX10_isClaim cX10_isClaim 2 (some .boolean) ∈ hx_all := kt_g (kt_7 (List.mem_of_getElem? (i := 64) rfl)) rfl
theorem kw_1598 : Cond.methodLink "SmallCourtLaw" 79 yX10_hear ∈ hx_all := kt_g (kt_7 (List.mem_of_getElem? (i := 65) rfl)) rfl
theorem kw_1599 : Cond.instanceMethod yX10_hear ∈ hx_all := kt_g (kt_7 (List.mem_of_getElem? (i := 66) rfl)) rfl
theorem kw_1600 : Cond.selects "SmallCourtModel" yX10_hear yX10_hear ∈ hx_all := kt_g (kt_7 (List.mem_of_getElem? (i := 67) rfl)) rfl
theorem kw_1601 : Cond.code yX10_hear cX10_hear 6 (some .int) ∈ hx_all := kt_g (kt_7 (List.mem_of_getElem? (i := 68) rfl)) rfl
theorem kw_1602 : Cond.methodLink "SmallCourtModel" 385 yX10_sits ∈ hx_all := kt_g (kt_7 (List.mem_of_getElem? (i := 69) rfl)) rfl
theorem kw_1604 : Cond.instanceMethod yX10_sits ∈ hx_all := kt_g (kt_7 (List.mem_of_getElem? (i := 71) rfl)) rfl
theorem kw_1605 : Cond.code yX10_sits cX10_sits 4 (some .int) ∈ hx_all := kt_g (kt_7 (List.mem_of_getElem? (i := 72) rfl)) rfl
theorem kw_1606 : Cond.methodLink "SmallCourtModel" 382 yX10_isKinOf ∈ hx_all := kt_g (kt_7 (List.mem_of_getElem? (i := 73) rfl)) rfl
theorem kw_1608 : Cond.instanceMethod yX10_isKinOf ∈ hx_all := kt_g (kt_7 (List.mem_of_getElem? (i := 75) rfl)) rfl
theorem kw_1609 : Cond.code yX10_isKinOf cX10_isKinOf 3 (some .boolean) ∈ hx_all := kt_g (kt_7 (List.mem_of_getElem? (i := 76) rfl)) rfl
theorem kw_1610 : Cond.methodLink "SmallCourtModel" 388 yX10_draws ∈ hx_all := kt_g (kt_7 (List.mem_of_getElem? (i := 77) rfl)) rfl
theorem kw_1612 : Cond.instanceMethod yX10_draws ∈ hx_all := kt_g (kt_7 (List.mem_of_getElem? (i := 79) rfl)) rfl
theorem kw_1613 : Cond.code yX10_draws cX10_draws 8 none ∈ hx_all := kt_g (kt_7 (List.mem_of_getElem? (i := 80) rfl)) rfl
theorem kw_1614 : Cond.methodLink "SmallCourtModel" 395 yX10_judges ∈ hx_all := kt_g (kt_7 (List.mem_of_getElem? (i := 81) rfl)) rfl
theorem kw_1616 : Cond.instanceMethod yX10_judges ∈ hx_all := kt_g (kt_7 (List.mem_of_getElem? (i := 83) rfl)) rfl
theorem kw_1617 : Cond.code yX10_judges cX10_judges 3 (some .int) ∈ hx_all := kt_g (kt_7 (List.mem_of_getElem? (i := 84) rfl)) rfl
theorem kw_1618 : Cond.methodLink "SmallCourtModel" 376 yX10_isSplit ∈ hx_all := kt_g (kt_7 (List.mem_of_getElem? (i := 85) rfl)) rfl
theorem kw_1620 : Cond.instanceMethod yX10_isSplit ∈ hx_all := kt_g (kt_7 (List.mem_of_getElem? (i := 87) rfl)) rfl
theorem kw_1621 : Cond.code yX10_isSplit cX10_isSplit 6 (some .boolean) ∈ hx_all := kt_g (kt_7 (List.mem_of_getElem? (i := 88) rfl)) rfl
theorem kw_1622 : Cond.methodLink "SmallCourtModel" 379 yX10_isProved ∈ hx_all := kt_g (kt_7 (List.mem_of_getElem? (i := 89) rfl)) rfl
theorem kw_1624 : Cond.instanceMethod yX10_isProved ∈ hx_all := kt_g (kt_7 (List.mem_of_getElem? (i := 91) rfl)) rfl
theorem kw_1625 : Cond.code yX10_isProved cX10_isProved 6 (some .boolean) ∈ hx_all := kt_g (kt_7 (List.mem_of_getElem? (i := 92) rfl)) rfl
theorem kw_1626 : Cond.methodLink "SmallCourtModel" 373 yX10_isSo ∈ hx_all := kt_g (kt_7 (List.mem_of_getElem? (i := 93) rfl)) rfl
theorem kw_1628 : Cond.instanceMethod yX10_isSo ∈ hx_all := kt_g (kt_7 (List.mem_of_getElem? (i := 95) rfl)) rfl
theorem kw_1629 : Cond.code yX10_isSo cX10_isSo 6 (some .boolean) ∈ hx_all := kt_g (kt_7 (List.mem_of_getElem? (i := 96) rfl)) rfl
theorem kw_1630 : Cond.methodLink "SmallCourtLaw" 83 yX10_order ∈ hx_all := kt_g (kt_7 (List.mem_of_getElem? (i := 97) rfl)) rfl
theorem kw_1631 : Cond.instanceMethod yX10_order ∈ hx_all := kt_g (kt_7 (List.mem_of_getElem? (i := 98) rfl)) rfl
theorem kw_1632 : Cond.selects "SmallCourtModel" yX10_order yX10_order ∈ hx_all := kt_g (kt_7 (List.mem_of_getElem? (i := 99) rfl)) rfl
theorem kw_1633 : Cond.code yX10_order cX10_order 7 (some .int) ∈ hx_all := kt_g (kt_7 (List.mem_of_getElem? (i := 100) rfl)) rfl
theorem kw_1634 : Cond.methodLink "SmallCourtModel" 419 yX10_isOpen ∈ hx_all := kt_g (kt_7 (List.mem_of_getElem? (i := 101) rfl)) rfl
theorem kw_1636 : Cond.instanceMethod yX10_isOpen ∈ hx_all := kt_g (kt_7 (List.mem_of_getElem? (i := 103) rfl)) rfl
theorem kw_1637 : Cond.code yX10_isOpen cX10_isOpen 2 (some .boolean) ∈ hx_all := kt_g (kt_7 (List.mem_of_getElem? (i := 104) rfl)) rfl
theorem kw_1638 : Cond.methodLink "SmallCourtModel" 416 yX10_looks ∈ hx_all := kt_g (kt_7 (List.mem_of_getElem? (i := 105) rfl)) rfl
theorem kw_1640 : Cond.instanceMethod yX10_looks ∈ hx_all := kt_g (kt_7 (List.mem_of_getElem? (i := 107) rfl)) rfl
theorem kw_1641 : Cond.code yX10_looks cX10_looks 9 none ∈ hx_all := kt_g (kt_7 (List.mem_of_getElem? (i := 108) rfl)) rfl
theorem kw_1642 : Cond.methodLink "SmallCourtModel" 422 yX10_means ∈ hx_all := kt_g (kt_7 (List.mem_of_getElem? (i := 109) rfl)) rfl
theorem kw_1644 : Cond.instanceMethod yX10_means ∈ hx_all := kt_g (kt_7 (List.mem_of_getElem? (i := 111) rfl)) rfl
theorem kw_1645 : Cond.code yX10_means cX10_means 3 (some .int) ∈ hx_all := kt_g (kt_7 (List.mem_of_getElem? (i := 112) rfl)) rfl
theorem kw_1646 : Cond.methodLink "SmallCourtLaw" 88 yX10_pay ∈ hx_all := kt_g (kt_7 (List.mem_of_getElem? (i := 113) rfl)) rfl
theorem kw_1647 : Cond.instanceMethod yX10_pay ∈ hx_all := kt_g (kt_7 (List.mem_of_getElem? (i := 114) rfl)) rfl
theorem kw_1648 : Cond.selects "SmallCourtModel" yX10_pay yX10_pay ∈ hx_all := kt_g (kt_7 (List.mem_of_getElem? (i := 115) rfl)) rfl
theorem kw_1649 : Cond.code yX10_pay cX10_pay 4 (some .int) ∈ hx_all := kt_g (kt_7 (List.mem_of_getElem? (i := 116) rfl)) rfl
theorem kw_1650 : Cond.methodLink "SmallCourtModel" 425 yX10_pays ∈ hx_all := kt_g (kt_7 (List.mem_of_getElem? (i := 117) rfl)) rfl
theorem kw_1652 : Cond.instanceMethod yX10_pays ∈ hx_all := kt_g (kt_7 (List.mem_of_getElem? (i := 119) rfl)) rfl
theorem kw_1653 : Cond.code yX10_pays cX10_pays 4 (some .int) ∈ hx_all := kt_g (kt_7 (List.mem_of_getElem? (i := 120) rfl)) rfl
theorem kw_1654 : Cond.methodLink "SmallCourtLaw" 92 yX10_strike ∈ hx_all := kt_g (kt_7 (List.mem_of_getElem? (i := 121) rfl)) rfl
theorem kw_1655 : Cond.instanceMethod yX10_strike ∈ hx_all := kt_g (kt_7 (List.mem_of_getElem? (i := 122) rfl)) rfl
theorem kw_1656 : Cond.selects "SmallCourtModel" yX10_strike yX10_strike ∈ hx_all := kt_g (kt_7 (List.mem_of_getElem? (i := 123) rfl)) rfl
theorem kw_1657 : Cond.code yX10_strike cX10_strike 2 (some .boolean) ∈ hx_all := kt_g (kt_7 (List.mem_of_getElem? (i := 124) rfl)) rfl
theorem kw_1658 : Cond.methodLink "SmallCourtLaw" 96 yX10_seize ∈ hx_all := kt_g (kt_7 (List.mem_of_getElem? (i := 125) rfl)) rfl
theorem kw_1659 : Cond.instanceMethod yX10_seize ∈ hx_all := kt_g (kt_7 (List.mem_of_getElem? (i := 126) rfl)) rfl
theorem kw_1660 : Cond.selects "SmallCourtModel" yX10_seize yX10_seize ∈ hx_all := kt_g (kt_7 (List.mem_of_getElem? (i := 127) rfl)) rfl
theorem kw_1661 : Cond.code yX10_seize cX10_seize 3 (some .int) ∈ hx_all := kt_g (kt_7 (List.mem_of_getElem? (i := 128) rfl)) rfl
theorem kw_1662 : Cond.methodLink "SmallCourtLaw" 100 yX10_gaol ∈ hx_all := kt_g (kt_7 (List.mem_of_getElem? (i := 129) rfl)) rfl
theorem kw_1663 : Cond.instanceMethod yX10_gaol ∈ hx_all := kt_g (kt_7 (List.mem_of_getElem? (i := 130) rfl)) rfl
theorem kw_1664 : Cond.selects "SmallCourtModel" yX10_gaol yX10_gaol ∈ hx_all := kt_g (kt_7 (List.mem_of_getElem? (i := 131) rfl)) rfl
theorem kw_1665 : Cond.code yX10_gaol cX10_gaol 3 (some .int) ∈ hx_all := kt_g (kt_7 (List.mem_of_getElem? (i := 132) rfl)) rfl
theorem kw_1666 : Cond.methodLink "SmallCourtLaw" 104 yX10_claim ∈ hx_all := kt_g (kt_7 (List.mem_of_getElem? (i := 133) rfl)) rfl
theorem kw_1667 : Cond.instanceMethod yX10_claim ∈ hx_all := kt_g (kt_7 (List.mem_of_getElem? (i := 134) rfl)) rfl
theorem kw_1668 : Cond.selects "SmallCourtModel" yX10_claim yX10_claim ∈ hx_all := kt_g (kt_7 (List.mem_of_getElem? (i := 135) rfl)) rfl
theorem kw_1669 : Cond.code yX10_claim cX10_claim 3 (some .int) ∈ hx_all := kt_g (kt_7 (List.mem_of_getElem? (i := 136) rfl)) rfl
theorem kw_1670 : Cond.methodLink "SmallCourtLaw" 108 yX10_state ∈ hx_all := kt_g (kt_7 (List.mem_of_getElem? (i := 137) rfl)) rfl
theorem kw_1671 : Cond.instanceMethod yX10_state ∈ hx_all := kt_g (kt_7 (List.mem_of_getElem? (i := 138) rfl)) rfl
theorem kw_1672 : Cond.selects "SmallCourtModel" yX10_state yX10_state ∈ hx_all := kt_g (kt_7 (List.mem_of_getElem? (i := 139) rfl)) rfl
theorem kw_1673 : Cond.code yX10_state cX10_state 5 (some .int) ∈ hx_all := kt_g (kt_7 (List.mem_of_getElem? (i := 140) rfl)) rfl
theorem kw_1674 : Cond.methodLink "SmallCourtLaw" 112 yX10_plan ∈ hx_all := kt_g (kt_7 (List.mem_of_getElem? (i := 141) rfl)) rfl
theorem kw_1675 : Cond.instanceMethod yX10_plan ∈ hx_all := kt_g (kt_7 (List.mem_of_getElem? (i := 142) rfl)) rfl
theorem kw_1676 : Cond.selects "SmallCourtModel" yX10_plan yX10_plan ∈ hx_all := kt_g (kt_7 (List.mem_of_getElem? (i := 143) rfl)) rfl
theorem kw_1677 : Cond.code yX10_plan cX10_plan 12 (some .int) ∈ hx_all := kt_g (kt_7 (List.mem_of_getElem? (i := 144) rfl)) rfl
theorem kw_1678 : Cond.constant "SmallCourtModel" 431 (1000000000) ∈ hx_all := kt_g (kt_7 (List.mem_of_getElem? (i := 145) rfl)) rfl
theorem kw_1679 : Cond.methodLink "SmallCourtModel" 432 yX10_weeksOf ∈ hx_all := kt_g (kt_7 (List.mem_of_getElem? (i := 146) rfl)) rfl
theorem kw_1681 : Cond.instanceMethod yX10_weeksOf ∈ hx_all := kt_g (kt_7 (List.mem_of_getElem? (i := 148) rfl)) rfl
theorem kw_1682 : Cond.code yX10_weeksOf cX10_weeksOf 5 (some .int) ∈ hx_all := kt_g (kt_7 (List.mem_of_getElem? (i := 149) rfl)) rfl
theorem kw_1683 : Cond.methodLink "SmallCourtLaw" 116 yX10_planned ∈ hx_all := kt_g (kt_7 (List.mem_of_getElem? (i := 150) rfl)) rfl
theorem kw_1684 : Cond.instanceMethod yX10_planned ∈ hx_all := kt_g (kt_7 (List.mem_of_getElem? (i := 151) rfl)) rfl
theorem kw_1685 : Cond.selects "SmallCourtModel" yX10_planned yX10_planned ∈ hx_all := kt_g (kt_7 (List.mem_of_getElem? (i := 152) rfl)) rfl
theorem kw_1686 : Cond.code yX10_planned cX10_planned 3 (some .int) ∈ hx_all := kt_g (kt_7 (List.mem_of_getElem? (i := 153) rfl)) rfl
theorem kw_1687 : Cond.methodLink "SmallCourtLaw" 121 yX10_net ∈ hx_all := kt_g (kt_7 (List.mem_of_getElem? (i := 154) rfl)) rfl
theorem kw_1688 : Cond.instanceMethod yX10_net ∈ hx_all := kt_g (kt_7 (List.mem_of_getElem? (i := 155) rfl)) rfl
theorem kw_1689 : Cond.selects "SmallCourtModel" yX10_net yX10_net ∈ hx_all := kt_g (kt_7 (List.mem_of_getElem? (i := 156) rfl)) rfl
theorem kw_1690 : Cond.code yX10_net cX10_net 5 (some .int) ∈ hx_all := kt_g (kt_7 (List.mem_of_getElem? (i := 157) rfl)) rfl
theorem kw_1691 : Cond.methodLink "SmallCourtModel" 458 yX10_debts ∈ hx_all := kt_g (kt_7 (List.mem_of_getElem? (i := 158) rfl)) rfl
theorem kw_1693 : Cond.instanceMethod yX10_debts ∈ hx_all := kt_g (kt_7 (List.mem_of_getElem? (i := 160) rfl)) rfl
theorem kw_1694 : Cond.code yX10_debts cX10_debts 2 none ∈ hx_all := kt_g (kt_7 (List.mem_of_getElem? (i := 161) rfl)) rfl
theorem kw_1695 : Cond.methodLink "SmallCourtModel" 461 yX10_finds ∈ hx_all := kt_g (kt_7 (List.mem_of_getElem? (i := 162) rfl)) rfl
theorem kw_1697 : Cond.instanceMethod yX10_finds ∈ hx_all := kt_g (kt_7 (List.mem_of_getElem? (i := 164) rfl)) rfl
theorem kw_1698 : Cond.code yX10_finds cX10_finds 8 none ∈ hx_all := kt_g (kt_7 (List.mem_of_getElem? (i := 165) rfl)) rfl
theorem kw_1699 : Cond.methodLink "SmallCourtModel" 444 yX10_offers ∈ hx_all := kt_g (kt_7 (List.mem_of_getElem? (i := 166) rfl)) rfl
theorem kw_1701 : Cond.instanceMethod yX10_offers ∈ hx_all := kt_g (kt_7 (List.mem_of_getElem? (i := 168) rfl)) rfl
theorem kw_1702 : Cond.code yX10_offers cX10_offers 6 none ∈ hx_all := kt_g (kt_7 (List.mem_of_getElem? (i := 169) rfl)) rfl
theorem kw_1703 : Cond.methodLink "SmallCourtModel" 448 yX10_lesser ∈ hx_all := kt_g (kt_7 (List.mem_of_getElem? (i := 170) rfl)) rfl
theorem kw_1704 : Cond.static yX10_lesser ∈ hx_all := kt_g (kt_7 (List.mem_of_getElem? (i := 171) rfl)) rfl
theorem kw_1705 : Cond.code yX10_lesser cX10_lesser 2 (some .int) ∈ hx_all := kt_g (kt_7 (List.mem_of_getElem? (i := 172) rfl)) rfl
theorem kw_1706 : Cond.methodLink "SmallCourtModel" 464 yX10_takes ∈ hx_all := kt_g (kt_7 (List.mem_of_getElem? (i := 173) rfl)) rfl
theorem kw_1708 : Cond.instanceMethod yX10_takes ∈ hx_all := kt_g (kt_7 (List.mem_of_getElem? (i := 175) rfl)) rfl
theorem kw_1709 : Cond.code yX10_takes cX10_takes 9 (some .int) ∈ hx_all := kt_g (kt_7 (List.mem_of_getElem? (i := 176) rfl)) rfl
theorem kw_1710 : Cond.methodLink "SmallCourtLaw" 125 yX10_netted ∈ hx_all := kt_g (kt_7 (List.mem_of_getElem? (i := 177) rfl)) rfl
theorem kw_1711 : Cond.instanceMethod yX10_netted ∈ hx_all := kt_g (kt_7 (List.mem_of_getElem? (i := 178) rfl)) rfl
theorem kw_1712 : Cond.selects "SmallCourtModel" yX10_netted yX10_netted ∈ hx_all := kt_g (kt_7 (List.mem_of_getElem? (i := 179) rfl)) rfl
theorem kw_1713 : Cond.code yX10_netted cX10_netted 2 (some .int) ∈ hx_all := kt_g (kt_7 (List.mem_of_getElem? (i := 180) rfl)) rfl
theorem kw_1714 : Cond.methodLink "SmallCourtLaw" 129 yX10_list ∈ hx_all := kt_g (kt_7 (List.mem_of_getElem? (i := 181) rfl)) rfl
theorem kw_1715 : Cond.instanceMethod yX10_list ∈ hx_all := kt_g (kt_7 (List.mem_of_getElem? (i := 182) rfl)) rfl
theorem kw_1716 : Cond.selects "SmallCourtModel" yX10_list yX10_list ∈ hx_all := kt_g (kt_7 (List.mem_of_getElem? (i := 183) rfl)) rfl
theorem kw_1717 : Cond.code yX10_list cX10_list 3 (some .int) ∈ hx_all := kt_g (kt_7 (List.mem_of_getElem? (i := 184) rfl)) rfl
theorem kw_1718 : Cond.methodLink "SmallCourtLaw" 133 yX10_walk ∈ hx_all := kt_g (kt_7 (List.mem_of_getElem? (i := 185) rfl)) rfl
theorem kw_1719 : Cond.instanceMethod yX10_walk ∈ hx_all := kt_g (kt_7 (List.mem_of_getElem? (i := 186) rfl)) rfl
theorem kw_1720 : Cond.selects "SmallCourtModel" yX10_walk yX10_walk ∈ hx_all := kt_g (kt_7 (List.mem_of_getElem? (i := 187) rfl)) rfl
theorem kw_1721 : Cond.code yX10_walk cX10_walk 6 (some .int) ∈ hx_all := kt_g (kt_7 (List.mem_of_getElem? (i := 188) rfl)) rfl
theorem kw_1722 : Cond.methodLink "SmallCourtModel" 475 yX10_far ∈ hx_all := kt_g (kt_7 (List.mem_of_getElem? (i := 189) rfl)) rfl
theorem kw_1724 : Cond.instanceMethod yX10_far ∈ hx_all := kt_g (kt_7 (List.mem_of_getElem? (i := 191) rfl)) rfl
theorem kw_1725 : Cond.code yX10_far cX10_far 7 (some .int) ∈ hx_all := kt_g (kt_7 (List.mem_of_getElem? (i := 192) rfl)) rfl
theorem kw_1726 : Cond.methodLink "SmallCourtModel" 471 yX10_stepsBetween ∈ hx_all := kt_g (kt_7 (List.mem_of_getElem? (i := 193) rfl)) rfl
theorem kw_1727 : Cond.static yX10_stepsBetween ∈ hx_all := kt_g (kt_7 (List.mem_of_getElem? (i := 194) rfl)) rfl
theorem kw_1728 : Cond.code yX10_stepsBetween cX10_stepsBetween 4 (some .int) ∈ hx_all := kt_g (kt_7 (List.mem_of_getElem? (i := 195) rfl)) rfl
theorem kw_1729 : Cond.methodLink "SmallCourtLaw" 137 yX10_walked ∈ hx_all := kt_g (kt_7 (List.mem_of_getElem? (i := 196) rfl)) rfl
theorem kw_1730 : Cond.instanceMethod yX10_walked ∈ hx_all := kt_g (kt_7 (List.mem_of_getElem? (i := 197) rfl)) rfl
theorem kw_1731 : Cond.selects "SmallCourtModel" yX10_walked yX10_walked ∈ hx_all := kt_g (kt_7 (List.mem_of_getElem? (i := 198) rfl)) rfl
theorem kw_1732 : Cond.code yX10_walked cX10_walked 2 (some .int) ∈ hx_all := kt_g (kt_7 (List.mem_of_getElem? (i := 199) rfl)) rfl
theorem kw_1733 : Cond.methodLink "SmallCourtLaw" 141 yX10_habit ∈ hx_all := kt_g (kt_7 (List.mem_of_getElem? (i := 200) rfl)) rfl
theorem kw_1734 : Cond.instanceMethod yX10_habit ∈ hx_all := kt_g (kt_7 (List.mem_of_getElem? (i := 201) rfl)) rfl
theorem kw_1735 : Cond.selects "SmallCourtModel" yX10_habit yX10_habit ∈ hx_all := kt_g (kt_7 (List.mem_of_getElem? (i := 202) rfl)) rfl
theorem kw_1736 : Cond.code yX10_habit cX10_habit 3 (some .int) ∈ hx_all := kt_g (kt_7 (List.mem_of_getElem? (i := 203) rfl)) rfl
theorem kw_1737 : Cond.methodLink "SmallCourtModel" 489 yX10_habits ∈ hx_all := kt_g (kt_7 (List.mem_of_getElem? (i := 204) rfl)) rfl
theorem kw_1739 : Cond.instanceMethod yX10_habits ∈ hx_all := kt_g (kt_7 (List.mem_of_getElem? (i := 206) rfl)) rfl
theorem kw_1740 : Cond.code yX10_habits cX10_habits 4 none ∈ hx_all := kt_g (kt_7 (List.mem_of_getElem? (i := 207) rfl)) rfl
theorem kw_1741 : Cond.methodLink "SmallCourtModel" 492 yX10_isRare ∈ hx_all := kt_g (kt_7 (List.mem_of_getElem? (i := 208) rfl)) rfl
theorem kw_1743 : Cond.instanceMethod yX10_isRare ∈ hx_all := kt_g (kt_7 (List.mem_of_getElem? (i := 210) rfl)) rfl
theorem kw_1744 : Cond.code yX10_isRare cX10_isRare 6 (some .boolean) ∈ hx_all := kt_g (kt_7 (List.mem_of_getElem? (i := 211) rfl)) rfl
theorem kw_1745 : Cond.constantLong "SmallCourtModel" 487 20 ∈ hx_all := kt_g (kt_7 (List.mem_of_getElem? (i := 212) rfl)) rfl
theorem kw_1746 : Cond.methodLink "SmallCourtLaw" 145 yX10_other ∈ hx_all := kt_g (kt_7 (List.mem_of_getElem? (i := 213) rfl)) rfl
theorem kw_1747 : Cond.instanceMethod yX10_other ∈ hx_all := kt_g (kt_7 (List.mem_of_getElem? (i := 214) rfl)) rfl
theorem kw_1748 : Cond.selects "SmallCourtModel" yX10_other yX10_other ∈ hx_all := kt_g (kt_7 (List.mem_of_getElem? (i := 215) rfl)) rfl
theorem kw_1749 : Cond.code yX10_other cX10_other 9 (some .int) ∈ hx_all := kt_g (kt_7 (List.mem_of_getElem? (i := 216) rfl)) rfl
theorem kw_1750 : Cond.methodLink "SmallCourtLaw" 149 yX10_count ∈ hx_all := kt_g (kt_7 (List.mem_of_getElem? (i := 217) rfl)) rfl
theorem kw_1751 : Cond.instanceMethod yX10_count ∈ hx_all := kt_g (kt_7 (List.mem_of_getElem? (i := 218) rfl)) rfl
theorem kw_1752 : Cond.selects "SmallCourtModel" yX10_count yX10_count ∈ hx_all := kt_g (kt_7 (List.mem_of_getElem? (i := 219) rfl)) rfl
theorem kw_1753 : Cond.code yX10_count cX10_count 4 (some .int) ∈ hx_all := kt_g (kt_7 (List.mem_of_getElem? (i := 220) rfl)) rfl
theorem kw_1754 : Cond.fieldLink "java/lang/String" 9 "java/lang/String" "value" "[B" ∈ hx_all := kt_g (kt_7 (List.mem_of_getElem? (i := 221) rfl)) rfl
theorem kw_1755 : Cond.fieldLink "java/lang/String" 15 "java/lang/String" "coder" "B" ∈ hx_all := kt_g (kt_7 (List.mem_of_getElem? (i := 222) rfl)) rfl
def hx_N : List Cond := [Cond.methodLinkNest "SmallCourt" 15 yX6_init "SmallCourt", Cond.fieldLinkNest "SmallCourt$Act" 25 "SmallCourt" "WITHOUT" "[I" "SmallCourt", Cond.methodLinkNest "SmallCourt" 41 yX1_init "SmallCourt", Cond.methodLinkNest "SmallCourt" 57 yX3_init "SmallCourt", Cond.methodLinkNest "SmallCourt" 71 yX5_init "SmallCourt", Cond.methodLinkNest "SmallCourt" 78 yX7_init "SmallCourt", Cond.methodLinkNest "SmallCourt" 85 yX8_init "SmallCourt", Cond.fieldLinkNest "SmallCourt$Reader" 82 "SmallCourt" "LEAST_TOLD" "[I" "SmallCourt", Cond.fieldLinkNest "SmallCourt$Reader" 86 "SmallCourt" "MOST_TOLD" "[I" "SmallCourt", Cond.methodLinkNest "SmallCourt$Claim" 95 yX9_roundUp "SmallCourt", Cond.methodLinkNest "SmallCourt$Plan" 78 yX9_roundUp "SmallCourt"]
theorem kc_0 : ∀ w ∈ u_ws RX0 TX0 5, w ∈ hx_all := fun w hw => by
  obtain ⟨k, hk, rfl⟩ := List.mem_map.mp hw
  have hk := List.mem_range.mp hk
  match k, hk with
  | 0, _ => exact kw_175
  | 1, _ => exact kw_177
  | 2, _ => exact kw_179
  | 3, _ => exact kw_181
  | 4, _ => exact kw_183
  | k + 5, hk => exact absurd hk (by omega)
theorem hC_0 : hx_C hx_all vwCl 0 RX0 TX0 5 tyX0 := ⟨rfl, kc_0, tyX0_ok, nmX0⟩
theorem kc_1 : ∀ w ∈ u_ws RX1 TX1 8, w ∈ hx_all := fun w hw => by
  obtain ⟨k, hk, rfl⟩ := List.mem_map.mp hw
  have hk := List.mem_range.mp hk
  match k, hk with
  | 0, _ => exact kw_205
  | 1, _ => exact kw_207
  | 2, _ => exact kw_209
  | 3, _ => exact kw_211
  | 4, _ => exact kw_213
  | 5, _ => exact kw_215
  | 6, _ => exact kw_217
  | 7, _ => exact kw_219
  | k + 8, hk => exact absurd hk (by omega)
theorem hC_1 : hx_C hx_all vwCl 1 RX1 TX1 8 tyX1 := ⟨rfl, kc_1, tyX1_ok, nmX1⟩
theorem kc_2 : ∀ w ∈ u_ws RX2 TX2 19, w ∈ hx_all := fun w hw => by
  obtain ⟨k, hk, rfl⟩ := List.mem_map.mp hw
  have hk := List.mem_range.mp hk
  match k, hk with
  | 0, _ => exact kw_764
  | 1, _ => exact kw_766
  | 2, _ => exact kw_768
  | 3, _ => exact kw_770
  | 4, _ => exact kw_772
  | 5, _ => exact kw_774
  | 6, _ => exact kw_776
  | 7, _ => exact kw_778
  | 8, _ => exact kw_780
  | 9, _ => exact kw_782
  | 10, _ => exact kw_784
  | 11, _ => exact kw_786
  | 12, _ => exact kw_788
  | 13, _ => exact kw_790
  | 14, _ => exact kw_792
  | 15, _ => exact kw_794
  | 16, _ => exact kw_796
  | 17, _ => exact kw_798
  | 18, _ => exact kw_800
  | k + 19, hk => exact absurd hk (by omega)
theorem hC_2 : hx_C hx_all vwCl 2 RX2 TX2 19 tyX2 := ⟨rfl, kc_2, tyX2_ok, nmX2⟩
theorem kc_3 : ∀ w ∈ u_ws RX3 TX3 6, w ∈ hx_all := fun w hw => by
  obtain ⟨k, hk, rfl⟩ := List.mem_map.mp hw
  have hk := List.mem_range.mp hk
  match k, hk with
  | 0, _ => exact kw_239
  | 1, _ => exact kw_241
  | 2, _ => exact kw_243
  | 3, _ => exact kw_245
  | 4, _ => exact kw_247
  | 5, _ => exact kw_249
  | k + 6, hk => exact absurd hk (by omega)
theorem hC_3 : hx_C hx_all vwCl 3 RX3 TX3 6 tyX3 := ⟨rfl, kc_3, tyX3_ok, nmX3⟩
theorem kc_4 : ∀ w ∈ u_ws RX4 TX4 10, w ∈ hx_all := fun w hw => by
  obtain ⟨k, hk, rfl⟩ := List.mem_map.mp hw
  have hk := List.mem_range.mp hk
  match k, hk with
  | 0, _ => exact kw_627
  | 1, _ => exact kw_629
  | 2, _ => exact kw_631
  | 3, _ => exact kw_633
  | 4, _ => exact kw_635
  | 5, _ => exact kw_637
  | 6, _ => exact kw_639
  | 7, _ => exact kw_641
  | 8, _ => exact kw_643
  | 9, _ => exact kw_645
  | k + 10, hk => exact absurd hk (by omega)
theorem hC_4 : hx_C hx_all vwCl 4 RX4 TX4 10 tyX4 := ⟨rfl, kc_4, tyX4_ok, nmX4⟩
theorem kc_5 : ∀ w ∈ u_ws RX5 TX5 13, w ∈ hx_all := fun w hw => by
  obtain ⟨k, hk, rfl⟩ := List.mem_map.mp hw
  have hk := List.mem_range.mp hk
  match k, hk with
  | 0, _ => exact kw_276
  | 1, _ => exact kw_278
  | 2, _ => exact kw_280
  | 3, _ => exact kw_282
  | 4, _ => exact kw_284
  | 5, _ => exact kw_286
  | 6, _ => exact kw_288
  | 7, _ => exact kw_290
  | 8, _ => exact kw_292
  | 9, _ => exact kw_294
  | 10, _ => exact kw_296
  | 11, _ => exact kw_298
  | 12, _ => exact kw_300
  | k + 13, hk => exact absurd hk (by omega)
theorem hC_5 : hx_C hx_all vwCl 5 RX5 TX5 13 tyX5 := ⟨rfl, kc_5, tyX5_ok, nmX5⟩
theorem kc_6 : ∀ w ∈ u_ws RX6 TX6 7, w ∈ hx_all := fun w hw => by
  obtain ⟨k, hk, rfl⟩ := List.mem_map.mp hw
  have hk := List.mem_range.mp hk
  match k, hk with
  | 0, _ => exact kw_132
  | 1, _ => exact kw_134
  | 2, _ => exact kw_136
  | 3, _ => exact kw_138
  | 4, _ => exact kw_140
  | 5, _ => exact kw_142
  | 6, _ => exact kw_144
  | k + 7, hk => exact absurd hk (by omega)
theorem hC_6 : hx_C hx_all vwCl 6 RX6 TX6 7 tyX6 := ⟨rfl, kc_6, tyX6_ok, nmX6⟩
theorem kc_7 : ∀ w ∈ u_ws RX7 TX7 8, w ∈ hx_all := fun w hw => by
  obtain ⟨k, hk, rfl⟩ := List.mem_map.mp hw
  have hk := List.mem_range.mp hk
  match k, hk with
  | 0, _ => exact kw_321
  | 1, _ => exact kw_323
  | 2, _ => exact kw_325
  | 3, _ => exact kw_327
  | 4, _ => exact kw_329
  | 5, _ => exact kw_331
  | 6, _ => exact kw_333
  | 7, _ => exact kw_335
  | k + 8, hk => exact absurd hk (by omega)
theorem hC_7 : hx_C hx_all vwCl 7 RX7 TX7 8 tyX7 := ⟨rfl, kc_7, tyX7_ok, nmX7⟩
theorem kc_8 : ∀ w ∈ u_ws RX8 TX8 5, w ∈ hx_all := fun w hw => by
  obtain ⟨k, hk, rfl⟩ := List.mem_map.mp hw
  have hk := List.mem_range.mp hk
  match k, hk with
  | 0, _ => exact kw_353
  | 1, _ => exact kw_355
  | 2, _ => exact kw_357
  | 3, _ => exact kw_359
  | 4, _ => exact kw_361
  | k + 5, hk => exact absurd hk (by omega)
theorem hC_8 : hx_C hx_all vwCl 8 RX8 TX8 5 tyX8 := ⟨rfl, kc_8, tyX8_ok, nmX8⟩
theorem kc_9 : ∀ w ∈ u_ws RX9 TX9 20, w ∈ hx_all := fun w hw => by
  obtain ⟨k, hk, rfl⟩ := List.mem_map.mp hw
  have hk := List.mem_range.mp hk
  match k, hk with
  | 0, _ => exact kw_384
  | 1, _ => exact kw_386
  | 2, _ => exact kw_388
  | 3, _ => exact kw_390
  | 4, _ => exact kw_392
  | 5, _ => exact kw_394
  | 6, _ => exact kw_396
  | 7, _ => exact kw_398
  | 8, _ => exact kw_400
  | 9, _ => exact kw_402
  | 10, _ => exact kw_404
  | 11, _ => exact kw_406
  | 12, _ => exact kw_408
  | 13, _ => exact kw_410
  | 14, _ => exact kw_412
  | 15, _ => exact kw_414
  | 16, _ => exact kw_416
  | 17, _ => exact kw_418
  | 18, _ => exact kw_420
  | 19, _ => exact kw_422
  | k + 20, hk => exact absurd hk (by omega)
theorem hC_9 : hx_C hx_all vwCl 9 RX9 TX9 20 tyX9 := ⟨rfl, kc_9, tyX9_ok, nmX9⟩
theorem kc_10 : ∀ w ∈ u_ws RX10 TX10 98, w ∈ hx_all := fun w hw => by
  obtain ⟨k, hk, rfl⟩ := List.mem_map.mp hw
  have hk := List.mem_range.mp hk
  match k, hk with
  | 0, _ => exact kw_1241
  | 1, _ => exact kw_1243
  | 2, _ => exact kw_1245
  | 3, _ => exact kw_1247
  | 4, _ => exact kw_1249
  | 5, _ => exact kw_1251
  | 6, _ => exact kw_1253
  | 7, _ => exact kw_1255
  | 8, _ => exact kw_1257
  | 9, _ => exact kw_1259
  | 10, _ => exact kw_1261
  | 11, _ => exact kw_1263
  | 12, _ => exact kw_1265
  | 13, _ => exact kw_1267
  | 14, _ => exact kw_1269
  | 15, _ => exact kw_1271
  | 16, _ => exact kw_1273
  | 17, _ => exact kw_1275
  | 18, _ => exact kw_1277
  | 19, _ => exact kw_1279
  | 20, _ => exact kw_1281
  | 21, _ => exact kw_1283
  | 22, _ => exact kw_1285
  | 23, _ => exact kw_1287
  | 24, _ => exact kw_1289
  | 25, _ => exact kw_1291
  | 26, _ => exact kw_1293
  | 27, _ => exact kw_1295
  | 28, _ => exact kw_1297
  | 29, _ => exact kw_1299
  | 30, _ => exact kw_1301
  | 31, _ => exact kw_1303
  | 32, _ => exact kw_1305
  | 33, _ => exact kw_1307
  | 34, _ => exact kw_1309
  | 35, _ => exact kw_1311
  | 36, _ => exact kw_1313
  | 37, _ => exact kw_1315
  | 38, _ => exact kw_1317
  | 39, _ => exact kw_1319
  | 40, _ => exact kw_1321
  | 41, _ => exact kw_1323
  | 42, _ => exact kw_1325
  | 43, _ => exact kw_1327
  | 44, _ => exact kw_1329
  | 45, _ => exact kw_1331
  | 46, _ => exact kw_1333
  | 47, _ => exact kw_1335
  | 48, _ => exact kw_1337
  | 49, _ => exact kw_1339
  | 50, _ => exact kw_1341
  | 51, _ => exact kw_1343
  | 52, _ => exact kw_1345
  | 53, _ => exact kw_1347
  | 54, _ => exact kw_1349
  | 55, _ => exact kw_1351
  | 56, _ => exact kw_1353
  | 57, _ => exact kw_1355
  | 58, _ => exact kw_1357
  | 59, _ => exact kw_1359
  | 60, _ => exact kw_1361
  | 61, _ => exact kw_1363
  | 62, _ => exact kw_1365
  | 63, _ => exact kw_1367
  | 64, _ => exact kw_1369
  | 65, _ => exact kw_1371
  | 66, _ => exact kw_1373
  | 67, _ => exact kw_1375
  | 68, _ => exact kw_1377
  | 69, _ => exact kw_1379
  | 70, _ => exact kw_1381
  | 71, _ => exact kw_1383
  | 72, _ => exact kw_1385
  | 73, _ => exact kw_1387
  | 74, _ => exact kw_1389
  | 75, _ => exact kw_1391
  | 76, _ => exact kw_1393
  | 77, _ => exact kw_1395
  | 78, _ => exact kw_1397
  | 79, _ => exact kw_1399
  | 80, _ => exact kw_1401
  | 81, _ => exact kw_1403
  | 82, _ => exact kw_1405
  | 83, _ => exact kw_1407
  | 84, _ => exact kw_1409
  | 85, _ => exact kw_1411
  | 86, _ => exact kw_1413
  | 87, _ => exact kw_1415
  | 88, _ => exact kw_1417
  | 89, _ => exact kw_1419
  | 90, _ => exact kw_1421
  | 91, _ => exact kw_1423
  | 92, _ => exact kw_1425
  | 93, _ => exact kw_1427
  | 94, _ => exact kw_1429
  | 95, _ => exact kw_1431
  | 96, _ => exact kw_1433
  | 97, _ => exact kw_1435
  | k + 98, hk => exact absurd hk (by omega)
theorem hC_10 : hx_C hx_all vwCl 10 RX10 TX10 98 tyX10 := ⟨rfl, kc_10, tyX10_ok, nmX10⟩
end
section
/-! WHAT STANDS OUTSIDE THE WORLD: the nest mates' links, the arrays of objects, the static table WITHOUT; it is carried into the calls that ask for it -/
abbrev hx_z : Type := Nat × Nat × Nat × (Nat → Nat) × (Nat → Nat)
def P_lt : Nat → Value := fun j => .int (match j with | 1 => 1 | 3 => 1 | 5 => 1 | 6 => 1 | 7 => 1 | 8 => 1 | _ => 0)
def P_mt : Nat → Value := fun j => .int (match j with | 1 => 9999 | 2 => 365 | 3 => 999 | 4 => 999 | 5 => 20 | 6 => 20 | 7 => 30 | 8 => 400 | 9 => 40 | 10 => 999 | 11 => 999 | 12 => 999 | 13 => 999 | _ => 0)
def P_si : List Nat := [49, 73, 99, 105, 107, 116]
def P_st : List String := ["-       most    split   week    keep    late    gaol    -       longest age     cost    prove   ", "summons hearing order   seizure ", "and     ", "or      ", "not     ", "oath    denied  note    witness own     other   alike   claimed "]
def P_ln : List Nat := [96, 32, 8, 8, 8, 64]
def P_by : List (List Int32) := [[45, 32, 32, 32, 32, 32, 32, 32, 109, 111, 115, 116, 32, 32, 32, 32, 115, 112, 108, 105, 116, 32, 32, 32, 119, 101, 101, 107, 32, 32, 32, 32, 107, 101, 101, 112, 32, 32, 32, 32, 108, 97, 116, 101, 32, 32, 32, 32, 103, 97, 111, 108, 32, 32, 32, 32, 45, 32, 32, 32, 32, 32, 32, 32, 108, 111, 110, 103, 101, 115, 116, 32, 97, 103, 101, 32, 32, 32, 32, 32, 99, 111, 115, 116, 32, 32, 32, 32, 112, 114, 111, 118, 101, 32, 32, 32], [115, 117, 109, 109, 111, 110, 115, 32, 104, 101, 97, 114, 105, 110, 103, 32, 111, 114, 100, 101, 114, 32, 32, 32, 115, 101, 105, 122, 117, 114, 101, 32], [97, 110, 100, 32, 32, 32, 32, 32], [111, 114, 32, 32, 32, 32, 32, 32], [110, 111, 116, 32, 32, 32, 32, 32], [111, 97, 116, 104, 32, 32, 32, 32, 100, 101, 110, 105, 101, 100, 32, 32, 110, 111, 116, 101, 32, 32, 32, 32, 119, 105, 116, 110, 101, 115, 115, 32, 111, 119, 110, 32, 32, 32, 32, 32, 111, 116, 104, 101, 114, 32, 32, 32, 97, 108, 105, 107, 101, 32, 32, 32, 99, 108, 97, 105, 109, 101, 100, 32]]
def hx_Xs (A : Nat → Prop) (z : hx_z) (U : State) : Prop := va_Z "SmallCourt" "LEAST_TOLD" "[I" (.ref z.2.1) A U U.heap ∧ va_T .int z.2.1 14 P_lt A U U.heap ∧ va_Z "SmallCourt" "MOST_TOLD" "[I" (.ref z.2.2.1) A U U.heap ∧ va_T .int z.2.2.1 14 P_mt A U U.heap ∧ va_Z "java/lang/String" "COMPACT_STRINGS" "Z" (.int 1) A U U.heap ∧ va_Zq "jdk/internal/util/Preconditions" "SIOOBE_FORMATTER" "Ljava/util/function/BiFunction;" A U U.heap ∧ vk_S 6 P_ln P_by z.2.2.2.1 z.2.2.2.2 A U U.heap ∧ ∀ i, i < 6 → vk_R "SmallCourt$Reader" (P_si.getD i 0) (P_st.getD i "") (z.2.2.2.1 i) U
theorem hx_Xs.go {A A1 : Nat → Prop} {z : hx_z} {s : State} {H : Heap} {locs : List Loc} (hz : hx_Xs A z s) (hS : va_S A s.heap H locs) (hA : ∀ q, A1 q → A q) {U : State} (hU : U.heap = H) (hw : s.WarmedH U.vm) : hx_Xs A1 z U := by
  obtain ⟨z1, z2, z3, z4, z5, z6, z7, z8⟩ := hz
  subst hU
  exact ⟨va_Z.moved hw.alike ((z1.kept hS.2.1).narrow hA), va_T.moved hw.alike ((z2.kept hS.2.1).narrow hA), va_Z.moved hw.alike ((z3.kept hS.2.1).narrow hA), va_T.moved hw.alike ((z4.kept hS.2.1).narrow hA), va_Z.moved hw.alike ((z5.kept hS.2.1).narrow hA), va_Zq.moved hw.alike ((z6.kept hS.2.1).narrow hA), vk_S.moved hw.alike ((z7.kept hS.2.1).narrow hA), fun i hi => vk_R.warm hw (z8 i hi)⟩
def hx_Xt (A : Nat → Prop) (b0 : hx_z) (U : State) : Prop := (∀ w ∈ hx_N, va_Nw w U) ∧ (va_AO "SmallCourt$Act" U ∧ va_AO "SmallCourt$Person" U ∧ va_AO "SmallCourt$Claim" U) ∧ va_Z "SmallCourt" "WITHOUT" "[I" (.ref b0.1) A U U.heap ∧ va_X b0.1 14 P_wo U U.heap ∧ b0.1 < U.heap.size ∧ ¬ A b0.1 ∧ hx_Xs A b0 U
theorem hx_Xt.go {A A1 : Nat → Prop} {b0 : hx_z} {s : State} {H : Heap} {locs : List Loc} (hz : hx_Xt A b0 s) (hS : va_S A s.heap H locs) (hA : ∀ q, A1 q → A q) {U : State} (hU : U.heap = H) (hw : s.WarmedH U.vm) : hx_Xt A1 b0 U := by
  obtain ⟨z1, ⟨z2, z3, z4⟩, z5, z6, z7, z8, z9⟩ := hz
  have z10 := z9.go hS hA hU hw
  subst hU
  refine ⟨fun w hw2 => ?_, ⟨va_AO.moved hw.alike z2, va_AO.moved hw.alike z3, va_AO.moved hw.alike z4⟩, va_Z.moved hw.alike ((z5.kept hS.2.1).narrow hA), (z6.kept (hS.2.1 b0.1 z7 z8)).moved hw.alike, Nat.lt_of_lt_of_le z7 hS.1, fun z => z8 (hA b0.1 z), z10⟩
  have h1 := z1 w hw2
  have h2 := hw2
  unfold hx_N at h2
  simp only [List.mem_cons, List.not_mem_nil, or_false] at h2
  rcases h2 with rfl | rfl | rfl | rfl | rfl | rfl | rfl | rfl | rfl | rfl | rfl <;> first | exact va_Nw.warmF hw h1 | exact va_Nw.warmM hw h1
def hx_BX (tb : List hx_d) (tys : hx_y) (D : va_G) (cl : List vw_C) (L : List Nat) (h : hx_h) (sz : Nat) (b0 : hx_z) (U : State) : Prop := hx_B tb tys D cl L h sz U ∧ hx_Xt (hx_A L sz) b0 U
theorem hx_blindX {tb : List hx_d} {tys : hx_y} {D : va_G} {cl : List vw_C} {L : List Nat} {h : hx_h} {sz : Nat} {b0 : hx_z} {av : List Value} : FrameBlind (va_Pc av (hx_BX tb tys D cl L h sz b0)) := fun a U g mk q =>
  ⟨q.1, (hx_blind a U g mk ⟨q.1, q.2.1⟩).2, q.2.2.go va_S.rf (fun _ h => h) rfl (State.WarmedH.refl U)⟩
theorem hx_preX {tb : List hx_d} {tys : hx_y} {D : va_G} {cl : List vw_C} {A : Nat → Prop} {H : Heap} {L : List Nat} {h : hx_h} {s : State} {locs : List Loc} {av : List Value} {b0 : hx_z} (hW : hx_W tb tys D cl A s.heap L h s H locs) (hZ : hx_Xt A b0 s) : ∀ U : State, U.heap = H → s.WarmedH U.vm → va_Pc av (hx_BX tb tys D cl L h H.size b0) av.toArray U := fun U hU hw =>
  ⟨rfl, (hx_pre (av := av) hW U hU hw).2, hZ.go hW.2.2.2.1 (hx_in hW) hU hw⟩
section HXX
variable {p : Program} {l : Launch} {e : Env} {R : Room} {s : State} {m : MethodId} {args : Array Value} {below : List Frame} {meth : Method} {c : Code} {H : Heap} {locs : List Loc} {cells slots : Nat} {Q : State → Prop}
variable {cc : ByteArray} {pc : Nat} {ls : Array Slot} {rest st0 : List Value} {D : va_G} {cl : List vw_C} {A : Nat → Prop} {a : Nat} {tys : hx_y} {H0 : Heap} {tb : List hx_d} {L : List Nat} {h : hx_h}
variable {y : MethodName} {bytes : ByteArray} {maxL nL mc ms n index : Nat} {ret : Option FieldType} {ws : List Cond} {rm : Room} {Ts : List Cond} {own C : String} {As : List Value} {Qc : Array Value → State → Outcome → State → Prop}
theorem hx_runVX (S : CallFix p m c cc nL s args Ts own) (hW : hx_W tb tys D cl A s.heap L h s H locs) {t : Nat} (g : hx_g L h a t) {ci : Nat} {fs : List hx_f} (hd : tb[t]? = some (.inl (ci, fs))) {T : u_T} {N : Nat} (hc : cl[ci]? = some (C, T, N)) {b0 : hx_z} (hM : Met l y ws rm (va_Pc (.ref a :: As) (hx_BX tb tys D cl L h H.size b0)) Qc mc ms (hx_A L H.size)) (hZ : hx_Xt A b0 s) (cw : CallW R s args own C index y bytes maxL ret ws rm mc ms n) (hn : As.length = n) (hsize : ls.size = nL) (hst : st0 = As.reverse ++ .ref a :: rest) (hR : (rest.map fun v => v.category).sum ≤ 8) (hdg : decode cc pc = .ok (.invokevirtual index, 3)) (hf : cells + mc ≤ R.cells ∧ slots + ms ≤ R.slots) :
    va_Run p l e R s m args below meth c H locs cells slots mc ms (F0 m pc ls st0) rest (Qc (Value.ref a :: As).toArray) (hx_A L H.size) :=
  va_runV S hM cw ⟨hx_blindX, hx_recv hW g hd hc, hx_preX hW hZ⟩ rfl hn hsize hst (lv_room hR) hdg hf
theorem hx_runIX (S : CallFix p m c cc nL s args Ts own) (hW : hx_W tb tys D cl A s.heap L h s H locs) {b0 : hx_z} (hM : Met l y ws rm (va_Pc (.ref a :: As) (hx_BX tb tys D cl L h H.size b0)) Qc mc ms (hx_A L H.size)) (hZ : hx_Xt A b0 s) (cw : CallB R s args own index y bytes maxL none ws rm mc ms n ∧ y.name = "<init>" ∧ (Cond.instanceMethod y).before args s = true) (hn : As.length = n) (hsize : ls.size = nL) (hst : st0 = As.reverse ++ .ref a :: rest) (hR : (rest.map fun v => v.category).sum ≤ 8) (hdg : decode cc pc = .ok (.invokespecial index, 3)) (hf : cells + mc ≤ R.cells ∧ slots + ms ≤ R.slots) :
    va_Run p l e R s m args below meth c H locs cells slots mc ms (F0 m pc ls st0) rest (Qc (Value.ref a :: As).toArray) (hx_A L H.size) :=
  va_runI S hM cw ⟨hx_blindX, hx_preX hW hZ⟩ rfl hn hsize hst (lv_room hR) hdg hf
theorem hx_runINX (S : CallFix p m c cc nL s args Ts own) (hW : hx_W tb tys D cl A s.heap L h s H locs) {b0 : hx_z} (hM : Met l y ws rm (va_Pc (.ref a :: As) (hx_BX tb tys D cl L h H.size b0)) Qc mc ms (hx_A L H.size)) (hZ : hx_Xt A b0 s) {host : String} (cw : va_CN R s args own index y host bytes maxL none ws rm mc ms n ∧ y.name = "<init>" ∧ (Cond.instanceMethod y).before args s = true) (hn : As.length = n) (hsize : ls.size = nL) (hst : st0 = As.reverse ++ .ref a :: rest) (hR : (rest.map fun v => v.category).sum ≤ 8) (hdg : decode cc pc = .ok (.invokespecial index, 3)) (hf : cells + mc ≤ R.cells ∧ slots + ms ≤ R.slots) :
    va_Run p l e R s m args below meth c H locs cells slots mc ms (F0 m pc ls st0) rest (Qc (Value.ref a :: As).toArray) (hx_A L H.size) :=
  va_runIN S hM cw ⟨hx_blindX, hx_preX hW hZ⟩ rfl hn hsize hst (lv_room hR) hdg hf
theorem hx_runIN (S : CallFix p m c cc nL s args Ts own) (hW : hx_W tb tys D cl A H0 L h s H locs) (hM : Met l y ws rm (va_Pc (.ref a :: As) (hx_B tb tys D cl L h H.size)) Qc mc ms (hx_A L H.size)) {host : String} (cw : va_CN R s args own index y host bytes maxL none ws rm mc ms n ∧ y.name = "<init>" ∧ (Cond.instanceMethod y).before args s = true) (hn : As.length = n) (hsize : ls.size = nL) (hst : st0 = As.reverse ++ .ref a :: rest) (hR : (rest.map fun v => v.category).sum ≤ 8) (hdg : decode cc pc = .ok (.invokespecial index, 3)) (hf : cells + mc ≤ R.cells ∧ slots + ms ≤ R.slots) :
    va_Run p l e R s m args below meth c H locs cells slots mc ms (F0 m pc ls st0) rest (Qc (Value.ref a :: As).toArray) (hx_A L H.size) :=
  va_runIN S hM cw ⟨hx_blind, hx_pre hW⟩ rfl hn hsize hst (lv_room hR) hdg hf
theorem hk_newqX (hx : p.tables.exec = Jvm.exec) (hb : c.code = cc) {index : Nat} {Ts : List Cond} (hts : ∀ w ∈ Ts, w.before args s = true) (hown : s.vm.findClass own = some m.cls) (hW : hx_W tb tys D cl A H0 L h s H locs) (t : Nat) {t0 n : Nat} {b : Bool × List Nat} (hd : tb[t]? = some (.inr (t0, n, .inr b))) (hcl : Cond.classLink own index C ∈ Ts) (hover : va_AO C s) {cA : ClassId} (ht : tys[t0]? = some (cA, .object C)) {i : Int32} (hi : i.toInt = n) (hbytes : n * 4 ≤ 536870912) (hcells : cells + 1 ≤ R.cells) (hslots : slots + n ≤ R.slots) (hdg : decode cc pc = .ok (.anewarray index, 3))
    (kk : ∀ (q : Nat) (H1 : Heap) (h1 : hx_h), h1 = hx_nw h q t → q ∉ L → hx_W tb tys D cl A H0 (L ++ [q]) h1 s H1 locs → hx_S tb [] L h (L ++ [q]) h1 → hx_g (L ++ [q]) h1 q t → W p l e R s m args below meth c H1 locs (cells + 1) (slots + n) Q (F0 m (pc + 3) ls (.ref q :: rest))) : W p l e R s m args below meth c H locs cells slots Q (F0 m pc ls (.int i :: rest)) := by
  obtain ⟨hK, hP, hD, hS, hA⟩ := hW
  have hneg : ¬ i < 0 := by rw [Int32.lt_iff_toInt_lt, hi]; simp
  have hcl2 : i.toNatClampNeg = n := by unfold Int32.toNatClampNeg; rw [hi]; simp
  refine va_newq hx hb hown (hts _ hcl) hover hK hP hD hS hA hneg hcl2 hbytes hcells hslots hdg (fun q c1 H1 hK2 hP2 hD2 hS2 => ?_)
  have hq := hx_fresh hD2
  have hc1 : c1 = cA := by
    obtain ⟨_, _, _, _, _, e1⟩ := (hK2.2 tys.length (c1, .object C) (by simp)).2
    obtain ⟨_, _, _, _, _, e2⟩ := (hK.2 t0 (cA, .object C) ht).2
    exact Option.some.inj (e1.symm.trans e2)
  subst hc1
  have hcA : hx_t tys t0 = c1 := by simp [hx_t, ht]
  have he : hx_e tb tys (hx_nw h q t) q = .inl (c1, n, .inr (.inr (.inr (.inr (fun _ => none))))) := by
    rw [hx_e_arr (h := hx_nw h q t) (t := t) (by simp [hx_nw]) hd, hcA]
    simp only [hx_a, hx_nw, if_true]
  rw [hx_push hq he] at hP2 hD2
  exact kk q H1 _ rfl hq ⟨hK, hP2, hD2, hS2, hA⟩ (hx_nw_S hq) hx_nw_g
theorem hk_copyx (hx : p.tables.exec = Jvm.exec) (hb : c.code = cc) (hml : c.maxLocals = ls.size) (hown : s.vm.findClass own = some m.cls) (hlink : (Cond.methodLink own index arraycopyName).before args s = true) (hnat : (Cond.native arraycopyName).before args s = true) (hstat : (Cond.static arraycopyName).before args s = true) (hini : (Cond.initialized "java/lang/System").before args s = true)
    (hW : hx_W tb tys D cl A s.heap L h s H locs) {b0 n0 : Nat} {f : Nat → Int32} (hX : va_X b0 n0 f s s.heap) (hbl : b0 < s.heap.size) (hbA : ¬ A b0) {t : Nat} (g : hx_g L h a t) {t0 n1 : Nat} {b : Int × Int} (hd : tb[t]? = some (.inr (t0, n1, .inl b))) {cA : ClassId} (ht : tys[t0]? = some (cA, .int)) (hN : n0 ≤ n1) {z1 z2 z3 : Int32} (e1 : z1 = 0) (e2 : z2 = 0) (e3 : z3.toInt = n0)
    (hframes : 1 ≤ R.frames) (hlocals : (rest.map fun v => v.category).sum + (nativeFrameWords "java/lang/System" "arraycopy" 5 + 11) ≤ R.locals) (hdg : decode cc pc = .ok (.invokestatic index, 3))
    (kk : ∀ (H1 : Heap) (locs1 : List Loc) (h1 : hx_h), (∀ j, j < n0 → h1.2.1 a j = f j) → hx_W tb tys D cl A s.heap L h1 s H1 locs1 → hx_S tb [(t, 0)] L h L h1 → W p l e R s m args below meth c H1 locs1 cells slots Q (F0 m (pc + 3) ls rest)) : W p l e R s m args below meth c H locs cells slots Q (F0 m pc ls (.int z3 :: .int z2 :: .ref a :: .int z1 :: .ref b0 :: rest)) := by
  subst e1; subst e2
  obtain ⟨k0, hk0⟩ := hx_at (tb := tb) (tys := tys) (h := h) g.1
  have hk1 := hk0
  rw [hx_e_arr g.2 hd] at hk0
  have hcA : hx_t tys t0 = cA := by simp [hx_t, ht]
  rw [hcA] at hk0
  obtain ⟨hK, hP, hD, hS, hA⟩ := hW
  have hcl : z3.toNatClampNeg = n0 := by unfold Int32.toNatClampNeg; rw [e3]; simp
  have hneg : ¬ z3 < 0 := by rw [Int32.lt_iff_toInt_lt, e3]; simp
  have z0 : (0 : Int32).toNatClampNeg = 0 := by decide
  refine va_copyx hx hb hml hown hlink hnat hstat hini hK hP hD hS hX hbl hbA k0 t0 hk0 ht (by decide) (by decide) hneg (by rw [z0, hcl]; omega) (by rw [z0, hcl]; omega) hframes hlocals hdg (fun H1 locs1 hP2 hD2 hS2 => ?_)
  rw [z0, hcl] at hP2 hD2
  have he : hx_e tb tys (h.1, fun x j => if x = a then va_cpy f (h.2.1 a) 0 0 n0 j else h.2.1 x j, h.2.2) a = .inl (cA, n1, .inl (va_cpy f (h.2.1 a) 0 0 n0)) := by
    rw [hx_e_arr (h := (h.1, fun x j => if x = a then va_cpy f (h.2.1 a) 0 0 n0 j else h.2.1 x j, h.2.2)) g.2 hd, hcA]
    simp [hx_a]
  rw [hx_set (h1 := (h.1, fun x j => if x = a then va_cpy f (h.2.1 a) 0 0 n0 j else h.2.1 x j, h.2.2)) hD g.1 hk1 he (fun x hxa => by simp [hx_e, hx_fs, hx_a, hxa])] at hP2 hD2
  refine kk H1 locs1 _ (fun j hj => ?_) ⟨hK, hP2, hD2, hS2, hA⟩ ⟨fun q hq => ⟨hq, rfl⟩, fun q hq k hk => ⟨?_, rfl⟩⟩
  · simp [va_cpy, hj]
  · have hqa : q ≠ a := by
      intro z
      rw [z, g.2, hd] at hk
      exact hk (List.mem_singleton.mpr rfl)
    simp [hqa]
end HXX
theorem hx_metX {l : Launch} {y : MethodName} {ws ws' : List Cond} {rm : Room} {mc ms : Nat} {cc : ByteArray} {maxL : Nat} {ret : Option FieldType} {tb : List hx_d} {tys : hx_y} {D : va_G} {cl : List vw_C} {L : List Nat} {h : hx_h} {sz : Nat} {b0 : hx_z} {av : List Value} {Qc : Array Value → State → Outcome → State → Prop} {lv : List (Nat × Value)}
    (hy : plainName y.cls = true) (hw : ws = Cond.code y cc maxL ret :: ws') (hlen : (lg_sl av).length ≤ maxL) (hlv : lv_args 0 av = lv)
    (body : ∀ (p : Program) (e : Env) (s : State) (m : MethodId) (below : List Frame) (meth : Method) (c : Code), p.tables.exec = Jvm.exec → c.code = cc → c.maxLocals = maxL → meth.sig.returnType = ret → meth.locks = false → (∀ w ∈ ws, w.before av.toArray s = true) → s.vm.findClass y.cls = some m.cls → meth.name = y.name → s.heap.size = sz →
      hx_W tb tys D cl (hx_A L sz) s.heap L h s s.heap [] → hx_Xt (hx_A L sz) b0 s → ∀ ls : Array Slot, lv_has ls maxL lv → W p l e rm s m av.toArray below meth c s.heap [] 0 0 (MQ below Qc av.toArray s mc ms (hx_A L sz)) (F0 m 0 ls [])) :
    Met l y ws rm (va_Pc av (hx_BX tb tys D cl L h sz b0)) Qc mc ms (hx_A L sz) := by
  refine Met.ofW (cc := cc) (maxL := maxL) (ret := ret) hy hw ?_
  intro p e s m args below meth c s₁ B hml hv
  obtain ⟨rfl, ⟨hsz, hP, hK, hD0⟩, hZ⟩ := hv
  have hl := lv_entry av (n := maxL) hlen
  rw [lg_entry_eq]
  refine body p e s m below meth c B.exec B.bytes hml B.returns B.notSynchronized (atoms_spec (ws := ws) B.pre) (findClass_of_methodNamed B.named) (name_of_methodNamed B.named B.method).1 hsz ⟨hK, hP, hD0.weaken (fun k q hk _ => ?_), va_S.rf, fun q hq => Or.inr (by rw [← hsz]; exact hq)⟩ hZ _ (by rw [← hlv]; exact hl)
  refine Or.inl ?_
  have hmem := List.mem_of_getElem? hk
  obtain ⟨b, hb, hbq⟩ := List.mem_map.mp hmem
  rw [← hbq]
  exact hb
end
section
/-! small facts for the typed walk -/
theorem hx_andR {x y : Int32} {K : Int} (h1 : 0 ≤ y.toInt) (h2 : y.toInt = K) : 0 ≤ (x &&& y).toInt ∧ (x &&& y).toInt ≤ K := by
  subst h2
  have n1 : (x.toBitVec &&& y.toBitVec).toNat ≤ y.toBitVec.toNat := by rw [BitVec.toNat_and]; exact Nat.and_le_right
  have b1 := y.toBitVec.isLt
  have e1 : y.toInt = y.toBitVec.toInt := rfl
  have e2 : (x &&& y).toInt = (x.toBitVec &&& y.toBitVec).toInt := rfl
  rw [e1] at h1 ⊢
  rw [e2]
  rw [BitVec.toInt_eq_toNat_cond] at h1 ⊢
  rw [BitVec.toInt_eq_toNat_cond]
  split at h1 <;> split <;> (try split) <;> omega
theorem hx_nar01 {v : Int32} (h : v.toInt = 0 ∨ v.toInt = 1) : narrow .boolean (.int v) = .int v := by
  rcases h with h | h
  · have : v = 0 := Int32.toInt_inj.mp (h.trans (by decide))
    subst this; rfl
  · have : v = 1 := Int32.toInt_inj.mp (h.trans (by decide))
    subst this; rfl
theorem hx_ne0 {y : Int32} (h : y.toInt ≠ 0) : ¬ y = 0 := fun z => h (by rw [z]; decide)
section HXN
variable {p : Program} {l : Launch} {e : Env} {R : Room} {s : State} {m : MethodId} {args : Array Value} {below : List Frame} {meth : Method} {c : Code} {H : Heap} {locs : List Loc} {cells slots : Nat} {Q : State → Prop}
variable {cc : ByteArray} {pc : Nat} {ls : Array Slot} {rest st0 : List Value} {D : va_G} {cl : List vw_C} {A : Nat → Prop} {a : Nat} {tys : hx_y} {H0 : Heap} {tb : List hx_d} {L : List Nat} {h : hx_h}
variable {y : MethodName} {bytes : ByteArray} {maxL nL mc ms n index : Nat} {ret : Option FieldType} {ws : List Cond} {rm : Room} {Ts : List Cond} {own C host : String} {As : List Value} {Qc : Array Value → State → Outcome → State → Prop}
theorem hx_runSN (S : CallFix p m c cc nL s args Ts own) (hW : hx_W tb tys D cl A H0 L h s H locs) (hM : Met l y ws rm (va_Pc As (hx_B tb tys D cl L h H.size)) Qc mc ms (hx_A L H.size)) (cw : va_CN R s args own index y host bytes maxL ret ws rm mc ms n ∧ (Cond.static y).before args s = true ∧ True) (hn : As.length = n) (hsize : ls.size = nL) (hst : st0 = As.reverse ++ rest) (hR : (rest.map fun v => v.category).sum ≤ 8) (hdg : decode cc pc = .ok (.invokestatic index, 3)) (hf : cells + mc ≤ R.cells ∧ slots + ms ≤ R.slots) :
    va_Run p l e R s m args below meth c H locs cells slots mc ms (F0 m pc ls st0) rest (Qc As.toArray) (hx_A L H.size) :=
  va_runSN S hM cw ⟨hx_blind, hx_pre hW⟩ rfl hn hsize hst (lv_room hR) hdg hf
/-- System.arraycopy from one owned array of numbers to another, from the start of both -/
theorem hx_copyi (hx : p.tables.exec = Jvm.exec) (hb : c.code = cc) (hml : c.maxLocals = ls.size) (hown : s.vm.findClass own = some m.cls) (hlink : (Cond.methodLink own index arraycopyName).before args s = true) (hnat : (Cond.native arraycopyName).before args s = true) (hstat : (Cond.static arraycopyName).before args s = true) (hini : (Cond.initialized "java/lang/System").before args s = true)
    (hW : hx_W tb tys D cl A H0 L h s H locs) (hT : hx_T tb L h) {a0 t t1 : Nat} (g0 : hx_g L h a0 t) (g1 : hx_g L h a t1) {t0 n0 n1 : Nat} {b0 b1 : Int × Int} (hd0 : tb[t]? = some (.inr (t0, n0, .inl b0))) (hd1 : tb[t1]? = some (.inr (t0, n1, .inl b1))) {cA : ClassId} (ht : tys[t0]? = some (cA, .int)) (hbb : b1.1 ≤ b0.1 ∧ b0.2 ≤ b1.2) {z1 z2 z3 : Int32} (e1 : z1 = 0) (e2 : z2 = 0) (h0 : 0 ≤ z3.toInt) (h3 : z3.toInt ≤ n0) (h4 : z3.toInt ≤ n1)
    (hframes : 1 ≤ R.frames) (hlocals : (rest.map fun v => v.category).sum + (nativeFrameWords "java/lang/System" "arraycopy" 5 + 11) ≤ R.locals) (hdg : decode cc pc = .ok (.invokestatic index, 3))
    (kk : ∀ (H1 : Heap) (locs1 : List Loc) (h1 : hx_h), hx_W tb tys D cl A H0 L h1 s H1 locs1 → hx_T tb L h1 → hx_S tb [(t1, 0)] L h L h1 → W p l e R s m args below meth c H1 locs1 cells slots Q (F0 m (pc + 3) ls rest)) : W p l e R s m args below meth c H locs cells slots Q (F0 m pc ls (.int z3 :: .int z2 :: .ref a :: .int z1 :: .ref a0 :: rest)) := by
  subst e1; subst e2
  obtain ⟨k0, hk0⟩ := hx_at (tb := tb) (tys := tys) (h := h) g0.1
  obtain ⟨k1, hk1⟩ := hx_at (tb := tb) (tys := tys) (h := h) g1.1
  have hk2 := hk1
  have hcA : hx_t tys t0 = cA := by simp [hx_t, ht]
  rw [hx_e_arr g0.2 hd0, hcA] at hk0
  rw [hx_e_arr g1.2 hd1, hcA] at hk1
  obtain ⟨hK, hP, hD, hS, hA⟩ := hW
  have hcl : z3.toNatClampNeg = z3.toInt.toNat := rfl
  have hneg : ¬ z3 < 0 := by rw [Int32.lt_iff_toInt_lt]; simp; omega
  have z0 : (0 : Int32).toNatClampNeg = 0 := by decide
  refine va_copyi hx hb hml hown hlink hnat hstat hini hK hP hD hS k0 k1 t0 t0 hk0 hk1 ht ht rfl (by decide) (by decide) hneg (by rw [z0, hcl]; omega) (by rw [z0, hcl]; omega) (fun _ _ => rfl) hframes hlocals hdg (fun H1 locs1 hP2 hD2 hS2 => ?_)
  rw [z0] at hP2 hD2
  have he : hx_e tb tys (h.1, fun x j => if x = a then va_cpy (h.2.1 a0) (h.2.1 a) 0 0 z3.toNatClampNeg j else h.2.1 x j, h.2.2) a = .inl (cA, n1, .inl (va_cpy (h.2.1 a0) (h.2.1 a) 0 0 z3.toNatClampNeg)) := by
    rw [hx_e_arr (h := (h.1, fun x j => if x = a then va_cpy (h.2.1 a0) (h.2.1 a) 0 0 z3.toNatClampNeg j else h.2.1 x j, h.2.2)) g1.2 hd1, hcA]
    simp [hx_a]
  rw [hx_set (h1 := (h.1, fun x j => if x = a then va_cpy (h.2.1 a0) (h.2.1 a) 0 0 z3.toNatClampNeg j else h.2.1 x j, h.2.2)) hD g1.1 hk2 he (fun x hxa => by simp [hx_e, hx_fs, hx_a, hxa])] at hP2 hD2
  refine kk H1 locs1 _ ⟨hK, hP2, hD2, hS2, hA⟩ (fun q hq => ?_) ⟨fun q hq => ⟨hq, rfl⟩, fun q hq k hk => ⟨?_, rfl⟩⟩
  · by_cases hqa : q = a
    · subst hqa
      unfold hx_c
      show (match tb[h.1 q]? with | some (.inl (_, fs)) => _ | some (.inr (_, n, f)) => _ | none => False)
      rw [g1.2, hd1]
      intro k hk
      simp only [if_true]
      show b1.1 ≤ _ ∧ _ ≤ b1.2
      by_cases hkz : k < z3.toNatClampNeg
      · have e : va_cpy (h.2.1 a0) (h.2.1 q) 0 0 z3.toNatClampNeg k = h.2.1 a0 k := by simp [va_cpy, hkz]
        rw [e]
        have := hT.ei g0 hd0 (k := k) (by rw [hcl] at hkz; omega)
        exact ⟨Int.le_trans hbb.1 this.1, Int.le_trans this.2 hbb.2⟩
      · have e : va_cpy (h.2.1 a0) (h.2.1 q) 0 0 z3.toNatClampNeg k = h.2.1 q k := by simp [va_cpy, hkz]
        rw [e]
        exact hT.ei g1 hd1 hk
    · have h1 := hT q hq
      unfold hx_c at h1 ⊢
      simp only [hqa, if_false]
      exact h1
  · have hqa : q ≠ a := by
      intro z
      rw [z, g1.2, hd1] at hk
      exact hk (List.mem_singleton.mpr rfl)
    simp [hqa]
theorem hx_aaldN (hx : p.tables.exec = Jvm.exec) (hb : c.code = cc) (hW : hx_W tb tys D cl A H0 L h s H locs) (hT : hx_T tb L h) {t : Nat} (g : hx_g L h a t) {t0 n0 : Nat} {nn : Bool} {t1 : Nat} (hd : tb[t]? = some (.inr (t0, n0, .inr (nn, [t1])))) {cA : ClassId} {C : String} (ht : tys[t0]? = some (cA, .object C)) {i : Int32} (hin : 0 ≤ i.toInt ∧ i.toInt < n0) (hne : h.2.2 a i.toNatClampNeg ≠ none) (hdg : decode cc pc = .ok (.aaload, 1))
    (kk : ∀ q : Nat, h.2.2 a i.toNatClampNeg = some q → hx_g L h q t1 → W p l e R s m args below meth c H locs cells slots Q (F0 m (pc + 1) ls (.ref q :: rest))) : W p l e R s m args below meth c H locs cells slots Q (F0 m pc ls (.int i :: .ref a :: rest)) := by
  refine hx_aald hx hb hW hT g hd ht hin hdg fun r hr _ h2 => ?_
  rcases r with _ | q
  · exact absurd hr.symm hne
  · obtain ⟨u1, u2⟩ := h2 q rfl
    exact kk q hr.symm ⟨u1, by simpa using u2⟩
end HXN
theorem hx_tnI {i c : Int32} (h1 : 0 ≤ i.toInt) (h2 : i.toInt < c.toInt) : (i.toNatClampNeg : Int) < c.toInt := by unfold Int32.toNatClampNeg; omega
end
section
/-! NEW OBJECTS, TYPED: a raw tag while they are made, their own tag behind it; long arrays; what stands outside -/
def hx_zf (f : hx_f) : Bool := match f with
  | Sum.inl b => decide (b.1 ≤ 0) && decide (0 ≤ b.2)
  | Sum.inr (Sum.inl b) => !b.1
  | Sum.inr (Sum.inr _) => true
def hx_zd (d : hx_d) : Bool := match d with
  | .inl (_, fs) => fs.all hx_zf
  | .inr (_, _, f) => hx_zf f
theorem hx_o_zero {L : List Nat} {h : hx_h} {f : hx_f} (hz : hx_zf f = true) : hx_o L h f 0 none := by
  rcases f with b | b | b
  · simp only [hx_zf, Bool.and_eq_true, decide_eq_true_eq] at hz
    exact hz
  · simp only [hx_zf, Bool.not_eq_true'] at hz
    exact ⟨fun z => absurd (hz.symm.trans z) (by decide), fun q hq => nomatch hq⟩
  · trivial
theorem hx_o_mono {L L1 : List Nat} {h h1 : hx_h} {f : hx_f} {i : Int32} {r : Option Nat} (ho : hx_o L h f i r) (hr : ∀ q b, f = .inr b → r = some q → q ∈ L → h.1 q ∈ b.2 → q ∈ L1 ∧ h1.1 q ∈ b.2) : hx_o L1 h1 f i r := by
  rcases f with b | b | b
  · exact ho
  · exact ⟨ho.1, fun q hq => hr q b rfl hq (ho.2 q hq).1 (ho.2 q hq).2⟩
  · trivial
/-- types of one cell carried over, with all its references -/
theorem hx_c_mono {tb : List hx_d} {L L1 : List Nat} {h h1 : hx_h} {a : Nat} (hc : hx_c tb L h a) (ht : h1.1 a = h.1 a) (hi : ∀ k, h1.2.1 a k = h.2.1 a k) (hr : ∀ k, h1.2.2 a k = h.2.2 a k) (hq : ∀ f d, d ∈ tb → (match d with | .inl (_, fs) => f ∈ fs | .inr (_, _, f0) => f = f0) → ∀ q b, f = .inr b → q ∈ L → h.1 q ∈ b.2 → q ∈ L1 ∧ h1.1 q ∈ b.2) : hx_c tb L1 h1 a := by
  unfold hx_c at hc ⊢
  rw [ht]
  cases hd : tb[h.1 a]? with
  | none => rw [hd] at hc; exact hc
  | some d =>
    rw [hd] at hc
    have hm : d ∈ tb := List.mem_of_getElem? hd
    rcases d with ⟨ci, fs⟩ | ⟨t0, n, f⟩
    · intro k f hk
      rw [hi, hr]
      exact hx_o_mono (hc k f hk) (fun q b e _ h1 h2 => hq f _ hm (List.mem_of_getElem? hk) q b e h1 h2)
    · intro k hk
      rw [hi, hr]
      exact hx_o_mono (hc k hk) (fun q b e _ h1 h2 => hq f _ hm rfl q b e h1 h2)
theorem hx_T_nw {tb : List hx_d} {L : List Nat} {h : hx_h} {q t : Nat} {d : hx_d} (hT : hx_T tb L h) (hq : q ∉ L) (hd : tb[t]? = some d) (hz : hx_zd d = true) : hx_T tb (L ++ [q]) (hx_nw h q t) := by
  intro c hc
  rcases List.mem_append.mp hc with hc | hc
  · have hcq : c ≠ q := fun z => hq (z ▸ hc)
    refine hx_c_mono (hT c hc) (by simp [hx_nw, hcq]) (fun k => by simp [hx_nw, hcq]) (fun k => by simp [hx_nw, hcq]) (fun f d _ _ q1 b _ h1 h2 => ?_)
    have : q1 ≠ q := fun z => hq (z ▸ h1)
    exact ⟨List.mem_append_left _ h1, by simpa [hx_nw, this] using h2⟩
  · have hcq : c = q := by simpa using hc
    subst hcq
    unfold hx_c
    have e1 : (hx_nw h c t).1 c = t := by simp [hx_nw]
    rw [e1, hd]
    rcases d with ⟨ci, fs⟩ | ⟨t0, n, f⟩
    · intro k f hk
      have : (hx_nw h c t).2.1 c k = 0 := hx_nw_i
      rw [this, hx_nw_r]
      exact hx_o_zero (List.all_eq_true.mp hz f (List.mem_of_getElem? hk))
    · intro k hk
      have : (hx_nw h c t).2.1 c k = 0 := hx_nw_i
      rw [this, hx_nw_r]
      exact hx_o_zero hz
def hx_rt (h : hx_h) (q t : Nat) : hx_h := (fun b => if b = q then t else h.1 b, h.2)
def hx_ntf (t0 : Nat) (f : hx_f) : Bool := match f with
  | Sum.inr (Sum.inl b) => !b.2.contains t0
  | _ => true
def hx_nt (t0 : Nat) (d : hx_d) : Bool := match d with
  | .inl (_, fs) => fs.all (hx_ntf t0)
  | .inr (_, _, f) => hx_ntf t0 f
theorem hx_W_rt {tb : List hx_d} {tys : hx_y} {D : va_G} {cl : List vw_C} {A : Nat → Prop} {H0 H : Heap} {L : List Nat} {h : hx_h} {s : State} {locs : List Loc} {q t0 t ci : Nat} {fs fs' : List hx_f} (hW : hx_W tb tys D cl A H0 L h s H locs) (g : hx_g L h q t0) (hd0 : tb[t0]? = some (.inl (ci, fs))) (hd : tb[t]? = some (.inl (ci, fs'))) (hsh : ∀ (h : hx_h) (a : Nat), hx_fs fs h a = hx_fs fs' h a) : hx_W tb tys D cl A H0 L (hx_rt h q t) s H locs := by
  have e : hx_p tb tys L (hx_rt h q t) = hx_p tb tys L h := by
    refine va_pl_congr (fun b => ?_)
    by_cases hb : b = q
    · subst hb
      rw [hx_e_obj (h := hx_rt h b t) (t := t) (by simp [hx_rt]) hd, hx_e_obj g.2 hd0, hsh]
      rfl
    · have : (hx_rt h q t).1 b = h.1 b := by simp [hx_rt, hb]
      unfold hx_e
      rw [this]
      rfl
  obtain ⟨hK, hP, hD, hS, hA⟩ := hW
  exact ⟨hK, by rw [e]; exact hP, by rw [e]; exact hD, hS, hA⟩
theorem hx_T_rt {tb : List hx_d} {L : List Nat} {h : hx_h} {q t0 t ci : Nat} {fs' : List hx_f} (hT : hx_T tb L h) (g : hx_g L h q t0) (hd : tb[t]? = some (.inl (ci, fs'))) (hno : tb.all (hx_nt t0) = true) (hf : ∀ k f, fs'[k]? = some f → hx_o L h f (h.2.1 q k) (h.2.2 q k)) : hx_T tb L (hx_rt h q t) := by
  have key : ∀ f d, d ∈ tb → (match d with | .inl (_, fs) => f ∈ fs | .inr (_, _, f0) => f = f0) → ∀ q1 b, f = .inr b → q1 ∈ L → h.1 q1 ∈ b.2 → q1 ∈ L ∧ (hx_rt h q t).1 q1 ∈ b.2 := by
    intro f d hdm hfm q1 b e h1 h2
    refine ⟨h1, ?_⟩
    have hq1 : q1 ≠ q := by
      intro z
      rw [z, g.2] at h2
      have h3 := List.all_eq_true.mp hno d hdm
      subst e
      rcases d with ⟨ci, fs⟩ | ⟨t1, n, f0⟩
      · have := List.all_eq_true.mp h3 _ hfm
        simp [hx_ntf, h2] at this
      · subst hfm
        simp [hx_nt, hx_ntf, h2] at h3
    simpa [hx_rt, hq1] using h2
  intro c hc
  by_cases hcq : c = q
  · subst hcq
    unfold hx_c
    have e1 : (hx_rt h c t).1 c = t := by simp [hx_rt]
    rw [e1, hd]
    intro k f hk
    exact hx_o_mono (hf k f hk) (fun q1 b e _ h1 h2 => key f _ (List.mem_of_getElem? hd) (List.mem_of_getElem? hk) q1 b e h1 h2)
  · exact hx_c_mono (hT c hc) (by simp [hx_rt, hcq]) (fun _ => rfl) (fun _ => rfl) key
theorem hx_rt_g {L : List Nat} {h : hx_h} {q t t0 : Nat} (g : hx_g L h q t0) : hx_g L (hx_rt h q t) q t := ⟨g.1, by simp [hx_rt]⟩
theorem hx_rt_o {L : List Nat} {h : hx_h} {q t a u : Nat} (g : hx_g L h a u) (n : a ≠ q) : hx_g L (hx_rt h q t) a u := ⟨g.1, by simp [hx_rt, n]; exact g.2⟩
def hx_X (L : List Nat) (q : Nat) : List Nat := L.filter (fun b => decide (b ≠ q))
theorem hx_X_m {L : List Nat} {q a : Nat} : a ∈ hx_X L q ↔ a ∈ L ∧ a ≠ q := by simp [hx_X]
theorem hx_gX {L : List Nat} {h : hx_h} {a t q : Nat} (g : hx_g L h a t) (n : a ≠ q) : hx_g (hx_X L q) h a t := ⟨hx_X_m.mpr ⟨g.1, n⟩, g.2⟩
theorem hx_SX_rf {tb : List hx_d} {M : hx_m} {L : List Nat} {h : hx_h} {x : Nat} : hx_S tb M (hx_X L x) h L h := ⟨fun _ ha => ⟨(hx_X_m.mp ha).1, rfl⟩, fun _ _ _ _ => ⟨rfl, rfl⟩⟩
theorem hx_SX_rt {tb : List hx_d} {M : hx_m} {L L1 : List Nat} {h h1 : hx_h} {x t : Nat} (hM : hx_S tb M (hx_X L x) h L1 h1) : hx_S tb M (hx_X L x) h L1 (hx_rt h1 x t) := by
  refine ⟨fun a ha => ⟨(hM.1 a ha).1, ?_⟩, fun a ha k hk => hM.2 a ha k hk⟩
  have n := (hx_X_m.mp ha).2
  simp only [hx_rt, n, if_false]
  exact (hM.1 a ha).2
theorem hx_S.trX {tb : List hx_d} {M : hx_m} {L Lc L1 : List Nat} {h hc h1 : hx_h} {q : Nat} (a : hx_S tb M L h Lc hc) (b : hx_S tb M (hx_X Lc q) hc L1 h1) (nq : ∀ a ∈ L, a ≠ q) : hx_S tb M L h L1 h1 := by
  refine ⟨fun x hx => ?_, fun x hx k hk => ?_⟩
  · obtain ⟨u1, u2⟩ := a.1 x hx
    obtain ⟨v1, v2⟩ := b.1 x (hx_X_m.mpr ⟨u1, nq x hx⟩)
    exact ⟨v1, v2.trans u2⟩
  · obtain ⟨u1, u2⟩ := a.1 x hx
    obtain ⟨x1, x2⟩ := a.2 x hx k hk
    obtain ⟨y1, y2⟩ := b.2 x (hx_X_m.mpr ⟨u1, nq x hx⟩) k (by rw [u2]; exact hk)
    exact ⟨y1.trans x1, y2.trans x2⟩
theorem hx_S.all {tb : List hx_d} {M : hx_m} {L L1 : List Nat} {h h1 : hx_h} {a t : Nat} (hs : hx_S tb M L h L1 h1) (g : hx_g L h a t) (hk : M.any (fun q => q.1 == t) = false) (j : Nat) : h1.2.1 a j = h.2.1 a j ∧ h1.2.2 a j = h.2.2 a j := by
  refine hs.2 a g.1 j ?_
  rw [g.2]
  have hn : ∀ k, (t, k) ∉ M := fun k hm => by
    have := List.any_eq_false.mp hk _ hm
    simp at this
  split
  · exact hn 0
  · exact hn j
theorem hx_oi {L : List Nat} {h : hx_h} {b : Int × Int} {i x : Int32} {r : Option Nat} (e : i = x) (hb : b.1 ≤ x.toInt ∧ x.toInt ≤ b.2) : hx_o L h (.inl b) i r := by
  subst e; exact hb
theorem hx_or {L : List Nat} {h : hx_h} {b : Bool × List Nat} {i : Int32} {r : Option Nat} {q t : Nat} (e : r = some q) (g : hx_g L h q t) (ht : t ∈ b.2) : hx_o L h (.inr b) i r := by
  subst e
  exact ⟨fun _ => nofun, fun q1 hq => by cases hq; exact ⟨g.1, by rw [g.2]; exact ht⟩⟩
theorem hx_on {L : List Nat} {h : hx_h} {tt : List Nat} {i : Int32} {r : Option Nat} (e : r = none) : hx_o L h (.inr (false, tt)) i r := by
  subst e
  exact ⟨nofun, nofun⟩
def hx_F (P : Nat → hx_f → Prop) : List hx_f → Nat → Prop
  | [], _ => True
  | f :: r, k => P k f ∧ hx_F P r (k + 1)
theorem hx_F_get {P : Nat → hx_f → Prop} : ∀ (fs : List hx_f) (k0 : Nat), hx_F P fs k0 → ∀ k f, fs[k]? = some f → P (k0 + k) f := by
  intro fs
  induction fs with
  | nil => intro k0 _ k f h; simp at h
  | cons g r ih =>
    intro k0 h k f hk
    cases k with
    | zero => simp at hk; subst hk; exact h.1
    | succ k =>
      have := ih (k0 + 1) h.2 k f (by simpa using hk)
      have e : k0 + 1 + k = k0 + (k + 1) := by omega
      rw [← e]; exact this
theorem hx_F_all {L : List Nat} {h : hx_h} {q : Nat} {fs : List hx_f} (hF : hx_F (fun k f => hx_o L h f (h.2.1 q k) (h.2.2 q k)) fs 0) : ∀ k f, fs[k]? = some f → hx_o L h f (h.2.1 q k) (h.2.2 q k) := fun k f hk => by
  have := hx_F_get fs 0 hF k f hk
  simpa using this
theorem hx_T_full {tb : List hx_d} {L : List Nat} {h h1 : hx_h} {t t0 n : Nat} (hT : hx_T tb L h) (hs : hx_S tb [(t, 0)] L h L h1) (hd : tb[t]? = some (.inr (t0, n, .inl (-2147483648, 2147483647)))) : hx_T tb L h1 := by
  intro c hc
  have ht := (hs.1 c hc).2
  by_cases hct : h.1 c = t
  · unfold hx_c
    rw [ht, hct, hd]
    intro k _
    exact i32_r _
  · have hn : ∀ k, (match tb[h.1 c]? with | some (.inr _) => (h.1 c, 0) ∉ [(t, 0)] | _ => (h.1 c, k) ∉ [(t, 0)]) := fun k => by
      split <;> simp [hct]
    refine hx_c_mono (hT c hc) ht (fun k => (hs.2 c hc k (hn k)).1) (fun k => (hs.2 c hc k (hn k)).2) (fun f d _ _ q b _ h1 h2 => ⟨h1, ?_⟩)
    rw [(hs.1 q h1).2]; exact h2
section HXL
variable {p : Program} {l : Launch} {e : Env} {R : Room} {s : State} {m : MethodId} {args : Array Value} {below : List Frame} {meth : Method} {c : Code} {H : Heap} {locs : List Loc} {cells slots : Nat} {Q : State → Prop}
variable {cc : ByteArray} {pc : Nat} {ls : Array Slot} {rest st0 : List Value} {D : va_G} {cl : List vw_C} {A : Nat → Prop} {a : Nat} {tys : hx_y} {H0 : Heap} {tb : List hx_d} {L : List Nat} {h : hx_h}
/-- a new array of longs -/
theorem hk_newL (hx : p.tables.exec = Jvm.exec) (hb : c.code = cc) {Ts : List Cond} (hts : ∀ w ∈ Ts, w.before args s = true) (hW : hx_W tb tys D cl A H0 L h s H locs) (t : Nat) {t0 n0 : Nat} (hd : tb[t]? = some (.inr (t0, n0, .lng))) (harr : Cond.arrayClass .long ∈ Ts) {cA : ClassId} (ht : tys[t0]? = some (cA, .long)) {i : Int32} (hi : i.toInt = n0) (hbytes : n0 * componentBytes .long ≤ 536870912) (hcells : cells + 1 ≤ R.cells) (hslots : slots + n0 ≤ R.slots) (hdg : decode cc pc = .ok (.newarray .long, 2))
    (kk : ∀ (q : Nat) (H1 : Heap) (h1 : hx_h), h1 = hx_nw h q t → q ∉ L → hx_W tb tys D cl A H0 (L ++ [q]) h1 s H1 locs → hx_S tb [] L h (L ++ [q]) h1 → hx_g (L ++ [q]) h1 q t → W p l e R s m args below meth c H1 locs (cells + 1) (slots + n0) Q (F0 m (pc + 2) ls (.ref q :: rest))) : W p l e R s m args below meth c H locs cells slots Q (F0 m pc ls (.int i :: rest)) := by
  obtain ⟨hK, hP, hD, hS, hA⟩ := hW
  have hneg : ¬ i < 0 := by rw [Int32.lt_iff_toInt_lt, hi]; simp
  have hcl : i.toNatClampNeg = n0 := by unfold Int32.toNatClampNeg; rw [hi]; simp
  refine va_newa (atype := .long) (ty := .long) (a0 := (n0, .inr (.inl (fun _ => 0)))) hx hb (hts _ harr) rfl hK hP hD hS hA (fun c1 => rfl) hneg hcl hbytes hcells hslots hdg (fun q c1 H1 hK2 hP2 hD2 hS2 => ?_)
  have hq := hx_fresh hD2
  have hc1 : c1 = cA := by
    have h1 := (hK2.2 tys.length (c1, .long) (by simp)).2
    have h2 := (hK.2 t0 (cA, .long) ht).2
    have hra : ∀ c1 : ClassId, va_RA s c1 .long ↔ s.vm.findClass ("[" ++ FieldType.long.toString) = some c1 := fun _ => Iff.rfl
    exact Option.some.inj (((hra c1).mp h1).symm.trans ((hra cA).mp h2))
  subst hc1
  have hcA : hx_t tys t0 = c1 := by simp [hx_t, ht]
  have he : hx_e tb tys (hx_nw h q t) q = .inl (c1, n0, .inr (.inl (fun _ => 0))) := by
    rw [hx_e_arr (h := hx_nw h q t) (t := t) (by simp [hx_nw]) hd, hcA]
    have e0 : hx_L 0 0 = 0 := by decide
    simp only [hx_a, hx_nw, if_true, e0]
  rw [hx_push hq he] at hP2 hD2
  exact kk q H1 _ rfl hq ⟨hK, hP2, hD2, hS2, hA⟩ (hx_nw_S hq) hx_nw_g
theorem hx_lald (hx : p.tables.exec = Jvm.exec) (hb : c.code = cc) (hW : hx_W tb tys D cl A H0 L h s H locs) {t : Nat} (g : hx_g L h a t) {t0 n : Nat} (hd : tb[t]? = some (.inr (t0, n, .lng))) {cA : ClassId} (ht : tys[t0]? = some (cA, .long)) {i : Int32} (hin : 0 ≤ i.toInt ∧ i.toInt < n) (hdg : decode cc pc = .ok (.laload, 1))
    (kk : ∀ v : Int64, W p l e R s m args below meth c H locs cells slots Q (F0 m (pc + 1) ls (.long v :: rest))) : W p l e R s m args below meth c H locs cells slots Q (F0 m pc ls (.int i :: .ref a :: rest)) := by
  obtain ⟨k0, hk0⟩ := hx_at (tb := tb) (tys := tys) (h := h) g.1
  rw [hx_e_arr g.2 hd] at hk0
  have hcA : hx_t tys t0 = cA := by simp [hx_t, ht]
  rw [hcA] at hk0
  have hin2 : vp_in i n := vp_in_iff.mpr hin
  obtain ⟨hK, hP, hD, hS, hA⟩ := hW
  exact va_lald hx hb hK hP k0 t0 hk0 ht hin2 hdg (kk _)
theorem hx_last (hx : p.tables.exec = Jvm.exec) (hb : c.code = cc) (hW : hx_W tb tys D cl A H0 L h s H locs) (hT : hx_T tb L h) {t : Nat} (g : hx_g L h a t) {t0 n : Nat} (hd : tb[t]? = some (.inr (t0, n, .lng))) {cA : ClassId} (ht : tys[t0]? = some (cA, .long)) {i : Int32} {x : Int64} (hin : 0 ≤ i.toInt ∧ i.toInt < n) (hdg : decode cc pc = .ok (.lastore, 1))
    (kk : ∀ (H1 : Heap) (locs1 : List Loc) (h1 : hx_h), hx_W tb tys D cl A H0 L h1 s H1 locs1 → hx_T tb L h1 → hx_S tb [(t, 0)] L h L h1 → W p l e R s m args below meth c H1 locs1 cells slots Q (F0 m (pc + 1) ls rest)) : W p l e R s m args below meth c H locs cells slots Q (F0 m pc ls (.long x :: .int i :: .ref a :: rest)) := by
  obtain ⟨k0, hk0⟩ := hx_at (tb := tb) (tys := tys) (h := h) g.1
  have hk1 := hk0
  rw [hx_e_arr g.2 hd] at hk0
  have hcA : hx_t tys t0 = cA := by simp [hx_t, ht]
  rw [hcA] at hk0
  have hin2 : vp_in i n := vp_in_iff.mpr hin
  obtain ⟨hK, hP, hD, hS, hA⟩ := hW
  refine va_last hx hb hK hP hD hS k0 t0 hk0 ht hin2 hdg (fun H1 locs1 hP2 hD2 hS2 => ?_)
  obtain ⟨v1, v2, hv⟩ := hx_L_ex x
  let h1 : hx_h := hx_pi (hx_pi h a (2 * i.toNatClampNeg) v1) a (2 * i.toNatClampNeg + 1) v2
  have g1 : hx_g L (hx_pi h a (2 * i.toNatClampNeg) v1) a t := g
  have he : hx_e tb tys h1 a = .inl (cA, n, .inr (.inl (vp_updL (fun j => hx_L (h.2.1 a (2 * j)) (h.2.1 a (2 * j + 1))) i.toNatClampNeg x))) := by
    rw [hx_e_arr (h := h1) (t := t) g.2 hd, hcA]
    show Sum.inl (cA, n, _) = _
    congr 5
    funext j
    show hx_L ((hx_pi (hx_pi h a (2 * i.toNatClampNeg) v1) a (2 * i.toNatClampNeg + 1) v2).2.1 a (2 * j)) ((hx_pi (hx_pi h a (2 * i.toNatClampNeg) v1) a (2 * i.toNatClampNeg + 1) v2).2.1 a (2 * j + 1)) = _
    by_cases hj : j = i.toNatClampNeg
    · subst hj
      rw [hx_pi_ne (k := 2 * i.toNatClampNeg + 1) _ _ (fun z => absurd z.2 (by omega)), hx_pi_at, hx_pi_at, hv]
      simp [vp_updL]
    · rw [hx_pi_ne _ _ (fun z => hj (by have := z.2; omega)), hx_pi_ne _ _ (fun z => hj (by have := z.2; omega)), hx_pi_ne _ _ (fun z => hj (by have := z.2; omega)), hx_pi_ne _ _ (fun z => hj (by have := z.2; omega))]
      simp [vp_updL, hj]
  rw [hx_set (h1 := h1) hD g.1 hk1 he (fun b hb => (hx_e_pi hb).trans (hx_e_pi hb))] at hP2 hD2
  refine kk H1 locs1 h1 ⟨hK, hP2, hD2, hS2, hA⟩ ?_ ?_
  · refine hx_T.pi (hx_T.pi hT g hd (fun f hf r _ => ?_)) g1 hd (fun f hf r _ => ?_)
    · subst hf; trivial
    · subst hf; trivial
  · exact (hx_S.rf.pi g (by rw [hd]; exact List.mem_singleton.mpr rfl)).pi g1 (by rw [hd]; exact List.mem_singleton.mpr rfl)
theorem lv_lcmp (hx : p.tables.exec = Jvm.exec) (hb : c.code = cc) {x y : Int64} (hdg : decode cc pc = .ok (.lcmp, 1)) (kk : ∀ v : Int32, W p l e R s m args below meth c H locs cells slots Q (F0 m (pc + 1) ls (.int v :: rest))) : W p l e R s m args below meth c H locs cells slots Q (F0 m pc ls (.long y :: .long x :: rest)) := W.lcmp hx hb hdg (kk _)
end HXL
end
section
/-- what an array held at the entry, it holds -/
theorem hx_afS {tb : List hx_d} {M : hx_m} {L L1 : List Nat} {h h1 : hx_h} {q t : Nat} {f : Nat → Int32} (hs : hx_S tb M L h L1 h1) (g : hx_g L h q t) (hk : M.any (fun q => q.1 == t) = false) (e : h.2.1 q = f) : h1.2.1 q = f := (funext fun j => (hs.a g hk j).1).trans e
end
section
def wNX1_isLine : Nat := 85545455042700521191305730602446331708156928174939576701957667177941418116384269426275370
theorem wX1_isLine_c : hz_cd cX1_isLine wNX1_isLine 37 := ⟨by decide +kernel, by decide +kernel⟩
theorem dX1_isLine_0 : decode cX1_isLine 0 = .ok (.aload_n 0, 1) := dw_42 wX1_isLine_c rfl
theorem dX1_isLine_1 : decode cX1_isLine 1 = .ok (.getfield 9, 3) := dw_180 wX1_isLine_c 0 9 rfl rfl
theorem dX1_isLine_4 : decode cX1_isLine 4 = .ok (.iload_n 1, 1) := dw_27 wX1_isLine_c rfl
theorem dX1_isLine_5 : decode cX1_isLine 5 = .ok (.iaload, 1) := dw_46 wX1_isLine_c rfl
theorem dX1_isLine_6 : decode cX1_isLine 6 = .ok (.iload_n 2, 1) := dw_28 wX1_isLine_c rfl
theorem dX1_isLine_7 : decode cX1_isLine 7 = .ok (.if_icmp .ne 28, 3) := dw_160 wX1_isLine_c 0 28 rfl rfl rfl
theorem dX1_isLine_10 : decode cX1_isLine 10 = .ok (.aload_n 0, 1) := dw_42 wX1_isLine_c rfl
theorem dX1_isLine_11 : decode cX1_isLine 11 = .ok (.getfield 15, 3) := dw_180 wX1_isLine_c 0 15 rfl rfl
theorem dX1_isLine_14 : decode cX1_isLine 14 = .ok (.iload_n 1, 1) := dw_27 wX1_isLine_c rfl
theorem dX1_isLine_15 : decode cX1_isLine 15 = .ok (.iaload, 1) := dw_46 wX1_isLine_c rfl
theorem dX1_isLine_16 : decode cX1_isLine 16 = .ok (.iload_n 3, 1) := dw_29 wX1_isLine_c rfl
theorem dX1_isLine_17 : decode cX1_isLine 17 = .ok (.if_icmp .ne 18, 3) := dw_160 wX1_isLine_c 0 18 rfl rfl rfl
theorem dX1_isLine_20 : decode cX1_isLine 20 = .ok (.aload_n 0, 1) := dw_42 wX1_isLine_c rfl
theorem dX1_isLine_21 : decode cX1_isLine 21 = .ok (.getfield 18, 3) := dw_180 wX1_isLine_c 0 18 rfl rfl
theorem dX1_isLine_24 : decode cX1_isLine 24 = .ok (.iload_n 1, 1) := dw_27 wX1_isLine_c rfl
theorem dX1_isLine_25 : decode cX1_isLine 25 = .ok (.iaload, 1) := dw_46 wX1_isLine_c rfl
theorem dX1_isLine_26 : decode cX1_isLine 26 = .ok (.iload 4, 2) := dw_21 wX1_isLine_c 4 rfl
theorem dX1_isLine_28 : decode cX1_isLine 28 = .ok (.if_icmp .gt 7, 3) := dw_163 wX1_isLine_c 0 7 rfl rfl rfl
theorem dX1_isLine_31 : decode cX1_isLine 31 = .ok (.iconst 1, 1) := dw_4 wX1_isLine_c rfl
theorem dX1_isLine_32 : decode cX1_isLine 32 = .ok (.goto 4, 3) := dw_167 wX1_isLine_c 0 4 rfl rfl rfl
theorem dX1_isLine_35 : decode cX1_isLine 35 = .ok (.iconst 0, 1) := dw_3 wX1_isLine_c rfl
theorem dX1_isLine_36 : decode cX1_isLine 36 = .ok (.ireturn, 1) := dw_172 wX1_isLine_c rfl
def wNX1_sumWith : Nat := 3065674170805307839989769992024176909505644978429606672854785121213943246826691650188984316153496180235853664599993023673810035325138177516659109112460879058965233404128432847856530495728006659
theorem wX1_sumWith_c : hz_cd cX1_sumWith wNX1_sumWith 80 := ⟨by decide +kernel, by decide +kernel⟩
theorem dX1_sumWith_0 : decode cX1_sumWith 0 = .ok (.iconst 0, 1) := dw_3 wX1_sumWith_c rfl
theorem dX1_sumWith_1 : decode cX1_sumWith 1 = .ok (.istore 4, 2) := dw_54 wX1_sumWith_c 4 rfl
theorem dX1_sumWith_3 : decode cX1_sumWith 3 = .ok (.iconst 0, 1) := dw_3 wX1_sumWith_c rfl
theorem dX1_sumWith_4 : decode cX1_sumWith 4 = .ok (.istore 5, 2) := dw_54 wX1_sumWith_c 5 rfl
theorem dX1_sumWith_6 : decode cX1_sumWith 6 = .ok (.iload 5, 2) := dw_21 wX1_sumWith_c 5 rfl
theorem dX1_sumWith_8 : decode cX1_sumWith 8 = .ok (.aload_n 0, 1) := dw_42 wX1_sumWith_c rfl
theorem dX1_sumWith_9 : decode cX1_sumWith 9 = .ok (.getfield 34, 3) := dw_180 wX1_sumWith_c 0 34 rfl rfl
theorem dX1_sumWith_12 : decode cX1_sumWith 12 = .ok (.if_icmp .ge 65, 3) := dw_162 wX1_sumWith_c 0 65 rfl rfl rfl
theorem dX1_sumWith_15 : decode cX1_sumWith 15 = .ok (.aload_n 0, 1) := dw_42 wX1_sumWith_c rfl
theorem dX1_sumWith_16 : decode cX1_sumWith 16 = .ok (.iload 5, 2) := dw_21 wX1_sumWith_c 5 rfl
theorem dX1_sumWith_18 : decode cX1_sumWith 18 = .ok (.iload_n 1, 1) := dw_27 wX1_sumWith_c rfl
theorem dX1_sumWith_19 : decode cX1_sumWith 19 = .ok (.iload_n 2, 1) := dw_28 wX1_sumWith_c rfl
theorem dX1_sumWith_20 : decode cX1_sumWith 20 = .ok (.iload_n 3, 1) := dw_29 wX1_sumWith_c rfl
theorem dX1_sumWith_21 : decode cX1_sumWith 21 = .ok (.invokevirtual 38, 3) := dw_182 wX1_sumWith_c 0 38 rfl rfl
theorem dX1_sumWith_24 : decode cX1_sumWith 24 = .ok (.ifCond .eq 47, 3) := dw_153 wX1_sumWith_c 0 47 rfl rfl rfl
theorem dX1_sumWith_27 : decode cX1_sumWith 27 = .ok (.iload 4, 2) := dw_21 wX1_sumWith_c 4 rfl
theorem dX1_sumWith_29 : decode cX1_sumWith 29 = .ok (.aload_n 0, 1) := dw_42 wX1_sumWith_c rfl
theorem dX1_sumWith_30 : decode cX1_sumWith 30 = .ok (.getfield 21, 3) := dw_180 wX1_sumWith_c 0 21 rfl rfl
theorem dX1_sumWith_33 : decode cX1_sumWith 33 = .ok (.iload 5, 2) := dw_21 wX1_sumWith_c 5 rfl
theorem dX1_sumWith_35 : decode cX1_sumWith 35 = .ok (.iaload, 1) := dw_46 wX1_sumWith_c rfl
theorem dX1_sumWith_36 : decode cX1_sumWith 36 = .ok (.ifCond .eq 14, 3) := dw_153 wX1_sumWith_c 0 14 rfl rfl rfl
theorem dX1_sumWith_39 : decode cX1_sumWith 39 = .ok (.aload_n 0, 1) := dw_42 wX1_sumWith_c rfl
theorem dX1_sumWith_40 : decode cX1_sumWith 40 = .ok (.getfield 21, 3) := dw_180 wX1_sumWith_c 0 21 rfl rfl
theorem dX1_sumWith_43 : decode cX1_sumWith 43 = .ok (.iload 5, 2) := dw_21 wX1_sumWith_c 5 rfl
theorem dX1_sumWith_45 : decode cX1_sumWith 45 = .ok (.iaload, 1) := dw_46 wX1_sumWith_c rfl
theorem dX1_sumWith_46 : decode cX1_sumWith 46 = .ok (.iconst 3, 1) := dw_6 wX1_sumWith_c rfl
theorem dX1_sumWith_47 : decode cX1_sumWith 47 = .ok (.if_icmp .ne 13, 3) := dw_160 wX1_sumWith_c 0 13 rfl rfl rfl
theorem dX1_sumWith_50 : decode cX1_sumWith 50 = .ok (.aload_n 0, 1) := dw_42 wX1_sumWith_c rfl
theorem dX1_sumWith_51 : decode cX1_sumWith 51 = .ok (.getfield 24, 3) := dw_180 wX1_sumWith_c 0 24 rfl rfl
theorem dX1_sumWith_54 : decode cX1_sumWith 54 = .ok (.iload 5, 2) := dw_21 wX1_sumWith_c 5 rfl
theorem dX1_sumWith_56 : decode cX1_sumWith 56 = .ok (.iaload, 1) := dw_46 wX1_sumWith_c rfl
theorem dX1_sumWith_57 : decode cX1_sumWith 57 = .ok (.goto 11, 3) := dw_167 wX1_sumWith_c 0 11 rfl rfl rfl
theorem dX1_sumWith_60 : decode cX1_sumWith 60 = .ok (.aload_n 0, 1) := dw_42 wX1_sumWith_c rfl
theorem dX1_sumWith_61 : decode cX1_sumWith 61 = .ok (.getfield 24, 3) := dw_180 wX1_sumWith_c 0 24 rfl rfl
theorem dX1_sumWith_64 : decode cX1_sumWith 64 = .ok (.iload 5, 2) := dw_21 wX1_sumWith_c 5 rfl
theorem dX1_sumWith_66 : decode cX1_sumWith 66 = .ok (.iaload, 1) := dw_46 wX1_sumWith_c rfl
theorem dX1_sumWith_67 : decode cX1_sumWith 67 = .ok (.ineg, 1) := dw_116 wX1_sumWith_c rfl
theorem dX1_sumWith_68 : decode cX1_sumWith 68 = .ok (.iadd, 1) := dw_96 wX1_sumWith_c rfl
theorem dX1_sumWith_69 : decode cX1_sumWith 69 = .ok (.istore 4, 2) := dw_54 wX1_sumWith_c 4 rfl
theorem dX1_sumWith_71 : decode cX1_sumWith 71 = .ok (.iinc 5 1, 3) := dw_132 wX1_sumWith_c 5 1 rfl rfl rfl
theorem dX1_sumWith_74 : decode cX1_sumWith 74 = .ok (.goto (-68), 3) := dn_167 wX1_sumWith_c 255 188 rfl (by decide)
theorem dX1_sumWith_77 : decode cX1_sumWith 77 = .ok (.iload 4, 2) := dw_21 wX1_sumWith_c 4 rfl
theorem dX1_sumWith_79 : decode cX1_sumWith 79 = .ok (.ireturn, 1) := dw_172 wX1_sumWith_c rfl
def wNX1_areTwins : Nat := 32006354588447733077641873602874348467898736619646771748981277364164927100434261977423706737617433857208571612369544643567762751718795818026
theorem wX1_areTwins_c : hz_cd cX1_areTwins wNX1_areTwins 58 := ⟨by decide +kernel, by decide +kernel⟩
theorem dX1_areTwins_0 : decode cX1_areTwins 0 = .ok (.aload_n 0, 1) := dw_42 wX1_areTwins_c rfl
theorem dX1_areTwins_1 : decode cX1_areTwins 1 = .ok (.getfield 21, 3) := dw_180 wX1_areTwins_c 0 21 rfl rfl
theorem dX1_areTwins_4 : decode cX1_areTwins 4 = .ok (.iload_n 1, 1) := dw_27 wX1_areTwins_c rfl
theorem dX1_areTwins_5 : decode cX1_areTwins 5 = .ok (.iaload, 1) := dw_46 wX1_areTwins_c rfl
theorem dX1_areTwins_6 : decode cX1_areTwins 6 = .ok (.iconst 1, 1) := dw_4 wX1_areTwins_c rfl
theorem dX1_areTwins_7 : decode cX1_areTwins 7 = .ok (.ixor, 1) := dw_130 wX1_areTwins_c rfl
theorem dX1_areTwins_8 : decode cX1_areTwins 8 = .ok (.aload_n 0, 1) := dw_42 wX1_areTwins_c rfl
theorem dX1_areTwins_9 : decode cX1_areTwins 9 = .ok (.getfield 21, 3) := dw_180 wX1_areTwins_c 0 21 rfl rfl
theorem dX1_areTwins_12 : decode cX1_areTwins 12 = .ok (.iload_n 2, 1) := dw_28 wX1_areTwins_c rfl
theorem dX1_areTwins_13 : decode cX1_areTwins 13 = .ok (.iaload, 1) := dw_46 wX1_areTwins_c rfl
theorem dX1_areTwins_14 : decode cX1_areTwins 14 = .ok (.if_icmp .ne 42, 3) := dw_160 wX1_areTwins_c 0 42 rfl rfl rfl
theorem dX1_areTwins_17 : decode cX1_areTwins 17 = .ok (.aload_n 0, 1) := dw_42 wX1_areTwins_c rfl
theorem dX1_areTwins_18 : decode cX1_areTwins 18 = .ok (.getfield 24, 3) := dw_180 wX1_areTwins_c 0 24 rfl rfl
theorem dX1_areTwins_21 : decode cX1_areTwins 21 = .ok (.iload_n 1, 1) := dw_27 wX1_areTwins_c rfl
theorem dX1_areTwins_22 : decode cX1_areTwins 22 = .ok (.iaload, 1) := dw_46 wX1_areTwins_c rfl
theorem dX1_areTwins_23 : decode cX1_areTwins 23 = .ok (.aload_n 0, 1) := dw_42 wX1_areTwins_c rfl
theorem dX1_areTwins_24 : decode cX1_areTwins 24 = .ok (.getfield 24, 3) := dw_180 wX1_areTwins_c 0 24 rfl rfl
theorem dX1_areTwins_27 : decode cX1_areTwins 27 = .ok (.iload_n 2, 1) := dw_28 wX1_areTwins_c rfl
theorem dX1_areTwins_28 : decode cX1_areTwins 28 = .ok (.iaload, 1) := dw_46 wX1_areTwins_c rfl
theorem dX1_areTwins_29 : decode cX1_areTwins 29 = .ok (.if_icmp .ne 27, 3) := dw_160 wX1_areTwins_c 0 27 rfl rfl rfl
theorem dX1_areTwins_32 : decode cX1_areTwins 32 = .ok (.aload_n 0, 1) := dw_42 wX1_areTwins_c rfl
theorem dX1_areTwins_33 : decode cX1_areTwins 33 = .ok (.getfield 18, 3) := dw_180 wX1_areTwins_c 0 18 rfl rfl
theorem dX1_areTwins_36 : decode cX1_areTwins 36 = .ok (.iload_n 1, 1) := dw_27 wX1_areTwins_c rfl
theorem dX1_areTwins_37 : decode cX1_areTwins 37 = .ok (.iaload, 1) := dw_46 wX1_areTwins_c rfl
theorem dX1_areTwins_38 : decode cX1_areTwins 38 = .ok (.aload_n 0, 1) := dw_42 wX1_areTwins_c rfl
theorem dX1_areTwins_39 : decode cX1_areTwins 39 = .ok (.getfield 18, 3) := dw_180 wX1_areTwins_c 0 18 rfl rfl
theorem dX1_areTwins_42 : decode cX1_areTwins 42 = .ok (.iload_n 2, 1) := dw_28 wX1_areTwins_c rfl
theorem dX1_areTwins_43 : decode cX1_areTwins 43 = .ok (.iaload, 1) := dw_46 wX1_areTwins_c rfl
theorem dX1_areTwins_44 : decode cX1_areTwins 44 = .ok (.isub, 1) := dw_100 wX1_areTwins_c rfl
theorem dX1_areTwins_45 : decode cX1_areTwins 45 = .ok (.invokestatic 49, 3) := dw_184 wX1_areTwins_c 0 49 rfl rfl
theorem dX1_areTwins_48 : decode cX1_areTwins 48 = .ok (.iconst 3, 1) := dw_6 wX1_areTwins_c rfl
theorem dX1_areTwins_49 : decode cX1_areTwins 49 = .ok (.if_icmp .gt 7, 3) := dw_163 wX1_areTwins_c 0 7 rfl rfl rfl
theorem dX1_areTwins_52 : decode cX1_areTwins 52 = .ok (.iconst 1, 1) := dw_4 wX1_areTwins_c rfl
theorem dX1_areTwins_53 : decode cX1_areTwins 53 = .ok (.goto 4, 3) := dw_167 wX1_areTwins_c 0 4 rfl rfl rfl
theorem dX1_areTwins_56 : decode cX1_areTwins 56 = .ok (.iconst 0, 1) := dw_3 wX1_areTwins_c rfl
theorem dX1_areTwins_57 : decode cX1_areTwins 57 = .ok (.ireturn, 1) := dw_172 wX1_areTwins_c rfl
def wNX1_disorder : Nat := 137546765336729920954408182545235330012847140287928041357661338692027900946281912461953507691666434677660993286810778439019069272130045760859350973699
theorem wX1_disorder_c : hz_cd cX1_disorder wNX1_disorder 62 := ⟨by decide +kernel, by decide +kernel⟩
theorem dX1_disorder_0 : decode cX1_disorder 0 = .ok (.iconst 0, 1) := dw_3 wX1_disorder_c rfl
theorem dX1_disorder_1 : decode cX1_disorder 1 = .ok (.istore_n 2, 1) := dw_61 wX1_disorder_c rfl
theorem dX1_disorder_2 : decode cX1_disorder 2 = .ok (.iconst 0, 1) := dw_3 wX1_disorder_c rfl
theorem dX1_disorder_3 : decode cX1_disorder 3 = .ok (.istore_n 3, 1) := dw_62 wX1_disorder_c rfl
theorem dX1_disorder_4 : decode cX1_disorder 4 = .ok (.iconst 0, 1) := dw_3 wX1_disorder_c rfl
theorem dX1_disorder_5 : decode cX1_disorder 5 = .ok (.istore 4, 2) := dw_54 wX1_disorder_c 4 rfl
theorem dX1_disorder_7 : decode cX1_disorder 7 = .ok (.iload 4, 2) := dw_21 wX1_disorder_c 4 rfl
theorem dX1_disorder_9 : decode cX1_disorder 9 = .ok (.aload_n 0, 1) := dw_42 wX1_disorder_c rfl
theorem dX1_disorder_10 : decode cX1_disorder 10 = .ok (.getfield 34, 3) := dw_180 wX1_disorder_c 0 34 rfl rfl
theorem dX1_disorder_13 : decode cX1_disorder 13 = .ok (.if_icmp .ge 47, 3) := dw_162 wX1_disorder_c 0 47 rfl rfl rfl
theorem dX1_disorder_16 : decode cX1_disorder 16 = .ok (.aload_n 0, 1) := dw_42 wX1_disorder_c rfl
theorem dX1_disorder_17 : decode cX1_disorder 17 = .ok (.getfield 9, 3) := dw_180 wX1_disorder_c 0 9 rfl rfl
theorem dX1_disorder_20 : decode cX1_disorder 20 = .ok (.iload 4, 2) := dw_21 wX1_disorder_c 4 rfl
theorem dX1_disorder_22 : decode cX1_disorder 22 = .ok (.iaload, 1) := dw_46 wX1_disorder_c rfl
theorem dX1_disorder_23 : decode cX1_disorder 23 = .ok (.iload_n 1, 1) := dw_27 wX1_disorder_c rfl
theorem dX1_disorder_24 : decode cX1_disorder 24 = .ok (.if_icmp .ne 30, 3) := dw_160 wX1_disorder_c 0 30 rfl rfl rfl
theorem dX1_disorder_27 : decode cX1_disorder 27 = .ok (.iload_n 2, 1) := dw_28 wX1_disorder_c rfl
theorem dX1_disorder_28 : decode cX1_disorder 28 = .ok (.aload_n 0, 1) := dw_42 wX1_disorder_c rfl
theorem dX1_disorder_29 : decode cX1_disorder 29 = .ok (.getfield 18, 3) := dw_180 wX1_disorder_c 0 18 rfl rfl
theorem dX1_disorder_32 : decode cX1_disorder 32 = .ok (.iload 4, 2) := dw_21 wX1_disorder_c 4 rfl
theorem dX1_disorder_34 : decode cX1_disorder 34 = .ok (.iaload, 1) := dw_46 wX1_disorder_c rfl
theorem dX1_disorder_35 : decode cX1_disorder 35 = .ok (.iload_n 3, 1) := dw_29 wX1_disorder_c rfl
theorem dX1_disorder_36 : decode cX1_disorder 36 = .ok (.if_icmp .ge 7, 3) := dw_162 wX1_disorder_c 0 7 rfl rfl rfl
theorem dX1_disorder_39 : decode cX1_disorder 39 = .ok (.iconst 1, 1) := dw_4 wX1_disorder_c rfl
theorem dX1_disorder_40 : decode cX1_disorder 40 = .ok (.goto 4, 3) := dw_167 wX1_disorder_c 0 4 rfl rfl rfl
theorem dX1_disorder_43 : decode cX1_disorder 43 = .ok (.iconst 0, 1) := dw_3 wX1_disorder_c rfl
theorem dX1_disorder_44 : decode cX1_disorder 44 = .ok (.iadd, 1) := dw_96 wX1_disorder_c rfl
theorem dX1_disorder_45 : decode cX1_disorder 45 = .ok (.istore_n 2, 1) := dw_61 wX1_disorder_c rfl
theorem dX1_disorder_46 : decode cX1_disorder 46 = .ok (.aload_n 0, 1) := dw_42 wX1_disorder_c rfl
theorem dX1_disorder_47 : decode cX1_disorder 47 = .ok (.getfield 18, 3) := dw_180 wX1_disorder_c 0 18 rfl rfl
theorem dX1_disorder_50 : decode cX1_disorder 50 = .ok (.iload 4, 2) := dw_21 wX1_disorder_c 4 rfl
theorem dX1_disorder_52 : decode cX1_disorder 52 = .ok (.iaload, 1) := dw_46 wX1_disorder_c rfl
theorem dX1_disorder_53 : decode cX1_disorder 53 = .ok (.istore_n 3, 1) := dw_62 wX1_disorder_c rfl
theorem dX1_disorder_54 : decode cX1_disorder 54 = .ok (.iinc 4 1, 3) := dw_132 wX1_disorder_c 4 1 rfl rfl rfl
theorem dX1_disorder_57 : decode cX1_disorder 57 = .ok (.goto (-50), 3) := dn_167 wX1_disorder_c 255 206 rfl (by decide)
theorem dX1_disorder_60 : decode cX1_disorder 60 = .ok (.iload_n 2, 1) := dw_28 wX1_disorder_c rfl
theorem dX1_disorder_61 : decode cX1_disorder 61 = .ok (.ireturn, 1) := dw_172 wX1_disorder_c rfl
def wNX1_takeTwin : Nat := 46778094831633565108622638646355326567661892763405677524341245066342738209399494393088273896882253495423846053391142213754909150724697777247195877258796931431660633164264148502874915945987
theorem wX1_takeTwin_c : hz_cd cX1_takeTwin wNX1_takeTwin 78 := ⟨by decide +kernel, by decide +kernel⟩
theorem dX1_takeTwin_0 : decode cX1_takeTwin 0 = .ok (.iconst 0, 1) := dw_3 wX1_takeTwin_c rfl
theorem dX1_takeTwin_1 : decode cX1_takeTwin 1 = .ok (.istore_n 3, 1) := dw_62 wX1_takeTwin_c rfl
theorem dX1_takeTwin_2 : decode cX1_takeTwin 2 = .ok (.iload_n 3, 1) := dw_29 wX1_takeTwin_c rfl
theorem dX1_takeTwin_3 : decode cX1_takeTwin 3 = .ok (.aload_n 0, 1) := dw_42 wX1_takeTwin_c rfl
theorem dX1_takeTwin_4 : decode cX1_takeTwin 4 = .ok (.getfield 34, 3) := dw_180 wX1_takeTwin_c 0 34 rfl rfl
theorem dX1_takeTwin_7 : decode cX1_takeTwin 7 = .ok (.if_icmp .ge 69, 3) := dw_162 wX1_takeTwin_c 0 69 rfl rfl rfl
theorem dX1_takeTwin_10 : decode cX1_takeTwin 10 = .ok (.aload_n 0, 1) := dw_42 wX1_takeTwin_c rfl
theorem dX1_takeTwin_11 : decode cX1_takeTwin 11 = .ok (.getfield 27, 3) := dw_180 wX1_takeTwin_c 0 27 rfl rfl
theorem dX1_takeTwin_14 : decode cX1_takeTwin 14 = .ok (.iload_n 3, 1) := dw_29 wX1_takeTwin_c rfl
theorem dX1_takeTwin_15 : decode cX1_takeTwin 15 = .ok (.iaload, 1) := dw_46 wX1_takeTwin_c rfl
theorem dX1_takeTwin_16 : decode cX1_takeTwin 16 = .ok (.istore 4, 2) := dw_54 wX1_takeTwin_c 4 rfl
theorem dX1_takeTwin_18 : decode cX1_takeTwin 18 = .ok (.aload_n 0, 1) := dw_42 wX1_takeTwin_c rfl
theorem dX1_takeTwin_19 : decode cX1_takeTwin 19 = .ok (.getfield 30, 3) := dw_180 wX1_takeTwin_c 0 30 rfl rfl
theorem dX1_takeTwin_22 : decode cX1_takeTwin 22 = .ok (.iload 4, 2) := dw_21 wX1_takeTwin_c 4 rfl
theorem dX1_takeTwin_24 : decode cX1_takeTwin 24 = .ok (.baload, 1) := dw_51 wX1_takeTwin_c rfl
theorem dX1_takeTwin_25 : decode cX1_takeTwin 25 = .ok (.ifCond .ne 45, 3) := dw_154 wX1_takeTwin_c 0 45 rfl rfl rfl
theorem dX1_takeTwin_28 : decode cX1_takeTwin 28 = .ok (.aload_n 0, 1) := dw_42 wX1_takeTwin_c rfl
theorem dX1_takeTwin_29 : decode cX1_takeTwin 29 = .ok (.iload 4, 2) := dw_21 wX1_takeTwin_c 4 rfl
theorem dX1_takeTwin_31 : decode cX1_takeTwin 31 = .ok (.aload_n 0, 1) := dw_42 wX1_takeTwin_c rfl
theorem dX1_takeTwin_32 : decode cX1_takeTwin 32 = .ok (.getfield 15, 3) := dw_180 wX1_takeTwin_c 0 15 rfl rfl
theorem dX1_takeTwin_35 : decode cX1_takeTwin 35 = .ok (.iload_n 1, 1) := dw_27 wX1_takeTwin_c rfl
theorem dX1_takeTwin_36 : decode cX1_takeTwin 36 = .ok (.iaload, 1) := dw_46 wX1_takeTwin_c rfl
theorem dX1_takeTwin_37 : decode cX1_takeTwin 37 = .ok (.aload_n 0, 1) := dw_42 wX1_takeTwin_c rfl
theorem dX1_takeTwin_38 : decode cX1_takeTwin 38 = .ok (.getfield 9, 3) := dw_180 wX1_takeTwin_c 0 9 rfl rfl
theorem dX1_takeTwin_41 : decode cX1_takeTwin 41 = .ok (.iload_n 1, 1) := dw_27 wX1_takeTwin_c rfl
theorem dX1_takeTwin_42 : decode cX1_takeTwin 42 = .ok (.iaload, 1) := dw_46 wX1_takeTwin_c rfl
theorem dX1_takeTwin_43 : decode cX1_takeTwin 43 = .ok (.iload_n 2, 1) := dw_28 wX1_takeTwin_c rfl
theorem dX1_takeTwin_44 : decode cX1_takeTwin 44 = .ok (.invokevirtual 38, 3) := dw_182 wX1_takeTwin_c 0 38 rfl rfl
theorem dX1_takeTwin_47 : decode cX1_takeTwin 47 = .ok (.ifCond .eq 23, 3) := dw_153 wX1_takeTwin_c 0 23 rfl rfl rfl
theorem dX1_takeTwin_50 : decode cX1_takeTwin 50 = .ok (.aload_n 0, 1) := dw_42 wX1_takeTwin_c rfl
theorem dX1_takeTwin_51 : decode cX1_takeTwin 51 = .ok (.iload_n 1, 1) := dw_27 wX1_takeTwin_c rfl
theorem dX1_takeTwin_52 : decode cX1_takeTwin 52 = .ok (.iload 4, 2) := dw_21 wX1_takeTwin_c 4 rfl
theorem dX1_takeTwin_54 : decode cX1_takeTwin 54 = .ok (.invokevirtual 46, 3) := dw_182 wX1_takeTwin_c 0 46 rfl rfl
theorem dX1_takeTwin_57 : decode cX1_takeTwin 57 = .ok (.ifCond .eq 13, 3) := dw_153 wX1_takeTwin_c 0 13 rfl rfl rfl
theorem dX1_takeTwin_60 : decode cX1_takeTwin 60 = .ok (.aload_n 0, 1) := dw_42 wX1_takeTwin_c rfl
theorem dX1_takeTwin_61 : decode cX1_takeTwin 61 = .ok (.getfield 30, 3) := dw_180 wX1_takeTwin_c 0 30 rfl rfl
theorem dX1_takeTwin_64 : decode cX1_takeTwin 64 = .ok (.iload 4, 2) := dw_21 wX1_takeTwin_c 4 rfl
theorem dX1_takeTwin_66 : decode cX1_takeTwin 66 = .ok (.iconst 1, 1) := dw_4 wX1_takeTwin_c rfl
theorem dX1_takeTwin_67 : decode cX1_takeTwin 67 = .ok (.bastore, 1) := dw_84 wX1_takeTwin_c rfl
theorem dX1_takeTwin_68 : decode cX1_takeTwin 68 = .ok (.iconst 1, 1) := dw_4 wX1_takeTwin_c rfl
theorem dX1_takeTwin_69 : decode cX1_takeTwin 69 = .ok (.ireturn, 1) := dw_172 wX1_takeTwin_c rfl
theorem dX1_takeTwin_70 : decode cX1_takeTwin 70 = .ok (.iinc 3 1, 3) := dw_132 wX1_takeTwin_c 3 1 rfl rfl rfl
theorem dX1_takeTwin_73 : decode cX1_takeTwin 73 = .ok (.goto (-71), 3) := dn_167 wX1_takeTwin_c 255 185 rfl (by decide)
theorem dX1_takeTwin_76 : decode cX1_takeTwin 76 = .ok (.iconst 0, 1) := dw_3 wX1_takeTwin_c rfl
theorem dX1_takeTwin_77 : decode cX1_takeTwin 77 = .ok (.ireturn, 1) := dw_172 wX1_takeTwin_c rfl
def wNX1_twinPairs : Nat := 3370744422300663840264834789786460405601353832203563618873596206094606380483644640120052352917034000907346747939858212776777245314291467685515347484211768367899370092284541495366635301889699001491756692995
theorem wX1_twinPairs_c : hz_cd cX1_twinPairs wNX1_twinPairs 85 := ⟨by decide +kernel, by decide +kernel⟩
theorem dX1_twinPairs_0 : decode cX1_twinPairs 0 = .ok (.iconst 0, 1) := dw_3 wX1_twinPairs_c rfl
theorem dX1_twinPairs_1 : decode cX1_twinPairs 1 = .ok (.istore 4, 2) := dw_54 wX1_twinPairs_c 4 rfl
theorem dX1_twinPairs_3 : decode cX1_twinPairs 3 = .ok (.iload 4, 2) := dw_21 wX1_twinPairs_c 4 rfl
theorem dX1_twinPairs_5 : decode cX1_twinPairs 5 = .ok (.aload_n 0, 1) := dw_42 wX1_twinPairs_c rfl
theorem dX1_twinPairs_6 : decode cX1_twinPairs 6 = .ok (.getfield 34, 3) := dw_180 wX1_twinPairs_c 0 34 rfl rfl
theorem dX1_twinPairs_9 : decode cX1_twinPairs 9 = .ok (.if_icmp .ge 17, 3) := dw_162 wX1_twinPairs_c 0 17 rfl rfl rfl
theorem dX1_twinPairs_12 : decode cX1_twinPairs 12 = .ok (.aload_n 0, 1) := dw_42 wX1_twinPairs_c rfl
theorem dX1_twinPairs_13 : decode cX1_twinPairs 13 = .ok (.getfield 30, 3) := dw_180 wX1_twinPairs_c 0 30 rfl rfl
theorem dX1_twinPairs_16 : decode cX1_twinPairs 16 = .ok (.iload 4, 2) := dw_21 wX1_twinPairs_c 4 rfl
theorem dX1_twinPairs_18 : decode cX1_twinPairs 18 = .ok (.iconst 0, 1) := dw_3 wX1_twinPairs_c rfl
theorem dX1_twinPairs_19 : decode cX1_twinPairs 19 = .ok (.bastore, 1) := dw_84 wX1_twinPairs_c rfl
theorem dX1_twinPairs_20 : decode cX1_twinPairs 20 = .ok (.iinc 4 1, 3) := dw_132 wX1_twinPairs_c 4 1 rfl rfl rfl
theorem dX1_twinPairs_23 : decode cX1_twinPairs 23 = .ok (.goto (-20), 3) := dn_167 wX1_twinPairs_c 255 236 rfl (by decide)
theorem dX1_twinPairs_26 : decode cX1_twinPairs 26 = .ok (.iconst 0, 1) := dw_3 wX1_twinPairs_c rfl
theorem dX1_twinPairs_27 : decode cX1_twinPairs 27 = .ok (.istore 4, 2) := dw_54 wX1_twinPairs_c 4 rfl
theorem dX1_twinPairs_29 : decode cX1_twinPairs 29 = .ok (.iconst 0, 1) := dw_3 wX1_twinPairs_c rfl
theorem dX1_twinPairs_30 : decode cX1_twinPairs 30 = .ok (.istore 5, 2) := dw_54 wX1_twinPairs_c 5 rfl
theorem dX1_twinPairs_32 : decode cX1_twinPairs 32 = .ok (.iload 5, 2) := dw_21 wX1_twinPairs_c 5 rfl
theorem dX1_twinPairs_34 : decode cX1_twinPairs 34 = .ok (.aload_n 0, 1) := dw_42 wX1_twinPairs_c rfl
theorem dX1_twinPairs_35 : decode cX1_twinPairs 35 = .ok (.getfield 34, 3) := dw_180 wX1_twinPairs_c 0 34 rfl rfl
theorem dX1_twinPairs_38 : decode cX1_twinPairs 38 = .ok (.if_icmp .ge 44, 3) := dw_162 wX1_twinPairs_c 0 44 rfl rfl rfl
theorem dX1_twinPairs_41 : decode cX1_twinPairs 41 = .ok (.aload_n 0, 1) := dw_42 wX1_twinPairs_c rfl
theorem dX1_twinPairs_42 : decode cX1_twinPairs 42 = .ok (.aload_n 0, 1) := dw_42 wX1_twinPairs_c rfl
theorem dX1_twinPairs_43 : decode cX1_twinPairs 43 = .ok (.getfield 27, 3) := dw_180 wX1_twinPairs_c 0 27 rfl rfl
theorem dX1_twinPairs_46 : decode cX1_twinPairs 46 = .ok (.iload 5, 2) := dw_21 wX1_twinPairs_c 5 rfl
theorem dX1_twinPairs_48 : decode cX1_twinPairs 48 = .ok (.iaload, 1) := dw_46 wX1_twinPairs_c rfl
theorem dX1_twinPairs_49 : decode cX1_twinPairs 49 = .ok (.iload_n 1, 1) := dw_27 wX1_twinPairs_c rfl
theorem dX1_twinPairs_50 : decode cX1_twinPairs 50 = .ok (.iload_n 2, 1) := dw_28 wX1_twinPairs_c rfl
theorem dX1_twinPairs_51 : decode cX1_twinPairs 51 = .ok (.iload_n 3, 1) := dw_29 wX1_twinPairs_c rfl
theorem dX1_twinPairs_52 : decode cX1_twinPairs 52 = .ok (.invokevirtual 38, 3) := dw_182 wX1_twinPairs_c 0 38 rfl rfl
theorem dX1_twinPairs_55 : decode cX1_twinPairs 55 = .ok (.ifCond .eq 21, 3) := dw_153 wX1_twinPairs_c 0 21 rfl rfl rfl
theorem dX1_twinPairs_58 : decode cX1_twinPairs 58 = .ok (.aload_n 0, 1) := dw_42 wX1_twinPairs_c rfl
theorem dX1_twinPairs_59 : decode cX1_twinPairs 59 = .ok (.aload_n 0, 1) := dw_42 wX1_twinPairs_c rfl
theorem dX1_twinPairs_60 : decode cX1_twinPairs 60 = .ok (.getfield 27, 3) := dw_180 wX1_twinPairs_c 0 27 rfl rfl
theorem dX1_twinPairs_63 : decode cX1_twinPairs 63 = .ok (.iload 5, 2) := dw_21 wX1_twinPairs_c 5 rfl
theorem dX1_twinPairs_65 : decode cX1_twinPairs 65 = .ok (.iaload, 1) := dw_46 wX1_twinPairs_c rfl
theorem dX1_twinPairs_66 : decode cX1_twinPairs 66 = .ok (.iload_n 3, 1) := dw_29 wX1_twinPairs_c rfl
theorem dX1_twinPairs_67 : decode cX1_twinPairs 67 = .ok (.invokevirtual 42, 3) := dw_182 wX1_twinPairs_c 0 42 rfl rfl
theorem dX1_twinPairs_70 : decode cX1_twinPairs 70 = .ok (.ifCond .eq 6, 3) := dw_153 wX1_twinPairs_c 0 6 rfl rfl rfl
theorem dX1_twinPairs_73 : decode cX1_twinPairs 73 = .ok (.iinc 4 1, 3) := dw_132 wX1_twinPairs_c 4 1 rfl rfl rfl
theorem dX1_twinPairs_76 : decode cX1_twinPairs 76 = .ok (.iinc 5 1, 3) := dw_132 wX1_twinPairs_c 5 1 rfl rfl rfl
theorem dX1_twinPairs_79 : decode cX1_twinPairs 79 = .ok (.goto (-47), 3) := dn_167 wX1_twinPairs_c 255 209 rfl (by decide)
theorem dX1_twinPairs_82 : decode cX1_twinPairs 82 = .ok (.iload 4, 2) := dw_21 wX1_twinPairs_c 4 rfl
theorem dX1_twinPairs_84 : decode cX1_twinPairs 84 = .ok (.ireturn, 1) := dw_172 wX1_twinPairs_c rfl
def wNX1_addLine : Nat := 2294533284658615587921922248063518052703235432900686832509032050510528250770552276822964891577159822722876893239500279057310277302156607249065694891653516656988638674477155420667410649674285842237085327783748098787158977065166628369365204584605168779160526962124901184559525675186460971506026923957320233753725648681604325880874
theorem wX1_addLine_c : hz_cd cX1_addLine wNX1_addLine 136 := ⟨by decide +kernel, by decide +kernel⟩
theorem dX1_addLine_0 : decode cX1_addLine 0 = .ok (.aload_n 0, 1) := dw_42 wX1_addLine_c rfl
theorem dX1_addLine_1 : decode cX1_addLine 1 = .ok (.getfield 34, 3) := dw_180 wX1_addLine_c 0 34 rfl rfl
theorem dX1_addLine_4 : decode cX1_addLine 4 = .ok (.sipush 400, 3) := dw_17 wX1_addLine_c 1 144 rfl rfl rfl
theorem dX1_addLine_7 : decode cX1_addLine 7 = .ok (.if_icmp .lt 4, 3) := dw_161 wX1_addLine_c 0 4 rfl rfl rfl
theorem dX1_addLine_11 : decode cX1_addLine 11 = .ok (.aload_n 0, 1) := dw_42 wX1_addLine_c rfl
theorem dX1_addLine_12 : decode cX1_addLine 12 = .ok (.getfield 9, 3) := dw_180 wX1_addLine_c 0 9 rfl rfl
theorem dX1_addLine_15 : decode cX1_addLine 15 = .ok (.aload_n 0, 1) := dw_42 wX1_addLine_c rfl
theorem dX1_addLine_16 : decode cX1_addLine 16 = .ok (.getfield 34, 3) := dw_180 wX1_addLine_c 0 34 rfl rfl
theorem dX1_addLine_19 : decode cX1_addLine 19 = .ok (.iload_n 1, 1) := dw_27 wX1_addLine_c rfl
theorem dX1_addLine_20 : decode cX1_addLine 20 = .ok (.iastore, 1) := dw_79 wX1_addLine_c rfl
theorem dX1_addLine_21 : decode cX1_addLine 21 = .ok (.aload_n 0, 1) := dw_42 wX1_addLine_c rfl
theorem dX1_addLine_22 : decode cX1_addLine 22 = .ok (.getfield 15, 3) := dw_180 wX1_addLine_c 0 15 rfl rfl
theorem dX1_addLine_25 : decode cX1_addLine 25 = .ok (.aload_n 0, 1) := dw_42 wX1_addLine_c rfl
theorem dX1_addLine_26 : decode cX1_addLine 26 = .ok (.getfield 34, 3) := dw_180 wX1_addLine_c 0 34 rfl rfl
theorem dX1_addLine_29 : decode cX1_addLine 29 = .ok (.iload_n 2, 1) := dw_28 wX1_addLine_c rfl
theorem dX1_addLine_30 : decode cX1_addLine 30 = .ok (.iastore, 1) := dw_79 wX1_addLine_c rfl
theorem dX1_addLine_31 : decode cX1_addLine 31 = .ok (.aload_n 0, 1) := dw_42 wX1_addLine_c rfl
theorem dX1_addLine_32 : decode cX1_addLine 32 = .ok (.getfield 18, 3) := dw_180 wX1_addLine_c 0 18 rfl rfl
theorem dX1_addLine_35 : decode cX1_addLine 35 = .ok (.aload_n 0, 1) := dw_42 wX1_addLine_c rfl
theorem dX1_addLine_36 : decode cX1_addLine 36 = .ok (.getfield 34, 3) := dw_180 wX1_addLine_c 0 34 rfl rfl
theorem dX1_addLine_39 : decode cX1_addLine 39 = .ok (.iload_n 3, 1) := dw_29 wX1_addLine_c rfl
theorem dX1_addLine_40 : decode cX1_addLine 40 = .ok (.iastore, 1) := dw_79 wX1_addLine_c rfl
theorem dX1_addLine_41 : decode cX1_addLine 41 = .ok (.aload_n 0, 1) := dw_42 wX1_addLine_c rfl
theorem dX1_addLine_42 : decode cX1_addLine 42 = .ok (.getfield 21, 3) := dw_180 wX1_addLine_c 0 21 rfl rfl
theorem dX1_addLine_45 : decode cX1_addLine 45 = .ok (.aload_n 0, 1) := dw_42 wX1_addLine_c rfl
theorem dX1_addLine_46 : decode cX1_addLine 46 = .ok (.getfield 34, 3) := dw_180 wX1_addLine_c 0 34 rfl rfl
theorem dX1_addLine_49 : decode cX1_addLine 49 = .ok (.iload 4, 2) := dw_21 wX1_addLine_c 4 rfl
theorem dX1_addLine_51 : decode cX1_addLine 51 = .ok (.iastore, 1) := dw_79 wX1_addLine_c rfl
theorem dX1_addLine_52 : decode cX1_addLine 52 = .ok (.aload_n 0, 1) := dw_42 wX1_addLine_c rfl
theorem dX1_addLine_53 : decode cX1_addLine 53 = .ok (.getfield 24, 3) := dw_180 wX1_addLine_c 0 24 rfl rfl
theorem dX1_addLine_56 : decode cX1_addLine 56 = .ok (.aload_n 0, 1) := dw_42 wX1_addLine_c rfl
theorem dX1_addLine_57 : decode cX1_addLine 57 = .ok (.getfield 34, 3) := dw_180 wX1_addLine_c 0 34 rfl rfl
theorem dX1_addLine_60 : decode cX1_addLine 60 = .ok (.iload 5, 2) := dw_21 wX1_addLine_c 5 rfl
theorem dX1_addLine_62 : decode cX1_addLine 62 = .ok (.iastore, 1) := dw_79 wX1_addLine_c rfl
theorem dX1_addLine_63 : decode cX1_addLine 63 = .ok (.aload_n 0, 1) := dw_42 wX1_addLine_c rfl
theorem dX1_addLine_64 : decode cX1_addLine 64 = .ok (.getfield 34, 3) := dw_180 wX1_addLine_c 0 34 rfl rfl
theorem dX1_addLine_67 : decode cX1_addLine 67 = .ok (.istore 6, 2) := dw_54 wX1_addLine_c 6 rfl
theorem dX1_addLine_69 : decode cX1_addLine 69 = .ok (.iload 6, 2) := dw_21 wX1_addLine_c 6 rfl
theorem dX1_addLine_71 : decode cX1_addLine 71 = .ok (.ifCond .le 43, 3) := dw_158 wX1_addLine_c 0 43 rfl rfl rfl
theorem dX1_addLine_74 : decode cX1_addLine 74 = .ok (.aload_n 0, 1) := dw_42 wX1_addLine_c rfl
theorem dX1_addLine_75 : decode cX1_addLine 75 = .ok (.getfield 18, 3) := dw_180 wX1_addLine_c 0 18 rfl rfl
theorem dX1_addLine_78 : decode cX1_addLine 78 = .ok (.aload_n 0, 1) := dw_42 wX1_addLine_c rfl
theorem dX1_addLine_79 : decode cX1_addLine 79 = .ok (.getfield 27, 3) := dw_180 wX1_addLine_c 0 27 rfl rfl
theorem dX1_addLine_82 : decode cX1_addLine 82 = .ok (.iload 6, 2) := dw_21 wX1_addLine_c 6 rfl
theorem dX1_addLine_84 : decode cX1_addLine 84 = .ok (.iconst 1, 1) := dw_4 wX1_addLine_c rfl
theorem dX1_addLine_85 : decode cX1_addLine 85 = .ok (.isub, 1) := dw_100 wX1_addLine_c rfl
theorem dX1_addLine_86 : decode cX1_addLine 86 = .ok (.iaload, 1) := dw_46 wX1_addLine_c rfl
theorem dX1_addLine_87 : decode cX1_addLine 87 = .ok (.iaload, 1) := dw_46 wX1_addLine_c rfl
theorem dX1_addLine_88 : decode cX1_addLine 88 = .ok (.iload_n 3, 1) := dw_29 wX1_addLine_c rfl
theorem dX1_addLine_89 : decode cX1_addLine 89 = .ok (.if_icmp .le 25, 3) := dw_164 wX1_addLine_c 0 25 rfl rfl rfl
theorem dX1_addLine_92 : decode cX1_addLine 92 = .ok (.aload_n 0, 1) := dw_42 wX1_addLine_c rfl
theorem dX1_addLine_93 : decode cX1_addLine 93 = .ok (.getfield 27, 3) := dw_180 wX1_addLine_c 0 27 rfl rfl
theorem dX1_addLine_96 : decode cX1_addLine 96 = .ok (.iload 6, 2) := dw_21 wX1_addLine_c 6 rfl
theorem dX1_addLine_98 : decode cX1_addLine 98 = .ok (.aload_n 0, 1) := dw_42 wX1_addLine_c rfl
theorem dX1_addLine_99 : decode cX1_addLine 99 = .ok (.getfield 27, 3) := dw_180 wX1_addLine_c 0 27 rfl rfl
theorem dX1_addLine_102 : decode cX1_addLine 102 = .ok (.iload 6, 2) := dw_21 wX1_addLine_c 6 rfl
theorem dX1_addLine_104 : decode cX1_addLine 104 = .ok (.iconst 1, 1) := dw_4 wX1_addLine_c rfl
theorem dX1_addLine_105 : decode cX1_addLine 105 = .ok (.isub, 1) := dw_100 wX1_addLine_c rfl
theorem dX1_addLine_106 : decode cX1_addLine 106 = .ok (.iaload, 1) := dw_46 wX1_addLine_c rfl
theorem dX1_addLine_107 : decode cX1_addLine 107 = .ok (.iastore, 1) := dw_79 wX1_addLine_c rfl
theorem dX1_addLine_108 : decode cX1_addLine 108 = .ok (.iinc 6 (-1), 3) := dn_132 wX1_addLine_c 6 255 rfl (by decide)
theorem dX1_addLine_111 : decode cX1_addLine 111 = .ok (.goto (-42), 3) := dn_167 wX1_addLine_c 255 214 rfl (by decide)
theorem dX1_addLine_114 : decode cX1_addLine 114 = .ok (.aload_n 0, 1) := dw_42 wX1_addLine_c rfl
theorem dX1_addLine_115 : decode cX1_addLine 115 = .ok (.getfield 27, 3) := dw_180 wX1_addLine_c 0 27 rfl rfl
theorem dX1_addLine_118 : decode cX1_addLine 118 = .ok (.iload 6, 2) := dw_21 wX1_addLine_c 6 rfl
theorem dX1_addLine_120 : decode cX1_addLine 120 = .ok (.aload_n 0, 1) := dw_42 wX1_addLine_c rfl
theorem dX1_addLine_121 : decode cX1_addLine 121 = .ok (.getfield 34, 3) := dw_180 wX1_addLine_c 0 34 rfl rfl
theorem dX1_addLine_124 : decode cX1_addLine 124 = .ok (.iastore, 1) := dw_79 wX1_addLine_c rfl
theorem dX1_addLine_125 : decode cX1_addLine 125 = .ok (.aload_n 0, 1) := dw_42 wX1_addLine_c rfl
theorem dX1_addLine_126 : decode cX1_addLine 126 = .ok (.dup, 1) := dw_89 wX1_addLine_c rfl
theorem dX1_addLine_127 : decode cX1_addLine 127 = .ok (.getfield 34, 3) := dw_180 wX1_addLine_c 0 34 rfl rfl
theorem dX1_addLine_130 : decode cX1_addLine 130 = .ok (.iconst 1, 1) := dw_4 wX1_addLine_c rfl
theorem dX1_addLine_131 : decode cX1_addLine 131 = .ok (.iadd, 1) := dw_96 wX1_addLine_c rfl
theorem dX1_addLine_132 : decode cX1_addLine 132 = .ok (.putfield 34, 3) := dw_181 wX1_addLine_c 0 34 rfl rfl
theorem dX1_addLine_135 : decode cX1_addLine 135 = .ok (.return_, 1) := dw_177 wX1_addLine_c rfl
end
