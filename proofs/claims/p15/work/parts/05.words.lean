/-! THE WORDS that the methods need, by their places in the tables -/
def hx_all : List Cond := lw_tbl.filter goodWord
theorem hx_ok : ∀ w ∈ hx_all, (w.onTables && w.keeps) = true ∨ ∃ ty, w = .arrayClass ty := fun w h => good_of_word (List.mem_filter.mp h).2
theorem hx_gA {y : MethodName} {cc : ByteArray} {n : Nat} {ret : Option FieldType} {ws : List Cond} (hc : Cond.code y cc n ret ∈ hx_all) (h : ∀ w ∈ ws, w ∈ hx_all) : GoodIn hx_all (ws ++ (Cond.code y cc n ret :: hx_all)) := by
  intro w hw
  have hw2 : w ∈ hx_all := by
    rcases List.mem_append.mp hw with q | q
    · exact h w q
    · rcases List.mem_cons.mp q with q | q
      · rw [q]; exact hc
      · exact q
  exact ⟨hw2, hx_ok w hw2⟩
theorem hx_gC {y : MethodName} {cc : ByteArray} {n : Nat} {ret : Option FieldType} (hc : Cond.code y cc n ret ∈ hx_all) : GoodIn hx_all (Cond.code y cc n ret :: hx_all) := hx_gA (ws := []) hc (fun _ h => by cases h)
theorem hx_gV {own : String} {idx : Nat} {C : String} {y : MethodName} {cc : ByteArray} {n : Nat} {ret : Option FieldType} (hc : Cond.code y cc n ret ∈ hx_all) (h1 : Cond.methodLink own idx y ∈ hx_all) (h2 : Cond.instanceMethod y ∈ hx_all) (h3 : Cond.selects C y y ∈ hx_all) (h4 : Cond.initialized C ∈ hx_all) : GoodIn hx_all (wsV own idx C y (Cond.code y cc n ret :: hx_all)) := by
  refine hx_gA hc (fun w hw => ?_)
  simp only [List.mem_cons, List.not_mem_nil, or_false] at hw
  rcases hw with rfl | rfl | rfl | rfl <;> assumption
theorem hx_gS {own : String} {idx : Nat} {y : MethodName} {cc : ByteArray} {n : Nat} {ret : Option FieldType} (hc : Cond.code y cc n ret ∈ hx_all) (h1 : Cond.methodLink own idx y ∈ hx_all) (h2 : Cond.static y ∈ hx_all) (h4 : Cond.initialized y.cls ∈ hx_all) : GoodIn hx_all (va_wsS own idx y (Cond.code y cc n ret :: hx_all)) := by
  refine hx_gA hc (fun w hw => ?_)
  simp only [List.mem_cons, List.not_mem_nil, or_false] at hw
  rcases hw with rfl | rfl | rfl <;> assumption
theorem kt_1 {w : Cond} (h : w ∈ tables_1_1) : w ∈ lw_tbl := List.mem_append_right _ (show w ∈ tables_1 from List.mem_append_left _ h)
theorem kt_2 {w : Cond} (h : w ∈ tables_1_2) : w ∈ lw_tbl := List.mem_append_right _ (show w ∈ tables_1 from List.mem_append_right _ (List.mem_append_left _ h))
theorem kt_3 {w : Cond} (h : w ∈ tables_1_3) : w ∈ lw_tbl := List.mem_append_right _ (show w ∈ tables_1 from List.mem_append_right _ (List.mem_append_right _ (List.mem_append_left _ h)))
theorem kt_4 {w : Cond} (h : w ∈ tables_1_4) : w ∈ lw_tbl := List.mem_append_right _ (show w ∈ tables_1 from List.mem_append_right _ (List.mem_append_right _ (List.mem_append_right _ (List.mem_append_left _ h))))
theorem kt_5 {w : Cond} (h : w ∈ tables_1_5) : w ∈ lw_tbl := List.mem_append_right _ (show w ∈ tables_1 from List.mem_append_right _ (List.mem_append_right _ (List.mem_append_right _ (List.mem_append_right _ (List.mem_append_left _ h)))))
theorem kt_6 {w : Cond} (h : w ∈ tables_1_6) : w ∈ lw_tbl := List.mem_append_right _ (show w ∈ tables_1 from List.mem_append_right _ (List.mem_append_right _ (List.mem_append_right _ (List.mem_append_right _ (List.mem_append_right _ (List.mem_append_left _ h))))))
theorem kt_7 {w : Cond} (h : w ∈ tables_1_7) : w ∈ lw_tbl := List.mem_append_right _ (show w ∈ tables_1 from List.mem_append_right _ (List.mem_append_right _ (List.mem_append_right _ (List.mem_append_right _ (List.mem_append_right _ (List.mem_append_right _ (h)))))))
theorem kt_0 {w : Cond} (i : Nat) (h : (k2_sels lw_privs)[i]? = some w) : w ∈ lw_tbl := List.mem_append_left _ (List.mem_of_getElem? h)
theorem kt_g {w : Cond} (h : w ∈ lw_tbl) (g : goodWord w = true) : w ∈ hx_all := List.mem_filter.mpr ⟨h, g⟩
theorem kw_19 : Cond.selects "SmallCourt" yX9_inForce yX9_inForce ∈ hx_all := kt_g (kt_0 19 rfl) rfl
theorem kw_20 : Cond.selects "SmallCourt" yX9_personAt yX9_personAt ∈ hx_all := kt_g (kt_0 20 rfl) rfl
theorem kw_22 : Cond.selects "SmallCourt$Books" yX1_isLine yX1_isLine ∈ hx_all := kt_g (kt_0 22 rfl) rfl
theorem kw_23 : Cond.selects "SmallCourt$Books" yX1_takeTwin yX1_takeTwin ∈ hx_all := kt_g (kt_0 23 rfl) rfl
theorem kw_24 : Cond.selects "SmallCourt$Books" yX1_areTwins yX1_areTwins ∈ hx_all := kt_g (kt_0 24 rfl) rfl
theorem kw_25 : Cond.selects "SmallCourt" yX9_claimAt yX9_claimAt ∈ hx_all := kt_g (kt_0 25 rfl) rfl
theorem kw_26 : Cond.selects "SmallCourt" yX9_drawBench yX9_drawBench ∈ hx_all := kt_g (kt_0 26 rfl) rfl
theorem kw_27 : Cond.selects "SmallCourt$Person" yX4_isKinOf yX4_isKinOf ∈ hx_all := kt_g (kt_0 27 rfl) rfl
theorem kw_28 : Cond.selects "SmallCourt" yX9_judgement yX9_judgement ∈ hx_all := kt_g (kt_0 28 rfl) rfl
theorem kw_29 : Cond.selects "SmallCourt" yX9_sumOfSplit yX9_sumOfSplit ∈ hx_all := kt_g (kt_0 29 rfl) rfl
theorem kw_48 : Cond.selects "SmallCourtModel" yX10_clears yX10_clears ∈ hx_all := kt_g (kt_0 48 rfl) rfl
theorem kw_49 : Cond.selects "SmallCourtModel" yX10_withoutProof yX10_withoutProof ∈ hx_all := kt_g (kt_0 49 rfl) rfl
theorem kw_50 : Cond.selects "SmallCourtModel" yX10_writes yX10_writes ∈ hx_all := kt_g (kt_0 50 rfl) rfl
theorem kw_51 : Cond.selects "SmallCourtModel" yX10_keepsProof yX10_keepsProof ∈ hx_all := kt_g (kt_0 51 rfl) rfl
theorem kw_65 : Cond.selects "SmallCourtModel" yX10_inForce yX10_inForce ∈ hx_all := kt_g (kt_0 65 rfl) rfl
theorem kw_66 : Cond.selects "SmallCourtModel" yX10_ruleOf yX10_ruleOf ∈ hx_all := kt_g (kt_0 66 rfl) rfl
theorem kw_67 : Cond.selects "SmallCourtModel" yX10_lives yX10_lives ∈ hx_all := kt_g (kt_0 67 rfl) rfl
theorem kw_68 : Cond.selects "SmallCourtModel" yX10_isPerson yX10_isPerson ∈ hx_all := kt_g (kt_0 68 rfl) rfl
theorem kw_69 : Cond.selects "SmallCourtModel" yX10_bookSum yX10_bookSum ∈ hx_all := kt_g (kt_0 69 rfl) rfl
theorem kw_70 : Cond.selects "SmallCourtModel" yX10_alike yX10_alike ∈ hx_all := kt_g (kt_0 70 rfl) rfl
theorem kw_71 : Cond.selects "SmallCourtModel" yX10_areTwins yX10_areTwins ∈ hx_all := kt_g (kt_0 71 rfl) rfl
theorem kw_73 : Cond.selects "SmallCourtModel" yX10_isClaim yX10_isClaim ∈ hx_all := kt_g (kt_0 73 rfl) rfl
theorem kw_74 : Cond.selects "SmallCourtModel" yX10_sits yX10_sits ∈ hx_all := kt_g (kt_0 74 rfl) rfl
theorem kw_75 : Cond.selects "SmallCourtModel" yX10_isKinOf yX10_isKinOf ∈ hx_all := kt_g (kt_0 75 rfl) rfl
theorem kw_76 : Cond.selects "SmallCourtModel" yX10_draws yX10_draws ∈ hx_all := kt_g (kt_0 76 rfl) rfl
theorem kw_77 : Cond.selects "SmallCourtModel" yX10_judges yX10_judges ∈ hx_all := kt_g (kt_0 77 rfl) rfl
theorem kw_78 : Cond.selects "SmallCourtModel" yX10_isSplit yX10_isSplit ∈ hx_all := kt_g (kt_0 78 rfl) rfl
theorem kw_79 : Cond.selects "SmallCourtModel" yX10_isProved yX10_isProved ∈ hx_all := kt_g (kt_0 79 rfl) rfl
theorem kw_80 : Cond.selects "SmallCourtModel" yX10_isSo yX10_isSo ∈ hx_all := kt_g (kt_0 80 rfl) rfl
theorem kw_94 : Cond.initialized "SmallCourt" ∈ hx_all := kt_g (kt_1 (List.mem_of_getElem? (i := 1) rfl)) rfl
theorem kw_95 : Cond.initialized "SmallCourt$Reader" ∈ hx_all := kt_g (kt_1 (List.mem_of_getElem? (i := 2) rfl)) rfl
theorem kw_96 : Cond.initialized "SmallCourt$Act" ∈ hx_all := kt_g (kt_1 (List.mem_of_getElem? (i := 3) rfl)) rfl
theorem kw_97 : Cond.initialized "java/lang/System" ∈ hx_all := kt_g (kt_1 (List.mem_of_getElem? (i := 4) rfl)) rfl
theorem kw_98 : Cond.initialized "SmallCourt$Books" ∈ hx_all := kt_g (kt_1 (List.mem_of_getElem? (i := 5) rfl)) rfl
theorem kw_99 : Cond.initialized "SmallCourt$Payments" ∈ hx_all := kt_g (kt_1 (List.mem_of_getElem? (i := 6) rfl)) rfl
theorem kw_100 : Cond.initialized "SmallCourt$Plan" ∈ hx_all := kt_g (kt_1 (List.mem_of_getElem? (i := 7) rfl)) rfl
theorem kw_101 : Cond.initialized "SmallCourt$Rings" ∈ hx_all := kt_g (kt_1 (List.mem_of_getElem? (i := 8) rfl)) rfl
theorem kw_102 : Cond.initialized "SmallCourt$Walk" ∈ hx_all := kt_g (kt_1 (List.mem_of_getElem? (i := 9) rfl)) rfl
theorem kw_103 : Cond.initialized "SmallCourtModel" ∈ hx_all := kt_g (kt_1 (List.mem_of_getElem? (i := 10) rfl)) rfl
theorem kw_108 : Cond.initialized "SmallCourt$Person" ∈ hx_all := kt_g (kt_1 (List.mem_of_getElem? (i := 15) rfl)) rfl
theorem kw_109 : Cond.initialized "java/lang/Math" ∈ hx_all := kt_g (kt_1 (List.mem_of_getElem? (i := 16) rfl)) rfl
theorem kw_110 : Cond.initialized "SmallCourt$Claim" ∈ hx_all := kt_g (kt_1 (List.mem_of_getElem? (i := 17) rfl)) rfl
theorem kw_116 : Cond.methodLink "SmallCourt" 3 Lib.objectInit ∈ hx_all := kt_g (kt_1 (List.mem_of_getElem? (i := 23) rfl)) rfl
theorem kw_117 : Cond.instanceMethod Lib.objectInit ∈ hx_all := kt_g (kt_1 (List.mem_of_getElem? (i := 24) rfl)) rfl
theorem kw_118 : Cond.code Lib.objectInit ⟨#[0xb1]⟩ 1 none ∈ hx_all := kt_g (kt_1 (List.mem_of_getElem? (i := 25) rfl)) rfl
theorem kw_119 : Cond.classLink "SmallCourt" 13 "SmallCourt$Reader" ∈ hx_all := kt_g (kt_1 (List.mem_of_getElem? (i := 26) rfl)) rfl
theorem kw_120 : Cond.instantiable "SmallCourt$Reader" 7 ∈ hx_all := kt_g (kt_1 (List.mem_of_getElem? (i := 27) rfl)) rfl
theorem kw_122 : Cond.instanceMethod yX6_init ∈ hx_all := kt_g (kt_1 (List.mem_of_getElem? (i := 29) rfl)) rfl
theorem kw_123 : Cond.code yX6_init cX6_init 1 none ∈ hx_all := kt_g (kt_1 (List.mem_of_getElem? (i := 30) rfl)) rfl
theorem kw_124 : Cond.methodLink "SmallCourt$Reader" 3 Lib.objectInit ∈ hx_all := kt_g (kt_1 (List.mem_of_getElem? (i := 31) rfl)) rfl
theorem kw_125 : Cond.fieldLink "SmallCourt$Reader" 9 "SmallCourt$Reader" "text" "[B" ∈ hx_all := kt_g (kt_1 (List.mem_of_getElem? (i := 32) rfl)) rfl
theorem kw_132 : Cond.lays "SmallCourt$Reader" "SmallCourt$Reader" "text" "[B" ∈ hx_all := kt_g (kt_1 (List.mem_of_getElem? (i := 39) rfl)) rfl
theorem kw_134 : Cond.lays "SmallCourt$Reader" "SmallCourt$Reader" "length" "I" ∈ hx_all := kt_g (kt_1 (List.mem_of_getElem? (i := 41) rfl)) rfl
theorem kw_136 : Cond.lays "SmallCourt$Reader" "SmallCourt$Reader" "at" "I" ∈ hx_all := kt_g (kt_1 (List.mem_of_getElem? (i := 43) rfl)) rfl
theorem kw_138 : Cond.lays "SmallCourt$Reader" "SmallCourt$Reader" "fault" "I" ∈ hx_all := kt_g (kt_1 (List.mem_of_getElem? (i := 45) rfl)) rfl
theorem kw_140 : Cond.lays "SmallCourt$Reader" "SmallCourt$Reader" "toldOnce" "I" ∈ hx_all := kt_g (kt_1 (List.mem_of_getElem? (i := 47) rfl)) rfl
theorem kw_142 : Cond.lays "SmallCourt$Reader" "SmallCourt$Reader" "terms" "I" ∈ hx_all := kt_g (kt_1 (List.mem_of_getElem? (i := 49) rfl)) rfl
theorem kw_144 : Cond.lays "SmallCourt$Reader" "SmallCourt$Reader" "into" "LSmallCourt$Act;" ∈ hx_all := kt_g (kt_1 (List.mem_of_getElem? (i := 51) rfl)) rfl
theorem kw_147 : Cond.arrayClass .byte ∈ hx_all := kt_g (kt_1 (List.mem_of_getElem? (i := 54) rfl)) rfl
theorem kw_148 : Cond.classLink "SmallCourt" 20 "SmallCourt$Act" ∈ hx_all := kt_g (kt_1 (List.mem_of_getElem? (i := 55) rfl)) rfl
theorem kw_149 : Cond.instantiable "SmallCourt$Act" 5 ∈ hx_all := kt_g (kt_1 (List.mem_of_getElem? (i := 56) rfl)) rfl
theorem kw_150 : Cond.methodLink "SmallCourt" 22 yX0_init ∈ hx_all := kt_g (kt_1 (List.mem_of_getElem? (i := 57) rfl)) rfl
theorem kw_151 : Cond.instanceMethod yX0_init ∈ hx_all := kt_g (kt_1 (List.mem_of_getElem? (i := 58) rfl)) rfl
theorem kw_152 : Cond.code yX0_init cX0_init 3 none ∈ hx_all := kt_g (kt_1 (List.mem_of_getElem? (i := 59) rfl)) rfl
theorem kw_153 : Cond.methodLink "SmallCourt$Act" 3 Lib.objectInit ∈ hx_all := kt_g (kt_1 (List.mem_of_getElem? (i := 60) rfl)) rfl
theorem kw_156 : Cond.methodLink "SmallCourt$Act" 28 arraycopyName ∈ hx_all := kt_g (kt_1 (List.mem_of_getElem? (i := 63) rfl)) rfl
theorem kw_157 : Cond.static arraycopyName ∈ hx_all := kt_g (kt_1 (List.mem_of_getElem? (i := 64) rfl)) rfl
theorem kw_158 : Cond.native arraycopyName ∈ hx_all := kt_g (kt_1 (List.mem_of_getElem? (i := 65) rfl)) rfl
theorem kw_159 : Cond.methodLink "SmallCourt$Act" 34 yX0_term ∈ hx_all := kt_g (kt_1 (List.mem_of_getElem? (i := 66) rfl)) rfl
theorem kw_160 : Cond.static yX0_term ∈ hx_all := kt_g (kt_1 (List.mem_of_getElem? (i := 67) rfl)) rfl
theorem kw_161 : Cond.code yX0_term cX0_term 4 (some .int) ∈ hx_all := kt_g (kt_1 (List.mem_of_getElem? (i := 68) rfl)) rfl
theorem kw_162 : Cond.fieldLink "SmallCourt$Act" 18 "SmallCourt$Act" "number" "I" ∈ hx_all := kt_g (kt_1 (List.mem_of_getElem? (i := 69) rfl)) rfl
theorem kw_164 : Cond.fieldLink "SmallCourt$Act" 22 "SmallCourt$Act" "day" "I" ∈ hx_all := kt_g (kt_1 (List.mem_of_getElem? (i := 71) rfl)) rfl
theorem kw_165 : Cond.fieldLink "SmallCourt" 122 "SmallCourt$Act" "day" "I" ∈ hx_all := kt_g (kt_1 (List.mem_of_getElem? (i := 72) rfl)) rfl
theorem kw_166 : Cond.fieldLink "SmallCourt$Act" 9 "SmallCourt$Act" "told" "[I" ∈ hx_all := kt_g (kt_1 (List.mem_of_getElem? (i := 73) rfl)) rfl
theorem kw_167 : Cond.fieldLink "SmallCourt$Claim" 51 "SmallCourt$Act" "told" "[I" ∈ hx_all := kt_g (kt_1 (List.mem_of_getElem? (i := 74) rfl)) rfl
theorem kw_170 : Cond.fieldLink "SmallCourt" 119 "SmallCourt$Act" "told" "[I" ∈ hx_all := kt_g (kt_1 (List.mem_of_getElem? (i := 77) rfl)) rfl
theorem kw_172 : Cond.fieldLink "SmallCourt$Act" 15 "SmallCourt$Act" "proof" "[I" ∈ hx_all := kt_g (kt_1 (List.mem_of_getElem? (i := 79) rfl)) rfl
theorem kw_173 : Cond.fieldLink "SmallCourt$Act" 38 "SmallCourt$Act" "proofLength" "I" ∈ hx_all := kt_g (kt_1 (List.mem_of_getElem? (i := 80) rfl)) rfl
theorem kw_175 : Cond.laysFinal "SmallCourt$Act" "SmallCourt$Act" "number" "I" ∈ hx_all := kt_g (kt_1 (List.mem_of_getElem? (i := 82) rfl)) rfl
theorem kw_177 : Cond.laysFinal "SmallCourt$Act" "SmallCourt$Act" "day" "I" ∈ hx_all := kt_g (kt_1 (List.mem_of_getElem? (i := 84) rfl)) rfl
theorem kw_179 : Cond.laysFinal "SmallCourt$Act" "SmallCourt$Act" "told" "[I" ∈ hx_all := kt_g (kt_1 (List.mem_of_getElem? (i := 86) rfl)) rfl
theorem kw_181 : Cond.laysFinal "SmallCourt$Act" "SmallCourt$Act" "proof" "[I" ∈ hx_all := kt_g (kt_1 (List.mem_of_getElem? (i := 88) rfl)) rfl
theorem kw_183 : Cond.lays "SmallCourt$Act" "SmallCourt$Act" "proofLength" "I" ∈ hx_all := kt_g (kt_1 (List.mem_of_getElem? (i := 90) rfl)) rfl
theorem kw_186 : Cond.arrayClass .int ∈ hx_all := kt_g (kt_1 (List.mem_of_getElem? (i := 93) rfl)) rfl
theorem kw_188 : Cond.classLink "SmallCourt" 33 "SmallCourt$Person" ∈ hx_all := kt_g (kt_1 (List.mem_of_getElem? (i := 95) rfl)) rfl
theorem kw_190 : Cond.classLink "SmallCourt" 39 "SmallCourt$Books" ∈ hx_all := kt_g (kt_1 (List.mem_of_getElem? (i := 97) rfl)) rfl
theorem kw_191 : Cond.instantiable "SmallCourt$Books" 8 ∈ hx_all := kt_g (kt_1 (List.mem_of_getElem? (i := 98) rfl)) rfl
theorem kw_193 : Cond.instanceMethod yX1_init ∈ hx_all := kt_g (kt_1 (List.mem_of_getElem? (i := 100) rfl)) rfl
theorem kw_194 : Cond.code yX1_init cX1_init 1 none ∈ hx_all := kt_g (kt_1 (List.mem_of_getElem? (i := 101) rfl)) rfl
theorem kw_195 : Cond.methodLink "SmallCourt$Books" 3 Lib.objectInit ∈ hx_all := kt_g (kt_1 (List.mem_of_getElem? (i := 102) rfl)) rfl
theorem kw_196 : Cond.fieldLink "SmallCourt$Books" 34 "SmallCourt$Books" "count" "I" ∈ hx_all := kt_g (kt_1 (List.mem_of_getElem? (i := 103) rfl)) rfl
theorem kw_198 : Cond.fieldLink "SmallCourt$Books" 9 "SmallCourt$Books" "owner" "[I" ∈ hx_all := kt_g (kt_1 (List.mem_of_getElem? (i := 105) rfl)) rfl
theorem kw_199 : Cond.fieldLink "SmallCourt$Books" 15 "SmallCourt$Books" "with" "[I" ∈ hx_all := kt_g (kt_1 (List.mem_of_getElem? (i := 106) rfl)) rfl
theorem kw_200 : Cond.fieldLink "SmallCourt$Books" 18 "SmallCourt$Books" "day" "[I" ∈ hx_all := kt_g (kt_1 (List.mem_of_getElem? (i := 107) rfl)) rfl
theorem kw_201 : Cond.fieldLink "SmallCourt$Books" 21 "SmallCourt$Books" "kind" "[I" ∈ hx_all := kt_g (kt_1 (List.mem_of_getElem? (i := 108) rfl)) rfl
theorem kw_202 : Cond.fieldLink "SmallCourt$Books" 24 "SmallCourt$Books" "sum" "[I" ∈ hx_all := kt_g (kt_1 (List.mem_of_getElem? (i := 109) rfl)) rfl
theorem kw_203 : Cond.fieldLink "SmallCourt$Books" 27 "SmallCourt$Books" "byDay" "[I" ∈ hx_all := kt_g (kt_1 (List.mem_of_getElem? (i := 110) rfl)) rfl
theorem kw_204 : Cond.fieldLink "SmallCourt$Books" 30 "SmallCourt$Books" "taken" "[Z" ∈ hx_all := kt_g (kt_1 (List.mem_of_getElem? (i := 111) rfl)) rfl
theorem kw_205 : Cond.lays "SmallCourt$Books" "SmallCourt$Books" "count" "I" ∈ hx_all := kt_g (kt_1 (List.mem_of_getElem? (i := 112) rfl)) rfl
theorem kw_207 : Cond.laysFinal "SmallCourt$Books" "SmallCourt$Books" "owner" "[I" ∈ hx_all := kt_g (kt_1 (List.mem_of_getElem? (i := 114) rfl)) rfl
theorem kw_209 : Cond.laysFinal "SmallCourt$Books" "SmallCourt$Books" "with" "[I" ∈ hx_all := kt_g (kt_1 (List.mem_of_getElem? (i := 116) rfl)) rfl
theorem kw_211 : Cond.laysFinal "SmallCourt$Books" "SmallCourt$Books" "day" "[I" ∈ hx_all := kt_g (kt_1 (List.mem_of_getElem? (i := 118) rfl)) rfl
theorem kw_213 : Cond.laysFinal "SmallCourt$Books" "SmallCourt$Books" "kind" "[I" ∈ hx_all := kt_g (kt_1 (List.mem_of_getElem? (i := 120) rfl)) rfl
theorem kw_215 : Cond.laysFinal "SmallCourt$Books" "SmallCourt$Books" "sum" "[I" ∈ hx_all := kt_g (kt_1 (List.mem_of_getElem? (i := 122) rfl)) rfl
theorem kw_217 : Cond.laysFinal "SmallCourt$Books" "SmallCourt$Books" "byDay" "[I" ∈ hx_all := kt_g (kt_1 (List.mem_of_getElem? (i := 124) rfl)) rfl
theorem kw_219 : Cond.laysFinal "SmallCourt$Books" "SmallCourt$Books" "taken" "[Z" ∈ hx_all := kt_g (kt_1 (List.mem_of_getElem? (i := 126) rfl)) rfl
theorem kw_222 : Cond.arrayClass .boolean ∈ hx_all := kt_g (kt_1 (List.mem_of_getElem? (i := 129) rfl)) rfl
theorem kw_223 : Cond.classLink "SmallCourt" 46 "SmallCourt$Claim" ∈ hx_all := kt_g (kt_1 (List.mem_of_getElem? (i := 130) rfl)) rfl
theorem kw_225 : Cond.classLink "SmallCourt" 55 "SmallCourt$Payments" ∈ hx_all := kt_g (kt_1 (List.mem_of_getElem? (i := 132) rfl)) rfl
theorem kw_226 : Cond.instantiable "SmallCourt$Payments" 6 ∈ hx_all := kt_g (kt_1 (List.mem_of_getElem? (i := 133) rfl)) rfl
theorem kw_228 : Cond.instanceMethod yX3_init ∈ hx_all := kt_g (kt_1 (List.mem_of_getElem? (i := 135) rfl)) rfl
theorem kw_229 : Cond.code yX3_init cX3_init 1 none ∈ hx_all := kt_g (kt_1 (List.mem_of_getElem? (i := 136) rfl)) rfl
theorem kw_230 : Cond.methodLink "SmallCourt$Payments" 3 Lib.objectInit ∈ hx_all := kt_g (kt_1 (List.mem_of_getElem? (i := 137) rfl)) rfl
theorem kw_233 : Cond.fieldLink "SmallCourt$Payments" 9 "SmallCourt$Payments" "struck" "[I" ∈ hx_all := kt_g (kt_1 (List.mem_of_getElem? (i := 140) rfl)) rfl
theorem kw_235 : Cond.fieldLink "SmallCourt$Payments" 15 "SmallCourt$Payments" "of" "[I" ∈ hx_all := kt_g (kt_1 (List.mem_of_getElem? (i := 142) rfl)) rfl
theorem kw_236 : Cond.fieldLink "SmallCourt$Payments" 18 "SmallCourt$Payments" "day" "[I" ∈ hx_all := kt_g (kt_1 (List.mem_of_getElem? (i := 143) rfl)) rfl
theorem kw_237 : Cond.fieldLink "SmallCourt$Payments" 21 "SmallCourt$Payments" "known" "[I" ∈ hx_all := kt_g (kt_1 (List.mem_of_getElem? (i := 144) rfl)) rfl
theorem kw_238 : Cond.fieldLink "SmallCourt$Payments" 24 "SmallCourt$Payments" "sum" "[I" ∈ hx_all := kt_g (kt_1 (List.mem_of_getElem? (i := 145) rfl)) rfl
theorem kw_239 : Cond.lays "SmallCourt$Payments" "SmallCourt$Payments" "count" "I" ∈ hx_all := kt_g (kt_1 (List.mem_of_getElem? (i := 146) rfl)) rfl
theorem kw_241 : Cond.laysFinal "SmallCourt$Payments" "SmallCourt$Payments" "struck" "[I" ∈ hx_all := kt_g (kt_1 (List.mem_of_getElem? (i := 148) rfl)) rfl
theorem kw_243 : Cond.laysFinal "SmallCourt$Payments" "SmallCourt$Payments" "of" "[I" ∈ hx_all := kt_g (kt_1 (List.mem_of_getElem? (i := 150) rfl)) rfl
theorem kw_245 : Cond.laysFinal "SmallCourt$Payments" "SmallCourt$Payments" "day" "[I" ∈ hx_all := kt_g (kt_1 (List.mem_of_getElem? (i := 152) rfl)) rfl
theorem kw_247 : Cond.laysFinal "SmallCourt$Payments" "SmallCourt$Payments" "known" "[I" ∈ hx_all := kt_g (kt_1 (List.mem_of_getElem? (i := 154) rfl)) rfl
theorem kw_249 : Cond.laysFinal "SmallCourt$Payments" "SmallCourt$Payments" "sum" "[I" ∈ hx_all := kt_g (kt_1 (List.mem_of_getElem? (i := 156) rfl)) rfl
theorem kw_252 : Cond.classLink "SmallCourt" 69 "SmallCourt$Plan" ∈ hx_all := kt_g (kt_1 (List.mem_of_getElem? (i := 159) rfl)) rfl
theorem kw_253 : Cond.instantiable "SmallCourt$Plan" 13 ∈ hx_all := kt_g (kt_1 (List.mem_of_getElem? (i := 160) rfl)) rfl
theorem kw_255 : Cond.instanceMethod yX5_init ∈ hx_all := kt_g (kt_1 (List.mem_of_getElem? (i := 162) rfl)) rfl
theorem kw_256 : Cond.code yX5_init cX5_init 1 none ∈ hx_all := kt_g (kt_1 (List.mem_of_getElem? (i := 163) rfl)) rfl
theorem kw_257 : Cond.methodLink "SmallCourt$Plan" 3 Lib.objectInit ∈ hx_all := kt_g (kt_1 (List.mem_of_getElem? (i := 164) rfl)) rfl
theorem kw_262 : Cond.fieldLink "SmallCourt$Plan" 9 "SmallCourt$Plan" "claims" "[I" ∈ hx_all := kt_g (kt_1 (List.mem_of_getElem? (i := 169) rfl)) rfl
theorem kw_264 : Cond.fieldLink "SmallCourt$Plan" 15 "SmallCourt$Plan" "weekly" "[I" ∈ hx_all := kt_g (kt_1 (List.mem_of_getElem? (i := 171) rfl)) rfl
theorem kw_266 : Cond.fieldLink "SmallCourt$Plan" 18 "SmallCourt$Plan" "weeks" "[I" ∈ hx_all := kt_g (kt_1 (List.mem_of_getElem? (i := 173) rfl)) rfl
theorem kw_268 : Cond.fieldLink "SmallCourt$Plan" 21 "SmallCourt$Plan" "opened" "[I" ∈ hx_all := kt_g (kt_1 (List.mem_of_getElem? (i := 175) rfl)) rfl
theorem kw_269 : Cond.fieldLink "SmallCourt$Plan" 24 "SmallCourt$Plan" "rest" "[I" ∈ hx_all := kt_g (kt_1 (List.mem_of_getElem? (i := 176) rfl)) rfl
theorem kw_270 : Cond.fieldLink "SmallCourt$Plan" 27 "SmallCourt$Plan" "least" "[I" ∈ hx_all := kt_g (kt_1 (List.mem_of_getElem? (i := 177) rfl)) rfl
theorem kw_271 : Cond.fieldLink "SmallCourt$Plan" 30 "SmallCourt$Plan" "tried" "[I" ∈ hx_all := kt_g (kt_1 (List.mem_of_getElem? (i := 178) rfl)) rfl
theorem kw_276 : Cond.lays "SmallCourt$Plan" "SmallCourt$Plan" "open" "I" ∈ hx_all := kt_g (kt_1 (List.mem_of_getElem? (i := 183) rfl)) rfl
theorem kw_278 : Cond.lays "SmallCourt$Plan" "SmallCourt$Plan" "told" "I" ∈ hx_all := kt_g (kt_1 (List.mem_of_getElem? (i := 185) rfl)) rfl
theorem kw_280 : Cond.laysFinal "SmallCourt$Plan" "SmallCourt$Plan" "claims" "[I" ∈ hx_all := kt_g (kt_1 (List.mem_of_getElem? (i := 187) rfl)) rfl
theorem kw_282 : Cond.laysFinal "SmallCourt$Plan" "SmallCourt$Plan" "weekly" "[I" ∈ hx_all := kt_g (kt_1 (List.mem_of_getElem? (i := 189) rfl)) rfl
theorem kw_284 : Cond.laysFinal "SmallCourt$Plan" "SmallCourt$Plan" "weeks" "[I" ∈ hx_all := kt_g (kt_1 (List.mem_of_getElem? (i := 191) rfl)) rfl
theorem kw_286 : Cond.laysFinal "SmallCourt$Plan" "SmallCourt$Plan" "opened" "[I" ∈ hx_all := kt_g (kt_1 (List.mem_of_getElem? (i := 193) rfl)) rfl
theorem kw_288 : Cond.laysFinal "SmallCourt$Plan" "SmallCourt$Plan" "rest" "[I" ∈ hx_all := kt_g (kt_1 (List.mem_of_getElem? (i := 195) rfl)) rfl
theorem kw_290 : Cond.laysFinal "SmallCourt$Plan" "SmallCourt$Plan" "least" "[I" ∈ hx_all := kt_g (kt_1 (List.mem_of_getElem? (i := 197) rfl)) rfl
theorem kw_292 : Cond.laysFinal "SmallCourt$Plan" "SmallCourt$Plan" "tried" "[I" ∈ hx_all := kt_g (kt_1 (List.mem_of_getElem? (i := 199) rfl)) rfl
theorem kw_294 : Cond.lays "SmallCourt$Plan" "SmallCourt$Plan" "unit" "I" ∈ hx_all := kt_g (kt_1 (List.mem_of_getElem? (i := 201) rfl)) rfl
theorem kw_296 : Cond.lays "SmallCourt$Plan" "SmallCourt$Plan" "means" "I" ∈ hx_all := kt_g (kt_1 (List.mem_of_getElem? (i := 203) rfl)) rfl
theorem kw_298 : Cond.lays "SmallCourt$Plan" "SmallCourt$Plan" "bestLast" "I" ∈ hx_all := kt_g (kt_1 (List.mem_of_getElem? (i := 205) rfl)) rfl
theorem kw_300 : Cond.lays "SmallCourt$Plan" "SmallCourt$Plan" "bestAll" "I" ∈ hx_all := kt_g (kt_1 (List.mem_of_getElem? (i := 207) rfl)) rfl
theorem kw_303 : Cond.classLink "SmallCourt" 76 "SmallCourt$Rings" ∈ hx_all := kt_g (kt_1 (List.mem_of_getElem? (i := 210) rfl)) rfl
theorem kw_304 : Cond.instantiable "SmallCourt$Rings" 8 ∈ hx_all := kt_g (kt_1 (List.mem_of_getElem? (i := 211) rfl)) rfl
theorem kw_306 : Cond.instanceMethod yX7_init ∈ hx_all := kt_g (kt_1 (List.mem_of_getElem? (i := 213) rfl)) rfl
theorem kw_307 : Cond.code yX7_init cX7_init 1 none ∈ hx_all := kt_g (kt_1 (List.mem_of_getElem? (i := 214) rfl)) rfl
theorem kw_308 : Cond.methodLink "SmallCourt$Rings" 3 Lib.objectInit ∈ hx_all := kt_g (kt_1 (List.mem_of_getElem? (i := 215) rfl)) rfl
theorem kw_309 : Cond.fieldLink "SmallCourt$Rings" 9 "SmallCourt$Rings" "count" "I" ∈ hx_all := kt_g (kt_1 (List.mem_of_getElem? (i := 216) rfl)) rfl
theorem kw_315 : Cond.fieldLink "SmallCourt$Rings" 15 "SmallCourt$Rings" "leasts" "[I" ∈ hx_all := kt_g (kt_1 (List.mem_of_getElem? (i := 222) rfl)) rfl
theorem kw_318 : Cond.fieldLink "SmallCourt$Rings" 19 "SmallCourt$Rings" "owes" "[I" ∈ hx_all := kt_g (kt_1 (List.mem_of_getElem? (i := 225) rfl)) rfl
theorem kw_319 : Cond.fieldLink "SmallCourt$Rings" 22 "SmallCourt$Rings" "ring" "[I" ∈ hx_all := kt_g (kt_1 (List.mem_of_getElem? (i := 226) rfl)) rfl
theorem kw_320 : Cond.fieldLink "SmallCourt$Rings" 25 "SmallCourt$Rings" "best" "[I" ∈ hx_all := kt_g (kt_1 (List.mem_of_getElem? (i := 227) rfl)) rfl
theorem kw_321 : Cond.lays "SmallCourt$Rings" "SmallCourt$Rings" "count" "I" ∈ hx_all := kt_g (kt_1 (List.mem_of_getElem? (i := 228) rfl)) rfl
theorem kw_323 : Cond.lays "SmallCourt$Rings" "SmallCourt$Rings" "bestLength" "I" ∈ hx_all := kt_g (kt_1 (List.mem_of_getElem? (i := 230) rfl)) rfl
theorem kw_325 : Cond.lays "SmallCourt$Rings" "SmallCourt$Rings" "bestLeast" "I" ∈ hx_all := kt_g (kt_1 (List.mem_of_getElem? (i := 232) rfl)) rfl
theorem kw_327 : Cond.laysFinal "SmallCourt$Rings" "SmallCourt$Rings" "leasts" "[I" ∈ hx_all := kt_g (kt_1 (List.mem_of_getElem? (i := 234) rfl)) rfl
theorem kw_329 : Cond.lays "SmallCourt$Rings" "SmallCourt$Rings" "size" "I" ∈ hx_all := kt_g (kt_1 (List.mem_of_getElem? (i := 236) rfl)) rfl
theorem kw_331 : Cond.laysFinal "SmallCourt$Rings" "SmallCourt$Rings" "owes" "[I" ∈ hx_all := kt_g (kt_1 (List.mem_of_getElem? (i := 238) rfl)) rfl
theorem kw_333 : Cond.laysFinal "SmallCourt$Rings" "SmallCourt$Rings" "ring" "[I" ∈ hx_all := kt_g (kt_2 (List.mem_of_getElem? (i := 0) rfl)) rfl
theorem kw_335 : Cond.laysFinal "SmallCourt$Rings" "SmallCourt$Rings" "best" "[I" ∈ hx_all := kt_g (kt_2 (List.mem_of_getElem? (i := 2) rfl)) rfl
theorem kw_338 : Cond.classLink "SmallCourt" 83 "SmallCourt$Walk" ∈ hx_all := kt_g (kt_2 (List.mem_of_getElem? (i := 5) rfl)) rfl
theorem kw_339 : Cond.instantiable "SmallCourt$Walk" 5 ∈ hx_all := kt_g (kt_2 (List.mem_of_getElem? (i := 6) rfl)) rfl
theorem kw_341 : Cond.instanceMethod yX8_init ∈ hx_all := kt_g (kt_2 (List.mem_of_getElem? (i := 8) rfl)) rfl
theorem kw_342 : Cond.code yX8_init cX8_init 1 none ∈ hx_all := kt_g (kt_2 (List.mem_of_getElem? (i := 9) rfl)) rfl
theorem kw_343 : Cond.methodLink "SmallCourt$Walk" 3 Lib.objectInit ∈ hx_all := kt_g (kt_2 (List.mem_of_getElem? (i := 10) rfl)) rfl
theorem kw_344 : Cond.classLink "SmallCourt$Walk" 15 "SmallCourt$Claim" ∈ hx_all := kt_g (kt_2 (List.mem_of_getElem? (i := 11) rfl)) rfl
theorem kw_349 : Cond.fieldLink "SmallCourt$Walk" 9 "SmallCourt$Walk" "latest" "[I" ∈ hx_all := kt_g (kt_2 (List.mem_of_getElem? (i := 16) rfl)) rfl
theorem kw_351 : Cond.fieldLink "SmallCourt$Walk" 17 "SmallCourt$Walk" "list" "[LSmallCourt$Claim;" ∈ hx_all := kt_g (kt_2 (List.mem_of_getElem? (i := 18) rfl)) rfl
theorem kw_352 : Cond.fieldLink "SmallCourt$Walk" 21 "SmallCourt$Walk" "left" "[I" ∈ hx_all := kt_g (kt_2 (List.mem_of_getElem? (i := 19) rfl)) rfl
theorem kw_353 : Cond.lays "SmallCourt$Walk" "SmallCourt$Walk" "listed" "I" ∈ hx_all := kt_g (kt_2 (List.mem_of_getElem? (i := 20) rfl)) rfl
theorem kw_355 : Cond.lays "SmallCourt$Walk" "SmallCourt$Walk" "walked" "I" ∈ hx_all := kt_g (kt_2 (List.mem_of_getElem? (i := 22) rfl)) rfl
theorem kw_357 : Cond.laysFinal "SmallCourt$Walk" "SmallCourt$Walk" "latest" "[I" ∈ hx_all := kt_g (kt_2 (List.mem_of_getElem? (i := 24) rfl)) rfl
theorem kw_359 : Cond.laysFinal "SmallCourt$Walk" "SmallCourt$Walk" "list" "[LSmallCourt$Claim;" ∈ hx_all := kt_g (kt_2 (List.mem_of_getElem? (i := 26) rfl)) rfl
theorem kw_361 : Cond.laysFinal "SmallCourt$Walk" "SmallCourt$Walk" "left" "[I" ∈ hx_all := kt_g (kt_2 (List.mem_of_getElem? (i := 28) rfl)) rfl
theorem kw_364 : Cond.fieldLink "SmallCourt" 9 "SmallCourt" "tape" "[B" ∈ hx_all := kt_g (kt_2 (List.mem_of_getElem? (i := 31) rfl)) rfl
theorem kw_366 : Cond.fieldLink "SmallCourt" 94 "SmallCourt" "now" "I" ∈ hx_all := kt_g (kt_2 (List.mem_of_getElem? (i := 33) rfl)) rfl
theorem kw_367 : Cond.fieldLink "SmallCourt" 16 "SmallCourt" "reader" "LSmallCourt$Reader;" ∈ hx_all := kt_g (kt_2 (List.mem_of_getElem? (i := 34) rfl)) rfl
theorem kw_368 : Cond.fieldLink "SmallCourt" 25 "SmallCourt" "without" "LSmallCourt$Act;" ∈ hx_all := kt_g (kt_2 (List.mem_of_getElem? (i := 35) rfl)) rfl
theorem kw_369 : Cond.fieldLink "SmallCourt" 29 "SmallCourt" "acts" "[LSmallCourt$Act;" ∈ hx_all := kt_g (kt_2 (List.mem_of_getElem? (i := 36) rfl)) rfl
theorem kw_370 : Cond.fieldLink "SmallCourt" 105 "SmallCourt" "actCount" "I" ∈ hx_all := kt_g (kt_2 (List.mem_of_getElem? (i := 37) rfl)) rfl
theorem kw_371 : Cond.fieldLink "SmallCourt" 35 "SmallCourt" "persons" "[LSmallCourt$Person;" ∈ hx_all := kt_g (kt_2 (List.mem_of_getElem? (i := 38) rfl)) rfl
theorem kw_372 : Cond.fieldLink "SmallCourt" 125 "SmallCourt" "personCount" "I" ∈ hx_all := kt_g (kt_2 (List.mem_of_getElem? (i := 39) rfl)) rfl
theorem kw_373 : Cond.fieldLink "SmallCourt" 42 "SmallCourt" "books" "LSmallCourt$Books;" ∈ hx_all := kt_g (kt_2 (List.mem_of_getElem? (i := 40) rfl)) rfl
theorem kw_374 : Cond.fieldLink "SmallCourt" 48 "SmallCourt" "claims" "[LSmallCourt$Claim;" ∈ hx_all := kt_g (kt_2 (List.mem_of_getElem? (i := 41) rfl)) rfl
theorem kw_375 : Cond.fieldLink "SmallCourt" 181 "SmallCourt" "claimCount" "I" ∈ hx_all := kt_g (kt_2 (List.mem_of_getElem? (i := 42) rfl)) rfl
theorem kw_376 : Cond.fieldLink "SmallCourt" 52 "SmallCourt" "heard" "[LSmallCourt$Claim;" ∈ hx_all := kt_g (kt_2 (List.mem_of_getElem? (i := 43) rfl)) rfl
theorem kw_377 : Cond.fieldLink "SmallCourt" 216 "SmallCourt" "heardCount" "I" ∈ hx_all := kt_g (kt_2 (List.mem_of_getElem? (i := 44) rfl)) rfl
theorem kw_378 : Cond.fieldLink "SmallCourt" 58 "SmallCourt" "payments" "LSmallCourt$Payments;" ∈ hx_all := kt_g (kt_2 (List.mem_of_getElem? (i := 45) rfl)) rfl
theorem kw_379 : Cond.fieldLink "SmallCourt" 62 "SmallCourt" "fit" "[I" ∈ hx_all := kt_g (kt_2 (List.mem_of_getElem? (i := 46) rfl)) rfl
theorem kw_380 : Cond.fieldLink "SmallCourt" 66 "SmallCourt" "rests" "[I" ∈ hx_all := kt_g (kt_2 (List.mem_of_getElem? (i := 47) rfl)) rfl
theorem kw_381 : Cond.fieldLink "SmallCourt" 72 "SmallCourt" "planning" "LSmallCourt$Plan;" ∈ hx_all := kt_g (kt_2 (List.mem_of_getElem? (i := 48) rfl)) rfl
theorem kw_382 : Cond.fieldLink "SmallCourt" 79 "SmallCourt" "rings" "LSmallCourt$Rings;" ∈ hx_all := kt_g (kt_2 (List.mem_of_getElem? (i := 49) rfl)) rfl
theorem kw_383 : Cond.fieldLink "SmallCourt" 86 "SmallCourt" "walking" "LSmallCourt$Walk;" ∈ hx_all := kt_g (kt_2 (List.mem_of_getElem? (i := 50) rfl)) rfl
theorem kw_384 : Cond.laysFinal "SmallCourt" "SmallCourt" "tape" "[B" ∈ hx_all := kt_g (kt_2 (List.mem_of_getElem? (i := 51) rfl)) rfl
theorem kw_386 : Cond.lays "SmallCourt" "SmallCourt" "tapeLength" "I" ∈ hx_all := kt_g (kt_2 (List.mem_of_getElem? (i := 53) rfl)) rfl
theorem kw_388 : Cond.lays "SmallCourt" "SmallCourt" "now" "I" ∈ hx_all := kt_g (kt_2 (List.mem_of_getElem? (i := 55) rfl)) rfl
theorem kw_390 : Cond.laysFinal "SmallCourt" "SmallCourt" "reader" "LSmallCourt$Reader;" ∈ hx_all := kt_g (kt_2 (List.mem_of_getElem? (i := 57) rfl)) rfl
theorem kw_392 : Cond.laysFinal "SmallCourt" "SmallCourt" "without" "LSmallCourt$Act;" ∈ hx_all := kt_g (kt_2 (List.mem_of_getElem? (i := 59) rfl)) rfl
theorem kw_394 : Cond.laysFinal "SmallCourt" "SmallCourt" "acts" "[LSmallCourt$Act;" ∈ hx_all := kt_g (kt_2 (List.mem_of_getElem? (i := 61) rfl)) rfl
theorem kw_396 : Cond.lays "SmallCourt" "SmallCourt" "actCount" "I" ∈ hx_all := kt_g (kt_2 (List.mem_of_getElem? (i := 63) rfl)) rfl
theorem kw_398 : Cond.laysFinal "SmallCourt" "SmallCourt" "persons" "[LSmallCourt$Person;" ∈ hx_all := kt_g (kt_2 (List.mem_of_getElem? (i := 65) rfl)) rfl
theorem kw_400 : Cond.lays "SmallCourt" "SmallCourt" "personCount" "I" ∈ hx_all := kt_g (kt_2 (List.mem_of_getElem? (i := 67) rfl)) rfl
theorem kw_402 : Cond.laysFinal "SmallCourt" "SmallCourt" "books" "LSmallCourt$Books;" ∈ hx_all := kt_g (kt_2 (List.mem_of_getElem? (i := 69) rfl)) rfl
theorem kw_404 : Cond.laysFinal "SmallCourt" "SmallCourt" "claims" "[LSmallCourt$Claim;" ∈ hx_all := kt_g (kt_2 (List.mem_of_getElem? (i := 71) rfl)) rfl
theorem kw_406 : Cond.lays "SmallCourt" "SmallCourt" "claimCount" "I" ∈ hx_all := kt_g (kt_2 (List.mem_of_getElem? (i := 73) rfl)) rfl
theorem kw_408 : Cond.laysFinal "SmallCourt" "SmallCourt" "heard" "[LSmallCourt$Claim;" ∈ hx_all := kt_g (kt_2 (List.mem_of_getElem? (i := 75) rfl)) rfl
theorem kw_410 : Cond.lays "SmallCourt" "SmallCourt" "heardCount" "I" ∈ hx_all := kt_g (kt_2 (List.mem_of_getElem? (i := 77) rfl)) rfl
theorem kw_412 : Cond.laysFinal "SmallCourt" "SmallCourt" "payments" "LSmallCourt$Payments;" ∈ hx_all := kt_g (kt_2 (List.mem_of_getElem? (i := 79) rfl)) rfl
theorem kw_414 : Cond.laysFinal "SmallCourt" "SmallCourt" "fit" "[I" ∈ hx_all := kt_g (kt_2 (List.mem_of_getElem? (i := 81) rfl)) rfl
theorem kw_416 : Cond.laysFinal "SmallCourt" "SmallCourt" "rests" "[I" ∈ hx_all := kt_g (kt_2 (List.mem_of_getElem? (i := 83) rfl)) rfl
theorem kw_418 : Cond.laysFinal "SmallCourt" "SmallCourt" "planning" "LSmallCourt$Plan;" ∈ hx_all := kt_g (kt_2 (List.mem_of_getElem? (i := 85) rfl)) rfl
theorem kw_420 : Cond.laysFinal "SmallCourt" "SmallCourt" "rings" "LSmallCourt$Rings;" ∈ hx_all := kt_g (kt_2 (List.mem_of_getElem? (i := 87) rfl)) rfl
theorem kw_422 : Cond.laysFinal "SmallCourt" "SmallCourt" "walking" "LSmallCourt$Walk;" ∈ hx_all := kt_g (kt_2 (List.mem_of_getElem? (i := 89) rfl)) rfl
theorem kw_432 : Cond.methodLink "SmallCourt" 128 yX9_isWithin ∈ hx_all := kt_g (kt_2 (List.mem_of_getElem? (i := 99) rfl)) rfl
theorem kw_433 : Cond.static yX9_isWithin ∈ hx_all := kt_g (kt_2 (List.mem_of_getElem? (i := 100) rfl)) rfl
theorem kw_434 : Cond.code yX9_isWithin cX9_isWithin 3 (some .boolean) ∈ hx_all := kt_g (kt_2 (List.mem_of_getElem? (i := 101) rfl)) rfl
theorem kw_594 : Cond.methodLink "SmallCourt" 115 yX9_inForce ∈ hx_all := kt_g (kt_3 (List.mem_of_getElem? (i := 21) rfl)) rfl
theorem kw_596 : Cond.instanceMethod yX9_inForce ∈ hx_all := kt_g (kt_3 (List.mem_of_getElem? (i := 23) rfl)) rfl
theorem kw_597 : Cond.code yX9_inForce cX9_inForce 4 (some (.object "SmallCourt$Act")) ∈ hx_all := kt_g (kt_3 (List.mem_of_getElem? (i := 24) rfl)) rfl
theorem kw_598 : Cond.methodLink "SmallCourtLaw" 37 yX9_person ∈ hx_all := kt_g (kt_3 (List.mem_of_getElem? (i := 25) rfl)) rfl
theorem kw_599 : Cond.instanceMethod yX9_person ∈ hx_all := kt_g (kt_3 (List.mem_of_getElem? (i := 26) rfl)) rfl
theorem kw_600 : Cond.selects "SmallCourt" yX9_person yX9_person ∈ hx_all := kt_g (kt_3 (List.mem_of_getElem? (i := 27) rfl)) rfl
theorem kw_601 : Cond.code yX9_person cX9_person 8 (some .int) ∈ hx_all := kt_g (kt_3 (List.mem_of_getElem? (i := 28) rfl)) rfl
theorem kw_602 : Cond.methodLink "SmallCourt" 132 yX9_isHousehold ∈ hx_all := kt_g (kt_3 (List.mem_of_getElem? (i := 29) rfl)) rfl
theorem kw_603 : Cond.static yX9_isHousehold ∈ hx_all := kt_g (kt_3 (List.mem_of_getElem? (i := 30) rfl)) rfl
theorem kw_604 : Cond.code yX9_isHousehold cX9_isHousehold 4 (some .boolean) ∈ hx_all := kt_g (kt_3 (List.mem_of_getElem? (i := 31) rfl)) rfl
theorem kw_605 : Cond.instantiable "SmallCourt$Person" 10 ∈ hx_all := kt_g (kt_3 (List.mem_of_getElem? (i := 32) rfl)) rfl
theorem kw_606 : Cond.methodLink "SmallCourt" 136 yX4_init ∈ hx_all := kt_g (kt_3 (List.mem_of_getElem? (i := 33) rfl)) rfl
theorem kw_607 : Cond.instanceMethod yX4_init ∈ hx_all := kt_g (kt_3 (List.mem_of_getElem? (i := 34) rfl)) rfl
theorem kw_608 : Cond.code yX4_init cX4_init 4 none ∈ hx_all := kt_g (kt_3 (List.mem_of_getElem? (i := 35) rfl)) rfl
theorem kw_609 : Cond.methodLink "SmallCourt$Person" 3 Lib.objectInit ∈ hx_all := kt_g (kt_3 (List.mem_of_getElem? (i := 36) rfl)) rfl
theorem kw_610 : Cond.fieldLink "SmallCourt$Person" 9 "SmallCourt$Person" "number" "I" ∈ hx_all := kt_g (kt_3 (List.mem_of_getElem? (i := 37) rfl)) rfl
theorem kw_612 : Cond.fieldLink "SmallCourt" 143 "SmallCourt$Person" "number" "I" ∈ hx_all := kt_g (kt_3 (List.mem_of_getElem? (i := 39) rfl)) rfl
theorem kw_613 : Cond.fieldLink "SmallCourt$Person" 15 "SmallCourt$Person" "born" "I" ∈ hx_all := kt_g (kt_3 (List.mem_of_getElem? (i := 40) rfl)) rfl
theorem kw_614 : Cond.fieldLink "SmallCourt" 243 "SmallCourt$Person" "born" "I" ∈ hx_all := kt_g (kt_3 (List.mem_of_getElem? (i := 41) rfl)) rfl
theorem kw_615 : Cond.fieldLink "SmallCourt$Person" 18 "SmallCourt$Person" "kin" "I" ∈ hx_all := kt_g (kt_3 (List.mem_of_getElem? (i := 42) rfl)) rfl
theorem kw_616 : Cond.fieldLink "SmallCourt$Person" 21 "SmallCourt$Person" "earns" "I" ∈ hx_all := kt_g (kt_3 (List.mem_of_getElem? (i := 43) rfl)) rfl
theorem kw_617 : Cond.fieldLink "SmallCourt$Person" 24 "SmallCourt$Person" "heads" "I" ∈ hx_all := kt_g (kt_3 (List.mem_of_getElem? (i := 44) rfl)) rfl
theorem kw_618 : Cond.fieldLink "SmallCourt$Person" 27 "SmallCourt$Person" "x" "I" ∈ hx_all := kt_g (kt_3 (List.mem_of_getElem? (i := 45) rfl)) rfl
theorem kw_620 : Cond.fieldLink "SmallCourt$Person" 30 "SmallCourt$Person" "y" "I" ∈ hx_all := kt_g (kt_3 (List.mem_of_getElem? (i := 47) rfl)) rfl
theorem kw_622 : Cond.fieldLink "SmallCourt$Person" 43 "SmallCourt$Person" "dead" "Z" ∈ hx_all := kt_g (kt_3 (List.mem_of_getElem? (i := 49) rfl)) rfl
theorem kw_623 : Cond.fieldLink "SmallCourt" 148 "SmallCourt$Person" "dead" "Z" ∈ hx_all := kt_g (kt_3 (List.mem_of_getElem? (i := 50) rfl)) rfl
theorem kw_624 : Cond.fieldLink "SmallCourt$Person" 39 "SmallCourt$Person" "isJudge" "Z" ∈ hx_all := kt_g (kt_3 (List.mem_of_getElem? (i := 51) rfl)) rfl
theorem kw_627 : Cond.laysFinal "SmallCourt$Person" "SmallCourt$Person" "number" "I" ∈ hx_all := kt_g (kt_3 (List.mem_of_getElem? (i := 54) rfl)) rfl
theorem kw_629 : Cond.laysFinal "SmallCourt$Person" "SmallCourt$Person" "born" "I" ∈ hx_all := kt_g (kt_3 (List.mem_of_getElem? (i := 56) rfl)) rfl
theorem kw_631 : Cond.laysFinal "SmallCourt$Person" "SmallCourt$Person" "kin" "I" ∈ hx_all := kt_g (kt_3 (List.mem_of_getElem? (i := 58) rfl)) rfl
theorem kw_633 : Cond.lays "SmallCourt$Person" "SmallCourt$Person" "earns" "I" ∈ hx_all := kt_g (kt_3 (List.mem_of_getElem? (i := 60) rfl)) rfl
theorem kw_635 : Cond.lays "SmallCourt$Person" "SmallCourt$Person" "heads" "I" ∈ hx_all := kt_g (kt_3 (List.mem_of_getElem? (i := 62) rfl)) rfl
theorem kw_637 : Cond.lays "SmallCourt$Person" "SmallCourt$Person" "x" "I" ∈ hx_all := kt_g (kt_3 (List.mem_of_getElem? (i := 64) rfl)) rfl
theorem kw_639 : Cond.lays "SmallCourt$Person" "SmallCourt$Person" "y" "I" ∈ hx_all := kt_g (kt_3 (List.mem_of_getElem? (i := 66) rfl)) rfl
theorem kw_641 : Cond.lays "SmallCourt$Person" "SmallCourt$Person" "dead" "Z" ∈ hx_all := kt_g (kt_3 (List.mem_of_getElem? (i := 68) rfl)) rfl
theorem kw_643 : Cond.lays "SmallCourt$Person" "SmallCourt$Person" "isJudge" "Z" ∈ hx_all := kt_g (kt_3 (List.mem_of_getElem? (i := 70) rfl)) rfl
theorem kw_645 : Cond.lays "SmallCourt$Person" "SmallCourt$Person" "wasJudge" "Z" ∈ hx_all := kt_g (kt_3 (List.mem_of_getElem? (i := 72) rfl)) rfl
theorem kw_648 : Cond.methodLink "SmallCourt" 139 yX4_tell ∈ hx_all := kt_g (kt_3 (List.mem_of_getElem? (i := 75) rfl)) rfl
theorem kw_649 : Cond.instanceMethod yX4_tell ∈ hx_all := kt_g (kt_3 (List.mem_of_getElem? (i := 76) rfl)) rfl
theorem kw_650 : Cond.selects "SmallCourt$Person" yX4_tell yX4_tell ∈ hx_all := kt_g (kt_3 (List.mem_of_getElem? (i := 77) rfl)) rfl
theorem kw_651 : Cond.code yX4_tell cX4_tell 5 none ∈ hx_all := kt_g (kt_3 (List.mem_of_getElem? (i := 78) rfl)) rfl
theorem kw_656 : Cond.methodLink "SmallCourt" 144 yX9_personAt ∈ hx_all := kt_g (kt_3 (List.mem_of_getElem? (i := 83) rfl)) rfl
theorem kw_658 : Cond.instanceMethod yX9_personAt ∈ hx_all := kt_g (kt_3 (List.mem_of_getElem? (i := 85) rfl)) rfl
theorem kw_659 : Cond.code yX9_personAt cX9_personAt 2 (some (.object "SmallCourt$Person")) ∈ hx_all := kt_g (kt_3 (List.mem_of_getElem? (i := 86) rfl)) rfl
theorem kw_685 : Cond.methodLink "SmallCourt" 170 yX1_sumWith ∈ hx_all := kt_g (kt_3 (List.mem_of_getElem? (i := 112) rfl)) rfl
theorem kw_686 : Cond.instanceMethod yX1_sumWith ∈ hx_all := kt_g (kt_3 (List.mem_of_getElem? (i := 113) rfl)) rfl
theorem kw_687 : Cond.selects "SmallCourt$Books" yX1_sumWith yX1_sumWith ∈ hx_all := kt_g (kt_3 (List.mem_of_getElem? (i := 114) rfl)) rfl
theorem kw_688 : Cond.code yX1_sumWith cX1_sumWith 6 (some .int) ∈ hx_all := kt_g (kt_3 (List.mem_of_getElem? (i := 115) rfl)) rfl
theorem kw_689 : Cond.methodLink "SmallCourt$Books" 38 yX1_isLine ∈ hx_all := kt_g (kt_3 (List.mem_of_getElem? (i := 116) rfl)) rfl
theorem kw_691 : Cond.instanceMethod yX1_isLine ∈ hx_all := kt_g (kt_3 (List.mem_of_getElem? (i := 118) rfl)) rfl
theorem kw_692 : Cond.code yX1_isLine cX1_isLine 5 (some .boolean) ∈ hx_all := kt_g (kt_3 (List.mem_of_getElem? (i := 119) rfl)) rfl
theorem kw_693 : Cond.methodLink "SmallCourt" 174 yX1_twinPairs ∈ hx_all := kt_g (kt_3 (List.mem_of_getElem? (i := 120) rfl)) rfl
theorem kw_694 : Cond.instanceMethod yX1_twinPairs ∈ hx_all := kt_g (kt_3 (List.mem_of_getElem? (i := 121) rfl)) rfl
theorem kw_695 : Cond.selects "SmallCourt$Books" yX1_twinPairs yX1_twinPairs ∈ hx_all := kt_g (kt_3 (List.mem_of_getElem? (i := 122) rfl)) rfl
theorem kw_696 : Cond.code yX1_twinPairs cX1_twinPairs 6 (some .int) ∈ hx_all := kt_g (kt_3 (List.mem_of_getElem? (i := 123) rfl)) rfl
theorem kw_697 : Cond.methodLink "SmallCourt$Books" 42 yX1_takeTwin ∈ hx_all := kt_g (kt_3 (List.mem_of_getElem? (i := 124) rfl)) rfl
theorem kw_699 : Cond.instanceMethod yX1_takeTwin ∈ hx_all := kt_g (kt_3 (List.mem_of_getElem? (i := 126) rfl)) rfl
theorem kw_700 : Cond.code yX1_takeTwin cX1_takeTwin 5 (some .boolean) ∈ hx_all := kt_g (kt_3 (List.mem_of_getElem? (i := 127) rfl)) rfl
theorem kw_701 : Cond.methodLink "SmallCourt$Books" 46 yX1_areTwins ∈ hx_all := kt_g (kt_3 (List.mem_of_getElem? (i := 128) rfl)) rfl
theorem kw_703 : Cond.instanceMethod yX1_areTwins ∈ hx_all := kt_g (kt_3 (List.mem_of_getElem? (i := 130) rfl)) rfl
theorem kw_704 : Cond.code yX1_areTwins cX1_areTwins 3 (some .boolean) ∈ hx_all := kt_g (kt_3 (List.mem_of_getElem? (i := 131) rfl)) rfl
theorem kw_705 : Cond.methodLink "SmallCourt$Books" 49 Lib.Math.abs.name ∈ hx_all := kt_g (kt_3 (List.mem_of_getElem? (i := 132) rfl)) rfl
theorem kw_706 : Cond.static Lib.Math.abs.name ∈ hx_all := kt_g (kt_3 (List.mem_of_getElem? (i := 133) rfl)) rfl
theorem kw_707 : Cond.code Lib.Math.abs.name Lib.Math.abs.code 1 (some .int) ∈ hx_all := kt_g (kt_3 (List.mem_of_getElem? (i := 134) rfl)) rfl
theorem kw_712 : Cond.methodLink "SmallCourtLaw" 65 yX9_file ∈ hx_all := kt_g (kt_3 (List.mem_of_getElem? (i := 139) rfl)) rfl
theorem kw_713 : Cond.instanceMethod yX9_file ∈ hx_all := kt_g (kt_3 (List.mem_of_getElem? (i := 140) rfl)) rfl
theorem kw_714 : Cond.selects "SmallCourt" yX9_file yX9_file ∈ hx_all := kt_g (kt_3 (List.mem_of_getElem? (i := 141) rfl)) rfl
theorem kw_715 : Cond.code yX9_file cX9_file 10 (some .int) ∈ hx_all := kt_g (kt_3 (List.mem_of_getElem? (i := 142) rfl)) rfl
theorem kw_716 : Cond.instantiable "SmallCourt$Claim" 19 ∈ hx_all := kt_g (kt_3 (List.mem_of_getElem? (i := 143) rfl)) rfl
theorem kw_717 : Cond.methodLink "SmallCourt" 184 yX2_init ∈ hx_all := kt_g (kt_3 (List.mem_of_getElem? (i := 144) rfl)) rfl
theorem kw_718 : Cond.instanceMethod yX2_init ∈ hx_all := kt_g (kt_3 (List.mem_of_getElem? (i := 145) rfl)) rfl
theorem kw_719 : Cond.code yX2_init cX2_init 5 none ∈ hx_all := kt_g (kt_3 (List.mem_of_getElem? (i := 146) rfl)) rfl
theorem kw_720 : Cond.methodLink "SmallCourt$Claim" 3 Lib.objectInit ∈ hx_all := kt_g (kt_3 (List.mem_of_getElem? (i := 147) rfl)) rfl
theorem kw_721 : Cond.fieldLink "SmallCourt$Claim" 34 "SmallCourt$Claim" "number" "I" ∈ hx_all := kt_g (kt_3 (List.mem_of_getElem? (i := 148) rfl)) rfl
theorem kw_724 : Cond.fieldLink "SmallCourt" 199 "SmallCourt$Claim" "number" "I" ∈ hx_all := kt_g (kt_3 (List.mem_of_getElem? (i := 151) rfl)) rfl
theorem kw_725 : Cond.fieldLink "SmallCourt$Claim" 37 "SmallCourt$Claim" "plaintiff" "LSmallCourt$Person;" ∈ hx_all := kt_g (kt_3 (List.mem_of_getElem? (i := 152) rfl)) rfl
theorem kw_726 : Cond.fieldLink "SmallCourt$Person" 46 "SmallCourt$Claim" "plaintiff" "LSmallCourt$Person;" ∈ hx_all := kt_g (kt_3 (List.mem_of_getElem? (i := 153) rfl)) rfl
theorem kw_728 : Cond.fieldLink "SmallCourt" 223 "SmallCourt$Claim" "plaintiff" "LSmallCourt$Person;" ∈ hx_all := kt_g (kt_3 (List.mem_of_getElem? (i := 155) rfl)) rfl
theorem kw_729 : Cond.fieldLink "SmallCourt$Claim" 41 "SmallCourt$Claim" "defendant" "LSmallCourt$Person;" ∈ hx_all := kt_g (kt_3 (List.mem_of_getElem? (i := 156) rfl)) rfl
theorem kw_730 : Cond.fieldLink "SmallCourt$Person" 56 "SmallCourt$Claim" "defendant" "LSmallCourt$Person;" ∈ hx_all := kt_g (kt_3 (List.mem_of_getElem? (i := 157) rfl)) rfl
theorem kw_733 : Cond.fieldLink "SmallCourt" 212 "SmallCourt$Claim" "defendant" "LSmallCourt$Person;" ∈ hx_all := kt_g (kt_3 (List.mem_of_getElem? (i := 160) rfl)) rfl
theorem kw_734 : Cond.fieldLink "SmallCourt$Claim" 44 "SmallCourt$Claim" "act" "LSmallCourt$Act;" ∈ hx_all := kt_g (kt_3 (List.mem_of_getElem? (i := 161) rfl)) rfl
theorem kw_736 : Cond.fieldLink "SmallCourt" 226 "SmallCourt$Claim" "act" "LSmallCourt$Act;" ∈ hx_all := kt_g (kt_3 (List.mem_of_getElem? (i := 163) rfl)) rfl
theorem kw_737 : Cond.fieldLink "SmallCourt$Claim" 9 "SmallCourt$Claim" "facts" "[I" ∈ hx_all := kt_g (kt_3 (List.mem_of_getElem? (i := 164) rfl)) rfl
theorem kw_738 : Cond.fieldLink "SmallCourt" 196 "SmallCourt$Claim" "facts" "[I" ∈ hx_all := kt_g (kt_3 (List.mem_of_getElem? (i := 165) rfl)) rfl
theorem kw_739 : Cond.fieldLink "SmallCourt$Claim" 15 "SmallCourt$Claim" "bench" "[I" ∈ hx_all := kt_g (kt_3 (List.mem_of_getElem? (i := 166) rfl)) rfl
theorem kw_740 : Cond.fieldLink "SmallCourt" 240 "SmallCourt$Claim" "bench" "[I" ∈ hx_all := kt_g (kt_3 (List.mem_of_getElem? (i := 167) rfl)) rfl
theorem kw_741 : Cond.fieldLink "SmallCourt" 187 "SmallCourt$Claim" "sum" "I" ∈ hx_all := kt_g (kt_3 (List.mem_of_getElem? (i := 168) rfl)) rfl
theorem kw_742 : Cond.fieldLink "SmallCourt" 190 "SmallCourt$Claim" "from" "I" ∈ hx_all := kt_g (kt_3 (List.mem_of_getElem? (i := 169) rfl)) rfl
theorem kw_743 : Cond.fieldLink "SmallCourt" 193 "SmallCourt$Claim" "filed" "I" ∈ hx_all := kt_g (kt_3 (List.mem_of_getElem? (i := 170) rfl)) rfl
theorem kw_744 : Cond.fieldLink "SmallCourt$Claim" 48 "SmallCourt$Claim" "tries" "I" ∈ hx_all := kt_g (kt_3 (List.mem_of_getElem? (i := 171) rfl)) rfl
theorem kw_746 : Cond.fieldLink "SmallCourt$Claim" 18 "SmallCourt$Claim" "found" "I" ∈ hx_all := kt_g (kt_3 (List.mem_of_getElem? (i := 173) rfl)) rfl
theorem kw_747 : Cond.fieldLink "SmallCourt" 204 "SmallCourt$Claim" "found" "I" ∈ hx_all := kt_g (kt_3 (List.mem_of_getElem? (i := 174) rfl)) rfl
theorem kw_748 : Cond.fieldLink "SmallCourt$Claim" 22 "SmallCourt$Claim" "heard" "I" ∈ hx_all := kt_g (kt_3 (List.mem_of_getElem? (i := 175) rfl)) rfl
theorem kw_749 : Cond.fieldLink "SmallCourt" 210 "SmallCourt$Claim" "heard" "I" ∈ hx_all := kt_g (kt_3 (List.mem_of_getElem? (i := 176) rfl)) rfl
theorem kw_751 : Cond.fieldLink "SmallCourt" 233 "SmallCourt$Claim" "judged" "I" ∈ hx_all := kt_g (kt_3 (List.mem_of_getElem? (i := 178) rfl)) rfl
theorem kw_752 : Cond.fieldLink "SmallCourt$Claim" 25 "SmallCourt$Claim" "ordered" "I" ∈ hx_all := kt_g (kt_3 (List.mem_of_getElem? (i := 179) rfl)) rfl
theorem kw_758 : Cond.fieldLink "SmallCourt$Claim" 28 "SmallCourt$Claim" "seized" "I" ∈ hx_all := kt_g (kt_3 (List.mem_of_getElem? (i := 185) rfl)) rfl
theorem kw_762 : Cond.fieldLink "SmallCourt$Claim" 31 "SmallCourt$Claim" "served" "I" ∈ hx_all := kt_g (kt_3 (List.mem_of_getElem? (i := 189) rfl)) rfl
theorem kw_764 : Cond.laysFinal "SmallCourt$Claim" "SmallCourt$Claim" "number" "I" ∈ hx_all := kt_g (kt_3 (List.mem_of_getElem? (i := 191) rfl)) rfl
theorem kw_766 : Cond.laysFinal "SmallCourt$Claim" "SmallCourt$Claim" "plaintiff" "LSmallCourt$Person;" ∈ hx_all := kt_g (kt_3 (List.mem_of_getElem? (i := 193) rfl)) rfl
theorem kw_768 : Cond.laysFinal "SmallCourt$Claim" "SmallCourt$Claim" "defendant" "LSmallCourt$Person;" ∈ hx_all := kt_g (kt_3 (List.mem_of_getElem? (i := 195) rfl)) rfl
theorem kw_770 : Cond.laysFinal "SmallCourt$Claim" "SmallCourt$Claim" "act" "LSmallCourt$Act;" ∈ hx_all := kt_g (kt_3 (List.mem_of_getElem? (i := 197) rfl)) rfl
theorem kw_772 : Cond.laysFinal "SmallCourt$Claim" "SmallCourt$Claim" "facts" "[I" ∈ hx_all := kt_g (kt_3 (List.mem_of_getElem? (i := 199) rfl)) rfl
theorem kw_774 : Cond.laysFinal "SmallCourt$Claim" "SmallCourt$Claim" "bench" "[I" ∈ hx_all := kt_g (kt_3 (List.mem_of_getElem? (i := 201) rfl)) rfl
theorem kw_776 : Cond.lays "SmallCourt$Claim" "SmallCourt$Claim" "sum" "I" ∈ hx_all := kt_g (kt_3 (List.mem_of_getElem? (i := 203) rfl)) rfl
theorem kw_778 : Cond.lays "SmallCourt$Claim" "SmallCourt$Claim" "from" "I" ∈ hx_all := kt_g (kt_3 (List.mem_of_getElem? (i := 205) rfl)) rfl
theorem kw_780 : Cond.lays "SmallCourt$Claim" "SmallCourt$Claim" "filed" "I" ∈ hx_all := kt_g (kt_3 (List.mem_of_getElem? (i := 207) rfl)) rfl
theorem kw_782 : Cond.lays "SmallCourt$Claim" "SmallCourt$Claim" "tries" "I" ∈ hx_all := kt_g (kt_3 (List.mem_of_getElem? (i := 209) rfl)) rfl
theorem kw_784 : Cond.lays "SmallCourt$Claim" "SmallCourt$Claim" "found" "I" ∈ hx_all := kt_g (kt_3 (List.mem_of_getElem? (i := 211) rfl)) rfl
theorem kw_786 : Cond.lays "SmallCourt$Claim" "SmallCourt$Claim" "heard" "I" ∈ hx_all := kt_g (kt_3 (List.mem_of_getElem? (i := 213) rfl)) rfl
theorem kw_788 : Cond.lays "SmallCourt$Claim" "SmallCourt$Claim" "judged" "I" ∈ hx_all := kt_g (kt_3 (List.mem_of_getElem? (i := 215) rfl)) rfl
theorem kw_790 : Cond.lays "SmallCourt$Claim" "SmallCourt$Claim" "ordered" "I" ∈ hx_all := kt_g (kt_3 (List.mem_of_getElem? (i := 217) rfl)) rfl
theorem kw_792 : Cond.lays "SmallCourt$Claim" "SmallCourt$Claim" "weekly" "I" ∈ hx_all := kt_g (kt_3 (List.mem_of_getElem? (i := 219) rfl)) rfl
theorem kw_794 : Cond.lays "SmallCourt$Claim" "SmallCourt$Claim" "owed" "I" ∈ hx_all := kt_g (kt_3 (List.mem_of_getElem? (i := 221) rfl)) rfl
theorem kw_796 : Cond.lays "SmallCourt$Claim" "SmallCourt$Claim" "seized" "I" ∈ hx_all := kt_g (kt_3 (List.mem_of_getElem? (i := 223) rfl)) rfl
theorem kw_798 : Cond.lays "SmallCourt$Claim" "SmallCourt$Claim" "worth" "I" ∈ hx_all := kt_g (kt_3 (List.mem_of_getElem? (i := 225) rfl)) rfl
theorem kw_800 : Cond.lays "SmallCourt$Claim" "SmallCourt$Claim" "served" "I" ∈ hx_all := kt_g (kt_3 (List.mem_of_getElem? (i := 227) rfl)) rfl
theorem kw_807 : Cond.methodLink "SmallCourt" 200 yX9_claimAt ∈ hx_all := kt_g (kt_3 (List.mem_of_getElem? (i := 234) rfl)) rfl
theorem kw_809 : Cond.instanceMethod yX9_claimAt ∈ hx_all := kt_g (kt_3 (List.mem_of_getElem? (i := 236) rfl)) rfl
theorem kw_810 : Cond.code yX9_claimAt cX9_claimAt 2 (some (.object "SmallCourt$Claim")) ∈ hx_all := kt_g (kt_3 (List.mem_of_getElem? (i := 237) rfl)) rfl
theorem kw_811 : Cond.methodLink "SmallCourtLaw" 75 yX9_hear ∈ hx_all := kt_g (kt_3 (List.mem_of_getElem? (i := 238) rfl)) rfl
theorem kw_812 : Cond.instanceMethod yX9_hear ∈ hx_all := kt_g (kt_3 (List.mem_of_getElem? (i := 239) rfl)) rfl
theorem kw_813 : Cond.selects "SmallCourt" yX9_hear yX9_hear ∈ hx_all := kt_g (kt_4 (List.mem_of_getElem? (i := 0) rfl)) rfl
theorem kw_814 : Cond.code yX9_hear cX9_hear 8 (some .int) ∈ hx_all := kt_g (kt_4 (List.mem_of_getElem? (i := 1) rfl)) rfl
theorem kw_815 : Cond.methodLink "SmallCourt" 219 yX9_drawBench ∈ hx_all := kt_g (kt_4 (List.mem_of_getElem? (i := 2) rfl)) rfl
theorem kw_817 : Cond.instanceMethod yX9_drawBench ∈ hx_all := kt_g (kt_4 (List.mem_of_getElem? (i := 4) rfl)) rfl
theorem kw_818 : Cond.code yX9_drawBench cX9_drawBench 9 (some .boolean) ∈ hx_all := kt_g (kt_4 (List.mem_of_getElem? (i := 5) rfl)) rfl
theorem kw_819 : Cond.methodLink "SmallCourt" 236 yX4_maySit ∈ hx_all := kt_g (kt_4 (List.mem_of_getElem? (i := 6) rfl)) rfl
theorem kw_820 : Cond.instanceMethod yX4_maySit ∈ hx_all := kt_g (kt_4 (List.mem_of_getElem? (i := 7) rfl)) rfl
theorem kw_821 : Cond.selects "SmallCourt$Person" yX4_maySit yX4_maySit ∈ hx_all := kt_g (kt_4 (List.mem_of_getElem? (i := 8) rfl)) rfl
theorem kw_822 : Cond.code yX4_maySit cX4_maySit 2 (some .boolean) ∈ hx_all := kt_g (kt_4 (List.mem_of_getElem? (i := 9) rfl)) rfl
theorem kw_823 : Cond.methodLink "SmallCourt$Person" 52 yX4_isKinOf ∈ hx_all := kt_g (kt_4 (List.mem_of_getElem? (i := 10) rfl)) rfl
theorem kw_825 : Cond.instanceMethod yX4_isKinOf ∈ hx_all := kt_g (kt_4 (List.mem_of_getElem? (i := 12) rfl)) rfl
theorem kw_826 : Cond.code yX4_isKinOf cX4_isKinOf 2 (some .boolean) ∈ hx_all := kt_g (kt_4 (List.mem_of_getElem? (i := 13) rfl)) rfl
theorem kw_827 : Cond.methodLink "SmallCourt" 229 yX9_judgement ∈ hx_all := kt_g (kt_4 (List.mem_of_getElem? (i := 14) rfl)) rfl
theorem kw_829 : Cond.instanceMethod yX9_judgement ∈ hx_all := kt_g (kt_4 (List.mem_of_getElem? (i := 16) rfl)) rfl
theorem kw_830 : Cond.code yX9_judgement cX9_judgement 3 (some .int) ∈ hx_all := kt_g (kt_4 (List.mem_of_getElem? (i := 17) rfl)) rfl
theorem kw_831 : Cond.methodLink "SmallCourt" 246 yX9_sumOfSplit ∈ hx_all := kt_g (kt_4 (List.mem_of_getElem? (i := 18) rfl)) rfl
theorem kw_833 : Cond.instanceMethod yX9_sumOfSplit ∈ hx_all := kt_g (kt_4 (List.mem_of_getElem? (i := 20) rfl)) rfl
theorem kw_834 : Cond.code yX9_sumOfSplit cX9_sumOfSplit 6 (some .int) ∈ hx_all := kt_g (kt_4 (List.mem_of_getElem? (i := 21) rfl)) rfl
theorem kw_835 : Cond.methodLink "SmallCourt" 249 yX0_proves ∈ hx_all := kt_g (kt_4 (List.mem_of_getElem? (i := 22) rfl)) rfl
theorem kw_836 : Cond.instanceMethod yX0_proves ∈ hx_all := kt_g (kt_4 (List.mem_of_getElem? (i := 23) rfl)) rfl
theorem kw_837 : Cond.selects "SmallCourt$Act" yX0_proves yX0_proves ∈ hx_all := kt_g (kt_4 (List.mem_of_getElem? (i := 24) rfl)) rfl
theorem kw_838 : Cond.code yX0_proves cX0_proves 6 (some .boolean) ∈ hx_all := kt_g (kt_4 (List.mem_of_getElem? (i := 25) rfl)) rfl
theorem kw_839 : Cond.methodLink "SmallCourt$Act" 41 yX0_holds ∈ hx_all := kt_g (kt_4 (List.mem_of_getElem? (i := 26) rfl)) rfl
theorem kw_840 : Cond.static yX0_holds ∈ hx_all := kt_g (kt_4 (List.mem_of_getElem? (i := 27) rfl)) rfl
theorem kw_841 : Cond.code yX0_holds cX0_holds 5 (some .boolean) ∈ hx_all := kt_g (kt_4 (List.mem_of_getElem? (i := 28) rfl)) rfl
theorem kw_846 : Cond.methodLink "SmallCourt" 256 yX2_costsBy ∈ hx_all := kt_g (kt_4 (List.mem_of_getElem? (i := 33) rfl)) rfl
theorem kw_847 : Cond.instanceMethod yX2_costsBy ∈ hx_all := kt_g (kt_4 (List.mem_of_getElem? (i := 34) rfl)) rfl
theorem kw_848 : Cond.selects "SmallCourt$Claim" yX2_costsBy yX2_costsBy ∈ hx_all := kt_g (kt_4 (List.mem_of_getElem? (i := 35) rfl)) rfl
theorem kw_849 : Cond.code yX2_costsBy cX2_costsBy 4 (some .int) ∈ hx_all := kt_g (kt_4 (List.mem_of_getElem? (i := 36) rfl)) rfl
theorem kw_1101 : Cond.methodLink "SmallCourtLaw" 142 yX9_other ∈ hx_all := kt_g (kt_5 (List.mem_of_getElem? (i := 48) rfl)) rfl
theorem kw_1102 : Cond.instanceMethod yX9_other ∈ hx_all := kt_g (kt_5 (List.mem_of_getElem? (i := 49) rfl)) rfl
theorem kw_1103 : Cond.selects "SmallCourt" yX9_other yX9_other ∈ hx_all := kt_g (kt_5 (List.mem_of_getElem? (i := 50) rfl)) rfl
theorem kw_1104 : Cond.code yX9_other cX9_other 8 (some .int) ∈ hx_all := kt_g (kt_5 (List.mem_of_getElem? (i := 51) rfl)) rfl
theorem kw_1118 : Cond.methodLink "SmallCourtModel" 1 Lib.objectInit ∈ hx_all := kt_g (kt_5 (List.mem_of_getElem? (i := 65) rfl)) rfl
theorem kw_1119 : Cond.methodLink "SmallCourtModel" 214 yX10_without ∈ hx_all := kt_g (kt_5 (List.mem_of_getElem? (i := 66) rfl)) rfl
theorem kw_1120 : Cond.static yX10_without ∈ hx_all := kt_g (kt_5 (List.mem_of_getElem? (i := 67) rfl)) rfl
theorem kw_1121 : Cond.code yX10_without cX10_without 1 (some .int) ∈ hx_all := kt_g (kt_5 (List.mem_of_getElem? (i := 68) rfl)) rfl
theorem kw_1122 : Cond.methodLink "SmallCourtModel" 218 yX10_clears ∈ hx_all := kt_g (kt_5 (List.mem_of_getElem? (i := 69) rfl)) rfl
theorem kw_1124 : Cond.instanceMethod yX10_clears ∈ hx_all := kt_g (kt_5 (List.mem_of_getElem? (i := 71) rfl)) rfl
theorem kw_1125 : Cond.code yX10_clears cX10_clears 1 none ∈ hx_all := kt_g (kt_5 (List.mem_of_getElem? (i := 72) rfl)) rfl
theorem kw_1126 : Cond.methodLink "SmallCourtModel" 221 yX10_withoutProof ∈ hx_all := kt_g (kt_5 (List.mem_of_getElem? (i := 73) rfl)) rfl
theorem kw_1128 : Cond.instanceMethod yX10_withoutProof ∈ hx_all := kt_g (kt_5 (List.mem_of_getElem? (i := 75) rfl)) rfl
theorem kw_1129 : Cond.code yX10_withoutProof cX10_withoutProof 1 none ∈ hx_all := kt_g (kt_5 (List.mem_of_getElem? (i := 76) rfl)) rfl
theorem kw_1130 : Cond.methodLink "SmallCourtModel" 280 yX10_compareOf ∈ hx_all := kt_g (kt_5 (List.mem_of_getElem? (i := 77) rfl)) rfl
theorem kw_1131 : Cond.static yX10_compareOf ∈ hx_all := kt_g (kt_5 (List.mem_of_getElem? (i := 78) rfl)) rfl
theorem kw_1132 : Cond.code yX10_compareOf cX10_compareOf 3 (some .int) ∈ hx_all := kt_g (kt_5 (List.mem_of_getElem? (i := 79) rfl)) rfl
theorem kw_1133 : Cond.constant "SmallCourtModel" 268 (1000000) ∈ hx_all := kt_g (kt_5 (List.mem_of_getElem? (i := 80) rfl)) rfl
theorem kw_1134 : Cond.constant "SmallCourtModel" 269 (100000) ∈ hx_all := kt_g (kt_5 (List.mem_of_getElem? (i := 81) rfl)) rfl
theorem kw_1135 : Cond.methodLink "SmallCourtModel" 284 yX10_writes ∈ hx_all := kt_g (kt_5 (List.mem_of_getElem? (i := 82) rfl)) rfl
theorem kw_1137 : Cond.instanceMethod yX10_writes ∈ hx_all := kt_g (kt_5 (List.mem_of_getElem? (i := 84) rfl)) rfl
theorem kw_1138 : Cond.code yX10_writes cX10_writes 2 none ∈ hx_all := kt_g (kt_5 (List.mem_of_getElem? (i := 85) rfl)) rfl
theorem kw_1139 : Cond.methodLink "SmallCourtModel" 224 yX10_keepsProof ∈ hx_all := kt_g (kt_5 (List.mem_of_getElem? (i := 86) rfl)) rfl
theorem kw_1141 : Cond.instanceMethod yX10_keepsProof ∈ hx_all := kt_g (kt_5 (List.mem_of_getElem? (i := 88) rfl)) rfl
theorem kw_1142 : Cond.code yX10_keepsProof cX10_keepsProof 3 none ∈ hx_all := kt_g (kt_5 (List.mem_of_getElem? (i := 89) rfl)) rfl
theorem kw_1143 : Cond.fieldLink "SmallCourtModel" 232 "SmallCourtModel" "now" "I" ∈ hx_all := kt_g (kt_5 (List.mem_of_getElem? (i := 90) rfl)) rfl
theorem kw_1144 : Cond.fieldLink "SmallCourtModel" 321 "SmallCourtModel" "acts" "I" ∈ hx_all := kt_g (kt_5 (List.mem_of_getElem? (i := 91) rfl)) rfl
theorem kw_1145 : Cond.fieldLink "SmallCourtModel" 7 "SmallCourtModel" "actDay" "[I" ∈ hx_all := kt_g (kt_5 (List.mem_of_getElem? (i := 92) rfl)) rfl
theorem kw_1146 : Cond.fieldLink "SmallCourtModel" 13 "SmallCourtModel" "rule" "[I" ∈ hx_all := kt_g (kt_5 (List.mem_of_getElem? (i := 93) rfl)) rfl
theorem kw_1147 : Cond.fieldLink "SmallCourtModel" 16 "SmallCourtModel" "proofSteps" "[I" ∈ hx_all := kt_g (kt_5 (List.mem_of_getElem? (i := 94) rfl)) rfl
theorem kw_1148 : Cond.fieldLink "SmallCourtModel" 19 "SmallCourtModel" "proof" "[I" ∈ hx_all := kt_g (kt_5 (List.mem_of_getElem? (i := 95) rfl)) rfl
theorem kw_1149 : Cond.fieldLink "SmallCourtModel" 22 "SmallCourtModel" "tape" "[B" ∈ hx_all := kt_g (kt_5 (List.mem_of_getElem? (i := 96) rfl)) rfl
theorem kw_1155 : Cond.fieldLink "SmallCourtModel" 26 "SmallCourtModel" "read" "[I" ∈ hx_all := kt_g (kt_5 (List.mem_of_getElem? (i := 102) rfl)) rfl
theorem kw_1157 : Cond.fieldLink "SmallCourtModel" 262 "SmallCourtModel" "steps" "I" ∈ hx_all := kt_g (kt_5 (List.mem_of_getElem? (i := 104) rfl)) rfl
theorem kw_1158 : Cond.fieldLink "SmallCourtModel" 29 "SmallCourtModel" "step" "[I" ∈ hx_all := kt_g (kt_5 (List.mem_of_getElem? (i := 105) rfl)) rfl
theorem kw_1159 : Cond.fieldLink "SmallCourtModel" 274 "SmallCourtModel" "compares" "I" ∈ hx_all := kt_g (kt_5 (List.mem_of_getElem? (i := 106) rfl)) rfl
theorem kw_1160 : Cond.fieldLink "SmallCourtModel" 32 "SmallCourtModel" "open" "[I" ∈ hx_all := kt_g (kt_5 (List.mem_of_getElem? (i := 107) rfl)) rfl
theorem kw_1161 : Cond.fieldLink "SmallCourtModel" 265 "SmallCourtModel" "opened" "I" ∈ hx_all := kt_g (kt_5 (List.mem_of_getElem? (i := 108) rfl)) rfl
theorem kw_1162 : Cond.fieldLink "SmallCourtModel" 35 "SmallCourtModel" "words" "[B" ∈ hx_all := kt_g (kt_5 (List.mem_of_getElem? (i := 109) rfl)) rfl
theorem kw_1163 : Cond.fieldLink "SmallCourtModel" 337 "SmallCourtModel" "persons" "I" ∈ hx_all := kt_g (kt_5 (List.mem_of_getElem? (i := 110) rfl)) rfl
theorem kw_1164 : Cond.fieldLink "SmallCourtModel" 38 "SmallCourtModel" "born" "[I" ∈ hx_all := kt_g (kt_5 (List.mem_of_getElem? (i := 111) rfl)) rfl
theorem kw_1165 : Cond.fieldLink "SmallCourtModel" 41 "SmallCourtModel" "earns" "[I" ∈ hx_all := kt_g (kt_5 (List.mem_of_getElem? (i := 112) rfl)) rfl
theorem kw_1166 : Cond.fieldLink "SmallCourtModel" 44 "SmallCourtModel" "heads" "[I" ∈ hx_all := kt_g (kt_5 (List.mem_of_getElem? (i := 113) rfl)) rfl
theorem kw_1167 : Cond.fieldLink "SmallCourtModel" 47 "SmallCourtModel" "doorX" "[I" ∈ hx_all := kt_g (kt_5 (List.mem_of_getElem? (i := 114) rfl)) rfl
theorem kw_1168 : Cond.fieldLink "SmallCourtModel" 50 "SmallCourtModel" "doorY" "[I" ∈ hx_all := kt_g (kt_5 (List.mem_of_getElem? (i := 115) rfl)) rfl
theorem kw_1169 : Cond.fieldLink "SmallCourtModel" 53 "SmallCourtModel" "kin" "[I" ∈ hx_all := kt_g (kt_5 (List.mem_of_getElem? (i := 116) rfl)) rfl
theorem kw_1170 : Cond.fieldLink "SmallCourtModel" 56 "SmallCourtModel" "isDead" "[Z" ∈ hx_all := kt_g (kt_5 (List.mem_of_getElem? (i := 117) rfl)) rfl
theorem kw_1171 : Cond.fieldLink "SmallCourtModel" 60 "SmallCourtModel" "isJudge" "[Z" ∈ hx_all := kt_g (kt_5 (List.mem_of_getElem? (i := 118) rfl)) rfl
theorem kw_1172 : Cond.fieldLink "SmallCourtModel" 351 "SmallCourtModel" "lines" "I" ∈ hx_all := kt_g (kt_5 (List.mem_of_getElem? (i := 119) rfl)) rfl
theorem kw_1173 : Cond.fieldLink "SmallCourtModel" 63 "SmallCourtModel" "lineOf" "[I" ∈ hx_all := kt_g (kt_5 (List.mem_of_getElem? (i := 120) rfl)) rfl
theorem kw_1174 : Cond.fieldLink "SmallCourtModel" 66 "SmallCourtModel" "lineWith" "[I" ∈ hx_all := kt_g (kt_5 (List.mem_of_getElem? (i := 121) rfl)) rfl
theorem kw_1175 : Cond.fieldLink "SmallCourtModel" 69 "SmallCourtModel" "lineDay" "[I" ∈ hx_all := kt_g (kt_5 (List.mem_of_getElem? (i := 122) rfl)) rfl
theorem kw_1176 : Cond.fieldLink "SmallCourtModel" 72 "SmallCourtModel" "lineKind" "[I" ∈ hx_all := kt_g (kt_5 (List.mem_of_getElem? (i := 123) rfl)) rfl
theorem kw_1177 : Cond.fieldLink "SmallCourtModel" 75 "SmallCourtModel" "lineSum" "[I" ∈ hx_all := kt_g (kt_5 (List.mem_of_getElem? (i := 124) rfl)) rfl
theorem kw_1178 : Cond.fieldLink "SmallCourtModel" 78 "SmallCourtModel" "isTwin" "[Z" ∈ hx_all := kt_g (kt_5 (List.mem_of_getElem? (i := 125) rfl)) rfl
theorem kw_1179 : Cond.fieldLink "SmallCourtModel" 367 "SmallCourtModel" "claims" "I" ∈ hx_all := kt_g (kt_5 (List.mem_of_getElem? (i := 126) rfl)) rfl
theorem kw_1180 : Cond.fieldLink "SmallCourtModel" 81 "SmallCourtModel" "by" "[I" ∈ hx_all := kt_g (kt_5 (List.mem_of_getElem? (i := 127) rfl)) rfl
theorem kw_1181 : Cond.fieldLink "SmallCourtModel" 84 "SmallCourtModel" "against" "[I" ∈ hx_all := kt_g (kt_5 (List.mem_of_getElem? (i := 128) rfl)) rfl
theorem kw_1182 : Cond.fieldLink "SmallCourtModel" 87 "SmallCourtModel" "sum" "[I" ∈ hx_all := kt_g (kt_5 (List.mem_of_getElem? (i := 129) rfl)) rfl
theorem kw_1183 : Cond.fieldLink "SmallCourtModel" 90 "SmallCourtModel" "owedFrom" "[I" ∈ hx_all := kt_g (kt_5 (List.mem_of_getElem? (i := 130) rfl)) rfl
theorem kw_1184 : Cond.fieldLink "SmallCourtModel" 93 "SmallCourtModel" "hasNote" "[Z" ∈ hx_all := kt_g (kt_5 (List.mem_of_getElem? (i := 131) rfl)) rfl
theorem kw_1185 : Cond.fieldLink "SmallCourtModel" 96 "SmallCourtModel" "witnesses" "[I" ∈ hx_all := kt_g (kt_5 (List.mem_of_getElem? (i := 132) rfl)) rfl
theorem kw_1186 : Cond.fieldLink "SmallCourtModel" 99 "SmallCourtModel" "filed" "[I" ∈ hx_all := kt_g (kt_5 (List.mem_of_getElem? (i := 133) rfl)) rfl
theorem kw_1187 : Cond.fieldLink "SmallCourtModel" 102 "SmallCourtModel" "place" "[I" ∈ hx_all := kt_g (kt_5 (List.mem_of_getElem? (i := 134) rfl)) rfl
theorem kw_1188 : Cond.fieldLink "SmallCourtModel" 105 "SmallCourtModel" "tries" "[I" ∈ hx_all := kt_g (kt_5 (List.mem_of_getElem? (i := 135) rfl)) rfl
theorem kw_1189 : Cond.fieldLink "SmallCourtModel" 108 "SmallCourtModel" "found" "[I" ∈ hx_all := kt_g (kt_5 (List.mem_of_getElem? (i := 136) rfl)) rfl
theorem kw_1190 : Cond.fieldLink "SmallCourtModel" 111 "SmallCourtModel" "heard" "[I" ∈ hx_all := kt_g (kt_5 (List.mem_of_getElem? (i := 137) rfl)) rfl
theorem kw_1191 : Cond.fieldLink "SmallCourtModel" 114 "SmallCourtModel" "ordered" "[I" ∈ hx_all := kt_g (kt_5 (List.mem_of_getElem? (i := 138) rfl)) rfl
theorem kw_1192 : Cond.fieldLink "SmallCourtModel" 117 "SmallCourtModel" "seized" "[I" ∈ hx_all := kt_g (kt_5 (List.mem_of_getElem? (i := 139) rfl)) rfl
theorem kw_1193 : Cond.fieldLink "SmallCourtModel" 120 "SmallCourtModel" "served" "[I" ∈ hx_all := kt_g (kt_5 (List.mem_of_getElem? (i := 140) rfl)) rfl
theorem kw_1194 : Cond.fieldLink "SmallCourtModel" 123 "SmallCourtModel" "judged" "[I" ∈ hx_all := kt_g (kt_5 (List.mem_of_getElem? (i := 141) rfl)) rfl
theorem kw_1195 : Cond.fieldLink "SmallCourtModel" 126 "SmallCourtModel" "bench" "[I" ∈ hx_all := kt_g (kt_5 (List.mem_of_getElem? (i := 142) rfl)) rfl
theorem kw_1196 : Cond.fieldLink "SmallCourtModel" 129 "SmallCourtModel" "fact" "[I" ∈ hx_all := kt_g (kt_5 (List.mem_of_getElem? (i := 143) rfl)) rfl
theorem kw_1197 : Cond.fieldLink "SmallCourtModel" 132 "SmallCourtModel" "weekly" "[I" ∈ hx_all := kt_g (kt_5 (List.mem_of_getElem? (i := 144) rfl)) rfl
theorem kw_1198 : Cond.fieldLink "SmallCourtModel" 135 "SmallCourtModel" "owed" "[I" ∈ hx_all := kt_g (kt_5 (List.mem_of_getElem? (i := 145) rfl)) rfl
theorem kw_1199 : Cond.fieldLink "SmallCourtModel" 138 "SmallCourtModel" "goods" "[I" ∈ hx_all := kt_g (kt_5 (List.mem_of_getElem? (i := 146) rfl)) rfl
theorem kw_1200 : Cond.fieldLink "SmallCourtModel" 392 "SmallCourtModel" "heardMany" "I" ∈ hx_all := kt_g (kt_5 (List.mem_of_getElem? (i := 147) rfl)) rfl
theorem kw_1201 : Cond.fieldLink "SmallCourtModel" 141 "SmallCourtModel" "heardOf" "[I" ∈ hx_all := kt_g (kt_5 (List.mem_of_getElem? (i := 148) rfl)) rfl
theorem kw_1203 : Cond.fieldLink "SmallCourtModel" 144 "SmallCourtModel" "payOf" "[I" ∈ hx_all := kt_g (kt_5 (List.mem_of_getElem? (i := 150) rfl)) rfl
theorem kw_1204 : Cond.fieldLink "SmallCourtModel" 147 "SmallCourtModel" "payDay" "[I" ∈ hx_all := kt_g (kt_5 (List.mem_of_getElem? (i := 151) rfl)) rfl
theorem kw_1205 : Cond.fieldLink "SmallCourtModel" 150 "SmallCourtModel" "paySum" "[I" ∈ hx_all := kt_g (kt_5 (List.mem_of_getElem? (i := 152) rfl)) rfl
theorem kw_1206 : Cond.fieldLink "SmallCourtModel" 153 "SmallCourtModel" "payKnown" "[I" ∈ hx_all := kt_g (kt_5 (List.mem_of_getElem? (i := 153) rfl)) rfl
theorem kw_1207 : Cond.fieldLink "SmallCourtModel" 156 "SmallCourtModel" "payStruck" "[I" ∈ hx_all := kt_g (kt_5 (List.mem_of_getElem? (i := 154) rfl)) rfl
theorem kw_1208 : Cond.fieldLink "SmallCourtModel" 159 "SmallCourtModel" "sitting" "[I" ∈ hx_all := kt_g (kt_5 (List.mem_of_getElem? (i := 155) rfl)) rfl
theorem kw_1209 : Cond.fieldLink "SmallCourtModel" 162 "SmallCourtModel" "stack" "[Z" ∈ hx_all := kt_g (kt_5 (List.mem_of_getElem? (i := 156) rfl)) rfl
theorem kw_1216 : Cond.fieldLink "SmallCourtModel" 165 "SmallCourtModel" "planClaim" "[I" ∈ hx_all := kt_g (kt_5 (List.mem_of_getElem? (i := 163) rfl)) rfl
theorem kw_1217 : Cond.fieldLink "SmallCourtModel" 168 "SmallCourtModel" "planWeekly" "[I" ∈ hx_all := kt_g (kt_5 (List.mem_of_getElem? (i := 164) rfl)) rfl
theorem kw_1219 : Cond.fieldLink "SmallCourtModel" 171 "SmallCourtModel" "fewOf" "[I" ∈ hx_all := kt_g (kt_5 (List.mem_of_getElem? (i := 166) rfl)) rfl
theorem kw_1220 : Cond.fieldLink "SmallCourtModel" 174 "SmallCourtModel" "fewRest" "[I" ∈ hx_all := kt_g (kt_5 (List.mem_of_getElem? (i := 167) rfl)) rfl
theorem kw_1221 : Cond.fieldLink "SmallCourtModel" 177 "SmallCourtModel" "fewLeast" "[I" ∈ hx_all := kt_g (kt_5 (List.mem_of_getElem? (i := 168) rfl)) rfl
theorem kw_1222 : Cond.fieldLink "SmallCourtModel" 180 "SmallCourtModel" "more" "[I" ∈ hx_all := kt_g (kt_5 (List.mem_of_getElem? (i := 169) rfl)) rfl
theorem kw_1223 : Cond.fieldLink "SmallCourtModel" 183 "SmallCourtModel" "bestMore" "[I" ∈ hx_all := kt_g (kt_5 (List.mem_of_getElem? (i := 170) rfl)) rfl
theorem kw_1224 : Cond.fieldLink "SmallCourtModel" 186 "SmallCourtModel" "planWeeks" "[I" ∈ hx_all := kt_g (kt_5 (List.mem_of_getElem? (i := 171) rfl)) rfl
theorem kw_1225 : Cond.fieldLink "SmallCourtModel" 189 "SmallCourtModel" "debt" "[I" ∈ hx_all := kt_g (kt_5 (List.mem_of_getElem? (i := 172) rfl)) rfl
theorem kw_1228 : Cond.fieldLink "SmallCourtModel" 192 "SmallCourtModel" "ringLeast" "[I" ∈ hx_all := kt_g (kt_5 (List.mem_of_getElem? (i := 175) rfl)) rfl
theorem kw_1231 : Cond.fieldLink "SmallCourtModel" 195 "SmallCourtModel" "bestRing" "[I" ∈ hx_all := kt_g (kt_5 (List.mem_of_getElem? (i := 178) rfl)) rfl
theorem kw_1232 : Cond.fieldLink "SmallCourtModel" 198 "SmallCourtModel" "ring" "[I" ∈ hx_all := kt_g (kt_5 (List.mem_of_getElem? (i := 179) rfl)) rfl
theorem kw_1234 : Cond.fieldLink "SmallCourtModel" 201 "SmallCourtModel" "list" "[I" ∈ hx_all := kt_g (kt_5 (List.mem_of_getElem? (i := 181) rfl)) rfl
theorem kw_1236 : Cond.fieldLink "SmallCourtModel" 204 "SmallCourtModel" "walked" "[I" ∈ hx_all := kt_g (kt_5 (List.mem_of_getElem? (i := 183) rfl)) rfl
theorem kw_1237 : Cond.fieldLink "SmallCourtModel" 207 "SmallCourtModel" "home" "[I" ∈ hx_all := kt_g (kt_5 (List.mem_of_getElem? (i := 184) rfl)) rfl
theorem kw_1240 : Cond.fieldLink "SmallCourtModel" 210 "SmallCourtModel" "ways" "[J" ∈ hx_all := kt_g (kt_5 (List.mem_of_getElem? (i := 187) rfl)) rfl
theorem kw_1241 : Cond.lays "SmallCourtModel" "SmallCourtModel" "now" "I" ∈ hx_all := kt_g (kt_5 (List.mem_of_getElem? (i := 188) rfl)) rfl
theorem kw_1243 : Cond.lays "SmallCourtModel" "SmallCourtModel" "acts" "I" ∈ hx_all := kt_g (kt_5 (List.mem_of_getElem? (i := 190) rfl)) rfl
theorem kw_1245 : Cond.laysFinal "SmallCourtModel" "SmallCourtModel" "actDay" "[I" ∈ hx_all := kt_g (kt_5 (List.mem_of_getElem? (i := 192) rfl)) rfl
theorem kw_1247 : Cond.laysFinal "SmallCourtModel" "SmallCourtModel" "rule" "[I" ∈ hx_all := kt_g (kt_5 (List.mem_of_getElem? (i := 194) rfl)) rfl
theorem kw_1249 : Cond.laysFinal "SmallCourtModel" "SmallCourtModel" "proofSteps" "[I" ∈ hx_all := kt_g (kt_5 (List.mem_of_getElem? (i := 196) rfl)) rfl
theorem kw_1251 : Cond.laysFinal "SmallCourtModel" "SmallCourtModel" "proof" "[I" ∈ hx_all := kt_g (kt_5 (List.mem_of_getElem? (i := 198) rfl)) rfl
theorem kw_1253 : Cond.laysFinal "SmallCourtModel" "SmallCourtModel" "tape" "[B" ∈ hx_all := kt_g (kt_5 (List.mem_of_getElem? (i := 200) rfl)) rfl
theorem kw_1255 : Cond.lays "SmallCourtModel" "SmallCourtModel" "taped" "I" ∈ hx_all := kt_g (kt_5 (List.mem_of_getElem? (i := 202) rfl)) rfl
theorem kw_1257 : Cond.lays "SmallCourtModel" "SmallCourtModel" "next" "I" ∈ hx_all := kt_g (kt_5 (List.mem_of_getElem? (i := 204) rfl)) rfl
theorem kw_1259 : Cond.lays "SmallCourtModel" "SmallCourtModel" "fault" "I" ∈ hx_all := kt_g (kt_5 (List.mem_of_getElem? (i := 206) rfl)) rfl
theorem kw_1261 : Cond.lays "SmallCourtModel" "SmallCourtModel" "said" "I" ∈ hx_all := kt_g (kt_5 (List.mem_of_getElem? (i := 208) rfl)) rfl
theorem kw_1263 : Cond.lays "SmallCourtModel" "SmallCourtModel" "wordSize" "I" ∈ hx_all := kt_g (kt_5 (List.mem_of_getElem? (i := 210) rfl)) rfl
theorem kw_1265 : Cond.laysFinal "SmallCourtModel" "SmallCourtModel" "read" "[I" ∈ hx_all := kt_g (kt_5 (List.mem_of_getElem? (i := 212) rfl)) rfl
theorem kw_1267 : Cond.lays "SmallCourtModel" "SmallCourtModel" "seen" "I" ∈ hx_all := kt_g (kt_5 (List.mem_of_getElem? (i := 214) rfl)) rfl
theorem kw_1269 : Cond.lays "SmallCourtModel" "SmallCourtModel" "steps" "I" ∈ hx_all := kt_g (kt_5 (List.mem_of_getElem? (i := 216) rfl)) rfl
theorem kw_1271 : Cond.laysFinal "SmallCourtModel" "SmallCourtModel" "step" "[I" ∈ hx_all := kt_g (kt_5 (List.mem_of_getElem? (i := 218) rfl)) rfl
theorem kw_1273 : Cond.lays "SmallCourtModel" "SmallCourtModel" "compares" "I" ∈ hx_all := kt_g (kt_5 (List.mem_of_getElem? (i := 220) rfl)) rfl
theorem kw_1275 : Cond.laysFinal "SmallCourtModel" "SmallCourtModel" "open" "[I" ∈ hx_all := kt_g (kt_5 (List.mem_of_getElem? (i := 222) rfl)) rfl
theorem kw_1277 : Cond.lays "SmallCourtModel" "SmallCourtModel" "opened" "I" ∈ hx_all := kt_g (kt_5 (List.mem_of_getElem? (i := 224) rfl)) rfl
theorem kw_1279 : Cond.laysFinal "SmallCourtModel" "SmallCourtModel" "words" "[B" ∈ hx_all := kt_g (kt_5 (List.mem_of_getElem? (i := 226) rfl)) rfl
theorem kw_1281 : Cond.lays "SmallCourtModel" "SmallCourtModel" "persons" "I" ∈ hx_all := kt_g (kt_5 (List.mem_of_getElem? (i := 228) rfl)) rfl
theorem kw_1283 : Cond.laysFinal "SmallCourtModel" "SmallCourtModel" "born" "[I" ∈ hx_all := kt_g (kt_5 (List.mem_of_getElem? (i := 230) rfl)) rfl
theorem kw_1285 : Cond.laysFinal "SmallCourtModel" "SmallCourtModel" "earns" "[I" ∈ hx_all := kt_g (kt_5 (List.mem_of_getElem? (i := 232) rfl)) rfl
theorem kw_1287 : Cond.laysFinal "SmallCourtModel" "SmallCourtModel" "heads" "[I" ∈ hx_all := kt_g (kt_5 (List.mem_of_getElem? (i := 234) rfl)) rfl
theorem kw_1289 : Cond.laysFinal "SmallCourtModel" "SmallCourtModel" "doorX" "[I" ∈ hx_all := kt_g (kt_5 (List.mem_of_getElem? (i := 236) rfl)) rfl
theorem kw_1291 : Cond.laysFinal "SmallCourtModel" "SmallCourtModel" "doorY" "[I" ∈ hx_all := kt_g (kt_5 (List.mem_of_getElem? (i := 238) rfl)) rfl
theorem kw_1293 : Cond.laysFinal "SmallCourtModel" "SmallCourtModel" "kin" "[I" ∈ hx_all := kt_g (kt_6 (List.mem_of_getElem? (i := 0) rfl)) rfl
theorem kw_1295 : Cond.laysFinal "SmallCourtModel" "SmallCourtModel" "isDead" "[Z" ∈ hx_all := kt_g (kt_6 (List.mem_of_getElem? (i := 2) rfl)) rfl
theorem kw_1297 : Cond.laysFinal "SmallCourtModel" "SmallCourtModel" "isJudge" "[Z" ∈ hx_all := kt_g (kt_6 (List.mem_of_getElem? (i := 4) rfl)) rfl
theorem kw_1299 : Cond.lays "SmallCourtModel" "SmallCourtModel" "lines" "I" ∈ hx_all := kt_g (kt_6 (List.mem_of_getElem? (i := 6) rfl)) rfl
theorem kw_1301 : Cond.laysFinal "SmallCourtModel" "SmallCourtModel" "lineOf" "[I" ∈ hx_all := kt_g (kt_6 (List.mem_of_getElem? (i := 8) rfl)) rfl
theorem kw_1303 : Cond.laysFinal "SmallCourtModel" "SmallCourtModel" "lineWith" "[I" ∈ hx_all := kt_g (kt_6 (List.mem_of_getElem? (i := 10) rfl)) rfl
theorem kw_1305 : Cond.laysFinal "SmallCourtModel" "SmallCourtModel" "lineDay" "[I" ∈ hx_all := kt_g (kt_6 (List.mem_of_getElem? (i := 12) rfl)) rfl
theorem kw_1307 : Cond.laysFinal "SmallCourtModel" "SmallCourtModel" "lineKind" "[I" ∈ hx_all := kt_g (kt_6 (List.mem_of_getElem? (i := 14) rfl)) rfl
theorem kw_1309 : Cond.laysFinal "SmallCourtModel" "SmallCourtModel" "lineSum" "[I" ∈ hx_all := kt_g (kt_6 (List.mem_of_getElem? (i := 16) rfl)) rfl
theorem kw_1311 : Cond.laysFinal "SmallCourtModel" "SmallCourtModel" "isTwin" "[Z" ∈ hx_all := kt_g (kt_6 (List.mem_of_getElem? (i := 18) rfl)) rfl
theorem kw_1313 : Cond.lays "SmallCourtModel" "SmallCourtModel" "claims" "I" ∈ hx_all := kt_g (kt_6 (List.mem_of_getElem? (i := 20) rfl)) rfl
theorem kw_1315 : Cond.laysFinal "SmallCourtModel" "SmallCourtModel" "by" "[I" ∈ hx_all := kt_g (kt_6 (List.mem_of_getElem? (i := 22) rfl)) rfl
theorem kw_1317 : Cond.laysFinal "SmallCourtModel" "SmallCourtModel" "against" "[I" ∈ hx_all := kt_g (kt_6 (List.mem_of_getElem? (i := 24) rfl)) rfl
theorem kw_1319 : Cond.laysFinal "SmallCourtModel" "SmallCourtModel" "sum" "[I" ∈ hx_all := kt_g (kt_6 (List.mem_of_getElem? (i := 26) rfl)) rfl
theorem kw_1321 : Cond.laysFinal "SmallCourtModel" "SmallCourtModel" "owedFrom" "[I" ∈ hx_all := kt_g (kt_6 (List.mem_of_getElem? (i := 28) rfl)) rfl
theorem kw_1323 : Cond.laysFinal "SmallCourtModel" "SmallCourtModel" "hasNote" "[Z" ∈ hx_all := kt_g (kt_6 (List.mem_of_getElem? (i := 30) rfl)) rfl
theorem kw_1325 : Cond.laysFinal "SmallCourtModel" "SmallCourtModel" "witnesses" "[I" ∈ hx_all := kt_g (kt_6 (List.mem_of_getElem? (i := 32) rfl)) rfl
theorem kw_1327 : Cond.laysFinal "SmallCourtModel" "SmallCourtModel" "filed" "[I" ∈ hx_all := kt_g (kt_6 (List.mem_of_getElem? (i := 34) rfl)) rfl
theorem kw_1329 : Cond.laysFinal "SmallCourtModel" "SmallCourtModel" "place" "[I" ∈ hx_all := kt_g (kt_6 (List.mem_of_getElem? (i := 36) rfl)) rfl
theorem kw_1331 : Cond.laysFinal "SmallCourtModel" "SmallCourtModel" "tries" "[I" ∈ hx_all := kt_g (kt_6 (List.mem_of_getElem? (i := 38) rfl)) rfl
theorem kw_1333 : Cond.laysFinal "SmallCourtModel" "SmallCourtModel" "found" "[I" ∈ hx_all := kt_g (kt_6 (List.mem_of_getElem? (i := 40) rfl)) rfl
theorem kw_1335 : Cond.laysFinal "SmallCourtModel" "SmallCourtModel" "heard" "[I" ∈ hx_all := kt_g (kt_6 (List.mem_of_getElem? (i := 42) rfl)) rfl
theorem kw_1337 : Cond.laysFinal "SmallCourtModel" "SmallCourtModel" "ordered" "[I" ∈ hx_all := kt_g (kt_6 (List.mem_of_getElem? (i := 44) rfl)) rfl
theorem kw_1339 : Cond.laysFinal "SmallCourtModel" "SmallCourtModel" "seized" "[I" ∈ hx_all := kt_g (kt_6 (List.mem_of_getElem? (i := 46) rfl)) rfl
theorem kw_1341 : Cond.laysFinal "SmallCourtModel" "SmallCourtModel" "served" "[I" ∈ hx_all := kt_g (kt_6 (List.mem_of_getElem? (i := 48) rfl)) rfl
theorem kw_1343 : Cond.laysFinal "SmallCourtModel" "SmallCourtModel" "judged" "[I" ∈ hx_all := kt_g (kt_6 (List.mem_of_getElem? (i := 50) rfl)) rfl
theorem kw_1345 : Cond.laysFinal "SmallCourtModel" "SmallCourtModel" "bench" "[I" ∈ hx_all := kt_g (kt_6 (List.mem_of_getElem? (i := 52) rfl)) rfl
theorem kw_1347 : Cond.laysFinal "SmallCourtModel" "SmallCourtModel" "fact" "[I" ∈ hx_all := kt_g (kt_6 (List.mem_of_getElem? (i := 54) rfl)) rfl
theorem kw_1349 : Cond.laysFinal "SmallCourtModel" "SmallCourtModel" "weekly" "[I" ∈ hx_all := kt_g (kt_6 (List.mem_of_getElem? (i := 56) rfl)) rfl
theorem kw_1351 : Cond.laysFinal "SmallCourtModel" "SmallCourtModel" "owed" "[I" ∈ hx_all := kt_g (kt_6 (List.mem_of_getElem? (i := 58) rfl)) rfl
theorem kw_1353 : Cond.laysFinal "SmallCourtModel" "SmallCourtModel" "goods" "[I" ∈ hx_all := kt_g (kt_6 (List.mem_of_getElem? (i := 60) rfl)) rfl
theorem kw_1355 : Cond.lays "SmallCourtModel" "SmallCourtModel" "heardMany" "I" ∈ hx_all := kt_g (kt_6 (List.mem_of_getElem? (i := 62) rfl)) rfl
theorem kw_1357 : Cond.laysFinal "SmallCourtModel" "SmallCourtModel" "heardOf" "[I" ∈ hx_all := kt_g (kt_6 (List.mem_of_getElem? (i := 64) rfl)) rfl
theorem kw_1359 : Cond.lays "SmallCourtModel" "SmallCourtModel" "payments" "I" ∈ hx_all := kt_g (kt_6 (List.mem_of_getElem? (i := 66) rfl)) rfl
theorem kw_1361 : Cond.laysFinal "SmallCourtModel" "SmallCourtModel" "payOf" "[I" ∈ hx_all := kt_g (kt_6 (List.mem_of_getElem? (i := 68) rfl)) rfl
theorem kw_1363 : Cond.laysFinal "SmallCourtModel" "SmallCourtModel" "payDay" "[I" ∈ hx_all := kt_g (kt_6 (List.mem_of_getElem? (i := 70) rfl)) rfl
theorem kw_1365 : Cond.laysFinal "SmallCourtModel" "SmallCourtModel" "paySum" "[I" ∈ hx_all := kt_g (kt_6 (List.mem_of_getElem? (i := 72) rfl)) rfl
theorem kw_1367 : Cond.laysFinal "SmallCourtModel" "SmallCourtModel" "payKnown" "[I" ∈ hx_all := kt_g (kt_6 (List.mem_of_getElem? (i := 74) rfl)) rfl
theorem kw_1369 : Cond.laysFinal "SmallCourtModel" "SmallCourtModel" "payStruck" "[I" ∈ hx_all := kt_g (kt_6 (List.mem_of_getElem? (i := 76) rfl)) rfl
theorem kw_1371 : Cond.laysFinal "SmallCourtModel" "SmallCourtModel" "sitting" "[I" ∈ hx_all := kt_g (kt_6 (List.mem_of_getElem? (i := 78) rfl)) rfl
theorem kw_1373 : Cond.laysFinal "SmallCourtModel" "SmallCourtModel" "stack" "[Z" ∈ hx_all := kt_g (kt_6 (List.mem_of_getElem? (i := 80) rfl)) rfl
theorem kw_1375 : Cond.lays "SmallCourtModel" "SmallCourtModel" "isPaid" "I" ∈ hx_all := kt_g (kt_6 (List.mem_of_getElem? (i := 82) rfl)) rfl
theorem kw_1377 : Cond.lays "SmallCourtModel" "SmallCourtModel" "isRest" "I" ∈ hx_all := kt_g (kt_6 (List.mem_of_getElem? (i := 84) rfl)) rfl
theorem kw_1379 : Cond.lays "SmallCourtModel" "SmallCourtModel" "isOver" "I" ∈ hx_all := kt_g (kt_6 (List.mem_of_getElem? (i := 86) rfl)) rfl
theorem kw_1381 : Cond.lays "SmallCourtModel" "SmallCourtModel" "isMissed" "I" ∈ hx_all := kt_g (kt_6 (List.mem_of_getElem? (i := 88) rfl)) rfl
theorem kw_1383 : Cond.lays "SmallCourtModel" "SmallCourtModel" "isState" "I" ∈ hx_all := kt_g (kt_6 (List.mem_of_getElem? (i := 90) rfl)) rfl
theorem kw_1385 : Cond.lays "SmallCourtModel" "SmallCourtModel" "planMany" "I" ∈ hx_all := kt_g (kt_6 (List.mem_of_getElem? (i := 92) rfl)) rfl
theorem kw_1387 : Cond.laysFinal "SmallCourtModel" "SmallCourtModel" "planClaim" "[I" ∈ hx_all := kt_g (kt_6 (List.mem_of_getElem? (i := 94) rfl)) rfl
theorem kw_1389 : Cond.laysFinal "SmallCourtModel" "SmallCourtModel" "planWeekly" "[I" ∈ hx_all := kt_g (kt_6 (List.mem_of_getElem? (i := 96) rfl)) rfl
theorem kw_1391 : Cond.lays "SmallCourtModel" "SmallCourtModel" "few" "I" ∈ hx_all := kt_g (kt_6 (List.mem_of_getElem? (i := 98) rfl)) rfl
theorem kw_1393 : Cond.laysFinal "SmallCourtModel" "SmallCourtModel" "fewOf" "[I" ∈ hx_all := kt_g (kt_6 (List.mem_of_getElem? (i := 100) rfl)) rfl
theorem kw_1395 : Cond.laysFinal "SmallCourtModel" "SmallCourtModel" "fewRest" "[I" ∈ hx_all := kt_g (kt_6 (List.mem_of_getElem? (i := 102) rfl)) rfl
theorem kw_1397 : Cond.laysFinal "SmallCourtModel" "SmallCourtModel" "fewLeast" "[I" ∈ hx_all := kt_g (kt_6 (List.mem_of_getElem? (i := 104) rfl)) rfl
theorem kw_1399 : Cond.laysFinal "SmallCourtModel" "SmallCourtModel" "more" "[I" ∈ hx_all := kt_g (kt_6 (List.mem_of_getElem? (i := 106) rfl)) rfl
theorem kw_1401 : Cond.laysFinal "SmallCourtModel" "SmallCourtModel" "bestMore" "[I" ∈ hx_all := kt_g (kt_6 (List.mem_of_getElem? (i := 108) rfl)) rfl
theorem kw_1403 : Cond.laysFinal "SmallCourtModel" "SmallCourtModel" "planWeeks" "[I" ∈ hx_all := kt_g (kt_6 (List.mem_of_getElem? (i := 110) rfl)) rfl
theorem kw_1405 : Cond.laysFinal "SmallCourtModel" "SmallCourtModel" "debt" "[I" ∈ hx_all := kt_g (kt_6 (List.mem_of_getElem? (i := 112) rfl)) rfl
theorem kw_1407 : Cond.lays "SmallCourtModel" "SmallCourtModel" "hasNetted" "Z" ∈ hx_all := kt_g (kt_6 (List.mem_of_getElem? (i := 114) rfl)) rfl
theorem kw_1409 : Cond.lays "SmallCourtModel" "SmallCourtModel" "ringMany" "I" ∈ hx_all := kt_g (kt_6 (List.mem_of_getElem? (i := 116) rfl)) rfl
theorem kw_1411 : Cond.laysFinal "SmallCourtModel" "SmallCourtModel" "ringLeast" "[I" ∈ hx_all := kt_g (kt_6 (List.mem_of_getElem? (i := 118) rfl)) rfl
theorem kw_1413 : Cond.lays "SmallCourtModel" "SmallCourtModel" "bestLeast" "I" ∈ hx_all := kt_g (kt_6 (List.mem_of_getElem? (i := 120) rfl)) rfl
theorem kw_1415 : Cond.lays "SmallCourtModel" "SmallCourtModel" "bestSize" "I" ∈ hx_all := kt_g (kt_6 (List.mem_of_getElem? (i := 122) rfl)) rfl
theorem kw_1417 : Cond.laysFinal "SmallCourtModel" "SmallCourtModel" "bestRing" "[I" ∈ hx_all := kt_g (kt_6 (List.mem_of_getElem? (i := 124) rfl)) rfl
theorem kw_1419 : Cond.laysFinal "SmallCourtModel" "SmallCourtModel" "ring" "[I" ∈ hx_all := kt_g (kt_6 (List.mem_of_getElem? (i := 126) rfl)) rfl
theorem kw_1421 : Cond.lays "SmallCourtModel" "SmallCourtModel" "listed" "I" ∈ hx_all := kt_g (kt_6 (List.mem_of_getElem? (i := 128) rfl)) rfl
theorem kw_1423 : Cond.laysFinal "SmallCourtModel" "SmallCourtModel" "list" "[I" ∈ hx_all := kt_g (kt_6 (List.mem_of_getElem? (i := 130) rfl)) rfl
theorem kw_1425 : Cond.lays "SmallCourtModel" "SmallCourtModel" "walkedMany" "I" ∈ hx_all := kt_g (kt_6 (List.mem_of_getElem? (i := 132) rfl)) rfl
theorem kw_1427 : Cond.laysFinal "SmallCourtModel" "SmallCourtModel" "walked" "[I" ∈ hx_all := kt_g (kt_6 (List.mem_of_getElem? (i := 134) rfl)) rfl
theorem kw_1429 : Cond.laysFinal "SmallCourtModel" "SmallCourtModel" "home" "[I" ∈ hx_all := kt_g (kt_6 (List.mem_of_getElem? (i := 136) rfl)) rfl
theorem kw_1431 : Cond.lays "SmallCourtModel" "SmallCourtModel" "habitMany" "I" ∈ hx_all := kt_g (kt_6 (List.mem_of_getElem? (i := 138) rfl)) rfl
theorem kw_1433 : Cond.lays "SmallCourtModel" "SmallCourtModel" "habitProved" "I" ∈ hx_all := kt_g (kt_6 (List.mem_of_getElem? (i := 140) rfl)) rfl
theorem kw_1435 : Cond.laysFinal "SmallCourtModel" "SmallCourtModel" "ways" "[J" ∈ hx_all := kt_g (kt_6 (List.mem_of_getElem? (i := 142) rfl)) rfl
theorem kw_1438 : Cond.arrayClass .long ∈ hx_all := kt_g (kt_6 (List.mem_of_getElem? (i := 145) rfl)) rfl
theorem kw_1443 : Cond.methodLink "SmallCourtModel" 228 yX10_in ∈ hx_all := kt_g (kt_6 (List.mem_of_getElem? (i := 150) rfl)) rfl
theorem kw_1444 : Cond.static yX10_in ∈ hx_all := kt_g (kt_6 (List.mem_of_getElem? (i := 151) rfl)) rfl
theorem kw_1445 : Cond.code yX10_in cX10_in 3 (some .boolean) ∈ hx_all := kt_g (kt_6 (List.mem_of_getElem? (i := 152) rfl)) rfl
theorem kw_1526 : Cond.methodLink "SmallCourtModel" 330 yX10_inForce ∈ hx_all := kt_g (kt_6 (List.mem_of_getElem? (i := 233) rfl)) rfl
theorem kw_1528 : Cond.instanceMethod yX10_inForce ∈ hx_all := kt_g (kt_6 (List.mem_of_getElem? (i := 235) rfl)) rfl
theorem kw_1529 : Cond.code yX10_inForce cX10_inForce 4 (some .int) ∈ hx_all := kt_g (kt_6 (List.mem_of_getElem? (i := 236) rfl)) rfl
theorem kw_1530 : Cond.methodLink "SmallCourtModel" 333 yX10_ruleOf ∈ hx_all := kt_g (kt_6 (List.mem_of_getElem? (i := 237) rfl)) rfl
theorem kw_1532 : Cond.instanceMethod yX10_ruleOf ∈ hx_all := kt_g (kt_6 (List.mem_of_getElem? (i := 239) rfl)) rfl
theorem kw_1533 : Cond.code yX10_ruleOf cX10_ruleOf 3 (some .int) ∈ hx_all := kt_g (kt_7 (List.mem_of_getElem? (i := 0) rfl)) rfl
theorem kw_1534 : Cond.methodLink "SmallCourtLaw" 41 yX10_person ∈ hx_all := kt_g (kt_7 (List.mem_of_getElem? (i := 1) rfl)) rfl
theorem kw_1535 : Cond.instanceMethod yX10_person ∈ hx_all := kt_g (kt_7 (List.mem_of_getElem? (i := 2) rfl)) rfl
theorem kw_1536 : Cond.selects "SmallCourtModel" yX10_person yX10_person ∈ hx_all := kt_g (kt_7 (List.mem_of_getElem? (i := 3) rfl)) rfl
theorem kw_1537 : Cond.code yX10_person cX10_person 7 (some .int) ∈ hx_all := kt_g (kt_7 (List.mem_of_getElem? (i := 4) rfl)) rfl
theorem kw_1538 : Cond.methodLink "SmallCourtModel" 340 yX10_areLives ∈ hx_all := kt_g (kt_7 (List.mem_of_getElem? (i := 5) rfl)) rfl
theorem kw_1539 : Cond.static yX10_areLives ∈ hx_all := kt_g (kt_7 (List.mem_of_getElem? (i := 6) rfl)) rfl
theorem kw_1540 : Cond.code yX10_areLives cX10_areLives 4 (some .boolean) ∈ hx_all := kt_g (kt_7 (List.mem_of_getElem? (i := 7) rfl)) rfl
theorem kw_1541 : Cond.methodLink "SmallCourtModel" 344 yX10_lives ∈ hx_all := kt_g (kt_7 (List.mem_of_getElem? (i := 8) rfl)) rfl
theorem kw_1543 : Cond.instanceMethod yX10_lives ∈ hx_all := kt_g (kt_7 (List.mem_of_getElem? (i := 10) rfl)) rfl
theorem kw_1544 : Cond.code yX10_lives cX10_lives 6 none ∈ hx_all := kt_g (kt_7 (List.mem_of_getElem? (i := 11) rfl)) rfl
theorem kw_1549 : Cond.methodLink "SmallCourtModel" 348 yX10_isPerson ∈ hx_all := kt_g (kt_7 (List.mem_of_getElem? (i := 16) rfl)) rfl
theorem kw_1551 : Cond.instanceMethod yX10_isPerson ∈ hx_all := kt_g (kt_7 (List.mem_of_getElem? (i := 18) rfl)) rfl
theorem kw_1552 : Cond.code yX10_isPerson cX10_isPerson 2 (some .boolean) ∈ hx_all := kt_g (kt_7 (List.mem_of_getElem? (i := 19) rfl)) rfl
theorem kw_1570 : Cond.methodLink "SmallCourtModel" 358 yX10_bookSum ∈ hx_all := kt_g (kt_7 (List.mem_of_getElem? (i := 37) rfl)) rfl
theorem kw_1572 : Cond.instanceMethod yX10_bookSum ∈ hx_all := kt_g (kt_7 (List.mem_of_getElem? (i := 39) rfl)) rfl
theorem kw_1573 : Cond.code yX10_bookSum cX10_bookSum 6 (some .int) ∈ hx_all := kt_g (kt_7 (List.mem_of_getElem? (i := 40) rfl)) rfl
theorem kw_1574 : Cond.methodLink "SmallCourtModel" 361 yX10_alike ∈ hx_all := kt_g (kt_7 (List.mem_of_getElem? (i := 41) rfl)) rfl
theorem kw_1576 : Cond.instanceMethod yX10_alike ∈ hx_all := kt_g (kt_7 (List.mem_of_getElem? (i := 43) rfl)) rfl
theorem kw_1577 : Cond.code yX10_alike cX10_alike 9 (some .int) ∈ hx_all := kt_g (kt_7 (List.mem_of_getElem? (i := 44) rfl)) rfl
theorem kw_1578 : Cond.methodLink "SmallCourtModel" 354 yX10_areTwins ∈ hx_all := kt_g (kt_7 (List.mem_of_getElem? (i := 45) rfl)) rfl
theorem kw_1580 : Cond.instanceMethod yX10_areTwins ∈ hx_all := kt_g (kt_7 (List.mem_of_getElem? (i := 47) rfl)) rfl
theorem kw_1581 : Cond.code yX10_areTwins cX10_areTwins 4 (some .boolean) ∈ hx_all := kt_g (kt_7 (List.mem_of_getElem? (i := 48) rfl)) rfl
theorem kw_1586 : Cond.methodLink "SmallCourtLaw" 69 yX10_file ∈ hx_all := kt_g (kt_7 (List.mem_of_getElem? (i := 53) rfl)) rfl
theorem kw_1587 : Cond.instanceMethod yX10_file ∈ hx_all := kt_g (kt_7 (List.mem_of_getElem? (i := 54) rfl)) rfl
theorem kw_1588 : Cond.selects "SmallCourtModel" yX10_file yX10_file ∈ hx_all := kt_g (kt_7 (List.mem_of_getElem? (i := 55) rfl)) rfl
theorem kw_1589 : Cond.code yX10_file cX10_file 9 (some .int) ∈ hx_all := kt_g (kt_7 (List.mem_of_getElem? (i := 56) rfl)) rfl
theorem kw_1594 : Cond.methodLink "SmallCourtModel" 370 yX10_isClaim ∈ hx_all := kt_g (kt_7 (List.mem_of_getElem? (i := 61) rfl)) rfl
theorem kw_1596 : Cond.instanceMethod yX10_isClaim ∈ hx_all := kt_g (kt_7 (List.mem_of_getElem? (i := 63) rfl)) rfl
theorem kw_1597 : Cond.code yX10_isClaim cX10_isClaim 2 (some .boolean) ∈ hx_all := kt_g (kt_7 (List.mem_of_getElem? (i := 64) rfl)) rfl
theorem kw_1598 : Cond.methodLink "SmallCourtLaw" 79 yX10_hear ∈ hx_all := kt_g (kt_7 (List.mem_of_getElem? (i := 65) rfl)) rfl
theorem kw_1599 : Cond.instanceMethod yX10_hear ∈ hx_all := kt_g (kt_7 (List.mem_of_getElem? (i := 66) rfl)) rfl
theorem kw_1600 : Cond.selects "SmallCourtModel" yX10_hear yX10_hear ∈ hx_all := kt_g (kt_7 (List.mem_of_getElem? (i := 67) rfl)) rfl
theorem kw_1601 : Cond.code yX10_hear cX10_hear 6 (some .int) ∈ hx_all := kt_g (kt_7 (List.mem_of_getElem? (i := 68) rfl)) rfl
theorem kw_1602 : Cond.methodLink "SmallCourtModel" 385 yX10_sits ∈ hx_all := kt_g (kt_7 (List.mem_of_getElem? (i := 69) rfl)) rfl
theorem kw_1604 : Cond.instanceMethod yX10_sits ∈ hx_all := kt_g (kt_7 (List.mem_of_getElem? (i := 71) rfl)) rfl
theorem kw_1605 : Cond.code yX10_sits cX10_sits 4 (some .int) ∈ hx_all := kt_g (kt_7 (List.mem_of_getElem? (i := 72) rfl)) rfl
theorem kw_1606 : Cond.methodLink "SmallCourtModel" 382 yX10_isKinOf ∈ hx_all := kt_g (kt_7 (List.mem_of_getElem? (i := 73) rfl)) rfl
theorem kw_1608 : Cond.instanceMethod yX10_isKinOf ∈ hx_all := kt_g (kt_7 (List.mem_of_getElem? (i := 75) rfl)) rfl
theorem kw_1609 : Cond.code yX10_isKinOf cX10_isKinOf 3 (some .boolean) ∈ hx_all := kt_g (kt_7 (List.mem_of_getElem? (i := 76) rfl)) rfl
theorem kw_1610 : Cond.methodLink "SmallCourtModel" 388 yX10_draws ∈ hx_all := kt_g (kt_7 (List.mem_of_getElem? (i := 77) rfl)) rfl
theorem kw_1612 : Cond.instanceMethod yX10_draws ∈ hx_all := kt_g (kt_7 (List.mem_of_getElem? (i := 79) rfl)) rfl
theorem kw_1613 : Cond.code yX10_draws cX10_draws 8 none ∈ hx_all := kt_g (kt_7 (List.mem_of_getElem? (i := 80) rfl)) rfl
theorem kw_1614 : Cond.methodLink "SmallCourtModel" 395 yX10_judges ∈ hx_all := kt_g (kt_7 (List.mem_of_getElem? (i := 81) rfl)) rfl
theorem kw_1616 : Cond.instanceMethod yX10_judges ∈ hx_all := kt_g (kt_7 (List.mem_of_getElem? (i := 83) rfl)) rfl
theorem kw_1617 : Cond.code yX10_judges cX10_judges 3 (some .int) ∈ hx_all := kt_g (kt_7 (List.mem_of_getElem? (i := 84) rfl)) rfl
theorem kw_1618 : Cond.methodLink "SmallCourtModel" 376 yX10_isSplit ∈ hx_all := kt_g (kt_7 (List.mem_of_getElem? (i := 85) rfl)) rfl
theorem kw_1620 : Cond.instanceMethod yX10_isSplit ∈ hx_all := kt_g (kt_7 (List.mem_of_getElem? (i := 87) rfl)) rfl
theorem kw_1621 : Cond.code yX10_isSplit cX10_isSplit 6 (some .boolean) ∈ hx_all := kt_g (kt_7 (List.mem_of_getElem? (i := 88) rfl)) rfl
theorem kw_1622 : Cond.methodLink "SmallCourtModel" 379 yX10_isProved ∈ hx_all := kt_g (kt_7 (List.mem_of_getElem? (i := 89) rfl)) rfl
theorem kw_1624 : Cond.instanceMethod yX10_isProved ∈ hx_all := kt_g (kt_7 (List.mem_of_getElem? (i := 91) rfl)) rfl
theorem kw_1625 : Cond.code yX10_isProved cX10_isProved 6 (some .boolean) ∈ hx_all := kt_g (kt_7 (List.mem_of_getElem? (i := 92) rfl)) rfl
theorem kw_1626 : Cond.methodLink "SmallCourtModel" 373 yX10_isSo ∈ hx_all := kt_g (kt_7 (List.mem_of_getElem? (i := 93) rfl)) rfl
theorem kw_1628 : Cond.instanceMethod yX10_isSo ∈ hx_all := kt_g (kt_7 (List.mem_of_getElem? (i := 95) rfl)) rfl
theorem kw_1629 : Cond.code yX10_isSo cX10_isSo 6 (some .boolean) ∈ hx_all := kt_g (kt_7 (List.mem_of_getElem? (i := 96) rfl)) rfl
theorem kw_1746 : Cond.methodLink "SmallCourtLaw" 145 yX10_other ∈ hx_all := kt_g (kt_7 (List.mem_of_getElem? (i := 213) rfl)) rfl
theorem kw_1747 : Cond.instanceMethod yX10_other ∈ hx_all := kt_g (kt_7 (List.mem_of_getElem? (i := 214) rfl)) rfl
theorem kw_1748 : Cond.selects "SmallCourtModel" yX10_other yX10_other ∈ hx_all := kt_g (kt_7 (List.mem_of_getElem? (i := 215) rfl)) rfl
theorem kw_1749 : Cond.code yX10_other cX10_other 9 (some .int) ∈ hx_all := kt_g (kt_7 (List.mem_of_getElem? (i := 216) rfl)) rfl
def hx_N : List Cond := [Cond.methodLinkNest "SmallCourt" 15 yX6_init "SmallCourt", Cond.fieldLinkNest "SmallCourt$Act" 25 "SmallCourt" "WITHOUT" "[I" "SmallCourt", Cond.methodLinkNest "SmallCourt" 41 yX1_init "SmallCourt", Cond.methodLinkNest "SmallCourt" 57 yX3_init "SmallCourt", Cond.methodLinkNest "SmallCourt" 71 yX5_init "SmallCourt", Cond.methodLinkNest "SmallCourt" 78 yX7_init "SmallCourt", Cond.methodLinkNest "SmallCourt" 85 yX8_init "SmallCourt", Cond.fieldLinkNest "SmallCourt$Reader" 82 "SmallCourt" "LEAST_TOLD" "[I" "SmallCourt", Cond.fieldLinkNest "SmallCourt$Reader" 86 "SmallCourt" "MOST_TOLD" "[I" "SmallCourt", Cond.methodLinkNest "SmallCourt$Claim" 95 yX9_roundUp "SmallCourt", Cond.methodLinkNest "SmallCourt$Plan" 78 yX9_roundUp "SmallCourt"]
theorem kc_0 : ∀ w ∈ u_ws RX0 TX0 5, w ∈ hx_all := fun w hw => by
  obtain ⟨k, hk, rfl⟩ := List.mem_map.mp hw
  have hk := List.mem_range.mp hk
  match k, hk with
  | 0, _ => exact kw_175
  | 1, _ => exact kw_177
  | 2, _ => exact kw_179
  | 3, _ => exact kw_181
  | 4, _ => exact kw_183
  | k + 5, hk => exact absurd hk (by omega)
theorem hC_0 : hx_C hx_all vwCl 0 RX0 TX0 5 tyX0 := ⟨rfl, kc_0, tyX0_ok, nmX0⟩
theorem kc_1 : ∀ w ∈ u_ws RX1 TX1 8, w ∈ hx_all := fun w hw => by
  obtain ⟨k, hk, rfl⟩ := List.mem_map.mp hw
  have hk := List.mem_range.mp hk
  match k, hk with
  | 0, _ => exact kw_205
  | 1, _ => exact kw_207
  | 2, _ => exact kw_209
  | 3, _ => exact kw_211
  | 4, _ => exact kw_213
  | 5, _ => exact kw_215
  | 6, _ => exact kw_217
  | 7, _ => exact kw_219
  | k + 8, hk => exact absurd hk (by omega)
theorem hC_1 : hx_C hx_all vwCl 1 RX1 TX1 8 tyX1 := ⟨rfl, kc_1, tyX1_ok, nmX1⟩
theorem kc_2 : ∀ w ∈ u_ws RX2 TX2 19, w ∈ hx_all := fun w hw => by
  obtain ⟨k, hk, rfl⟩ := List.mem_map.mp hw
  have hk := List.mem_range.mp hk
  match k, hk with
  | 0, _ => exact kw_764
  | 1, _ => exact kw_766
  | 2, _ => exact kw_768
  | 3, _ => exact kw_770
  | 4, _ => exact kw_772
  | 5, _ => exact kw_774
  | 6, _ => exact kw_776
  | 7, _ => exact kw_778
  | 8, _ => exact kw_780
  | 9, _ => exact kw_782
  | 10, _ => exact kw_784
  | 11, _ => exact kw_786
  | 12, _ => exact kw_788
  | 13, _ => exact kw_790
  | 14, _ => exact kw_792
  | 15, _ => exact kw_794
  | 16, _ => exact kw_796
  | 17, _ => exact kw_798
  | 18, _ => exact kw_800
  | k + 19, hk => exact absurd hk (by omega)
theorem hC_2 : hx_C hx_all vwCl 2 RX2 TX2 19 tyX2 := ⟨rfl, kc_2, tyX2_ok, nmX2⟩
theorem kc_3 : ∀ w ∈ u_ws RX3 TX3 6, w ∈ hx_all := fun w hw => by
  obtain ⟨k, hk, rfl⟩ := List.mem_map.mp hw
  have hk := List.mem_range.mp hk
  match k, hk with
  | 0, _ => exact kw_239
  | 1, _ => exact kw_241
  | 2, _ => exact kw_243
  | 3, _ => exact kw_245
  | 4, _ => exact kw_247
  | 5, _ => exact kw_249
  | k + 6, hk => exact absurd hk (by omega)
theorem hC_3 : hx_C hx_all vwCl 3 RX3 TX3 6 tyX3 := ⟨rfl, kc_3, tyX3_ok, nmX3⟩
theorem kc_4 : ∀ w ∈ u_ws RX4 TX4 10, w ∈ hx_all := fun w hw => by
  obtain ⟨k, hk, rfl⟩ := List.mem_map.mp hw
  have hk := List.mem_range.mp hk
  match k, hk with
  | 0, _ => exact kw_627
  | 1, _ => exact kw_629
  | 2, _ => exact kw_631
  | 3, _ => exact kw_633
  | 4, _ => exact kw_635
  | 5, _ => exact kw_637
  | 6, _ => exact kw_639
  | 7, _ => exact kw_641
  | 8, _ => exact kw_643
  | 9, _ => exact kw_645
  | k + 10, hk => exact absurd hk (by omega)
theorem hC_4 : hx_C hx_all vwCl 4 RX4 TX4 10 tyX4 := ⟨rfl, kc_4, tyX4_ok, nmX4⟩
theorem kc_5 : ∀ w ∈ u_ws RX5 TX5 13, w ∈ hx_all := fun w hw => by
  obtain ⟨k, hk, rfl⟩ := List.mem_map.mp hw
  have hk := List.mem_range.mp hk
  match k, hk with
  | 0, _ => exact kw_276
  | 1, _ => exact kw_278
  | 2, _ => exact kw_280
  | 3, _ => exact kw_282
  | 4, _ => exact kw_284
  | 5, _ => exact kw_286
  | 6, _ => exact kw_288
  | 7, _ => exact kw_290
  | 8, _ => exact kw_292
  | 9, _ => exact kw_294
  | 10, _ => exact kw_296
  | 11, _ => exact kw_298
  | 12, _ => exact kw_300
  | k + 13, hk => exact absurd hk (by omega)
theorem hC_5 : hx_C hx_all vwCl 5 RX5 TX5 13 tyX5 := ⟨rfl, kc_5, tyX5_ok, nmX5⟩
theorem kc_6 : ∀ w ∈ u_ws RX6 TX6 7, w ∈ hx_all := fun w hw => by
  obtain ⟨k, hk, rfl⟩ := List.mem_map.mp hw
  have hk := List.mem_range.mp hk
  match k, hk with
  | 0, _ => exact kw_132
  | 1, _ => exact kw_134
  | 2, _ => exact kw_136
  | 3, _ => exact kw_138
  | 4, _ => exact kw_140
  | 5, _ => exact kw_142
  | 6, _ => exact kw_144
  | k + 7, hk => exact absurd hk (by omega)
theorem hC_6 : hx_C hx_all vwCl 6 RX6 TX6 7 tyX6 := ⟨rfl, kc_6, tyX6_ok, nmX6⟩
theorem kc_7 : ∀ w ∈ u_ws RX7 TX7 8, w ∈ hx_all := fun w hw => by
  obtain ⟨k, hk, rfl⟩ := List.mem_map.mp hw
  have hk := List.mem_range.mp hk
  match k, hk with
  | 0, _ => exact kw_321
  | 1, _ => exact kw_323
  | 2, _ => exact kw_325
  | 3, _ => exact kw_327
  | 4, _ => exact kw_329
  | 5, _ => exact kw_331
  | 6, _ => exact kw_333
  | 7, _ => exact kw_335
  | k + 8, hk => exact absurd hk (by omega)
theorem hC_7 : hx_C hx_all vwCl 7 RX7 TX7 8 tyX7 := ⟨rfl, kc_7, tyX7_ok, nmX7⟩
theorem kc_8 : ∀ w ∈ u_ws RX8 TX8 5, w ∈ hx_all := fun w hw => by
  obtain ⟨k, hk, rfl⟩ := List.mem_map.mp hw
  have hk := List.mem_range.mp hk
  match k, hk with
  | 0, _ => exact kw_353
  | 1, _ => exact kw_355
  | 2, _ => exact kw_357
  | 3, _ => exact kw_359
  | 4, _ => exact kw_361
  | k + 5, hk => exact absurd hk (by omega)
theorem hC_8 : hx_C hx_all vwCl 8 RX8 TX8 5 tyX8 := ⟨rfl, kc_8, tyX8_ok, nmX8⟩
theorem kc_9 : ∀ w ∈ u_ws RX9 TX9 20, w ∈ hx_all := fun w hw => by
  obtain ⟨k, hk, rfl⟩ := List.mem_map.mp hw
  have hk := List.mem_range.mp hk
  match k, hk with
  | 0, _ => exact kw_384
  | 1, _ => exact kw_386
  | 2, _ => exact kw_388
  | 3, _ => exact kw_390
  | 4, _ => exact kw_392
  | 5, _ => exact kw_394
  | 6, _ => exact kw_396
  | 7, _ => exact kw_398
  | 8, _ => exact kw_400
  | 9, _ => exact kw_402
  | 10, _ => exact kw_404
  | 11, _ => exact kw_406
  | 12, _ => exact kw_408
  | 13, _ => exact kw_410
  | 14, _ => exact kw_412
  | 15, _ => exact kw_414
  | 16, _ => exact kw_416
  | 17, _ => exact kw_418
  | 18, _ => exact kw_420
  | 19, _ => exact kw_422
  | k + 20, hk => exact absurd hk (by omega)
theorem hC_9 : hx_C hx_all vwCl 9 RX9 TX9 20 tyX9 := ⟨rfl, kc_9, tyX9_ok, nmX9⟩
theorem kc_10 : ∀ w ∈ u_ws RX10 TX10 98, w ∈ hx_all := fun w hw => by
  obtain ⟨k, hk, rfl⟩ := List.mem_map.mp hw
  have hk := List.mem_range.mp hk
  match k, hk with
  | 0, _ => exact kw_1241
  | 1, _ => exact kw_1243
  | 2, _ => exact kw_1245
  | 3, _ => exact kw_1247
  | 4, _ => exact kw_1249
  | 5, _ => exact kw_1251
  | 6, _ => exact kw_1253
  | 7, _ => exact kw_1255
  | 8, _ => exact kw_1257
  | 9, _ => exact kw_1259
  | 10, _ => exact kw_1261
  | 11, _ => exact kw_1263
  | 12, _ => exact kw_1265
  | 13, _ => exact kw_1267
  | 14, _ => exact kw_1269
  | 15, _ => exact kw_1271
  | 16, _ => exact kw_1273
  | 17, _ => exact kw_1275
  | 18, _ => exact kw_1277
  | 19, _ => exact kw_1279
  | 20, _ => exact kw_1281
  | 21, _ => exact kw_1283
  | 22, _ => exact kw_1285
  | 23, _ => exact kw_1287
  | 24, _ => exact kw_1289
  | 25, _ => exact kw_1291
  | 26, _ => exact kw_1293
  | 27, _ => exact kw_1295
  | 28, _ => exact kw_1297
  | 29, _ => exact kw_1299
  | 30, _ => exact kw_1301
  | 31, _ => exact kw_1303
  | 32, _ => exact kw_1305
  | 33, _ => exact kw_1307
  | 34, _ => exact kw_1309
  | 35, _ => exact kw_1311
  | 36, _ => exact kw_1313
  | 37, _ => exact kw_1315
  | 38, _ => exact kw_1317
  | 39, _ => exact kw_1319
  | 40, _ => exact kw_1321
  | 41, _ => exact kw_1323
  | 42, _ => exact kw_1325
  | 43, _ => exact kw_1327
  | 44, _ => exact kw_1329
  | 45, _ => exact kw_1331
  | 46, _ => exact kw_1333
  | 47, _ => exact kw_1335
  | 48, _ => exact kw_1337
  | 49, _ => exact kw_1339
  | 50, _ => exact kw_1341
  | 51, _ => exact kw_1343
  | 52, _ => exact kw_1345
  | 53, _ => exact kw_1347
  | 54, _ => exact kw_1349
  | 55, _ => exact kw_1351
  | 56, _ => exact kw_1353
  | 57, _ => exact kw_1355
  | 58, _ => exact kw_1357
  | 59, _ => exact kw_1359
  | 60, _ => exact kw_1361
  | 61, _ => exact kw_1363
  | 62, _ => exact kw_1365
  | 63, _ => exact kw_1367
  | 64, _ => exact kw_1369
  | 65, _ => exact kw_1371
  | 66, _ => exact kw_1373
  | 67, _ => exact kw_1375
  | 68, _ => exact kw_1377
  | 69, _ => exact kw_1379
  | 70, _ => exact kw_1381
  | 71, _ => exact kw_1383
  | 72, _ => exact kw_1385
  | 73, _ => exact kw_1387
  | 74, _ => exact kw_1389
  | 75, _ => exact kw_1391
  | 76, _ => exact kw_1393
  | 77, _ => exact kw_1395
  | 78, _ => exact kw_1397
  | 79, _ => exact kw_1399
  | 80, _ => exact kw_1401
  | 81, _ => exact kw_1403
  | 82, _ => exact kw_1405
  | 83, _ => exact kw_1407
  | 84, _ => exact kw_1409
  | 85, _ => exact kw_1411
  | 86, _ => exact kw_1413
  | 87, _ => exact kw_1415
  | 88, _ => exact kw_1417
  | 89, _ => exact kw_1419
  | 90, _ => exact kw_1421
  | 91, _ => exact kw_1423
  | 92, _ => exact kw_1425
  | 93, _ => exact kw_1427
  | 94, _ => exact kw_1429
  | 95, _ => exact kw_1431
  | 96, _ => exact kw_1433
  | 97, _ => exact kw_1435
  | k + 98, hk => exact absurd hk (by omega)
theorem hC_10 : hx_C hx_all vwCl 10 RX10 TX10 98 tyX10 := ⟨rfl, kc_10, tyX10_ok, nmX10⟩
