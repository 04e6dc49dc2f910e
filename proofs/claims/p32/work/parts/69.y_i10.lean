theorem hx_cw {h h1 : hx_h} {q k : Nat} {v i : Int32} (cw : ∀ j, j < k → h.2.1 q j = P_words j) (e : h1 = hx_pi h q i.toNatClampNeg v) (hi : i.toNatClampNeg = k) (hv : P_words k = v) : ∀ j, j < k + 1 → h1.2.1 q j = P_words j := by
  subst e
  intro j hj
  by_cases z : j = k
  · subst z; rw [hi, hx_pi_at, hv]
  · rw [hi, hx_pi_ne _ _ (fun w => z w.2)]; exact cw j (by omega)
theorem hx_RP_0 {prf prf1 psf psf1 sf : Nat → Int32} {i st : Int32} (hi : i.toInt = 0) (hs : st.toInt ≤ 128) (hs0 : 0 ≤ st.toInt) (hr : hx_rp sf st.toInt.toNat = some 1) (e1 : psf1 = hx_up psf i.toNatClampNeg st) (e2 : hx_kp sf prf prf1 i.toInt st.toInt) : hx_RP prf1 psf1 0 := by
  subst e1
  intro p hp0 hp
  have hp1 : p = 0 := by omega
  subst hp1
  have ei : i.toNatClampNeg = (0 : Int).toNat := by unfold Int32.toNatClampNeg; omega
  rw [hi] at e2
  rw [ei, hx_up_at]
  refine ⟨hs, ?_⟩
  rw [hx_rp_congr (f := fun k => prf1 (128 * (0 : Int).toNat + k)) (g := sf) _ (fun j hj => e2.1 j (by omega))]
  exact hr
def wNX10_init : Nat := 17053699497250638113535256199537422242260529036640829199887155686620074970820876152040686783626114131109290944851155960295943790512464174564653947519161654967209258850088154514646806246951646192584037915134296260068736543894114977891777451691572240171835119406256323621053503173318642911266973648631286456271706218222669949510360153911877073969097424454067720842176277733664070752629031060149488886702834466763227985701306026218497617741701640232978035650710960441386562897739240306555632076497464577018573762476766843607152496128089316123175482721853277957804408523762360293510043650813059664042192182110925196993936135375749343887124908337393615839701476562303605671914789009267076353048651854401492640642078159582971794340545060169538599500362437036750415726325701971322156837468040123719177886260343003632706787104634212781553744520679504461160943141766984200810248777955157537057631346213720661997394408400212644452257488024127505710077484117470368236976990846668668928291367638611977723262212023486707770216302856051953365320547565388601370346350836075128009775002486369925081497648719035468577955091715041699549622208833880337993738077262158488914876385922329367697949023054039495670229003464529402965652076730410889208775814035441229457914774623160192828691653650841730648452091606921388763377692323414895892562042460704355918476278432770731754843012919866322614406453373084285889406761154076065180482003966052471631327947347333168144251833171308121563260387212547450625122648811776159150003454843769140379187633853672341885471433045187269708860754662031109737687558716741033404772189709247852802864069759481906790115396357435033833609167695931514721799531895167612139107223504679356679662114022079816999107782770136842264066566612883711891444796016466649477081427648655548370419948750936167080218857001171407864481313156994742865655277612215034844849085974164035797852132782923828572682079041603867921393735799021153073810431473201353403258209058905026500201575595243389815916977639057426513405319700325927897162011850557680427845233886701953038367312542081022563782608003773110393669539781048180504331804076316695437770135766014755718805937949828868983238047033828162255639404833750712660794320223521289888594198680387327898286711436972608491688238741784250037949805127669433998706579784033540495947302229707718290714938238913955447937310242334692363149828550026098494941628878854679577594097608179383829255820798245012539347992776727874063157219750567381678586604027775459454780368911694981938927238822460486075383512911369103395986996245460909355883829397853570942464767187321854113504883545415871395264895568091605649651525176547106579026051028085772877128458045292979741659865347195232176180053475555872885382622055596432704736013161942191066131569634439145761352718441855135420239407489472259281936584214501534335766831801075914875301901992774176895171811635769135227157628891329322607894812650329765532908875860768138048110603529385174743975079857141533253170448480304238590818747529997576327517716507796041719770877261611005062071323618911966696031174315574490441565983970826953258049518069089675596698219100154827996119337984867154830862374381198682579583644183316108302414990987342091167034468292016323806947629490477235968395489292792334071959749732002250296527667976302441302843150308950473992547983333883346609366392343498196005800990181633832078716145956451349835977046589168227665735476106477975423075260238654747399037501368586064087901502815240760783077205451035579604516044368956807343207113755528149178308950797755091663519016868045689310111089860714120536419885802608946990978471314380797490344549713589779875287337884078666840528688318815421548255348202018631609599923131529706635794025306851750705615714192397364968935897612539054924387300597863597630136087367294547530310228160775587044714357626019258395195893326596278847371146411304079570087984453755438782351030766853477076350762
theorem wX10_init_c : hz_cd cX10_init wNX10_init 1625 := ⟨by decide +kernel, by decide +kernel⟩
theorem dX10_init_0 : decode cX10_init 0 = .ok (.aload_n 0, 1) := dw_42 wX10_init_c rfl
theorem dX10_init_1 : decode cX10_init 1 = .ok (.invokespecial 1, 3) := dw_183 wX10_init_c 0 1 rfl rfl
theorem dX10_init_4 : decode cX10_init 4 = .ok (.aload_n 0, 1) := dw_42 wX10_init_c rfl
theorem dX10_init_5 : decode cX10_init 5 = .ok (.bipush 9, 2) := dw_16 wX10_init_c 9 rfl rfl rfl
theorem dX10_init_7 : decode cX10_init 7 = .ok (.newarray .int, 2) := by decide +kernel
theorem dX10_init_9 : decode cX10_init 9 = .ok (.putfield 7, 3) := dw_181 wX10_init_c 0 7 rfl rfl
theorem dX10_init_12 : decode cX10_init 12 = .ok (.aload_n 0, 1) := dw_42 wX10_init_c rfl
theorem dX10_init_13 : decode cX10_init 13 = .ok (.bipush 117, 2) := dw_16 wX10_init_c 117 rfl rfl rfl
theorem dX10_init_15 : decode cX10_init 15 = .ok (.newarray .int, 2) := by decide +kernel
theorem dX10_init_17 : decode cX10_init 17 = .ok (.putfield 13, 3) := dw_181 wX10_init_c 0 13 rfl rfl
theorem dX10_init_20 : decode cX10_init 20 = .ok (.aload_n 0, 1) := dw_42 wX10_init_c rfl
theorem dX10_init_21 : decode cX10_init 21 = .ok (.bipush 9, 2) := dw_16 wX10_init_c 9 rfl rfl rfl
theorem dX10_init_23 : decode cX10_init 23 = .ok (.newarray .int, 2) := by decide +kernel
theorem dX10_init_25 : decode cX10_init 25 = .ok (.putfield 16, 3) := dw_181 wX10_init_c 0 16 rfl rfl
theorem dX10_init_28 : decode cX10_init 28 = .ok (.aload_n 0, 1) := dw_42 wX10_init_c rfl
theorem dX10_init_29 : decode cX10_init 29 = .ok (.sipush 1152, 3) := dw_17 wX10_init_c 4 128 rfl rfl rfl
theorem dX10_init_32 : decode cX10_init 32 = .ok (.newarray .int, 2) := by decide +kernel
theorem dX10_init_34 : decode cX10_init 34 = .ok (.putfield 19, 3) := dw_181 wX10_init_c 0 19 rfl rfl
theorem dX10_init_37 : decode cX10_init 37 = .ok (.aload_n 0, 1) := dw_42 wX10_init_c rfl
theorem dX10_init_38 : decode cX10_init 38 = .ok (.sipush 400, 3) := dw_17 wX10_init_c 1 144 rfl rfl rfl
theorem dX10_init_41 : decode cX10_init 41 = .ok (.newarray .byte, 2) := by decide +kernel
theorem dX10_init_43 : decode cX10_init 43 = .ok (.putfield 22, 3) := dw_181 wX10_init_c 0 22 rfl rfl
theorem dX10_init_46 : decode cX10_init 46 = .ok (.aload_n 0, 1) := dw_42 wX10_init_c rfl
theorem dX10_init_47 : decode cX10_init 47 = .ok (.bipush 13, 2) := dw_16 wX10_init_c 13 rfl rfl rfl
theorem dX10_init_49 : decode cX10_init 49 = .ok (.newarray .int, 2) := by decide +kernel
theorem dX10_init_51 : decode cX10_init 51 = .ok (.putfield 26, 3) := dw_181 wX10_init_c 0 26 rfl rfl
theorem dX10_init_54 : decode cX10_init 54 = .ok (.aload_n 0, 1) := dw_42 wX10_init_c rfl
theorem dX10_init_55 : decode cX10_init 55 = .ok (.sipush 128, 3) := dw_17 wX10_init_c 0 128 rfl rfl rfl
theorem dX10_init_58 : decode cX10_init 58 = .ok (.newarray .int, 2) := by decide +kernel
theorem dX10_init_60 : decode cX10_init 60 = .ok (.putfield 29, 3) := dw_181 wX10_init_c 0 29 rfl rfl
theorem dX10_init_63 : decode cX10_init 63 = .ok (.aload_n 0, 1) := dw_42 wX10_init_c rfl
theorem dX10_init_64 : decode cX10_init 64 = .ok (.sipush 128, 3) := dw_17 wX10_init_c 0 128 rfl rfl rfl
theorem dX10_init_67 : decode cX10_init 67 = .ok (.newarray .int, 2) := by decide +kernel
theorem dX10_init_69 : decode cX10_init 69 = .ok (.putfield 32, 3) := dw_181 wX10_init_c 0 32 rfl rfl
theorem dX10_init_72 : decode cX10_init 72 = .ok (.aload_n 0, 1) := dw_42 wX10_init_c rfl
theorem dX10_init_73 : decode cX10_init 73 = .ok (.sipush 175, 3) := dw_17 wX10_init_c 0 175 rfl rfl rfl
theorem dX10_init_76 : decode cX10_init 76 = .ok (.newarray .byte, 2) := by decide +kernel
theorem dX10_init_78 : decode cX10_init 78 = .ok (.dup, 1) := dw_89 wX10_init_c rfl
theorem dX10_init_79 : decode cX10_init 79 = .ok (.iconst 0, 1) := dw_3 wX10_init_c rfl
theorem dX10_init_80 : decode cX10_init 80 = .ok (.bipush 111, 2) := dw_16 wX10_init_c 111 rfl rfl rfl
theorem dX10_init_82 : decode cX10_init 82 = .ok (.bastore, 1) := dw_84 wX10_init_c rfl
theorem dX10_init_83 : decode cX10_init 83 = .ok (.dup, 1) := dw_89 wX10_init_c rfl
theorem dX10_init_84 : decode cX10_init 84 = .ok (.iconst 1, 1) := dw_4 wX10_init_c rfl
theorem dX10_init_85 : decode cX10_init 85 = .ok (.bipush 114, 2) := dw_16 wX10_init_c 114 rfl rfl rfl
theorem dX10_init_87 : decode cX10_init 87 = .ok (.bastore, 1) := dw_84 wX10_init_c rfl
theorem dX10_init_88 : decode cX10_init 88 = .ok (.dup, 1) := dw_89 wX10_init_c rfl
theorem dX10_init_89 : decode cX10_init 89 = .ok (.iconst 2, 1) := dw_5 wX10_init_c rfl
theorem dX10_init_90 : decode cX10_init 90 = .ok (.iconst 0, 1) := dw_3 wX10_init_c rfl
theorem dX10_init_91 : decode cX10_init 91 = .ok (.bastore, 1) := dw_84 wX10_init_c rfl
theorem dX10_init_92 : decode cX10_init 92 = .ok (.dup, 1) := dw_89 wX10_init_c rfl
theorem dX10_init_93 : decode cX10_init 93 = .ok (.iconst 3, 1) := dw_6 wX10_init_c rfl
theorem dX10_init_94 : decode cX10_init 94 = .ok (.iconst 0, 1) := dw_3 wX10_init_c rfl
theorem dX10_init_95 : decode cX10_init 95 = .ok (.bastore, 1) := dw_84 wX10_init_c rfl
theorem dX10_init_96 : decode cX10_init 96 = .ok (.dup, 1) := dw_89 wX10_init_c rfl
theorem dX10_init_97 : decode cX10_init 97 = .ok (.iconst 4, 1) := dw_7 wX10_init_c rfl
theorem dX10_init_98 : decode cX10_init 98 = .ok (.iconst 0, 1) := dw_3 wX10_init_c rfl
theorem dX10_init_99 : decode cX10_init 99 = .ok (.bastore, 1) := dw_84 wX10_init_c rfl
theorem dX10_init_100 : decode cX10_init 100 = .ok (.dup, 1) := dw_89 wX10_init_c rfl
theorem dX10_init_101 : decode cX10_init 101 = .ok (.iconst 5, 1) := dw_8 wX10_init_c rfl
theorem dX10_init_102 : decode cX10_init 102 = .ok (.iconst 0, 1) := dw_3 wX10_init_c rfl
theorem dX10_init_103 : decode cX10_init 103 = .ok (.bastore, 1) := dw_84 wX10_init_c rfl
theorem dX10_init_104 : decode cX10_init 104 = .ok (.dup, 1) := dw_89 wX10_init_c rfl
theorem dX10_init_105 : decode cX10_init 105 = .ok (.bipush 6, 2) := dw_16 wX10_init_c 6 rfl rfl rfl
theorem dX10_init_107 : decode cX10_init 107 = .ok (.iconst 0, 1) := dw_3 wX10_init_c rfl
theorem dX10_init_108 : decode cX10_init 108 = .ok (.bastore, 1) := dw_84 wX10_init_c rfl
theorem dX10_init_109 : decode cX10_init 109 = .ok (.dup, 1) := dw_89 wX10_init_c rfl
theorem dX10_init_110 : decode cX10_init 110 = .ok (.bipush 7, 2) := dw_16 wX10_init_c 7 rfl rfl rfl
theorem dX10_init_112 : decode cX10_init 112 = .ok (.bipush 97, 2) := dw_16 wX10_init_c 97 rfl rfl rfl
theorem dX10_init_114 : decode cX10_init 114 = .ok (.bastore, 1) := dw_84 wX10_init_c rfl
theorem dX10_init_115 : decode cX10_init 115 = .ok (.dup, 1) := dw_89 wX10_init_c rfl
theorem dX10_init_116 : decode cX10_init 116 = .ok (.bipush 8, 2) := dw_16 wX10_init_c 8 rfl rfl rfl
theorem dX10_init_118 : decode cX10_init 118 = .ok (.bipush 110, 2) := dw_16 wX10_init_c 110 rfl rfl rfl
theorem dX10_init_120 : decode cX10_init 120 = .ok (.bastore, 1) := dw_84 wX10_init_c rfl
theorem dX10_init_121 : decode cX10_init 121 = .ok (.dup, 1) := dw_89 wX10_init_c rfl
theorem dX10_init_122 : decode cX10_init 122 = .ok (.bipush 9, 2) := dw_16 wX10_init_c 9 rfl rfl rfl
theorem dX10_init_124 : decode cX10_init 124 = .ok (.bipush 100, 2) := dw_16 wX10_init_c 100 rfl rfl rfl
theorem dX10_init_126 : decode cX10_init 126 = .ok (.bastore, 1) := dw_84 wX10_init_c rfl
theorem dX10_init_127 : decode cX10_init 127 = .ok (.dup, 1) := dw_89 wX10_init_c rfl
theorem dX10_init_128 : decode cX10_init 128 = .ok (.bipush 10, 2) := dw_16 wX10_init_c 10 rfl rfl rfl
theorem dX10_init_130 : decode cX10_init 130 = .ok (.iconst 0, 1) := dw_3 wX10_init_c rfl
theorem dX10_init_131 : decode cX10_init 131 = .ok (.bastore, 1) := dw_84 wX10_init_c rfl
theorem dX10_init_132 : decode cX10_init 132 = .ok (.dup, 1) := dw_89 wX10_init_c rfl
theorem dX10_init_133 : decode cX10_init 133 = .ok (.bipush 11, 2) := dw_16 wX10_init_c 11 rfl rfl rfl
theorem dX10_init_135 : decode cX10_init 135 = .ok (.iconst 0, 1) := dw_3 wX10_init_c rfl
theorem dX10_init_136 : decode cX10_init 136 = .ok (.bastore, 1) := dw_84 wX10_init_c rfl
theorem dX10_init_137 : decode cX10_init 137 = .ok (.dup, 1) := dw_89 wX10_init_c rfl
theorem dX10_init_138 : decode cX10_init 138 = .ok (.bipush 12, 2) := dw_16 wX10_init_c 12 rfl rfl rfl
theorem dX10_init_140 : decode cX10_init 140 = .ok (.iconst 0, 1) := dw_3 wX10_init_c rfl
theorem dX10_init_141 : decode cX10_init 141 = .ok (.bastore, 1) := dw_84 wX10_init_c rfl
theorem dX10_init_142 : decode cX10_init 142 = .ok (.dup, 1) := dw_89 wX10_init_c rfl
theorem dX10_init_143 : decode cX10_init 143 = .ok (.bipush 13, 2) := dw_16 wX10_init_c 13 rfl rfl rfl
theorem dX10_init_145 : decode cX10_init 145 = .ok (.iconst 0, 1) := dw_3 wX10_init_c rfl
theorem dX10_init_146 : decode cX10_init 146 = .ok (.bastore, 1) := dw_84 wX10_init_c rfl
theorem dX10_init_147 : decode cX10_init 147 = .ok (.dup, 1) := dw_89 wX10_init_c rfl
theorem dX10_init_148 : decode cX10_init 148 = .ok (.bipush 14, 2) := dw_16 wX10_init_c 14 rfl rfl rfl
theorem dX10_init_150 : decode cX10_init 150 = .ok (.bipush 110, 2) := dw_16 wX10_init_c 110 rfl rfl rfl
theorem dX10_init_152 : decode cX10_init 152 = .ok (.bastore, 1) := dw_84 wX10_init_c rfl
theorem dX10_init_153 : decode cX10_init 153 = .ok (.dup, 1) := dw_89 wX10_init_c rfl
theorem dX10_init_154 : decode cX10_init 154 = .ok (.bipush 15, 2) := dw_16 wX10_init_c 15 rfl rfl rfl
theorem dX10_init_156 : decode cX10_init 156 = .ok (.bipush 111, 2) := dw_16 wX10_init_c 111 rfl rfl rfl
theorem dX10_init_158 : decode cX10_init 158 = .ok (.bastore, 1) := dw_84 wX10_init_c rfl
theorem dX10_init_159 : decode cX10_init 159 = .ok (.dup, 1) := dw_89 wX10_init_c rfl
theorem dX10_init_160 : decode cX10_init 160 = .ok (.bipush 16, 2) := dw_16 wX10_init_c 16 rfl rfl rfl
theorem dX10_init_162 : decode cX10_init 162 = .ok (.bipush 116, 2) := dw_16 wX10_init_c 116 rfl rfl rfl
theorem dX10_init_164 : decode cX10_init 164 = .ok (.bastore, 1) := dw_84 wX10_init_c rfl
theorem dX10_init_165 : decode cX10_init 165 = .ok (.dup, 1) := dw_89 wX10_init_c rfl
theorem dX10_init_166 : decode cX10_init 166 = .ok (.bipush 17, 2) := dw_16 wX10_init_c 17 rfl rfl rfl
theorem dX10_init_168 : decode cX10_init 168 = .ok (.iconst 0, 1) := dw_3 wX10_init_c rfl
theorem dX10_init_169 : decode cX10_init 169 = .ok (.bastore, 1) := dw_84 wX10_init_c rfl
theorem dX10_init_170 : decode cX10_init 170 = .ok (.dup, 1) := dw_89 wX10_init_c rfl
theorem dX10_init_171 : decode cX10_init 171 = .ok (.bipush 18, 2) := dw_16 wX10_init_c 18 rfl rfl rfl
theorem dX10_init_173 : decode cX10_init 173 = .ok (.iconst 0, 1) := dw_3 wX10_init_c rfl
theorem dX10_init_174 : decode cX10_init 174 = .ok (.bastore, 1) := dw_84 wX10_init_c rfl
theorem dX10_init_175 : decode cX10_init 175 = .ok (.dup, 1) := dw_89 wX10_init_c rfl
theorem dX10_init_176 : decode cX10_init 176 = .ok (.bipush 19, 2) := dw_16 wX10_init_c 19 rfl rfl rfl
theorem dX10_init_178 : decode cX10_init 178 = .ok (.iconst 0, 1) := dw_3 wX10_init_c rfl
theorem dX10_init_179 : decode cX10_init 179 = .ok (.bastore, 1) := dw_84 wX10_init_c rfl
theorem dX10_init_180 : decode cX10_init 180 = .ok (.dup, 1) := dw_89 wX10_init_c rfl
theorem dX10_init_181 : decode cX10_init 181 = .ok (.bipush 20, 2) := dw_16 wX10_init_c 20 rfl rfl rfl
theorem dX10_init_183 : decode cX10_init 183 = .ok (.iconst 0, 1) := dw_3 wX10_init_c rfl
theorem dX10_init_184 : decode cX10_init 184 = .ok (.bastore, 1) := dw_84 wX10_init_c rfl
theorem dX10_init_185 : decode cX10_init 185 = .ok (.dup, 1) := dw_89 wX10_init_c rfl
theorem dX10_init_186 : decode cX10_init 186 = .ok (.bipush 21, 2) := dw_16 wX10_init_c 21 rfl rfl rfl
theorem dX10_init_188 : decode cX10_init 188 = .ok (.bipush 111, 2) := dw_16 wX10_init_c 111 rfl rfl rfl
theorem dX10_init_190 : decode cX10_init 190 = .ok (.bastore, 1) := dw_84 wX10_init_c rfl
theorem dX10_init_191 : decode cX10_init 191 = .ok (.dup, 1) := dw_89 wX10_init_c rfl
theorem dX10_init_192 : decode cX10_init 192 = .ok (.bipush 22, 2) := dw_16 wX10_init_c 22 rfl rfl rfl
theorem dX10_init_194 : decode cX10_init 194 = .ok (.bipush 97, 2) := dw_16 wX10_init_c 97 rfl rfl rfl
theorem dX10_init_196 : decode cX10_init 196 = .ok (.bastore, 1) := dw_84 wX10_init_c rfl
theorem dX10_init_197 : decode cX10_init 197 = .ok (.dup, 1) := dw_89 wX10_init_c rfl
theorem dX10_init_198 : decode cX10_init 198 = .ok (.bipush 23, 2) := dw_16 wX10_init_c 23 rfl rfl rfl
theorem dX10_init_200 : decode cX10_init 200 = .ok (.bipush 116, 2) := dw_16 wX10_init_c 116 rfl rfl rfl
theorem dX10_init_202 : decode cX10_init 202 = .ok (.bastore, 1) := dw_84 wX10_init_c rfl
theorem dX10_init_203 : decode cX10_init 203 = .ok (.dup, 1) := dw_89 wX10_init_c rfl
theorem dX10_init_204 : decode cX10_init 204 = .ok (.bipush 24, 2) := dw_16 wX10_init_c 24 rfl rfl rfl
theorem dX10_init_206 : decode cX10_init 206 = .ok (.bipush 104, 2) := dw_16 wX10_init_c 104 rfl rfl rfl
theorem dX10_init_208 : decode cX10_init 208 = .ok (.bastore, 1) := dw_84 wX10_init_c rfl
theorem dX10_init_209 : decode cX10_init 209 = .ok (.dup, 1) := dw_89 wX10_init_c rfl
theorem dX10_init_210 : decode cX10_init 210 = .ok (.bipush 25, 2) := dw_16 wX10_init_c 25 rfl rfl rfl
theorem dX10_init_212 : decode cX10_init 212 = .ok (.iconst 0, 1) := dw_3 wX10_init_c rfl
theorem dX10_init_213 : decode cX10_init 213 = .ok (.bastore, 1) := dw_84 wX10_init_c rfl
theorem dX10_init_214 : decode cX10_init 214 = .ok (.dup, 1) := dw_89 wX10_init_c rfl
theorem dX10_init_215 : decode cX10_init 215 = .ok (.bipush 26, 2) := dw_16 wX10_init_c 26 rfl rfl rfl
theorem dX10_init_217 : decode cX10_init 217 = .ok (.iconst 0, 1) := dw_3 wX10_init_c rfl
theorem dX10_init_218 : decode cX10_init 218 = .ok (.bastore, 1) := dw_84 wX10_init_c rfl
theorem dX10_init_219 : decode cX10_init 219 = .ok (.dup, 1) := dw_89 wX10_init_c rfl
theorem dX10_init_220 : decode cX10_init 220 = .ok (.bipush 27, 2) := dw_16 wX10_init_c 27 rfl rfl rfl
theorem dX10_init_222 : decode cX10_init 222 = .ok (.iconst 0, 1) := dw_3 wX10_init_c rfl
theorem dX10_init_223 : decode cX10_init 223 = .ok (.bastore, 1) := dw_84 wX10_init_c rfl
theorem dX10_init_224 : decode cX10_init 224 = .ok (.dup, 1) := dw_89 wX10_init_c rfl
theorem dX10_init_225 : decode cX10_init 225 = .ok (.bipush 28, 2) := dw_16 wX10_init_c 28 rfl rfl rfl
theorem dX10_init_227 : decode cX10_init 227 = .ok (.bipush 100, 2) := dw_16 wX10_init_c 100 rfl rfl rfl
theorem dX10_init_229 : decode cX10_init 229 = .ok (.bastore, 1) := dw_84 wX10_init_c rfl
theorem dX10_init_230 : decode cX10_init 230 = .ok (.dup, 1) := dw_89 wX10_init_c rfl
theorem dX10_init_231 : decode cX10_init 231 = .ok (.bipush 29, 2) := dw_16 wX10_init_c 29 rfl rfl rfl
theorem dX10_init_233 : decode cX10_init 233 = .ok (.bipush 101, 2) := dw_16 wX10_init_c 101 rfl rfl rfl
theorem dX10_init_235 : decode cX10_init 235 = .ok (.bastore, 1) := dw_84 wX10_init_c rfl
theorem dX10_init_236 : decode cX10_init 236 = .ok (.dup, 1) := dw_89 wX10_init_c rfl
theorem dX10_init_237 : decode cX10_init 237 = .ok (.bipush 30, 2) := dw_16 wX10_init_c 30 rfl rfl rfl
theorem dX10_init_239 : decode cX10_init 239 = .ok (.bipush 110, 2) := dw_16 wX10_init_c 110 rfl rfl rfl
theorem dX10_init_241 : decode cX10_init 241 = .ok (.bastore, 1) := dw_84 wX10_init_c rfl
theorem dX10_init_242 : decode cX10_init 242 = .ok (.dup, 1) := dw_89 wX10_init_c rfl
theorem dX10_init_243 : decode cX10_init 243 = .ok (.bipush 31, 2) := dw_16 wX10_init_c 31 rfl rfl rfl
theorem dX10_init_245 : decode cX10_init 245 = .ok (.bipush 105, 2) := dw_16 wX10_init_c 105 rfl rfl rfl
theorem dX10_init_247 : decode cX10_init 247 = .ok (.bastore, 1) := dw_84 wX10_init_c rfl
theorem dX10_init_248 : decode cX10_init 248 = .ok (.dup, 1) := dw_89 wX10_init_c rfl
theorem dX10_init_249 : decode cX10_init 249 = .ok (.bipush 32, 2) := dw_16 wX10_init_c 32 rfl rfl rfl
theorem dX10_init_251 : decode cX10_init 251 = .ok (.bipush 101, 2) := dw_16 wX10_init_c 101 rfl rfl rfl
theorem dX10_init_253 : decode cX10_init 253 = .ok (.bastore, 1) := dw_84 wX10_init_c rfl
theorem dX10_init_254 : decode cX10_init 254 = .ok (.dup, 1) := dw_89 wX10_init_c rfl
theorem dX10_init_255 : decode cX10_init 255 = .ok (.bipush 33, 2) := dw_16 wX10_init_c 33 rfl rfl rfl
theorem dX10_init_257 : decode cX10_init 257 = .ok (.bipush 100, 2) := dw_16 wX10_init_c 100 rfl rfl rfl
theorem dX10_init_259 : decode cX10_init 259 = .ok (.bastore, 1) := dw_84 wX10_init_c rfl
theorem dX10_init_260 : decode cX10_init 260 = .ok (.dup, 1) := dw_89 wX10_init_c rfl
theorem dX10_init_261 : decode cX10_init 261 = .ok (.bipush 34, 2) := dw_16 wX10_init_c 34 rfl rfl rfl
theorem dX10_init_263 : decode cX10_init 263 = .ok (.iconst 0, 1) := dw_3 wX10_init_c rfl
theorem dX10_init_264 : decode cX10_init 264 = .ok (.bastore, 1) := dw_84 wX10_init_c rfl
theorem dX10_init_265 : decode cX10_init 265 = .ok (.dup, 1) := dw_89 wX10_init_c rfl
theorem dX10_init_266 : decode cX10_init 266 = .ok (.bipush 35, 2) := dw_16 wX10_init_c 35 rfl rfl rfl
theorem dX10_init_268 : decode cX10_init 268 = .ok (.bipush 110, 2) := dw_16 wX10_init_c 110 rfl rfl rfl
theorem dX10_init_270 : decode cX10_init 270 = .ok (.bastore, 1) := dw_84 wX10_init_c rfl
theorem dX10_init_271 : decode cX10_init 271 = .ok (.dup, 1) := dw_89 wX10_init_c rfl
theorem dX10_init_272 : decode cX10_init 272 = .ok (.bipush 36, 2) := dw_16 wX10_init_c 36 rfl rfl rfl
theorem dX10_init_274 : decode cX10_init 274 = .ok (.bipush 111, 2) := dw_16 wX10_init_c 111 rfl rfl rfl
theorem dX10_init_276 : decode cX10_init 276 = .ok (.bastore, 1) := dw_84 wX10_init_c rfl
theorem dX10_init_277 : decode cX10_init 277 = .ok (.dup, 1) := dw_89 wX10_init_c rfl
theorem dX10_init_278 : decode cX10_init 278 = .ok (.bipush 37, 2) := dw_16 wX10_init_c 37 rfl rfl rfl
theorem dX10_init_280 : decode cX10_init 280 = .ok (.bipush 116, 2) := dw_16 wX10_init_c 116 rfl rfl rfl
theorem dX10_init_282 : decode cX10_init 282 = .ok (.bastore, 1) := dw_84 wX10_init_c rfl
theorem dX10_init_283 : decode cX10_init 283 = .ok (.dup, 1) := dw_89 wX10_init_c rfl
theorem dX10_init_284 : decode cX10_init 284 = .ok (.bipush 38, 2) := dw_16 wX10_init_c 38 rfl rfl rfl
theorem dX10_init_286 : decode cX10_init 286 = .ok (.bipush 101, 2) := dw_16 wX10_init_c 101 rfl rfl rfl
theorem dX10_init_288 : decode cX10_init 288 = .ok (.bastore, 1) := dw_84 wX10_init_c rfl
theorem dX10_init_289 : decode cX10_init 289 = .ok (.dup, 1) := dw_89 wX10_init_c rfl
theorem dX10_init_290 : decode cX10_init 290 = .ok (.bipush 39, 2) := dw_16 wX10_init_c 39 rfl rfl rfl
theorem dX10_init_292 : decode cX10_init 292 = .ok (.iconst 0, 1) := dw_3 wX10_init_c rfl
theorem dX10_init_293 : decode cX10_init 293 = .ok (.bastore, 1) := dw_84 wX10_init_c rfl
theorem dX10_init_294 : decode cX10_init 294 = .ok (.dup, 1) := dw_89 wX10_init_c rfl
theorem dX10_init_295 : decode cX10_init 295 = .ok (.bipush 40, 2) := dw_16 wX10_init_c 40 rfl rfl rfl
theorem dX10_init_297 : decode cX10_init 297 = .ok (.iconst 0, 1) := dw_3 wX10_init_c rfl
theorem dX10_init_298 : decode cX10_init 298 = .ok (.bastore, 1) := dw_84 wX10_init_c rfl
theorem dX10_init_299 : decode cX10_init 299 = .ok (.dup, 1) := dw_89 wX10_init_c rfl
theorem dX10_init_300 : decode cX10_init 300 = .ok (.bipush 41, 2) := dw_16 wX10_init_c 41 rfl rfl rfl
theorem dX10_init_302 : decode cX10_init 302 = .ok (.iconst 0, 1) := dw_3 wX10_init_c rfl
theorem dX10_init_303 : decode cX10_init 303 = .ok (.bastore, 1) := dw_84 wX10_init_c rfl
theorem dX10_init_304 : decode cX10_init 304 = .ok (.dup, 1) := dw_89 wX10_init_c rfl
theorem dX10_init_305 : decode cX10_init 305 = .ok (.bipush 42, 2) := dw_16 wX10_init_c 42 rfl rfl rfl
theorem dX10_init_307 : decode cX10_init 307 = .ok (.bipush 119, 2) := dw_16 wX10_init_c 119 rfl rfl rfl
theorem dX10_init_309 : decode cX10_init 309 = .ok (.bastore, 1) := dw_84 wX10_init_c rfl
theorem dX10_init_310 : decode cX10_init 310 = .ok (.dup, 1) := dw_89 wX10_init_c rfl
theorem dX10_init_311 : decode cX10_init 311 = .ok (.bipush 43, 2) := dw_16 wX10_init_c 43 rfl rfl rfl
theorem dX10_init_313 : decode cX10_init 313 = .ok (.bipush 105, 2) := dw_16 wX10_init_c 105 rfl rfl rfl
theorem dX10_init_315 : decode cX10_init 315 = .ok (.bastore, 1) := dw_84 wX10_init_c rfl
theorem dX10_init_316 : decode cX10_init 316 = .ok (.dup, 1) := dw_89 wX10_init_c rfl
theorem dX10_init_317 : decode cX10_init 317 = .ok (.bipush 44, 2) := dw_16 wX10_init_c 44 rfl rfl rfl
theorem dX10_init_319 : decode cX10_init 319 = .ok (.bipush 116, 2) := dw_16 wX10_init_c 116 rfl rfl rfl
theorem dX10_init_321 : decode cX10_init 321 = .ok (.bastore, 1) := dw_84 wX10_init_c rfl
theorem dX10_init_322 : decode cX10_init 322 = .ok (.dup, 1) := dw_89 wX10_init_c rfl
theorem dX10_init_323 : decode cX10_init 323 = .ok (.bipush 45, 2) := dw_16 wX10_init_c 45 rfl rfl rfl
theorem dX10_init_325 : decode cX10_init 325 = .ok (.bipush 110, 2) := dw_16 wX10_init_c 110 rfl rfl rfl
theorem dX10_init_327 : decode cX10_init 327 = .ok (.bastore, 1) := dw_84 wX10_init_c rfl
theorem dX10_init_328 : decode cX10_init 328 = .ok (.dup, 1) := dw_89 wX10_init_c rfl
theorem dX10_init_329 : decode cX10_init 329 = .ok (.bipush 46, 2) := dw_16 wX10_init_c 46 rfl rfl rfl
theorem dX10_init_331 : decode cX10_init 331 = .ok (.bipush 101, 2) := dw_16 wX10_init_c 101 rfl rfl rfl
theorem dX10_init_333 : decode cX10_init 333 = .ok (.bastore, 1) := dw_84 wX10_init_c rfl
theorem dX10_init_334 : decode cX10_init 334 = .ok (.dup, 1) := dw_89 wX10_init_c rfl
theorem dX10_init_335 : decode cX10_init 335 = .ok (.bipush 47, 2) := dw_16 wX10_init_c 47 rfl rfl rfl
theorem dX10_init_337 : decode cX10_init 337 = .ok (.bipush 115, 2) := dw_16 wX10_init_c 115 rfl rfl rfl
theorem dX10_init_339 : decode cX10_init 339 = .ok (.bastore, 1) := dw_84 wX10_init_c rfl
theorem dX10_init_340 : decode cX10_init 340 = .ok (.dup, 1) := dw_89 wX10_init_c rfl
theorem dX10_init_341 : decode cX10_init 341 = .ok (.bipush 48, 2) := dw_16 wX10_init_c 48 rfl rfl rfl
theorem dX10_init_343 : decode cX10_init 343 = .ok (.bipush 115, 2) := dw_16 wX10_init_c 115 rfl rfl rfl
theorem dX10_init_345 : decode cX10_init 345 = .ok (.bastore, 1) := dw_84 wX10_init_c rfl
theorem dX10_init_346 : decode cX10_init 346 = .ok (.dup, 1) := dw_89 wX10_init_c rfl
theorem dX10_init_347 : decode cX10_init 347 = .ok (.bipush 49, 2) := dw_16 wX10_init_c 49 rfl rfl rfl
theorem dX10_init_349 : decode cX10_init 349 = .ok (.bipush 111, 2) := dw_16 wX10_init_c 111 rfl rfl rfl
theorem dX10_init_351 : decode cX10_init 351 = .ok (.bastore, 1) := dw_84 wX10_init_c rfl
theorem dX10_init_352 : decode cX10_init 352 = .ok (.dup, 1) := dw_89 wX10_init_c rfl
theorem dX10_init_353 : decode cX10_init 353 = .ok (.bipush 50, 2) := dw_16 wX10_init_c 50 rfl rfl rfl
theorem dX10_init_355 : decode cX10_init 355 = .ok (.bipush 119, 2) := dw_16 wX10_init_c 119 rfl rfl rfl
theorem dX10_init_357 : decode cX10_init 357 = .ok (.bastore, 1) := dw_84 wX10_init_c rfl
theorem dX10_init_358 : decode cX10_init 358 = .ok (.dup, 1) := dw_89 wX10_init_c rfl
theorem dX10_init_359 : decode cX10_init 359 = .ok (.bipush 51, 2) := dw_16 wX10_init_c 51 rfl rfl rfl
theorem dX10_init_361 : decode cX10_init 361 = .ok (.bipush 110, 2) := dw_16 wX10_init_c 110 rfl rfl rfl
theorem dX10_init_363 : decode cX10_init 363 = .ok (.bastore, 1) := dw_84 wX10_init_c rfl
theorem dX10_init_364 : decode cX10_init 364 = .ok (.dup, 1) := dw_89 wX10_init_c rfl
theorem dX10_init_365 : decode cX10_init 365 = .ok (.bipush 52, 2) := dw_16 wX10_init_c 52 rfl rfl rfl
theorem dX10_init_367 : decode cX10_init 367 = .ok (.iconst 0, 1) := dw_3 wX10_init_c rfl
theorem dX10_init_368 : decode cX10_init 368 = .ok (.bastore, 1) := dw_84 wX10_init_c rfl
theorem dX10_init_369 : decode cX10_init 369 = .ok (.dup, 1) := dw_89 wX10_init_c rfl
theorem dX10_init_370 : decode cX10_init 370 = .ok (.bipush 53, 2) := dw_16 wX10_init_c 53 rfl rfl rfl
theorem dX10_init_372 : decode cX10_init 372 = .ok (.iconst 0, 1) := dw_3 wX10_init_c rfl
theorem dX10_init_373 : decode cX10_init 373 = .ok (.bastore, 1) := dw_84 wX10_init_c rfl
theorem dX10_init_374 : decode cX10_init 374 = .ok (.dup, 1) := dw_89 wX10_init_c rfl
theorem dX10_init_375 : decode cX10_init 375 = .ok (.bipush 54, 2) := dw_16 wX10_init_c 54 rfl rfl rfl
theorem dX10_init_377 : decode cX10_init 377 = .ok (.iconst 0, 1) := dw_3 wX10_init_c rfl
theorem dX10_init_378 : decode cX10_init 378 = .ok (.bastore, 1) := dw_84 wX10_init_c rfl
theorem dX10_init_379 : decode cX10_init 379 = .ok (.dup, 1) := dw_89 wX10_init_c rfl
theorem dX10_init_380 : decode cX10_init 380 = .ok (.bipush 55, 2) := dw_16 wX10_init_c 55 rfl rfl rfl
theorem dX10_init_382 : decode cX10_init 382 = .ok (.iconst 0, 1) := dw_3 wX10_init_c rfl
theorem dX10_init_383 : decode cX10_init 383 = .ok (.bastore, 1) := dw_84 wX10_init_c rfl
theorem dX10_init_384 : decode cX10_init 384 = .ok (.dup, 1) := dw_89 wX10_init_c rfl
theorem dX10_init_385 : decode cX10_init 385 = .ok (.bipush 56, 2) := dw_16 wX10_init_c 56 rfl rfl rfl
theorem dX10_init_387 : decode cX10_init 387 = .ok (.bipush 111, 2) := dw_16 wX10_init_c 111 rfl rfl rfl
theorem dX10_init_389 : decode cX10_init 389 = .ok (.bastore, 1) := dw_84 wX10_init_c rfl
theorem dX10_init_390 : decode cX10_init 390 = .ok (.dup, 1) := dw_89 wX10_init_c rfl
theorem dX10_init_391 : decode cX10_init 391 = .ok (.bipush 57, 2) := dw_16 wX10_init_c 57 rfl rfl rfl
theorem dX10_init_393 : decode cX10_init 393 = .ok (.bipush 116, 2) := dw_16 wX10_init_c 116 rfl rfl rfl
theorem dX10_init_395 : decode cX10_init 395 = .ok (.bastore, 1) := dw_84 wX10_init_c rfl
theorem dX10_init_396 : decode cX10_init 396 = .ok (.dup, 1) := dw_89 wX10_init_c rfl
theorem dX10_init_397 : decode cX10_init 397 = .ok (.bipush 58, 2) := dw_16 wX10_init_c 58 rfl rfl rfl
theorem dX10_init_399 : decode cX10_init 399 = .ok (.bipush 104, 2) := dw_16 wX10_init_c 104 rfl rfl rfl
theorem dX10_init_401 : decode cX10_init 401 = .ok (.bastore, 1) := dw_84 wX10_init_c rfl
theorem dX10_init_402 : decode cX10_init 402 = .ok (.dup, 1) := dw_89 wX10_init_c rfl
theorem dX10_init_403 : decode cX10_init 403 = .ok (.bipush 59, 2) := dw_16 wX10_init_c 59 rfl rfl rfl
theorem dX10_init_405 : decode cX10_init 405 = .ok (.bipush 101, 2) := dw_16 wX10_init_c 101 rfl rfl rfl
theorem dX10_init_407 : decode cX10_init 407 = .ok (.bastore, 1) := dw_84 wX10_init_c rfl
theorem dX10_init_408 : decode cX10_init 408 = .ok (.dup, 1) := dw_89 wX10_init_c rfl
theorem dX10_init_409 : decode cX10_init 409 = .ok (.bipush 60, 2) := dw_16 wX10_init_c 60 rfl rfl rfl
theorem dX10_init_411 : decode cX10_init 411 = .ok (.bipush 114, 2) := dw_16 wX10_init_c 114 rfl rfl rfl
theorem dX10_init_413 : decode cX10_init 413 = .ok (.bastore, 1) := dw_84 wX10_init_c rfl
theorem dX10_init_414 : decode cX10_init 414 = .ok (.dup, 1) := dw_89 wX10_init_c rfl
theorem dX10_init_415 : decode cX10_init 415 = .ok (.bipush 61, 2) := dw_16 wX10_init_c 61 rfl rfl rfl
theorem dX10_init_417 : decode cX10_init 417 = .ok (.iconst 0, 1) := dw_3 wX10_init_c rfl
theorem dX10_init_418 : decode cX10_init 418 = .ok (.bastore, 1) := dw_84 wX10_init_c rfl
theorem dX10_init_419 : decode cX10_init 419 = .ok (.dup, 1) := dw_89 wX10_init_c rfl
theorem dX10_init_420 : decode cX10_init 420 = .ok (.bipush 62, 2) := dw_16 wX10_init_c 62 rfl rfl rfl
theorem dX10_init_422 : decode cX10_init 422 = .ok (.iconst 0, 1) := dw_3 wX10_init_c rfl
theorem dX10_init_423 : decode cX10_init 423 = .ok (.bastore, 1) := dw_84 wX10_init_c rfl
theorem dX10_init_424 : decode cX10_init 424 = .ok (.dup, 1) := dw_89 wX10_init_c rfl
theorem dX10_init_425 : decode cX10_init 425 = .ok (.bipush 63, 2) := dw_16 wX10_init_c 63 rfl rfl rfl
theorem dX10_init_427 : decode cX10_init 427 = .ok (.bipush 97, 2) := dw_16 wX10_init_c 97 rfl rfl rfl
theorem dX10_init_429 : decode cX10_init 429 = .ok (.bastore, 1) := dw_84 wX10_init_c rfl
theorem dX10_init_430 : decode cX10_init 430 = .ok (.dup, 1) := dw_89 wX10_init_c rfl
theorem dX10_init_431 : decode cX10_init 431 = .ok (.bipush 64, 2) := dw_16 wX10_init_c 64 rfl rfl rfl
theorem dX10_init_433 : decode cX10_init 433 = .ok (.bipush 108, 2) := dw_16 wX10_init_c 108 rfl rfl rfl
theorem dX10_init_435 : decode cX10_init 435 = .ok (.bastore, 1) := dw_84 wX10_init_c rfl
theorem dX10_init_436 : decode cX10_init 436 = .ok (.dup, 1) := dw_89 wX10_init_c rfl
theorem dX10_init_437 : decode cX10_init 437 = .ok (.bipush 65, 2) := dw_16 wX10_init_c 65 rfl rfl rfl
theorem dX10_init_439 : decode cX10_init 439 = .ok (.bipush 105, 2) := dw_16 wX10_init_c 105 rfl rfl rfl
theorem dX10_init_441 : decode cX10_init 441 = .ok (.bastore, 1) := dw_84 wX10_init_c rfl
theorem dX10_init_442 : decode cX10_init 442 = .ok (.dup, 1) := dw_89 wX10_init_c rfl
theorem dX10_init_443 : decode cX10_init 443 = .ok (.bipush 66, 2) := dw_16 wX10_init_c 66 rfl rfl rfl
theorem dX10_init_445 : decode cX10_init 445 = .ok (.bipush 107, 2) := dw_16 wX10_init_c 107 rfl rfl rfl
theorem dX10_init_447 : decode cX10_init 447 = .ok (.bastore, 1) := dw_84 wX10_init_c rfl
theorem dX10_init_448 : decode cX10_init 448 = .ok (.dup, 1) := dw_89 wX10_init_c rfl
theorem dX10_init_449 : decode cX10_init 449 = .ok (.bipush 67, 2) := dw_16 wX10_init_c 67 rfl rfl rfl
theorem dX10_init_451 : decode cX10_init 451 = .ok (.bipush 101, 2) := dw_16 wX10_init_c 101 rfl rfl rfl
theorem dX10_init_453 : decode cX10_init 453 = .ok (.bastore, 1) := dw_84 wX10_init_c rfl
theorem dX10_init_454 : decode cX10_init 454 = .ok (.dup, 1) := dw_89 wX10_init_c rfl
theorem dX10_init_455 : decode cX10_init 455 = .ok (.bipush 68, 2) := dw_16 wX10_init_c 68 rfl rfl rfl
theorem dX10_init_457 : decode cX10_init 457 = .ok (.iconst 0, 1) := dw_3 wX10_init_c rfl
theorem dX10_init_458 : decode cX10_init 458 = .ok (.bastore, 1) := dw_84 wX10_init_c rfl
theorem dX10_init_459 : decode cX10_init 459 = .ok (.dup, 1) := dw_89 wX10_init_c rfl
theorem dX10_init_460 : decode cX10_init 460 = .ok (.bipush 69, 2) := dw_16 wX10_init_c 69 rfl rfl rfl
theorem dX10_init_462 : decode cX10_init 462 = .ok (.iconst 0, 1) := dw_3 wX10_init_c rfl
theorem dX10_init_463 : decode cX10_init 463 = .ok (.bastore, 1) := dw_84 wX10_init_c rfl
theorem dX10_init_464 : decode cX10_init 464 = .ok (.dup, 1) := dw_89 wX10_init_c rfl
theorem dX10_init_465 : decode cX10_init 465 = .ok (.bipush 70, 2) := dw_16 wX10_init_c 70 rfl rfl rfl
theorem dX10_init_467 : decode cX10_init 467 = .ok (.bipush 99, 2) := dw_16 wX10_init_c 99 rfl rfl rfl
theorem dX10_init_469 : decode cX10_init 469 = .ok (.bastore, 1) := dw_84 wX10_init_c rfl
theorem dX10_init_470 : decode cX10_init 470 = .ok (.dup, 1) := dw_89 wX10_init_c rfl
theorem dX10_init_471 : decode cX10_init 471 = .ok (.bipush 71, 2) := dw_16 wX10_init_c 71 rfl rfl rfl
theorem dX10_init_473 : decode cX10_init 473 = .ok (.bipush 108, 2) := dw_16 wX10_init_c 108 rfl rfl rfl
theorem dX10_init_475 : decode cX10_init 475 = .ok (.bastore, 1) := dw_84 wX10_init_c rfl
theorem dX10_init_476 : decode cX10_init 476 = .ok (.dup, 1) := dw_89 wX10_init_c rfl
theorem dX10_init_477 : decode cX10_init 477 = .ok (.bipush 72, 2) := dw_16 wX10_init_c 72 rfl rfl rfl
theorem dX10_init_479 : decode cX10_init 479 = .ok (.bipush 97, 2) := dw_16 wX10_init_c 97 rfl rfl rfl
theorem dX10_init_481 : decode cX10_init 481 = .ok (.bastore, 1) := dw_84 wX10_init_c rfl
theorem dX10_init_482 : decode cX10_init 482 = .ok (.dup, 1) := dw_89 wX10_init_c rfl
theorem dX10_init_483 : decode cX10_init 483 = .ok (.bipush 73, 2) := dw_16 wX10_init_c 73 rfl rfl rfl
theorem dX10_init_485 : decode cX10_init 485 = .ok (.bipush 105, 2) := dw_16 wX10_init_c 105 rfl rfl rfl
theorem dX10_init_487 : decode cX10_init 487 = .ok (.bastore, 1) := dw_84 wX10_init_c rfl
theorem dX10_init_488 : decode cX10_init 488 = .ok (.dup, 1) := dw_89 wX10_init_c rfl
theorem dX10_init_489 : decode cX10_init 489 = .ok (.bipush 74, 2) := dw_16 wX10_init_c 74 rfl rfl rfl
theorem dX10_init_491 : decode cX10_init 491 = .ok (.bipush 109, 2) := dw_16 wX10_init_c 109 rfl rfl rfl
theorem dX10_init_493 : decode cX10_init 493 = .ok (.bastore, 1) := dw_84 wX10_init_c rfl
theorem dX10_init_494 : decode cX10_init 494 = .ok (.dup, 1) := dw_89 wX10_init_c rfl
theorem dX10_init_495 : decode cX10_init 495 = .ok (.bipush 75, 2) := dw_16 wX10_init_c 75 rfl rfl rfl
theorem dX10_init_497 : decode cX10_init 497 = .ok (.bipush 101, 2) := dw_16 wX10_init_c 101 rfl rfl rfl
theorem dX10_init_499 : decode cX10_init 499 = .ok (.bastore, 1) := dw_84 wX10_init_c rfl
theorem dX10_init_500 : decode cX10_init 500 = .ok (.dup, 1) := dw_89 wX10_init_c rfl
theorem dX10_init_501 : decode cX10_init 501 = .ok (.bipush 76, 2) := dw_16 wX10_init_c 76 rfl rfl rfl
theorem dX10_init_503 : decode cX10_init 503 = .ok (.bipush 100, 2) := dw_16 wX10_init_c 100 rfl rfl rfl
theorem dX10_init_505 : decode cX10_init 505 = .ok (.bastore, 1) := dw_84 wX10_init_c rfl
theorem dX10_init_506 : decode cX10_init 506 = .ok (.dup, 1) := dw_89 wX10_init_c rfl
theorem dX10_init_507 : decode cX10_init 507 = .ok (.bipush 77, 2) := dw_16 wX10_init_c 77 rfl rfl rfl
theorem dX10_init_509 : decode cX10_init 509 = .ok (.bipush 109, 2) := dw_16 wX10_init_c 109 rfl rfl rfl
theorem dX10_init_511 : decode cX10_init 511 = .ok (.bastore, 1) := dw_84 wX10_init_c rfl
theorem dX10_init_512 : decode cX10_init 512 = .ok (.dup, 1) := dw_89 wX10_init_c rfl
theorem dX10_init_513 : decode cX10_init 513 = .ok (.bipush 78, 2) := dw_16 wX10_init_c 78 rfl rfl rfl
theorem dX10_init_515 : decode cX10_init 515 = .ok (.bipush 111, 2) := dw_16 wX10_init_c 111 rfl rfl rfl
theorem dX10_init_517 : decode cX10_init 517 = .ok (.bastore, 1) := dw_84 wX10_init_c rfl
theorem dX10_init_518 : decode cX10_init 518 = .ok (.dup, 1) := dw_89 wX10_init_c rfl
theorem dX10_init_519 : decode cX10_init 519 = .ok (.bipush 79, 2) := dw_16 wX10_init_c 79 rfl rfl rfl
theorem dX10_init_521 : decode cX10_init 521 = .ok (.bipush 115, 2) := dw_16 wX10_init_c 115 rfl rfl rfl
theorem dX10_init_523 : decode cX10_init 523 = .ok (.bastore, 1) := dw_84 wX10_init_c rfl
theorem dX10_init_524 : decode cX10_init 524 = .ok (.dup, 1) := dw_89 wX10_init_c rfl
theorem dX10_init_525 : decode cX10_init 525 = .ok (.bipush 80, 2) := dw_16 wX10_init_c 80 rfl rfl rfl
theorem dX10_init_527 : decode cX10_init 527 = .ok (.bipush 116, 2) := dw_16 wX10_init_c 116 rfl rfl rfl
theorem dX10_init_529 : decode cX10_init 529 = .ok (.bastore, 1) := dw_84 wX10_init_c rfl
theorem dX10_init_530 : decode cX10_init 530 = .ok (.dup, 1) := dw_89 wX10_init_c rfl
theorem dX10_init_531 : decode cX10_init 531 = .ok (.bipush 81, 2) := dw_16 wX10_init_c 81 rfl rfl rfl
theorem dX10_init_533 : decode cX10_init 533 = .ok (.iconst 0, 1) := dw_3 wX10_init_c rfl
theorem dX10_init_534 : decode cX10_init 534 = .ok (.bastore, 1) := dw_84 wX10_init_c rfl
theorem dX10_init_535 : decode cX10_init 535 = .ok (.dup, 1) := dw_89 wX10_init_c rfl
theorem dX10_init_536 : decode cX10_init 536 = .ok (.bipush 82, 2) := dw_16 wX10_init_c 82 rfl rfl rfl
theorem dX10_init_538 : decode cX10_init 538 = .ok (.iconst 0, 1) := dw_3 wX10_init_c rfl
theorem dX10_init_539 : decode cX10_init 539 = .ok (.bastore, 1) := dw_84 wX10_init_c rfl
theorem dX10_init_540 : decode cX10_init 540 = .ok (.dup, 1) := dw_89 wX10_init_c rfl
theorem dX10_init_541 : decode cX10_init 541 = .ok (.bipush 83, 2) := dw_16 wX10_init_c 83 rfl rfl rfl
theorem dX10_init_543 : decode cX10_init 543 = .ok (.iconst 0, 1) := dw_3 wX10_init_c rfl
theorem dX10_init_544 : decode cX10_init 544 = .ok (.bastore, 1) := dw_84 wX10_init_c rfl
theorem dX10_init_545 : decode cX10_init 545 = .ok (.dup, 1) := dw_89 wX10_init_c rfl
theorem dX10_init_546 : decode cX10_init 546 = .ok (.bipush 84, 2) := dw_16 wX10_init_c 84 rfl rfl rfl
theorem dX10_init_548 : decode cX10_init 548 = .ok (.bipush 115, 2) := dw_16 wX10_init_c 115 rfl rfl rfl
theorem dX10_init_550 : decode cX10_init 550 = .ok (.bastore, 1) := dw_84 wX10_init_c rfl
theorem dX10_init_551 : decode cX10_init 551 = .ok (.dup, 1) := dw_89 wX10_init_c rfl
theorem dX10_init_552 : decode cX10_init 552 = .ok (.bipush 85, 2) := dw_16 wX10_init_c 85 rfl rfl rfl
theorem dX10_init_554 : decode cX10_init 554 = .ok (.bipush 112, 2) := dw_16 wX10_init_c 112 rfl rfl rfl
theorem dX10_init_556 : decode cX10_init 556 = .ok (.bastore, 1) := dw_84 wX10_init_c rfl
theorem dX10_init_557 : decode cX10_init 557 = .ok (.dup, 1) := dw_89 wX10_init_c rfl
theorem dX10_init_558 : decode cX10_init 558 = .ok (.bipush 86, 2) := dw_16 wX10_init_c 86 rfl rfl rfl
theorem dX10_init_560 : decode cX10_init 560 = .ok (.bipush 108, 2) := dw_16 wX10_init_c 108 rfl rfl rfl
theorem dX10_init_562 : decode cX10_init 562 = .ok (.bastore, 1) := dw_84 wX10_init_c rfl
theorem dX10_init_563 : decode cX10_init 563 = .ok (.dup, 1) := dw_89 wX10_init_c rfl
theorem dX10_init_564 : decode cX10_init 564 = .ok (.bipush 87, 2) := dw_16 wX10_init_c 87 rfl rfl rfl
theorem dX10_init_566 : decode cX10_init 566 = .ok (.bipush 105, 2) := dw_16 wX10_init_c 105 rfl rfl rfl
theorem dX10_init_568 : decode cX10_init 568 = .ok (.bastore, 1) := dw_84 wX10_init_c rfl
theorem dX10_init_569 : decode cX10_init 569 = .ok (.dup, 1) := dw_89 wX10_init_c rfl
theorem dX10_init_570 : decode cX10_init 570 = .ok (.bipush 88, 2) := dw_16 wX10_init_c 88 rfl rfl rfl
theorem dX10_init_572 : decode cX10_init 572 = .ok (.bipush 116, 2) := dw_16 wX10_init_c 116 rfl rfl rfl
theorem dX10_init_574 : decode cX10_init 574 = .ok (.bastore, 1) := dw_84 wX10_init_c rfl
theorem dX10_init_575 : decode cX10_init 575 = .ok (.dup, 1) := dw_89 wX10_init_c rfl
theorem dX10_init_576 : decode cX10_init 576 = .ok (.bipush 89, 2) := dw_16 wX10_init_c 89 rfl rfl rfl
theorem dX10_init_578 : decode cX10_init 578 = .ok (.iconst 0, 1) := dw_3 wX10_init_c rfl
theorem dX10_init_579 : decode cX10_init 579 = .ok (.bastore, 1) := dw_84 wX10_init_c rfl
theorem dX10_init_580 : decode cX10_init 580 = .ok (.dup, 1) := dw_89 wX10_init_c rfl
theorem dX10_init_581 : decode cX10_init 581 = .ok (.bipush 90, 2) := dw_16 wX10_init_c 90 rfl rfl rfl
theorem dX10_init_583 : decode cX10_init 583 = .ok (.iconst 0, 1) := dw_3 wX10_init_c rfl
theorem dX10_init_584 : decode cX10_init 584 = .ok (.bastore, 1) := dw_84 wX10_init_c rfl
theorem dX10_init_585 : decode cX10_init 585 = .ok (.dup, 1) := dw_89 wX10_init_c rfl
theorem dX10_init_586 : decode cX10_init 586 = .ok (.bipush 91, 2) := dw_16 wX10_init_c 91 rfl rfl rfl
theorem dX10_init_588 : decode cX10_init 588 = .ok (.bipush 119, 2) := dw_16 wX10_init_c 119 rfl rfl rfl
theorem dX10_init_590 : decode cX10_init 590 = .ok (.bastore, 1) := dw_84 wX10_init_c rfl
theorem dX10_init_591 : decode cX10_init 591 = .ok (.dup, 1) := dw_89 wX10_init_c rfl
theorem dX10_init_592 : decode cX10_init 592 = .ok (.bipush 92, 2) := dw_16 wX10_init_c 92 rfl rfl rfl
theorem dX10_init_594 : decode cX10_init 594 = .ok (.bipush 101, 2) := dw_16 wX10_init_c 101 rfl rfl rfl
theorem dX10_init_596 : decode cX10_init 596 = .ok (.bastore, 1) := dw_84 wX10_init_c rfl
theorem dX10_init_597 : decode cX10_init 597 = .ok (.dup, 1) := dw_89 wX10_init_c rfl
theorem dX10_init_598 : decode cX10_init 598 = .ok (.bipush 93, 2) := dw_16 wX10_init_c 93 rfl rfl rfl
theorem dX10_init_600 : decode cX10_init 600 = .ok (.bipush 101, 2) := dw_16 wX10_init_c 101 rfl rfl rfl
theorem dX10_init_602 : decode cX10_init 602 = .ok (.bastore, 1) := dw_84 wX10_init_c rfl
theorem dX10_init_603 : decode cX10_init 603 = .ok (.dup, 1) := dw_89 wX10_init_c rfl
theorem dX10_init_604 : decode cX10_init 604 = .ok (.bipush 94, 2) := dw_16 wX10_init_c 94 rfl rfl rfl
theorem dX10_init_606 : decode cX10_init 606 = .ok (.bipush 107, 2) := dw_16 wX10_init_c 107 rfl rfl rfl
theorem dX10_init_608 : decode cX10_init 608 = .ok (.bastore, 1) := dw_84 wX10_init_c rfl
theorem dX10_init_609 : decode cX10_init 609 = .ok (.dup, 1) := dw_89 wX10_init_c rfl
theorem dX10_init_610 : decode cX10_init 610 = .ok (.bipush 95, 2) := dw_16 wX10_init_c 95 rfl rfl rfl
theorem dX10_init_612 : decode cX10_init 612 = .ok (.iconst 0, 1) := dw_3 wX10_init_c rfl
theorem dX10_init_613 : decode cX10_init 613 = .ok (.bastore, 1) := dw_84 wX10_init_c rfl
theorem dX10_init_614 : decode cX10_init 614 = .ok (.dup, 1) := dw_89 wX10_init_c rfl
theorem dX10_init_615 : decode cX10_init 615 = .ok (.bipush 96, 2) := dw_16 wX10_init_c 96 rfl rfl rfl
theorem dX10_init_617 : decode cX10_init 617 = .ok (.iconst 0, 1) := dw_3 wX10_init_c rfl
theorem dX10_init_618 : decode cX10_init 618 = .ok (.bastore, 1) := dw_84 wX10_init_c rfl
theorem dX10_init_619 : decode cX10_init 619 = .ok (.dup, 1) := dw_89 wX10_init_c rfl
theorem dX10_init_620 : decode cX10_init 620 = .ok (.bipush 97, 2) := dw_16 wX10_init_c 97 rfl rfl rfl
theorem dX10_init_622 : decode cX10_init 622 = .ok (.iconst 0, 1) := dw_3 wX10_init_c rfl
theorem dX10_init_623 : decode cX10_init 623 = .ok (.bastore, 1) := dw_84 wX10_init_c rfl
theorem dX10_init_624 : decode cX10_init 624 = .ok (.dup, 1) := dw_89 wX10_init_c rfl
theorem dX10_init_625 : decode cX10_init 625 = .ok (.bipush 98, 2) := dw_16 wX10_init_c 98 rfl rfl rfl
theorem dX10_init_627 : decode cX10_init 627 = .ok (.bipush 107, 2) := dw_16 wX10_init_c 107 rfl rfl rfl
theorem dX10_init_629 : decode cX10_init 629 = .ok (.bastore, 1) := dw_84 wX10_init_c rfl
theorem dX10_init_630 : decode cX10_init 630 = .ok (.dup, 1) := dw_89 wX10_init_c rfl
theorem dX10_init_631 : decode cX10_init 631 = .ok (.bipush 99, 2) := dw_16 wX10_init_c 99 rfl rfl rfl
theorem dX10_init_633 : decode cX10_init 633 = .ok (.bipush 101, 2) := dw_16 wX10_init_c 101 rfl rfl rfl
theorem dX10_init_635 : decode cX10_init 635 = .ok (.bastore, 1) := dw_84 wX10_init_c rfl
theorem dX10_init_636 : decode cX10_init 636 = .ok (.dup, 1) := dw_89 wX10_init_c rfl
theorem dX10_init_637 : decode cX10_init 637 = .ok (.bipush 100, 2) := dw_16 wX10_init_c 100 rfl rfl rfl
theorem dX10_init_639 : decode cX10_init 639 = .ok (.bipush 101, 2) := dw_16 wX10_init_c 101 rfl rfl rfl
theorem dX10_init_641 : decode cX10_init 641 = .ok (.bastore, 1) := dw_84 wX10_init_c rfl
theorem dX10_init_642 : decode cX10_init 642 = .ok (.dup, 1) := dw_89 wX10_init_c rfl
theorem dX10_init_643 : decode cX10_init 643 = .ok (.bipush 101, 2) := dw_16 wX10_init_c 101 rfl rfl rfl
theorem dX10_init_645 : decode cX10_init 645 = .ok (.bipush 112, 2) := dw_16 wX10_init_c 112 rfl rfl rfl
theorem dX10_init_647 : decode cX10_init 647 = .ok (.bastore, 1) := dw_84 wX10_init_c rfl
theorem dX10_init_648 : decode cX10_init 648 = .ok (.dup, 1) := dw_89 wX10_init_c rfl
theorem dX10_init_649 : decode cX10_init 649 = .ok (.bipush 102, 2) := dw_16 wX10_init_c 102 rfl rfl rfl
theorem dX10_init_651 : decode cX10_init 651 = .ok (.iconst 0, 1) := dw_3 wX10_init_c rfl
theorem dX10_init_652 : decode cX10_init 652 = .ok (.bastore, 1) := dw_84 wX10_init_c rfl
theorem dX10_init_653 : decode cX10_init 653 = .ok (.dup, 1) := dw_89 wX10_init_c rfl
theorem dX10_init_654 : decode cX10_init 654 = .ok (.bipush 103, 2) := dw_16 wX10_init_c 103 rfl rfl rfl
theorem dX10_init_656 : decode cX10_init 656 = .ok (.iconst 0, 1) := dw_3 wX10_init_c rfl
theorem dX10_init_657 : decode cX10_init 657 = .ok (.bastore, 1) := dw_84 wX10_init_c rfl
theorem dX10_init_658 : decode cX10_init 658 = .ok (.dup, 1) := dw_89 wX10_init_c rfl
theorem dX10_init_659 : decode cX10_init 659 = .ok (.bipush 104, 2) := dw_16 wX10_init_c 104 rfl rfl rfl
theorem dX10_init_661 : decode cX10_init 661 = .ok (.iconst 0, 1) := dw_3 wX10_init_c rfl
theorem dX10_init_662 : decode cX10_init 662 = .ok (.bastore, 1) := dw_84 wX10_init_c rfl
theorem dX10_init_663 : decode cX10_init 663 = .ok (.dup, 1) := dw_89 wX10_init_c rfl
theorem dX10_init_664 : decode cX10_init 664 = .ok (.bipush 105, 2) := dw_16 wX10_init_c 105 rfl rfl rfl
theorem dX10_init_666 : decode cX10_init 666 = .ok (.bipush 108, 2) := dw_16 wX10_init_c 108 rfl rfl rfl
theorem dX10_init_668 : decode cX10_init 668 = .ok (.bastore, 1) := dw_84 wX10_init_c rfl
theorem dX10_init_669 : decode cX10_init 669 = .ok (.dup, 1) := dw_89 wX10_init_c rfl
theorem dX10_init_670 : decode cX10_init 670 = .ok (.bipush 106, 2) := dw_16 wX10_init_c 106 rfl rfl rfl
theorem dX10_init_672 : decode cX10_init 672 = .ok (.bipush 97, 2) := dw_16 wX10_init_c 97 rfl rfl rfl
theorem dX10_init_674 : decode cX10_init 674 = .ok (.bastore, 1) := dw_84 wX10_init_c rfl
theorem dX10_init_675 : decode cX10_init 675 = .ok (.dup, 1) := dw_89 wX10_init_c rfl
theorem dX10_init_676 : decode cX10_init 676 = .ok (.bipush 107, 2) := dw_16 wX10_init_c 107 rfl rfl rfl
theorem dX10_init_678 : decode cX10_init 678 = .ok (.bipush 116, 2) := dw_16 wX10_init_c 116 rfl rfl rfl
theorem dX10_init_680 : decode cX10_init 680 = .ok (.bastore, 1) := dw_84 wX10_init_c rfl
theorem dX10_init_681 : decode cX10_init 681 = .ok (.dup, 1) := dw_89 wX10_init_c rfl
theorem dX10_init_682 : decode cX10_init 682 = .ok (.bipush 108, 2) := dw_16 wX10_init_c 108 rfl rfl rfl
theorem dX10_init_684 : decode cX10_init 684 = .ok (.bipush 101, 2) := dw_16 wX10_init_c 101 rfl rfl rfl
theorem dX10_init_686 : decode cX10_init 686 = .ok (.bastore, 1) := dw_84 wX10_init_c rfl
theorem dX10_init_687 : decode cX10_init 687 = .ok (.dup, 1) := dw_89 wX10_init_c rfl
theorem dX10_init_688 : decode cX10_init 688 = .ok (.bipush 109, 2) := dw_16 wX10_init_c 109 rfl rfl rfl
theorem dX10_init_690 : decode cX10_init 690 = .ok (.iconst 0, 1) := dw_3 wX10_init_c rfl
theorem dX10_init_691 : decode cX10_init 691 = .ok (.bastore, 1) := dw_84 wX10_init_c rfl
theorem dX10_init_692 : decode cX10_init 692 = .ok (.dup, 1) := dw_89 wX10_init_c rfl
theorem dX10_init_693 : decode cX10_init 693 = .ok (.bipush 110, 2) := dw_16 wX10_init_c 110 rfl rfl rfl
theorem dX10_init_695 : decode cX10_init 695 = .ok (.iconst 0, 1) := dw_3 wX10_init_c rfl
theorem dX10_init_696 : decode cX10_init 696 = .ok (.bastore, 1) := dw_84 wX10_init_c rfl
theorem dX10_init_697 : decode cX10_init 697 = .ok (.dup, 1) := dw_89 wX10_init_c rfl
theorem dX10_init_698 : decode cX10_init 698 = .ok (.bipush 111, 2) := dw_16 wX10_init_c 111 rfl rfl rfl
theorem dX10_init_700 : decode cX10_init 700 = .ok (.iconst 0, 1) := dw_3 wX10_init_c rfl
theorem dX10_init_701 : decode cX10_init 701 = .ok (.bastore, 1) := dw_84 wX10_init_c rfl
theorem dX10_init_702 : decode cX10_init 702 = .ok (.dup, 1) := dw_89 wX10_init_c rfl
theorem dX10_init_703 : decode cX10_init 703 = .ok (.bipush 112, 2) := dw_16 wX10_init_c 112 rfl rfl rfl
theorem dX10_init_705 : decode cX10_init 705 = .ok (.bipush 103, 2) := dw_16 wX10_init_c 103 rfl rfl rfl
theorem dX10_init_707 : decode cX10_init 707 = .ok (.bastore, 1) := dw_84 wX10_init_c rfl
theorem dX10_init_708 : decode cX10_init 708 = .ok (.dup, 1) := dw_89 wX10_init_c rfl
theorem dX10_init_709 : decode cX10_init 709 = .ok (.bipush 113, 2) := dw_16 wX10_init_c 113 rfl rfl rfl
theorem dX10_init_711 : decode cX10_init 711 = .ok (.bipush 97, 2) := dw_16 wX10_init_c 97 rfl rfl rfl
theorem dX10_init_713 : decode cX10_init 713 = .ok (.bastore, 1) := dw_84 wX10_init_c rfl
theorem dX10_init_714 : decode cX10_init 714 = .ok (.dup, 1) := dw_89 wX10_init_c rfl
theorem dX10_init_715 : decode cX10_init 715 = .ok (.bipush 114, 2) := dw_16 wX10_init_c 114 rfl rfl rfl
theorem dX10_init_717 : decode cX10_init 717 = .ok (.bipush 111, 2) := dw_16 wX10_init_c 111 rfl rfl rfl
theorem dX10_init_719 : decode cX10_init 719 = .ok (.bastore, 1) := dw_84 wX10_init_c rfl
theorem dX10_init_720 : decode cX10_init 720 = .ok (.dup, 1) := dw_89 wX10_init_c rfl
theorem dX10_init_721 : decode cX10_init 721 = .ok (.bipush 115, 2) := dw_16 wX10_init_c 115 rfl rfl rfl
theorem dX10_init_723 : decode cX10_init 723 = .ok (.bipush 108, 2) := dw_16 wX10_init_c 108 rfl rfl rfl
theorem dX10_init_725 : decode cX10_init 725 = .ok (.bastore, 1) := dw_84 wX10_init_c rfl
theorem dX10_init_726 : decode cX10_init 726 = .ok (.dup, 1) := dw_89 wX10_init_c rfl
theorem dX10_init_727 : decode cX10_init 727 = .ok (.bipush 116, 2) := dw_16 wX10_init_c 116 rfl rfl rfl
theorem dX10_init_729 : decode cX10_init 729 = .ok (.iconst 0, 1) := dw_3 wX10_init_c rfl
theorem dX10_init_730 : decode cX10_init 730 = .ok (.bastore, 1) := dw_84 wX10_init_c rfl
theorem dX10_init_731 : decode cX10_init 731 = .ok (.dup, 1) := dw_89 wX10_init_c rfl
theorem dX10_init_732 : decode cX10_init 732 = .ok (.bipush 117, 2) := dw_16 wX10_init_c 117 rfl rfl rfl
theorem dX10_init_734 : decode cX10_init 734 = .ok (.iconst 0, 1) := dw_3 wX10_init_c rfl
theorem dX10_init_735 : decode cX10_init 735 = .ok (.bastore, 1) := dw_84 wX10_init_c rfl
theorem dX10_init_736 : decode cX10_init 736 = .ok (.dup, 1) := dw_89 wX10_init_c rfl
theorem dX10_init_737 : decode cX10_init 737 = .ok (.bipush 118, 2) := dw_16 wX10_init_c 118 rfl rfl rfl
theorem dX10_init_739 : decode cX10_init 739 = .ok (.iconst 0, 1) := dw_3 wX10_init_c rfl
theorem dX10_init_740 : decode cX10_init 740 = .ok (.bastore, 1) := dw_84 wX10_init_c rfl
theorem dX10_init_741 : decode cX10_init 741 = .ok (.dup, 1) := dw_89 wX10_init_c rfl
theorem dX10_init_742 : decode cX10_init 742 = .ok (.bipush 119, 2) := dw_16 wX10_init_c 119 rfl rfl rfl
theorem dX10_init_744 : decode cX10_init 744 = .ok (.bipush 108, 2) := dw_16 wX10_init_c 108 rfl rfl rfl
theorem dX10_init_746 : decode cX10_init 746 = .ok (.bastore, 1) := dw_84 wX10_init_c rfl
theorem dX10_init_747 : decode cX10_init 747 = .ok (.dup, 1) := dw_89 wX10_init_c rfl
theorem dX10_init_748 : decode cX10_init 748 = .ok (.bipush 120, 2) := dw_16 wX10_init_c 120 rfl rfl rfl
theorem dX10_init_750 : decode cX10_init 750 = .ok (.bipush 111, 2) := dw_16 wX10_init_c 111 rfl rfl rfl
theorem dX10_init_752 : decode cX10_init 752 = .ok (.bastore, 1) := dw_84 wX10_init_c rfl
theorem dX10_init_753 : decode cX10_init 753 = .ok (.dup, 1) := dw_89 wX10_init_c rfl
theorem dX10_init_754 : decode cX10_init 754 = .ok (.bipush 121, 2) := dw_16 wX10_init_c 121 rfl rfl rfl
theorem dX10_init_756 : decode cX10_init 756 = .ok (.bipush 110, 2) := dw_16 wX10_init_c 110 rfl rfl rfl
theorem dX10_init_758 : decode cX10_init 758 = .ok (.bastore, 1) := dw_84 wX10_init_c rfl
theorem dX10_init_759 : decode cX10_init 759 = .ok (.dup, 1) := dw_89 wX10_init_c rfl
theorem dX10_init_760 : decode cX10_init 760 = .ok (.bipush 122, 2) := dw_16 wX10_init_c 122 rfl rfl rfl
theorem dX10_init_762 : decode cX10_init 762 = .ok (.bipush 103, 2) := dw_16 wX10_init_c 103 rfl rfl rfl
theorem dX10_init_764 : decode cX10_init 764 = .ok (.bastore, 1) := dw_84 wX10_init_c rfl
theorem dX10_init_765 : decode cX10_init 765 = .ok (.dup, 1) := dw_89 wX10_init_c rfl
theorem dX10_init_766 : decode cX10_init 766 = .ok (.bipush 123, 2) := dw_16 wX10_init_c 123 rfl rfl rfl
theorem dX10_init_768 : decode cX10_init 768 = .ok (.bipush 101, 2) := dw_16 wX10_init_c 101 rfl rfl rfl
theorem dX10_init_770 : decode cX10_init 770 = .ok (.bastore, 1) := dw_84 wX10_init_c rfl
theorem dX10_init_771 : decode cX10_init 771 = .ok (.dup, 1) := dw_89 wX10_init_c rfl
theorem dX10_init_772 : decode cX10_init 772 = .ok (.bipush 124, 2) := dw_16 wX10_init_c 124 rfl rfl rfl
theorem dX10_init_774 : decode cX10_init 774 = .ok (.bipush 115, 2) := dw_16 wX10_init_c 115 rfl rfl rfl
theorem dX10_init_776 : decode cX10_init 776 = .ok (.bastore, 1) := dw_84 wX10_init_c rfl
theorem dX10_init_777 : decode cX10_init 777 = .ok (.dup, 1) := dw_89 wX10_init_c rfl
theorem dX10_init_778 : decode cX10_init 778 = .ok (.bipush 125, 2) := dw_16 wX10_init_c 125 rfl rfl rfl
theorem dX10_init_780 : decode cX10_init 780 = .ok (.bipush 116, 2) := dw_16 wX10_init_c 116 rfl rfl rfl
theorem dX10_init_782 : decode cX10_init 782 = .ok (.bastore, 1) := dw_84 wX10_init_c rfl
theorem dX10_init_783 : decode cX10_init 783 = .ok (.dup, 1) := dw_89 wX10_init_c rfl
theorem dX10_init_784 : decode cX10_init 784 = .ok (.bipush 126, 2) := dw_16 wX10_init_c 126 rfl rfl rfl
theorem dX10_init_786 : decode cX10_init 786 = .ok (.bipush 97, 2) := dw_16 wX10_init_c 97 rfl rfl rfl
theorem dX10_init_788 : decode cX10_init 788 = .ok (.bastore, 1) := dw_84 wX10_init_c rfl
theorem dX10_init_789 : decode cX10_init 789 = .ok (.dup, 1) := dw_89 wX10_init_c rfl
theorem dX10_init_790 : decode cX10_init 790 = .ok (.bipush 127, 2) := dw_16 wX10_init_c 127 rfl rfl rfl
theorem dX10_init_792 : decode cX10_init 792 = .ok (.bipush 103, 2) := dw_16 wX10_init_c 103 rfl rfl rfl
theorem dX10_init_794 : decode cX10_init 794 = .ok (.bastore, 1) := dw_84 wX10_init_c rfl
theorem dX10_init_795 : decode cX10_init 795 = .ok (.dup, 1) := dw_89 wX10_init_c rfl
theorem dX10_init_796 : decode cX10_init 796 = .ok (.sipush 128, 3) := dw_17 wX10_init_c 0 128 rfl rfl rfl
theorem dX10_init_799 : decode cX10_init 799 = .ok (.bipush 101, 2) := dw_16 wX10_init_c 101 rfl rfl rfl
theorem dX10_init_801 : decode cX10_init 801 = .ok (.bastore, 1) := dw_84 wX10_init_c rfl
theorem dX10_init_802 : decode cX10_init 802 = .ok (.dup, 1) := dw_89 wX10_init_c rfl
theorem dX10_init_803 : decode cX10_init 803 = .ok (.sipush 129, 3) := dw_17 wX10_init_c 0 129 rfl rfl rfl
theorem dX10_init_806 : decode cX10_init 806 = .ok (.iconst 0, 1) := dw_3 wX10_init_c rfl
theorem dX10_init_807 : decode cX10_init 807 = .ok (.bastore, 1) := dw_84 wX10_init_c rfl
theorem dX10_init_808 : decode cX10_init 808 = .ok (.dup, 1) := dw_89 wX10_init_c rfl
theorem dX10_init_809 : decode cX10_init 809 = .ok (.sipush 130, 3) := dw_17 wX10_init_c 0 130 rfl rfl rfl
theorem dX10_init_812 : decode cX10_init 812 = .ok (.iconst 0, 1) := dw_3 wX10_init_c rfl
theorem dX10_init_813 : decode cX10_init 813 = .ok (.bastore, 1) := dw_84 wX10_init_c rfl
theorem dX10_init_814 : decode cX10_init 814 = .ok (.dup, 1) := dw_89 wX10_init_c rfl
theorem dX10_init_815 : decode cX10_init 815 = .ok (.sipush 131, 3) := dw_17 wX10_init_c 0 131 rfl rfl rfl
theorem dX10_init_818 : decode cX10_init 818 = .ok (.iconst 0, 1) := dw_3 wX10_init_c rfl
theorem dX10_init_819 : decode cX10_init 819 = .ok (.bastore, 1) := dw_84 wX10_init_c rfl
theorem dX10_init_820 : decode cX10_init 820 = .ok (.dup, 1) := dw_89 wX10_init_c rfl
theorem dX10_init_821 : decode cX10_init 821 = .ok (.sipush 132, 3) := dw_17 wX10_init_c 0 132 rfl rfl rfl
theorem dX10_init_824 : decode cX10_init 824 = .ok (.iconst 0, 1) := dw_3 wX10_init_c rfl
theorem dX10_init_825 : decode cX10_init 825 = .ok (.bastore, 1) := dw_84 wX10_init_c rfl
theorem dX10_init_826 : decode cX10_init 826 = .ok (.dup, 1) := dw_89 wX10_init_c rfl
theorem dX10_init_827 : decode cX10_init 827 = .ok (.sipush 133, 3) := dw_17 wX10_init_c 0 133 rfl rfl rfl
theorem dX10_init_830 : decode cX10_init 830 = .ok (.bipush 99, 2) := dw_16 wX10_init_c 99 rfl rfl rfl
theorem dX10_init_832 : decode cX10_init 832 = .ok (.bastore, 1) := dw_84 wX10_init_c rfl
theorem dX10_init_833 : decode cX10_init 833 = .ok (.dup, 1) := dw_89 wX10_init_c rfl
theorem dX10_init_834 : decode cX10_init 834 = .ok (.sipush 134, 3) := dw_17 wX10_init_c 0 134 rfl rfl rfl
theorem dX10_init_837 : decode cX10_init 837 = .ok (.bipush 111, 2) := dw_16 wX10_init_c 111 rfl rfl rfl
theorem dX10_init_839 : decode cX10_init 839 = .ok (.bastore, 1) := dw_84 wX10_init_c rfl
theorem dX10_init_840 : decode cX10_init 840 = .ok (.dup, 1) := dw_89 wX10_init_c rfl
theorem dX10_init_841 : decode cX10_init 841 = .ok (.sipush 135, 3) := dw_17 wX10_init_c 0 135 rfl rfl rfl
theorem dX10_init_844 : decode cX10_init 844 = .ok (.bipush 115, 2) := dw_16 wX10_init_c 115 rfl rfl rfl
theorem dX10_init_846 : decode cX10_init 846 = .ok (.bastore, 1) := dw_84 wX10_init_c rfl
theorem dX10_init_847 : decode cX10_init 847 = .ok (.dup, 1) := dw_89 wX10_init_c rfl
theorem dX10_init_848 : decode cX10_init 848 = .ok (.sipush 136, 3) := dw_17 wX10_init_c 0 136 rfl rfl rfl
theorem dX10_init_851 : decode cX10_init 851 = .ok (.bipush 116, 2) := dw_16 wX10_init_c 116 rfl rfl rfl
theorem dX10_init_853 : decode cX10_init 853 = .ok (.bastore, 1) := dw_84 wX10_init_c rfl
theorem dX10_init_854 : decode cX10_init 854 = .ok (.dup, 1) := dw_89 wX10_init_c rfl
theorem dX10_init_855 : decode cX10_init 855 = .ok (.sipush 137, 3) := dw_17 wX10_init_c 0 137 rfl rfl rfl
theorem dX10_init_858 : decode cX10_init 858 = .ok (.iconst 0, 1) := dw_3 wX10_init_c rfl
theorem dX10_init_859 : decode cX10_init 859 = .ok (.bastore, 1) := dw_84 wX10_init_c rfl
theorem dX10_init_860 : decode cX10_init 860 = .ok (.dup, 1) := dw_89 wX10_init_c rfl
theorem dX10_init_861 : decode cX10_init 861 = .ok (.sipush 138, 3) := dw_17 wX10_init_c 0 138 rfl rfl rfl
theorem dX10_init_864 : decode cX10_init 864 = .ok (.iconst 0, 1) := dw_3 wX10_init_c rfl
theorem dX10_init_865 : decode cX10_init 865 = .ok (.bastore, 1) := dw_84 wX10_init_c rfl
theorem dX10_init_866 : decode cX10_init 866 = .ok (.dup, 1) := dw_89 wX10_init_c rfl
theorem dX10_init_867 : decode cX10_init 867 = .ok (.sipush 139, 3) := dw_17 wX10_init_c 0 139 rfl rfl rfl
theorem dX10_init_870 : decode cX10_init 870 = .ok (.iconst 0, 1) := dw_3 wX10_init_c rfl
theorem dX10_init_871 : decode cX10_init 871 = .ok (.bastore, 1) := dw_84 wX10_init_c rfl
theorem dX10_init_872 : decode cX10_init 872 = .ok (.dup, 1) := dw_89 wX10_init_c rfl
theorem dX10_init_873 : decode cX10_init 873 = .ok (.sipush 140, 3) := dw_17 wX10_init_c 0 140 rfl rfl rfl
theorem dX10_init_876 : decode cX10_init 876 = .ok (.bipush 112, 2) := dw_16 wX10_init_c 112 rfl rfl rfl
theorem dX10_init_878 : decode cX10_init 878 = .ok (.bastore, 1) := dw_84 wX10_init_c rfl
theorem dX10_init_879 : decode cX10_init 879 = .ok (.dup, 1) := dw_89 wX10_init_c rfl
theorem dX10_init_880 : decode cX10_init 880 = .ok (.sipush 141, 3) := dw_17 wX10_init_c 0 141 rfl rfl rfl
theorem dX10_init_883 : decode cX10_init 883 = .ok (.bipush 114, 2) := dw_16 wX10_init_c 114 rfl rfl rfl
theorem dX10_init_885 : decode cX10_init 885 = .ok (.bastore, 1) := dw_84 wX10_init_c rfl
theorem dX10_init_886 : decode cX10_init 886 = .ok (.dup, 1) := dw_89 wX10_init_c rfl
theorem dX10_init_887 : decode cX10_init 887 = .ok (.sipush 142, 3) := dw_17 wX10_init_c 0 142 rfl rfl rfl
theorem dX10_init_890 : decode cX10_init 890 = .ok (.bipush 111, 2) := dw_16 wX10_init_c 111 rfl rfl rfl
theorem dX10_init_892 : decode cX10_init 892 = .ok (.bastore, 1) := dw_84 wX10_init_c rfl
theorem dX10_init_893 : decode cX10_init 893 = .ok (.dup, 1) := dw_89 wX10_init_c rfl
theorem dX10_init_894 : decode cX10_init 894 = .ok (.sipush 143, 3) := dw_17 wX10_init_c 0 143 rfl rfl rfl
theorem dX10_init_897 : decode cX10_init 897 = .ok (.bipush 118, 2) := dw_16 wX10_init_c 118 rfl rfl rfl
theorem dX10_init_899 : decode cX10_init 899 = .ok (.bastore, 1) := dw_84 wX10_init_c rfl
theorem dX10_init_900 : decode cX10_init 900 = .ok (.dup, 1) := dw_89 wX10_init_c rfl
theorem dX10_init_901 : decode cX10_init 901 = .ok (.sipush 144, 3) := dw_17 wX10_init_c 0 144 rfl rfl rfl
theorem dX10_init_904 : decode cX10_init 904 = .ok (.bipush 101, 2) := dw_16 wX10_init_c 101 rfl rfl rfl
theorem dX10_init_906 : decode cX10_init 906 = .ok (.bastore, 1) := dw_84 wX10_init_c rfl
theorem dX10_init_907 : decode cX10_init 907 = .ok (.dup, 1) := dw_89 wX10_init_c rfl
theorem dX10_init_908 : decode cX10_init 908 = .ok (.sipush 145, 3) := dw_17 wX10_init_c 0 145 rfl rfl rfl
theorem dX10_init_911 : decode cX10_init 911 = .ok (.iconst 0, 1) := dw_3 wX10_init_c rfl
theorem dX10_init_912 : decode cX10_init 912 = .ok (.bastore, 1) := dw_84 wX10_init_c rfl
theorem dX10_init_913 : decode cX10_init 913 = .ok (.dup, 1) := dw_89 wX10_init_c rfl
theorem dX10_init_914 : decode cX10_init 914 = .ok (.sipush 146, 3) := dw_17 wX10_init_c 0 146 rfl rfl rfl
theorem dX10_init_917 : decode cX10_init 917 = .ok (.iconst 0, 1) := dw_3 wX10_init_c rfl
theorem dX10_init_918 : decode cX10_init 918 = .ok (.bastore, 1) := dw_84 wX10_init_c rfl
theorem dX10_init_919 : decode cX10_init 919 = .ok (.dup, 1) := dw_89 wX10_init_c rfl
theorem dX10_init_920 : decode cX10_init 920 = .ok (.sipush 147, 3) := dw_17 wX10_init_c 0 147 rfl rfl rfl
theorem dX10_init_923 : decode cX10_init 923 = .ok (.bipush 115, 2) := dw_16 wX10_init_c 115 rfl rfl rfl
theorem dX10_init_925 : decode cX10_init 925 = .ok (.bastore, 1) := dw_84 wX10_init_c rfl
theorem dX10_init_926 : decode cX10_init 926 = .ok (.dup, 1) := dw_89 wX10_init_c rfl
theorem dX10_init_927 : decode cX10_init 927 = .ok (.sipush 148, 3) := dw_17 wX10_init_c 0 148 rfl rfl rfl
theorem dX10_init_930 : decode cX10_init 930 = .ok (.bipush 117, 2) := dw_16 wX10_init_c 117 rfl rfl rfl
theorem dX10_init_932 : decode cX10_init 932 = .ok (.bastore, 1) := dw_84 wX10_init_c rfl
theorem dX10_init_933 : decode cX10_init 933 = .ok (.dup, 1) := dw_89 wX10_init_c rfl
theorem dX10_init_934 : decode cX10_init 934 = .ok (.sipush 149, 3) := dw_17 wX10_init_c 0 149 rfl rfl rfl
theorem dX10_init_937 : decode cX10_init 937 = .ok (.bipush 109, 2) := dw_16 wX10_init_c 109 rfl rfl rfl
theorem dX10_init_939 : decode cX10_init 939 = .ok (.bastore, 1) := dw_84 wX10_init_c rfl
theorem dX10_init_940 : decode cX10_init 940 = .ok (.dup, 1) := dw_89 wX10_init_c rfl
theorem dX10_init_941 : decode cX10_init 941 = .ok (.sipush 150, 3) := dw_17 wX10_init_c 0 150 rfl rfl rfl
theorem dX10_init_944 : decode cX10_init 944 = .ok (.bipush 109, 2) := dw_16 wX10_init_c 109 rfl rfl rfl
theorem dX10_init_946 : decode cX10_init 946 = .ok (.bastore, 1) := dw_84 wX10_init_c rfl
theorem dX10_init_947 : decode cX10_init 947 = .ok (.dup, 1) := dw_89 wX10_init_c rfl
theorem dX10_init_948 : decode cX10_init 948 = .ok (.sipush 151, 3) := dw_17 wX10_init_c 0 151 rfl rfl rfl
theorem dX10_init_951 : decode cX10_init 951 = .ok (.bipush 111, 2) := dw_16 wX10_init_c 111 rfl rfl rfl
theorem dX10_init_953 : decode cX10_init 953 = .ok (.bastore, 1) := dw_84 wX10_init_c rfl
theorem dX10_init_954 : decode cX10_init 954 = .ok (.dup, 1) := dw_89 wX10_init_c rfl
theorem dX10_init_955 : decode cX10_init 955 = .ok (.sipush 152, 3) := dw_17 wX10_init_c 0 152 rfl rfl rfl
theorem dX10_init_958 : decode cX10_init 958 = .ok (.bipush 110, 2) := dw_16 wX10_init_c 110 rfl rfl rfl
theorem dX10_init_960 : decode cX10_init 960 = .ok (.bastore, 1) := dw_84 wX10_init_c rfl
theorem dX10_init_961 : decode cX10_init 961 = .ok (.dup, 1) := dw_89 wX10_init_c rfl
theorem dX10_init_962 : decode cX10_init 962 = .ok (.sipush 153, 3) := dw_17 wX10_init_c 0 153 rfl rfl rfl
theorem dX10_init_965 : decode cX10_init 965 = .ok (.bipush 115, 2) := dw_16 wX10_init_c 115 rfl rfl rfl
theorem dX10_init_967 : decode cX10_init 967 = .ok (.bastore, 1) := dw_84 wX10_init_c rfl
theorem dX10_init_968 : decode cX10_init 968 = .ok (.dup, 1) := dw_89 wX10_init_c rfl
theorem dX10_init_969 : decode cX10_init 969 = .ok (.sipush 154, 3) := dw_17 wX10_init_c 0 154 rfl rfl rfl
theorem dX10_init_972 : decode cX10_init 972 = .ok (.bipush 104, 2) := dw_16 wX10_init_c 104 rfl rfl rfl
theorem dX10_init_974 : decode cX10_init 974 = .ok (.bastore, 1) := dw_84 wX10_init_c rfl
theorem dX10_init_975 : decode cX10_init 975 = .ok (.dup, 1) := dw_89 wX10_init_c rfl
theorem dX10_init_976 : decode cX10_init 976 = .ok (.sipush 155, 3) := dw_17 wX10_init_c 0 155 rfl rfl rfl
theorem dX10_init_979 : decode cX10_init 979 = .ok (.bipush 101, 2) := dw_16 wX10_init_c 101 rfl rfl rfl
theorem dX10_init_981 : decode cX10_init 981 = .ok (.bastore, 1) := dw_84 wX10_init_c rfl
theorem dX10_init_982 : decode cX10_init 982 = .ok (.dup, 1) := dw_89 wX10_init_c rfl
theorem dX10_init_983 : decode cX10_init 983 = .ok (.sipush 156, 3) := dw_17 wX10_init_c 0 156 rfl rfl rfl
theorem dX10_init_986 : decode cX10_init 986 = .ok (.bipush 97, 2) := dw_16 wX10_init_c 97 rfl rfl rfl
theorem dX10_init_988 : decode cX10_init 988 = .ok (.bastore, 1) := dw_84 wX10_init_c rfl
theorem dX10_init_989 : decode cX10_init 989 = .ok (.dup, 1) := dw_89 wX10_init_c rfl
theorem dX10_init_990 : decode cX10_init 990 = .ok (.sipush 157, 3) := dw_17 wX10_init_c 0 157 rfl rfl rfl
theorem dX10_init_993 : decode cX10_init 993 = .ok (.bipush 114, 2) := dw_16 wX10_init_c 114 rfl rfl rfl
theorem dX10_init_995 : decode cX10_init 995 = .ok (.bastore, 1) := dw_84 wX10_init_c rfl
theorem dX10_init_996 : decode cX10_init 996 = .ok (.dup, 1) := dw_89 wX10_init_c rfl
theorem dX10_init_997 : decode cX10_init 997 = .ok (.sipush 158, 3) := dw_17 wX10_init_c 0 158 rfl rfl rfl
theorem dX10_init_1000 : decode cX10_init 1000 = .ok (.bipush 105, 2) := dw_16 wX10_init_c 105 rfl rfl rfl
theorem dX10_init_1002 : decode cX10_init 1002 = .ok (.bastore, 1) := dw_84 wX10_init_c rfl
theorem dX10_init_1003 : decode cX10_init 1003 = .ok (.dup, 1) := dw_89 wX10_init_c rfl
theorem dX10_init_1004 : decode cX10_init 1004 = .ok (.sipush 159, 3) := dw_17 wX10_init_c 0 159 rfl rfl rfl
theorem dX10_init_1007 : decode cX10_init 1007 = .ok (.bipush 110, 2) := dw_16 wX10_init_c 110 rfl rfl rfl
theorem dX10_init_1009 : decode cX10_init 1009 = .ok (.bastore, 1) := dw_84 wX10_init_c rfl
theorem dX10_init_1010 : decode cX10_init 1010 = .ok (.dup, 1) := dw_89 wX10_init_c rfl
theorem dX10_init_1011 : decode cX10_init 1011 = .ok (.sipush 160, 3) := dw_17 wX10_init_c 0 160 rfl rfl rfl
theorem dX10_init_1014 : decode cX10_init 1014 = .ok (.bipush 103, 2) := dw_16 wX10_init_c 103 rfl rfl rfl
theorem dX10_init_1016 : decode cX10_init 1016 = .ok (.bastore, 1) := dw_84 wX10_init_c rfl
theorem dX10_init_1017 : decode cX10_init 1017 = .ok (.dup, 1) := dw_89 wX10_init_c rfl
theorem dX10_init_1018 : decode cX10_init 1018 = .ok (.sipush 161, 3) := dw_17 wX10_init_c 0 161 rfl rfl rfl
theorem dX10_init_1021 : decode cX10_init 1021 = .ok (.bipush 111, 2) := dw_16 wX10_init_c 111 rfl rfl rfl
theorem dX10_init_1023 : decode cX10_init 1023 = .ok (.bastore, 1) := dw_84 wX10_init_c rfl
theorem dX10_init_1024 : decode cX10_init 1024 = .ok (.dup, 1) := dw_89 wX10_init_c rfl
theorem dX10_init_1025 : decode cX10_init 1025 = .ok (.sipush 162, 3) := dw_17 wX10_init_c 0 162 rfl rfl rfl
theorem dX10_init_1028 : decode cX10_init 1028 = .ok (.bipush 114, 2) := dw_16 wX10_init_c 114 rfl rfl rfl
theorem dX10_init_1030 : decode cX10_init 1030 = .ok (.bastore, 1) := dw_84 wX10_init_c rfl
theorem dX10_init_1031 : decode cX10_init 1031 = .ok (.dup, 1) := dw_89 wX10_init_c rfl
theorem dX10_init_1032 : decode cX10_init 1032 = .ok (.sipush 163, 3) := dw_17 wX10_init_c 0 163 rfl rfl rfl
theorem dX10_init_1035 : decode cX10_init 1035 = .ok (.bipush 100, 2) := dw_16 wX10_init_c 100 rfl rfl rfl
theorem dX10_init_1037 : decode cX10_init 1037 = .ok (.bastore, 1) := dw_84 wX10_init_c rfl
theorem dX10_init_1038 : decode cX10_init 1038 = .ok (.dup, 1) := dw_89 wX10_init_c rfl
theorem dX10_init_1039 : decode cX10_init 1039 = .ok (.sipush 164, 3) := dw_17 wX10_init_c 0 164 rfl rfl rfl
theorem dX10_init_1042 : decode cX10_init 1042 = .ok (.bipush 101, 2) := dw_16 wX10_init_c 101 rfl rfl rfl
theorem dX10_init_1044 : decode cX10_init 1044 = .ok (.bastore, 1) := dw_84 wX10_init_c rfl
theorem dX10_init_1045 : decode cX10_init 1045 = .ok (.dup, 1) := dw_89 wX10_init_c rfl
theorem dX10_init_1046 : decode cX10_init 1046 = .ok (.sipush 165, 3) := dw_17 wX10_init_c 0 165 rfl rfl rfl
theorem dX10_init_1049 : decode cX10_init 1049 = .ok (.bipush 114, 2) := dw_16 wX10_init_c 114 rfl rfl rfl
theorem dX10_init_1051 : decode cX10_init 1051 = .ok (.bastore, 1) := dw_84 wX10_init_c rfl
theorem dX10_init_1052 : decode cX10_init 1052 = .ok (.dup, 1) := dw_89 wX10_init_c rfl
theorem dX10_init_1053 : decode cX10_init 1053 = .ok (.sipush 166, 3) := dw_17 wX10_init_c 0 166 rfl rfl rfl
theorem dX10_init_1056 : decode cX10_init 1056 = .ok (.iconst 0, 1) := dw_3 wX10_init_c rfl
theorem dX10_init_1057 : decode cX10_init 1057 = .ok (.bastore, 1) := dw_84 wX10_init_c rfl
theorem dX10_init_1058 : decode cX10_init 1058 = .ok (.dup, 1) := dw_89 wX10_init_c rfl
theorem dX10_init_1059 : decode cX10_init 1059 = .ok (.sipush 167, 3) := dw_17 wX10_init_c 0 167 rfl rfl rfl
theorem dX10_init_1062 : decode cX10_init 1062 = .ok (.iconst 0, 1) := dw_3 wX10_init_c rfl
theorem dX10_init_1063 : decode cX10_init 1063 = .ok (.bastore, 1) := dw_84 wX10_init_c rfl
theorem dX10_init_1064 : decode cX10_init 1064 = .ok (.dup, 1) := dw_89 wX10_init_c rfl
theorem dX10_init_1065 : decode cX10_init 1065 = .ok (.sipush 168, 3) := dw_17 wX10_init_c 0 168 rfl rfl rfl
theorem dX10_init_1068 : decode cX10_init 1068 = .ok (.bipush 115, 2) := dw_16 wX10_init_c 115 rfl rfl rfl
theorem dX10_init_1070 : decode cX10_init 1070 = .ok (.bastore, 1) := dw_84 wX10_init_c rfl
theorem dX10_init_1071 : decode cX10_init 1071 = .ok (.dup, 1) := dw_89 wX10_init_c rfl
theorem dX10_init_1072 : decode cX10_init 1072 = .ok (.sipush 169, 3) := dw_17 wX10_init_c 0 169 rfl rfl rfl
theorem dX10_init_1075 : decode cX10_init 1075 = .ok (.bipush 101, 2) := dw_16 wX10_init_c 101 rfl rfl rfl
theorem dX10_init_1077 : decode cX10_init 1077 = .ok (.bastore, 1) := dw_84 wX10_init_c rfl
theorem dX10_init_1078 : decode cX10_init 1078 = .ok (.dup, 1) := dw_89 wX10_init_c rfl
theorem dX10_init_1079 : decode cX10_init 1079 = .ok (.sipush 170, 3) := dw_17 wX10_init_c 0 170 rfl rfl rfl
theorem dX10_init_1082 : decode cX10_init 1082 = .ok (.bipush 105, 2) := dw_16 wX10_init_c 105 rfl rfl rfl
theorem dX10_init_1084 : decode cX10_init 1084 = .ok (.bastore, 1) := dw_84 wX10_init_c rfl
theorem dX10_init_1085 : decode cX10_init 1085 = .ok (.dup, 1) := dw_89 wX10_init_c rfl
theorem dX10_init_1086 : decode cX10_init 1086 = .ok (.sipush 171, 3) := dw_17 wX10_init_c 0 171 rfl rfl rfl
theorem dX10_init_1089 : decode cX10_init 1089 = .ok (.bipush 122, 2) := dw_16 wX10_init_c 122 rfl rfl rfl
theorem dX10_init_1091 : decode cX10_init 1091 = .ok (.bastore, 1) := dw_84 wX10_init_c rfl
theorem dX10_init_1092 : decode cX10_init 1092 = .ok (.dup, 1) := dw_89 wX10_init_c rfl
theorem dX10_init_1093 : decode cX10_init 1093 = .ok (.sipush 172, 3) := dw_17 wX10_init_c 0 172 rfl rfl rfl
theorem dX10_init_1096 : decode cX10_init 1096 = .ok (.bipush 117, 2) := dw_16 wX10_init_c 117 rfl rfl rfl
theorem dX10_init_1098 : decode cX10_init 1098 = .ok (.bastore, 1) := dw_84 wX10_init_c rfl
theorem dX10_init_1099 : decode cX10_init 1099 = .ok (.dup, 1) := dw_89 wX10_init_c rfl
theorem dX10_init_1100 : decode cX10_init 1100 = .ok (.sipush 173, 3) := dw_17 wX10_init_c 0 173 rfl rfl rfl
theorem dX10_init_1103 : decode cX10_init 1103 = .ok (.bipush 114, 2) := dw_16 wX10_init_c 114 rfl rfl rfl
theorem dX10_init_1105 : decode cX10_init 1105 = .ok (.bastore, 1) := dw_84 wX10_init_c rfl
theorem dX10_init_1106 : decode cX10_init 1106 = .ok (.dup, 1) := dw_89 wX10_init_c rfl
theorem dX10_init_1107 : decode cX10_init 1107 = .ok (.sipush 174, 3) := dw_17 wX10_init_c 0 174 rfl rfl rfl
theorem dX10_init_1110 : decode cX10_init 1110 = .ok (.bipush 101, 2) := dw_16 wX10_init_c 101 rfl rfl rfl
theorem dX10_init_1112 : decode cX10_init 1112 = .ok (.bastore, 1) := dw_84 wX10_init_c rfl
theorem dX10_init_1113 : decode cX10_init 1113 = .ok (.putfield 35, 3) := dw_181 wX10_init_c 0 35 rfl rfl
theorem dX10_init_1116 : decode cX10_init 1116 = .ok (.aload_n 0, 1) := dw_42 wX10_init_c rfl
theorem dX10_init_1117 : decode cX10_init 1117 = .ok (.bipush 40, 2) := dw_16 wX10_init_c 40 rfl rfl rfl
theorem dX10_init_1119 : decode cX10_init 1119 = .ok (.newarray .int, 2) := by decide +kernel
theorem dX10_init_1121 : decode cX10_init 1121 = .ok (.putfield 38, 3) := dw_181 wX10_init_c 0 38 rfl rfl
theorem dX10_init_1124 : decode cX10_init 1124 = .ok (.aload_n 0, 1) := dw_42 wX10_init_c rfl
theorem dX10_init_1125 : decode cX10_init 1125 = .ok (.bipush 40, 2) := dw_16 wX10_init_c 40 rfl rfl rfl
theorem dX10_init_1127 : decode cX10_init 1127 = .ok (.newarray .int, 2) := by decide +kernel
theorem dX10_init_1129 : decode cX10_init 1129 = .ok (.putfield 41, 3) := dw_181 wX10_init_c 0 41 rfl rfl
theorem dX10_init_1132 : decode cX10_init 1132 = .ok (.aload_n 0, 1) := dw_42 wX10_init_c rfl
theorem dX10_init_1133 : decode cX10_init 1133 = .ok (.bipush 40, 2) := dw_16 wX10_init_c 40 rfl rfl rfl
theorem dX10_init_1135 : decode cX10_init 1135 = .ok (.newarray .int, 2) := by decide +kernel
theorem dX10_init_1137 : decode cX10_init 1137 = .ok (.putfield 44, 3) := dw_181 wX10_init_c 0 44 rfl rfl
theorem dX10_init_1140 : decode cX10_init 1140 = .ok (.aload_n 0, 1) := dw_42 wX10_init_c rfl
theorem dX10_init_1141 : decode cX10_init 1141 = .ok (.bipush 40, 2) := dw_16 wX10_init_c 40 rfl rfl rfl
theorem dX10_init_1143 : decode cX10_init 1143 = .ok (.newarray .int, 2) := by decide +kernel
theorem dX10_init_1145 : decode cX10_init 1145 = .ok (.putfield 47, 3) := dw_181 wX10_init_c 0 47 rfl rfl
theorem dX10_init_1148 : decode cX10_init 1148 = .ok (.aload_n 0, 1) := dw_42 wX10_init_c rfl
theorem dX10_init_1149 : decode cX10_init 1149 = .ok (.bipush 40, 2) := dw_16 wX10_init_c 40 rfl rfl rfl
theorem dX10_init_1151 : decode cX10_init 1151 = .ok (.newarray .int, 2) := by decide +kernel
theorem dX10_init_1153 : decode cX10_init 1153 = .ok (.putfield 50, 3) := dw_181 wX10_init_c 0 50 rfl rfl
theorem dX10_init_1156 : decode cX10_init 1156 = .ok (.aload_n 0, 1) := dw_42 wX10_init_c rfl
theorem dX10_init_1157 : decode cX10_init 1157 = .ok (.bipush 40, 2) := dw_16 wX10_init_c 40 rfl rfl rfl
theorem dX10_init_1159 : decode cX10_init 1159 = .ok (.newarray .int, 2) := by decide +kernel
theorem dX10_init_1161 : decode cX10_init 1161 = .ok (.putfield 53, 3) := dw_181 wX10_init_c 0 53 rfl rfl
theorem dX10_init_1164 : decode cX10_init 1164 = .ok (.aload_n 0, 1) := dw_42 wX10_init_c rfl
theorem dX10_init_1165 : decode cX10_init 1165 = .ok (.bipush 40, 2) := dw_16 wX10_init_c 40 rfl rfl rfl
theorem dX10_init_1167 : decode cX10_init 1167 = .ok (.newarray .boolean, 2) := by decide +kernel
theorem dX10_init_1169 : decode cX10_init 1169 = .ok (.putfield 56, 3) := dw_181 wX10_init_c 0 56 rfl rfl
theorem dX10_init_1172 : decode cX10_init 1172 = .ok (.aload_n 0, 1) := dw_42 wX10_init_c rfl
theorem dX10_init_1173 : decode cX10_init 1173 = .ok (.bipush 40, 2) := dw_16 wX10_init_c 40 rfl rfl rfl
theorem dX10_init_1175 : decode cX10_init 1175 = .ok (.newarray .boolean, 2) := by decide +kernel
theorem dX10_init_1177 : decode cX10_init 1177 = .ok (.putfield 60, 3) := dw_181 wX10_init_c 0 60 rfl rfl
theorem dX10_init_1180 : decode cX10_init 1180 = .ok (.aload_n 0, 1) := dw_42 wX10_init_c rfl
theorem dX10_init_1181 : decode cX10_init 1181 = .ok (.sipush 400, 3) := dw_17 wX10_init_c 1 144 rfl rfl rfl
theorem dX10_init_1184 : decode cX10_init 1184 = .ok (.newarray .int, 2) := by decide +kernel
theorem dX10_init_1186 : decode cX10_init 1186 = .ok (.putfield 63, 3) := dw_181 wX10_init_c 0 63 rfl rfl
theorem dX10_init_1189 : decode cX10_init 1189 = .ok (.aload_n 0, 1) := dw_42 wX10_init_c rfl
theorem dX10_init_1190 : decode cX10_init 1190 = .ok (.sipush 400, 3) := dw_17 wX10_init_c 1 144 rfl rfl rfl
theorem dX10_init_1193 : decode cX10_init 1193 = .ok (.newarray .int, 2) := by decide +kernel
theorem dX10_init_1195 : decode cX10_init 1195 = .ok (.putfield 66, 3) := dw_181 wX10_init_c 0 66 rfl rfl
theorem dX10_init_1198 : decode cX10_init 1198 = .ok (.aload_n 0, 1) := dw_42 wX10_init_c rfl
theorem dX10_init_1199 : decode cX10_init 1199 = .ok (.sipush 400, 3) := dw_17 wX10_init_c 1 144 rfl rfl rfl
theorem dX10_init_1202 : decode cX10_init 1202 = .ok (.newarray .int, 2) := by decide +kernel
theorem dX10_init_1204 : decode cX10_init 1204 = .ok (.putfield 69, 3) := dw_181 wX10_init_c 0 69 rfl rfl
theorem dX10_init_1207 : decode cX10_init 1207 = .ok (.aload_n 0, 1) := dw_42 wX10_init_c rfl
theorem dX10_init_1208 : decode cX10_init 1208 = .ok (.sipush 400, 3) := dw_17 wX10_init_c 1 144 rfl rfl rfl
theorem dX10_init_1211 : decode cX10_init 1211 = .ok (.newarray .int, 2) := by decide +kernel
theorem dX10_init_1213 : decode cX10_init 1213 = .ok (.putfield 72, 3) := dw_181 wX10_init_c 0 72 rfl rfl
theorem dX10_init_1216 : decode cX10_init 1216 = .ok (.aload_n 0, 1) := dw_42 wX10_init_c rfl
theorem dX10_init_1217 : decode cX10_init 1217 = .ok (.sipush 400, 3) := dw_17 wX10_init_c 1 144 rfl rfl rfl
theorem dX10_init_1220 : decode cX10_init 1220 = .ok (.newarray .int, 2) := by decide +kernel
theorem dX10_init_1222 : decode cX10_init 1222 = .ok (.putfield 75, 3) := dw_181 wX10_init_c 0 75 rfl rfl
theorem dX10_init_1225 : decode cX10_init 1225 = .ok (.aload_n 0, 1) := dw_42 wX10_init_c rfl
theorem dX10_init_1226 : decode cX10_init 1226 = .ok (.sipush 400, 3) := dw_17 wX10_init_c 1 144 rfl rfl rfl
theorem dX10_init_1229 : decode cX10_init 1229 = .ok (.newarray .boolean, 2) := by decide +kernel
theorem dX10_init_1231 : decode cX10_init 1231 = .ok (.putfield 78, 3) := dw_181 wX10_init_c 0 78 rfl rfl
theorem dX10_init_1234 : decode cX10_init 1234 = .ok (.aload_n 0, 1) := dw_42 wX10_init_c rfl
theorem dX10_init_1235 : decode cX10_init 1235 = .ok (.bipush 100, 2) := dw_16 wX10_init_c 100 rfl rfl rfl
theorem dX10_init_1237 : decode cX10_init 1237 = .ok (.newarray .int, 2) := by decide +kernel
theorem dX10_init_1239 : decode cX10_init 1239 = .ok (.putfield 81, 3) := dw_181 wX10_init_c 0 81 rfl rfl
theorem dX10_init_1242 : decode cX10_init 1242 = .ok (.aload_n 0, 1) := dw_42 wX10_init_c rfl
theorem dX10_init_1243 : decode cX10_init 1243 = .ok (.bipush 100, 2) := dw_16 wX10_init_c 100 rfl rfl rfl
theorem dX10_init_1245 : decode cX10_init 1245 = .ok (.newarray .int, 2) := by decide +kernel
theorem dX10_init_1247 : decode cX10_init 1247 = .ok (.putfield 84, 3) := dw_181 wX10_init_c 0 84 rfl rfl
theorem dX10_init_1250 : decode cX10_init 1250 = .ok (.aload_n 0, 1) := dw_42 wX10_init_c rfl
theorem dX10_init_1251 : decode cX10_init 1251 = .ok (.bipush 100, 2) := dw_16 wX10_init_c 100 rfl rfl rfl
theorem dX10_init_1253 : decode cX10_init 1253 = .ok (.newarray .int, 2) := by decide +kernel
theorem dX10_init_1255 : decode cX10_init 1255 = .ok (.putfield 87, 3) := dw_181 wX10_init_c 0 87 rfl rfl
theorem dX10_init_1258 : decode cX10_init 1258 = .ok (.aload_n 0, 1) := dw_42 wX10_init_c rfl
theorem dX10_init_1259 : decode cX10_init 1259 = .ok (.bipush 100, 2) := dw_16 wX10_init_c 100 rfl rfl rfl
theorem dX10_init_1261 : decode cX10_init 1261 = .ok (.newarray .int, 2) := by decide +kernel
theorem dX10_init_1263 : decode cX10_init 1263 = .ok (.putfield 90, 3) := dw_181 wX10_init_c 0 90 rfl rfl
theorem dX10_init_1266 : decode cX10_init 1266 = .ok (.aload_n 0, 1) := dw_42 wX10_init_c rfl
theorem dX10_init_1267 : decode cX10_init 1267 = .ok (.bipush 100, 2) := dw_16 wX10_init_c 100 rfl rfl rfl
theorem dX10_init_1269 : decode cX10_init 1269 = .ok (.newarray .boolean, 2) := by decide +kernel
theorem dX10_init_1271 : decode cX10_init 1271 = .ok (.putfield 93, 3) := dw_181 wX10_init_c 0 93 rfl rfl
theorem dX10_init_1274 : decode cX10_init 1274 = .ok (.aload_n 0, 1) := dw_42 wX10_init_c rfl
theorem dX10_init_1275 : decode cX10_init 1275 = .ok (.bipush 100, 2) := dw_16 wX10_init_c 100 rfl rfl rfl
theorem dX10_init_1277 : decode cX10_init 1277 = .ok (.newarray .int, 2) := by decide +kernel
theorem dX10_init_1279 : decode cX10_init 1279 = .ok (.putfield 96, 3) := dw_181 wX10_init_c 0 96 rfl rfl
theorem dX10_init_1282 : decode cX10_init 1282 = .ok (.aload_n 0, 1) := dw_42 wX10_init_c rfl
theorem dX10_init_1283 : decode cX10_init 1283 = .ok (.bipush 100, 2) := dw_16 wX10_init_c 100 rfl rfl rfl
theorem dX10_init_1285 : decode cX10_init 1285 = .ok (.newarray .int, 2) := by decide +kernel
theorem dX10_init_1287 : decode cX10_init 1287 = .ok (.putfield 99, 3) := dw_181 wX10_init_c 0 99 rfl rfl
theorem dX10_init_1290 : decode cX10_init 1290 = .ok (.aload_n 0, 1) := dw_42 wX10_init_c rfl
theorem dX10_init_1291 : decode cX10_init 1291 = .ok (.bipush 100, 2) := dw_16 wX10_init_c 100 rfl rfl rfl
theorem dX10_init_1293 : decode cX10_init 1293 = .ok (.newarray .int, 2) := by decide +kernel
theorem dX10_init_1295 : decode cX10_init 1295 = .ok (.putfield 102, 3) := dw_181 wX10_init_c 0 102 rfl rfl
theorem dX10_init_1298 : decode cX10_init 1298 = .ok (.aload_n 0, 1) := dw_42 wX10_init_c rfl
theorem dX10_init_1299 : decode cX10_init 1299 = .ok (.bipush 100, 2) := dw_16 wX10_init_c 100 rfl rfl rfl
theorem dX10_init_1301 : decode cX10_init 1301 = .ok (.newarray .int, 2) := by decide +kernel
theorem dX10_init_1303 : decode cX10_init 1303 = .ok (.putfield 105, 3) := dw_181 wX10_init_c 0 105 rfl rfl
theorem dX10_init_1306 : decode cX10_init 1306 = .ok (.aload_n 0, 1) := dw_42 wX10_init_c rfl
theorem dX10_init_1307 : decode cX10_init 1307 = .ok (.bipush 100, 2) := dw_16 wX10_init_c 100 rfl rfl rfl
theorem dX10_init_1309 : decode cX10_init 1309 = .ok (.newarray .int, 2) := by decide +kernel
theorem dX10_init_1311 : decode cX10_init 1311 = .ok (.putfield 108, 3) := dw_181 wX10_init_c 0 108 rfl rfl
theorem dX10_init_1314 : decode cX10_init 1314 = .ok (.aload_n 0, 1) := dw_42 wX10_init_c rfl
theorem dX10_init_1315 : decode cX10_init 1315 = .ok (.bipush 100, 2) := dw_16 wX10_init_c 100 rfl rfl rfl
theorem dX10_init_1317 : decode cX10_init 1317 = .ok (.newarray .int, 2) := by decide +kernel
theorem dX10_init_1319 : decode cX10_init 1319 = .ok (.putfield 111, 3) := dw_181 wX10_init_c 0 111 rfl rfl
theorem dX10_init_1322 : decode cX10_init 1322 = .ok (.aload_n 0, 1) := dw_42 wX10_init_c rfl
theorem dX10_init_1323 : decode cX10_init 1323 = .ok (.bipush 100, 2) := dw_16 wX10_init_c 100 rfl rfl rfl
theorem dX10_init_1325 : decode cX10_init 1325 = .ok (.newarray .int, 2) := by decide +kernel
theorem dX10_init_1327 : decode cX10_init 1327 = .ok (.putfield 114, 3) := dw_181 wX10_init_c 0 114 rfl rfl
theorem dX10_init_1330 : decode cX10_init 1330 = .ok (.aload_n 0, 1) := dw_42 wX10_init_c rfl
theorem dX10_init_1331 : decode cX10_init 1331 = .ok (.bipush 100, 2) := dw_16 wX10_init_c 100 rfl rfl rfl
theorem dX10_init_1333 : decode cX10_init 1333 = .ok (.newarray .int, 2) := by decide +kernel
theorem dX10_init_1335 : decode cX10_init 1335 = .ok (.putfield 117, 3) := dw_181 wX10_init_c 0 117 rfl rfl
theorem dX10_init_1338 : decode cX10_init 1338 = .ok (.aload_n 0, 1) := dw_42 wX10_init_c rfl
theorem dX10_init_1339 : decode cX10_init 1339 = .ok (.bipush 100, 2) := dw_16 wX10_init_c 100 rfl rfl rfl
theorem dX10_init_1341 : decode cX10_init 1341 = .ok (.newarray .int, 2) := by decide +kernel
theorem dX10_init_1343 : decode cX10_init 1343 = .ok (.putfield 120, 3) := dw_181 wX10_init_c 0 120 rfl rfl
theorem dX10_init_1346 : decode cX10_init 1346 = .ok (.aload_n 0, 1) := dw_42 wX10_init_c rfl
theorem dX10_init_1347 : decode cX10_init 1347 = .ok (.bipush 100, 2) := dw_16 wX10_init_c 100 rfl rfl rfl
theorem dX10_init_1349 : decode cX10_init 1349 = .ok (.newarray .int, 2) := by decide +kernel
theorem dX10_init_1351 : decode cX10_init 1351 = .ok (.putfield 123, 3) := dw_181 wX10_init_c 0 123 rfl rfl
theorem dX10_init_1354 : decode cX10_init 1354 = .ok (.aload_n 0, 1) := dw_42 wX10_init_c rfl
theorem dX10_init_1355 : decode cX10_init 1355 = .ok (.sipush 300, 3) := dw_17 wX10_init_c 1 44 rfl rfl rfl
theorem dX10_init_1358 : decode cX10_init 1358 = .ok (.newarray .int, 2) := by decide +kernel
theorem dX10_init_1360 : decode cX10_init 1360 = .ok (.putfield 126, 3) := dw_181 wX10_init_c 0 126 rfl rfl
theorem dX10_init_1363 : decode cX10_init 1363 = .ok (.aload_n 0, 1) := dw_42 wX10_init_c rfl
theorem dX10_init_1364 : decode cX10_init 1364 = .ok (.sipush 800, 3) := dw_17 wX10_init_c 3 32 rfl rfl rfl
theorem dX10_init_1367 : decode cX10_init 1367 = .ok (.newarray .int, 2) := by decide +kernel
theorem dX10_init_1369 : decode cX10_init 1369 = .ok (.putfield 129, 3) := dw_181 wX10_init_c 0 129 rfl rfl
theorem dX10_init_1372 : decode cX10_init 1372 = .ok (.aload_n 0, 1) := dw_42 wX10_init_c rfl
theorem dX10_init_1373 : decode cX10_init 1373 = .ok (.bipush 100, 2) := dw_16 wX10_init_c 100 rfl rfl rfl
theorem dX10_init_1375 : decode cX10_init 1375 = .ok (.newarray .int, 2) := by decide +kernel
theorem dX10_init_1377 : decode cX10_init 1377 = .ok (.putfield 132, 3) := dw_181 wX10_init_c 0 132 rfl rfl
theorem dX10_init_1380 : decode cX10_init 1380 = .ok (.aload_n 0, 1) := dw_42 wX10_init_c rfl
theorem dX10_init_1381 : decode cX10_init 1381 = .ok (.bipush 100, 2) := dw_16 wX10_init_c 100 rfl rfl rfl
theorem dX10_init_1383 : decode cX10_init 1383 = .ok (.newarray .int, 2) := by decide +kernel
theorem dX10_init_1385 : decode cX10_init 1385 = .ok (.putfield 135, 3) := dw_181 wX10_init_c 0 135 rfl rfl
theorem dX10_init_1388 : decode cX10_init 1388 = .ok (.aload_n 0, 1) := dw_42 wX10_init_c rfl
theorem dX10_init_1389 : decode cX10_init 1389 = .ok (.bipush 100, 2) := dw_16 wX10_init_c 100 rfl rfl rfl
theorem dX10_init_1391 : decode cX10_init 1391 = .ok (.newarray .int, 2) := by decide +kernel
theorem dX10_init_1393 : decode cX10_init 1393 = .ok (.putfield 138, 3) := dw_181 wX10_init_c 0 138 rfl rfl
theorem dX10_init_1396 : decode cX10_init 1396 = .ok (.aload_n 0, 1) := dw_42 wX10_init_c rfl
theorem dX10_init_1397 : decode cX10_init 1397 = .ok (.bipush 100, 2) := dw_16 wX10_init_c 100 rfl rfl rfl
theorem dX10_init_1399 : decode cX10_init 1399 = .ok (.newarray .int, 2) := by decide +kernel
theorem dX10_init_1401 : decode cX10_init 1401 = .ok (.putfield 141, 3) := dw_181 wX10_init_c 0 141 rfl rfl
theorem dX10_init_1404 : decode cX10_init 1404 = .ok (.aload_n 0, 1) := dw_42 wX10_init_c rfl
theorem dX10_init_1405 : decode cX10_init 1405 = .ok (.sipush 600, 3) := dw_17 wX10_init_c 2 88 rfl rfl rfl
theorem dX10_init_1408 : decode cX10_init 1408 = .ok (.newarray .int, 2) := by decide +kernel
theorem dX10_init_1410 : decode cX10_init 1410 = .ok (.putfield 144, 3) := dw_181 wX10_init_c 0 144 rfl rfl
theorem dX10_init_1413 : decode cX10_init 1413 = .ok (.aload_n 0, 1) := dw_42 wX10_init_c rfl
theorem dX10_init_1414 : decode cX10_init 1414 = .ok (.sipush 600, 3) := dw_17 wX10_init_c 2 88 rfl rfl rfl
theorem dX10_init_1417 : decode cX10_init 1417 = .ok (.newarray .int, 2) := by decide +kernel
theorem dX10_init_1419 : decode cX10_init 1419 = .ok (.putfield 147, 3) := dw_181 wX10_init_c 0 147 rfl rfl
theorem dX10_init_1422 : decode cX10_init 1422 = .ok (.aload_n 0, 1) := dw_42 wX10_init_c rfl
theorem dX10_init_1423 : decode cX10_init 1423 = .ok (.sipush 600, 3) := dw_17 wX10_init_c 2 88 rfl rfl rfl
theorem dX10_init_1426 : decode cX10_init 1426 = .ok (.newarray .int, 2) := by decide +kernel
theorem dX10_init_1428 : decode cX10_init 1428 = .ok (.putfield 150, 3) := dw_181 wX10_init_c 0 150 rfl rfl
theorem dX10_init_1431 : decode cX10_init 1431 = .ok (.aload_n 0, 1) := dw_42 wX10_init_c rfl
theorem dX10_init_1432 : decode cX10_init 1432 = .ok (.sipush 600, 3) := dw_17 wX10_init_c 2 88 rfl rfl rfl
theorem dX10_init_1435 : decode cX10_init 1435 = .ok (.newarray .int, 2) := by decide +kernel
theorem dX10_init_1437 : decode cX10_init 1437 = .ok (.putfield 153, 3) := dw_181 wX10_init_c 0 153 rfl rfl
theorem dX10_init_1440 : decode cX10_init 1440 = .ok (.aload_n 0, 1) := dw_42 wX10_init_c rfl
theorem dX10_init_1441 : decode cX10_init 1441 = .ok (.sipush 600, 3) := dw_17 wX10_init_c 2 88 rfl rfl rfl
theorem dX10_init_1444 : decode cX10_init 1444 = .ok (.newarray .int, 2) := by decide +kernel
theorem dX10_init_1446 : decode cX10_init 1446 = .ok (.putfield 156, 3) := dw_181 wX10_init_c 0 156 rfl rfl
theorem dX10_init_1449 : decode cX10_init 1449 = .ok (.aload_n 0, 1) := dw_42 wX10_init_c rfl
theorem dX10_init_1450 : decode cX10_init 1450 = .ok (.bipush 40, 2) := dw_16 wX10_init_c 40 rfl rfl rfl
theorem dX10_init_1452 : decode cX10_init 1452 = .ok (.newarray .int, 2) := by decide +kernel
theorem dX10_init_1454 : decode cX10_init 1454 = .ok (.putfield 159, 3) := dw_181 wX10_init_c 0 159 rfl rfl
theorem dX10_init_1457 : decode cX10_init 1457 = .ok (.aload_n 0, 1) := dw_42 wX10_init_c rfl
theorem dX10_init_1458 : decode cX10_init 1458 = .ok (.sipush 128, 3) := dw_17 wX10_init_c 0 128 rfl rfl rfl
theorem dX10_init_1461 : decode cX10_init 1461 = .ok (.newarray .boolean, 2) := by decide +kernel
theorem dX10_init_1463 : decode cX10_init 1463 = .ok (.putfield 162, 3) := dw_181 wX10_init_c 0 162 rfl rfl
theorem dX10_init_1466 : decode cX10_init 1466 = .ok (.aload_n 0, 1) := dw_42 wX10_init_c rfl
theorem dX10_init_1467 : decode cX10_init 1467 = .ok (.iconst 4, 1) := dw_7 wX10_init_c rfl
theorem dX10_init_1468 : decode cX10_init 1468 = .ok (.newarray .int, 2) := by decide +kernel
theorem dX10_init_1470 : decode cX10_init 1470 = .ok (.putfield 165, 3) := dw_181 wX10_init_c 0 165 rfl rfl
theorem dX10_init_1473 : decode cX10_init 1473 = .ok (.aload_n 0, 1) := dw_42 wX10_init_c rfl
theorem dX10_init_1474 : decode cX10_init 1474 = .ok (.iconst 4, 1) := dw_7 wX10_init_c rfl
theorem dX10_init_1475 : decode cX10_init 1475 = .ok (.newarray .int, 2) := by decide +kernel
theorem dX10_init_1477 : decode cX10_init 1477 = .ok (.putfield 168, 3) := dw_181 wX10_init_c 0 168 rfl rfl
theorem dX10_init_1480 : decode cX10_init 1480 = .ok (.aload_n 0, 1) := dw_42 wX10_init_c rfl
theorem dX10_init_1481 : decode cX10_init 1481 = .ok (.iconst 4, 1) := dw_7 wX10_init_c rfl
theorem dX10_init_1482 : decode cX10_init 1482 = .ok (.newarray .int, 2) := by decide +kernel
theorem dX10_init_1484 : decode cX10_init 1484 = .ok (.putfield 171, 3) := dw_181 wX10_init_c 0 171 rfl rfl
theorem dX10_init_1487 : decode cX10_init 1487 = .ok (.aload_n 0, 1) := dw_42 wX10_init_c rfl
theorem dX10_init_1488 : decode cX10_init 1488 = .ok (.iconst 4, 1) := dw_7 wX10_init_c rfl
theorem dX10_init_1489 : decode cX10_init 1489 = .ok (.newarray .int, 2) := by decide +kernel
theorem dX10_init_1491 : decode cX10_init 1491 = .ok (.putfield 174, 3) := dw_181 wX10_init_c 0 174 rfl rfl
theorem dX10_init_1494 : decode cX10_init 1494 = .ok (.aload_n 0, 1) := dw_42 wX10_init_c rfl
theorem dX10_init_1495 : decode cX10_init 1495 = .ok (.iconst 4, 1) := dw_7 wX10_init_c rfl
theorem dX10_init_1496 : decode cX10_init 1496 = .ok (.newarray .int, 2) := by decide +kernel
theorem dX10_init_1498 : decode cX10_init 1498 = .ok (.putfield 177, 3) := dw_181 wX10_init_c 0 177 rfl rfl
theorem dX10_init_1501 : decode cX10_init 1501 = .ok (.aload_n 0, 1) := dw_42 wX10_init_c rfl
theorem dX10_init_1502 : decode cX10_init 1502 = .ok (.iconst 4, 1) := dw_7 wX10_init_c rfl
theorem dX10_init_1503 : decode cX10_init 1503 = .ok (.newarray .int, 2) := by decide +kernel
theorem dX10_init_1505 : decode cX10_init 1505 = .ok (.putfield 180, 3) := dw_181 wX10_init_c 0 180 rfl rfl
theorem dX10_init_1508 : decode cX10_init 1508 = .ok (.aload_n 0, 1) := dw_42 wX10_init_c rfl
theorem dX10_init_1509 : decode cX10_init 1509 = .ok (.iconst 4, 1) := dw_7 wX10_init_c rfl
theorem dX10_init_1510 : decode cX10_init 1510 = .ok (.newarray .int, 2) := by decide +kernel
theorem dX10_init_1512 : decode cX10_init 1512 = .ok (.putfield 183, 3) := dw_181 wX10_init_c 0 183 rfl rfl
theorem dX10_init_1515 : decode cX10_init 1515 = .ok (.aload_n 0, 1) := dw_42 wX10_init_c rfl
theorem dX10_init_1516 : decode cX10_init 1516 = .ok (.iconst 4, 1) := dw_7 wX10_init_c rfl
theorem dX10_init_1517 : decode cX10_init 1517 = .ok (.newarray .int, 2) := by decide +kernel
theorem dX10_init_1519 : decode cX10_init 1519 = .ok (.putfield 186, 3) := dw_181 wX10_init_c 0 186 rfl rfl
theorem dX10_init_1522 : decode cX10_init 1522 = .ok (.aload_n 0, 1) := dw_42 wX10_init_c rfl
theorem dX10_init_1523 : decode cX10_init 1523 = .ok (.sipush 1600, 3) := dw_17 wX10_init_c 6 64 rfl rfl rfl
theorem dX10_init_1526 : decode cX10_init 1526 = .ok (.newarray .int, 2) := by decide +kernel
theorem dX10_init_1528 : decode cX10_init 1528 = .ok (.putfield 189, 3) := dw_181 wX10_init_c 0 189 rfl rfl
theorem dX10_init_1531 : decode cX10_init 1531 = .ok (.aload_n 0, 1) := dw_42 wX10_init_c rfl
theorem dX10_init_1532 : decode cX10_init 1532 = .ok (.sipush 300, 3) := dw_17 wX10_init_c 1 44 rfl rfl rfl
theorem dX10_init_1535 : decode cX10_init 1535 = .ok (.newarray .int, 2) := by decide +kernel
theorem dX10_init_1537 : decode cX10_init 1537 = .ok (.putfield 192, 3) := dw_181 wX10_init_c 0 192 rfl rfl
theorem dX10_init_1540 : decode cX10_init 1540 = .ok (.aload_n 0, 1) := dw_42 wX10_init_c rfl
theorem dX10_init_1541 : decode cX10_init 1541 = .ok (.iconst 4, 1) := dw_7 wX10_init_c rfl
theorem dX10_init_1542 : decode cX10_init 1542 = .ok (.newarray .int, 2) := by decide +kernel
theorem dX10_init_1544 : decode cX10_init 1544 = .ok (.putfield 195, 3) := dw_181 wX10_init_c 0 195 rfl rfl
theorem dX10_init_1547 : decode cX10_init 1547 = .ok (.aload_n 0, 1) := dw_42 wX10_init_c rfl
theorem dX10_init_1548 : decode cX10_init 1548 = .ok (.iconst 4, 1) := dw_7 wX10_init_c rfl
theorem dX10_init_1549 : decode cX10_init 1549 = .ok (.newarray .int, 2) := by decide +kernel
theorem dX10_init_1551 : decode cX10_init 1551 = .ok (.putfield 198, 3) := dw_181 wX10_init_c 0 198 rfl rfl
theorem dX10_init_1554 : decode cX10_init 1554 = .ok (.aload_n 0, 1) := dw_42 wX10_init_c rfl
theorem dX10_init_1555 : decode cX10_init 1555 = .ok (.bipush 8, 2) := dw_16 wX10_init_c 8 rfl rfl rfl
theorem dX10_init_1557 : decode cX10_init 1557 = .ok (.newarray .int, 2) := by decide +kernel
theorem dX10_init_1559 : decode cX10_init 1559 = .ok (.putfield 201, 3) := dw_181 wX10_init_c 0 201 rfl rfl
theorem dX10_init_1562 : decode cX10_init 1562 = .ok (.aload_n 0, 1) := dw_42 wX10_init_c rfl
theorem dX10_init_1563 : decode cX10_init 1563 = .ok (.bipush 8, 2) := dw_16 wX10_init_c 8 rfl rfl rfl
theorem dX10_init_1565 : decode cX10_init 1565 = .ok (.newarray .int, 2) := by decide +kernel
theorem dX10_init_1567 : decode cX10_init 1567 = .ok (.putfield 204, 3) := dw_181 wX10_init_c 0 204 rfl rfl
theorem dX10_init_1570 : decode cX10_init 1570 = .ok (.aload_n 0, 1) := dw_42 wX10_init_c rfl
theorem dX10_init_1571 : decode cX10_init 1571 = .ok (.sipush 2304, 3) := dw_17 wX10_init_c 9 0 rfl rfl rfl
theorem dX10_init_1574 : decode cX10_init 1574 = .ok (.newarray .int, 2) := by decide +kernel
theorem dX10_init_1576 : decode cX10_init 1576 = .ok (.putfield 207, 3) := dw_181 wX10_init_c 0 207 rfl rfl
theorem dX10_init_1579 : decode cX10_init 1579 = .ok (.aload_n 0, 1) := dw_42 wX10_init_c rfl
theorem dX10_init_1580 : decode cX10_init 1580 = .ok (.bipush 61, 2) := dw_16 wX10_init_c 61 rfl rfl rfl
theorem dX10_init_1582 : decode cX10_init 1582 = .ok (.newarray .long, 2) := by decide +kernel
theorem dX10_init_1584 : decode cX10_init 1584 = .ok (.putfield 210, 3) := dw_181 wX10_init_c 0 210 rfl rfl
theorem dX10_init_1587 : decode cX10_init 1587 = .ok (.iconst 0, 1) := dw_3 wX10_init_c rfl
theorem dX10_init_1588 : decode cX10_init 1588 = .ok (.istore_n 1, 1) := dw_60 wX10_init_c rfl
theorem dX10_init_1589 : decode cX10_init 1589 = .ok (.iload_n 1, 1) := dw_27 wX10_init_c rfl
theorem dX10_init_1590 : decode cX10_init 1590 = .ok (.bipush 13, 2) := dw_16 wX10_init_c 13 rfl rfl rfl
theorem dX10_init_1592 : decode cX10_init 1592 = .ok (.if_icmp .ge 19, 3) := dw_162 wX10_init_c 0 19 rfl rfl rfl
theorem dX10_init_1595 : decode cX10_init 1595 = .ok (.aload_n 0, 1) := dw_42 wX10_init_c rfl
theorem dX10_init_1596 : decode cX10_init 1596 = .ok (.getfield 13, 3) := dw_180 wX10_init_c 0 13 rfl rfl
theorem dX10_init_1599 : decode cX10_init 1599 = .ok (.iload_n 1, 1) := dw_27 wX10_init_c rfl
theorem dX10_init_1600 : decode cX10_init 1600 = .ok (.iload_n 1, 1) := dw_27 wX10_init_c rfl
theorem dX10_init_1601 : decode cX10_init 1601 = .ok (.invokestatic 214, 3) := dw_184 wX10_init_c 0 214 rfl rfl
theorem dX10_init_1604 : decode cX10_init 1604 = .ok (.iastore, 1) := dw_79 wX10_init_c rfl
theorem dX10_init_1605 : decode cX10_init 1605 = .ok (.iinc 1 1, 3) := dw_132 wX10_init_c 1 1 rfl rfl rfl
theorem dX10_init_1608 : decode cX10_init 1608 = .ok (.goto (-19), 3) := dn_167 wX10_init_c 255 237 rfl (by decide)
theorem dX10_init_1611 : decode cX10_init 1611 = .ok (.aload_n 0, 1) := dw_42 wX10_init_c rfl
theorem dX10_init_1612 : decode cX10_init 1612 = .ok (.invokevirtual 218, 3) := dw_182 wX10_init_c 0 218 rfl rfl
theorem dX10_init_1615 : decode cX10_init 1615 = .ok (.aload_n 0, 1) := dw_42 wX10_init_c rfl
theorem dX10_init_1616 : decode cX10_init 1616 = .ok (.invokevirtual 221, 3) := dw_182 wX10_init_c 0 221 rfl rfl
theorem dX10_init_1619 : decode cX10_init 1619 = .ok (.aload_n 0, 1) := dw_42 wX10_init_c rfl
theorem dX10_init_1620 : decode cX10_init 1620 = .ok (.iconst 0, 1) := dw_3 wX10_init_c rfl
theorem dX10_init_1621 : decode cX10_init 1621 = .ok (.invokevirtual 224, 3) := dw_182 wX10_init_c 0 224 rfl rfl
theorem dX10_init_1624 : decode cX10_init 1624 = .ok (.return_, 1) := dw_177 wX10_init_c rfl
set_option maxHeartbeats 4000000 in
set_option maxRecDepth 100000 in
theorem si_14 (l : Launch) (dC : Nat → ClassId) (dI : Nat → Nat → Nat) (dA : Nat → ClassId) (L : List Nat) (h : hx_h) (sz : Nat) (b0 : hx_z) (x : Nat) (q_34 : Nat) {p : Program} {e : Env} {s : State} {m : MethodId} {below : List Frame} {meth : Method} {c : Code} (hx : p.tables.exec = Jvm.exec) (hb : c.code = cX10_init) (hml : c.maxLocals = 2) (hr : meth.sig.returnType = none) (hlk : meth.locks = false) (hts : ∀ w ∈ hx_all, w.before ([.ref x] : List Value).toArray s = true) (hown : s.vm.findClass "SmallCourtModel" = some m.cls) (hin : meth.name = "<init>") (hsz : s.heap.size = sz) (hZ : hx_Xt (hx_A L sz) b0 s) (L1 : List Nat) (hl1 : hx_h) (H : Heap) (locs : List Loc) (ls : Array Slot) (hW : hx_W T_tb (P_ty dA) (dC, dI) vwCl (hx_A L sz) s.heap L1 hl1 s H locs) (hT : hx_T T_tb L1 hl1) (hM : hx_S T_tb [(10, 14), (10, 16), (10, 18), (50, 0), (51, 0), (52, 0), (55, 0), (57, 0), (126, 2), (126, 3), (126, 4), (126, 5), (126, 6), (126, 12), (126, 15), (126, 17), (126, 19), (126, 21), (126, 22), (126, 23), (126, 24), (126, 25), (126, 26), (126, 27), (126, 28), (126, 30), (126, 31), (126, 32), (126, 33), (126, 34), (126, 35), (126, 37), (126, 38), (126, 39), (126, 40), (126, 41), (126, 42), (126, 43), (126, 44), (126, 45), (126, 46), (126, 47), (126, 48), (126, 49), (126, 50), (126, 51), (126, 52), (126, 53), (126, 54), (126, 55), (126, 56), (126, 58), (126, 60), (126, 61), (126, 62), (126, 63), (126, 64), (126, 65), (126, 66), (126, 73), (126, 74), (126, 76), (126, 77), (126, 78), (126, 79), (126, 80), (126, 81), (126, 82), (126, 85), (126, 88), (126, 89), (126, 91), (126, 93), (126, 94), (126, 97)] (hx_X L x) h L1 hl1) (gx : hx_g L1 hl1 x 126) (hcon : hx_con L1 hl1 x 126 [(81, 107, false), (80, 106, false), (79, 105, false), (78, 104, false), (77, 103, false), (76, 102, false), (74, 101, false), (73, 100, false), (66, 99, false), (65, 98, false), (64, 97, true), (63, 96, true), (62, 95, true), (61, 94, true), (60, 93, true), (58, 92, false), (56, 91, true), (55, 90, true), (54, 89, true), (53, 88, false), (52, 87, false), (51, 86, true), (50, 85, true), (49, 84, true), (48, 83, true), (47, 82, true), (46, 81, true), (45, 80, true), (44, 79, false), (43, 78, true), (42, 77, false), (41, 76, false), (40, 75, true), (39, 74, true), (38, 73, false), (37, 72, false), (35, 71, false), (34, 70, false), (33, 69, false), (32, 68, false), (31, 67, false), (30, 66, false), (28, 65, true), (27, 64, true), (26, 63, true), (25, 62, true), (24, 61, true), (23, 60, true), (22, 59, true), (21, 58, true), (17, 56, false), (15, 55, false), (12, 54, false), (6, 53, true), (5, 52, false), (4, 51, false), (3, 50, false), (2, 49, false)] []) (hz : ∀ j, [2, 3, 4, 5, 6, 12, 15, 17, 19, 21, 22, 23, 24, 25, 26, 27, 28, 30, 31, 32, 33, 34, 35, 37, 38, 39, 40, 41, 42, 43, 44, 45, 46, 47, 48, 49, 50, 51, 52, 53, 54, 55, 56, 58, 60, 61, 62, 63, 64, 65, 66, 73, 74, 76, 77, 78, 79, 80, 81].contains j = false → hl1.2.1 x j = 0 ∧ hl1.2.2 x j = none) (gq_34 : hx_g L1 hl1 q_34 57) (f_211 : hl1.2.2 x 19 = some q_34) (cw : ∀ j, j < 175 → hl1.2.1 q_34 j = P_words j) (hl : lv_has ls 2 [(0, .ref x)]) : W p l e ({ frames := 2, cells := 67, slots := 15340, locals := 42 }) s m ([.ref x] : List Value).toArray below meth c H locs 59 11051 (MQ below (va_Qv (fun (u : List Nat × hx_h) => hx_T T_tb u.1 u.2 ∧ hx_S T_tb [(10, 14), (10, 16), (10, 18), (50, 0), (51, 0), (52, 0), (55, 0), (57, 0), (126, 2), (126, 3), (126, 4), (126, 5), (126, 6), (126, 12), (126, 15), (126, 17), (126, 19), (126, 21), (126, 22), (126, 23), (126, 24), (126, 25), (126, 26), (126, 27), (126, 28), (126, 30), (126, 31), (126, 32), (126, 33), (126, 34), (126, 35), (126, 37), (126, 38), (126, 39), (126, 40), (126, 41), (126, 42), (126, 43), (126, 44), (126, 45), (126, 46), (126, 47), (126, 48), (126, 49), (126, 50), (126, 51), (126, 52), (126, 53), (126, 54), (126, 55), (126, 56), (126, 58), (126, 60), (126, 61), (126, 62), (126, 63), (126, 64), (126, 65), (126, 66), (126, 73), (126, 74), (126, 76), (126, 77), (126, 78), (126, 79), (126, 80), (126, 81), (126, 82), (126, 85), (126, 88), (126, 89), (126, 91), (126, 93), (126, 94), (126, 97)] (hx_X L x) h u.1 u.2 ∧ hx_g u.1 u.2 x 10 ∧ u.2.2.1 x 0 = 0 ∧ u.2.2.1 x 1 = 0 ∧ u.2.2.1 x 36 = 0 ∧ u.2.2.1 x 57 = 0 ∧ u.2.2.1 x 7 = 0 ∧ u.2.2.1 x 20 = 0 ∧ u.2.2.1 x 29 = 0 ∧ u.2.2.1 x 59 = 0 ∧ u.2.2.1 x 72 = 0 ∧ u.2.2.1 x 83 = 0 ∧ u.2.2.1 x 84 = 0 ∧ u.2.2.1 x 90 = 0 ∧ u.2.2.1 x 92 = 0 ∧ ∃ q_words q_rule q_proofSteps q_proof q_tries q_isDead q_isJudge q_found q_list q_judged q_weekly q_owed q_doorX q_doorY q_tape q_born q_kin q_sum q_filed q_owedFrom q_heard q_ordered q_goods q_seized q_served q_earns q_heads q_payOf q_payDay q_paySum q_payKnown q_payStruck q_actDay : Nat, u.2.2.2 x 19 = some q_words ∧ hx_g u.1 u.2 q_words 57 ∧ u.2.2.2 x 3 = some q_rule ∧ hx_g u.1 u.2 q_rule 50 ∧ u.2.2.2 x 4 = some q_proofSteps ∧ hx_g u.1 u.2 q_proofSteps 51 ∧ u.2.2.2 x 5 = some q_proof ∧ hx_g u.1 u.2 q_proof 52 ∧ u.2.2.2 x 45 = some q_tries ∧ hx_g u.1 u.2 q_tries 80 ∧ u.2.2.2 x 27 = some q_isDead ∧ hx_g u.1 u.2 q_isDead 64 ∧ u.2.2.2 x 28 = some q_isJudge ∧ hx_g u.1 u.2 q_isJudge 65 ∧ u.2.2.2 x 46 = some q_found ∧ hx_g u.1 u.2 q_found 81 ∧ u.2.2.2 x 91 = some q_list ∧ hx_g u.1 u.2 q_list 112 ∧ u.2.2.2 x 51 = some q_judged ∧ hx_g u.1 u.2 q_judged 86 ∧ u.2.2.2 x 54 = some q_weekly ∧ hx_g u.1 u.2 q_weekly 89 ∧ u.2.2.2 x 55 = some q_owed ∧ hx_g u.1 u.2 q_owed 90 ∧ u.2.2.2 x 24 = some q_doorX ∧ hx_g u.1 u.2 q_doorX 61 ∧ u.2.2.2 x 25 = some q_doorY ∧ hx_g u.1 u.2 q_doorY 62 ∧ u.2.2.2 x 6 = some q_tape ∧ hx_g u.1 u.2 q_tape 53 ∧ u.2.2.2 x 21 = some q_born ∧ hx_g u.1 u.2 q_born 58 ∧ u.2.2.2 x 26 = some q_kin ∧ hx_g u.1 u.2 q_kin 63 ∧ u.2.2.2 x 39 = some q_sum ∧ hx_g u.1 u.2 q_sum 74 ∧ u.2.2.2 x 43 = some q_filed ∧ hx_g u.1 u.2 q_filed 78 ∧ u.2.2.2 x 40 = some q_owedFrom ∧ hx_g u.1 u.2 q_owedFrom 75 ∧ u.2.2.2 x 47 = some q_heard ∧ hx_g u.1 u.2 q_heard 82 ∧ u.2.2.2 x 48 = some q_ordered ∧ hx_g u.1 u.2 q_ordered 83 ∧ u.2.2.2 x 56 = some q_goods ∧ hx_g u.1 u.2 q_goods 91 ∧ u.2.2.2 x 49 = some q_seized ∧ hx_g u.1 u.2 q_seized 84 ∧ u.2.2.2 x 50 = some q_served ∧ hx_g u.1 u.2 q_served 85 ∧ u.2.2.2 x 22 = some q_earns ∧ hx_g u.1 u.2 q_earns 59 ∧ u.2.2.2 x 23 = some q_heads ∧ hx_g u.1 u.2 q_heads 60 ∧ u.2.2.2 x 60 = some q_payOf ∧ hx_g u.1 u.2 q_payOf 93 ∧ u.2.2.2 x 61 = some q_payDay ∧ hx_g u.1 u.2 q_payDay 94 ∧ u.2.2.2 x 62 = some q_paySum ∧ hx_g u.1 u.2 q_paySum 95 ∧ u.2.2.2 x 63 = some q_payKnown ∧ hx_g u.1 u.2 q_payKnown 96 ∧ u.2.2.2 x 64 = some q_payStruck ∧ hx_g u.1 u.2 q_payStruck 97 ∧ u.2.2.2 x 2 = some q_actDay ∧ hx_g u.1 u.2 q_actDay 49 ∧ hx_wd (u.2.2.1 q_words) ∧ hx_WK (u.2.2.1 q_rule) 0 ∧ hx_RP (u.2.2.1 q_proof) (u.2.2.1 q_proofSteps) 0 ∧ (∀ j, u.2.2.1 q_tries j = 0) ∧ (∀ j, u.2.2.1 q_isDead j = 0) ∧ (∀ j, u.2.2.1 q_isJudge j = 0) ∧ (∀ j, u.2.2.1 q_found j = 0) ∧ (∀ j, u.2.2.1 q_list j = 0) ∧ (∀ j, u.2.2.1 q_judged j = 0) ∧ (∀ j, u.2.2.1 q_weekly j = 0) ∧ (∀ j, u.2.2.1 q_owed j = 0) ∧ (∀ j, u.2.2.1 q_doorX j = 0) ∧ (∀ j, u.2.2.1 q_doorY j = 0) ∧ (∀ j, u.2.2.1 q_tape j = 0) ∧ (∀ j, u.2.2.1 q_born j = 0) ∧ (∀ j, u.2.2.1 q_kin j = 0) ∧ (∀ j, u.2.2.1 q_sum j = 0) ∧ (∀ j, u.2.2.1 q_filed j = 0) ∧ (∀ j, u.2.2.1 q_owedFrom j = 0) ∧ (∀ j, u.2.2.1 q_heard j = 0) ∧ (∀ j, u.2.2.1 q_ordered j = 0) ∧ (∀ j, u.2.2.1 q_goods j = 0) ∧ (∀ j, u.2.2.1 q_seized j = 0) ∧ (∀ j, u.2.2.1 q_served j = 0) ∧ (∀ j, u.2.2.1 q_earns j = 0) ∧ (∀ j, u.2.2.1 q_heads j = 0) ∧ (∀ j, u.2.2.1 q_payOf j = 0) ∧ (∀ j, u.2.2.1 q_payDay j = 0) ∧ (∀ j, u.2.2.1 q_paySum j = 0) ∧ (∀ j, u.2.2.1 q_payKnown j = 0) ∧ (∀ j, u.2.2.1 q_payStruck j = 0) ∧ hv_CA (u.2.2.1 q_actDay) (u.2.2.1 q_rule) (u.2.2.1 q_proofSteps) (u.2.2.1 q_proof) 0 (fun _ => hv_A0)) (hx_E T_tb (P_ty dA) (dC, dI) vwCl (hx_A L sz)) (hx_A L sz)) ([.ref x] : List Value).toArray s 67 15340 (hx_A L sz)) (F0 m 1522 ls []) := by
  refine lv_aload_n hx hb dX10_init_1522 rfl (lv_at hl 0 rfl) ?_
  refine lv_sipush (v := 1600) hx hb dX10_init_1523 ?o0 ?_
  case o0 => decide
  refine hk_newa hx hb hts hW 108 tt_108 (atype := .int) rfl kw_186 (tys := P_ty dA) (t0 := 0) rfl (fun _ => Iff.rfl) rfl (i := (1600 : Int32)) ?o1 (Nat.le_of_ble_eq_true rfl) (Nat.le_of_ble_eq_true rfl) (Nat.le_of_ble_eq_true rfl) dX10_init_1526 (fun q_413 H h_412 eh_412 hqq_413 hW hs gq_413 => ?_)
  case o1 => decide
  have hT : hx_T T_tb (L1 ++ [q_413]) h_412 := ?o2
  case o2 =>
    rw [eh_412]
    exact hx_T_nw hT hqq_413 tt_108 rfl
  have hcon := hcon.S hs trivial rfl
  have hz := hx_zr [2, 3, 4, 5, 6, 12, 15, 17, 19, 21, 22, 23, 24, 25, 26, 27, 28, 30, 31, 32, 33, 34, 35, 37, 38, 39, 40, 41, 42, 43, 44, 45, 46, 47, 48, 49, 50, 51, 52, 53, 54, 55, 56, 58, 60, 61, 62, 63, 64, 65, 66, 73, 74, 76, 77, 78, 79, 80, 81] hz hs gx trivial rfl
  have cw : ∀ j, j < 175 → h_412.2.1 q_34 j = P_words j := fun j hj => ((hs.a gq_34 rfl j).1).trans (cw j hj)
  have f_211 := (hs.o gx trivial rfl).2.trans f_211
  have hM := hM.tr (hs.mono ?o3)
  case o3 => decide
  have gx := gx.S hs
  have gq_34 := gq_34.S hs
  refine hx_putrF hx hb hts hC_10 hown hW hT (hx_S.rf (M := [(126, 82)])) gx tt_126 82 ?o4 rfl kw_1225 ⟨rfl, rfl, rfl⟩ rfl hin rfl (x := (some q_413)) ⟨fun _ z => (by cases z), fun q hq => (by cases hq; exact ⟨gq_413.1, by rw [gq_413.2]; decide⟩)⟩ rfl rfl rfl (List.mem_singleton.mpr rfl) dX10_init_1528 (fun H locs h_414 eh_414 hW hT hs => ?_)
  case o4 => decide
  have hcon := hcon.S hs trivial rfl
  have hz := hx_zr [2, 3, 4, 5, 6, 12, 15, 17, 19, 21, 22, 23, 24, 25, 26, 27, 28, 30, 31, 32, 33, 34, 35, 37, 38, 39, 40, 41, 42, 43, 44, 45, 46, 47, 48, 49, 50, 51, 52, 53, 54, 55, 56, 58, 60, 61, 62, 63, 64, 65, 66, 73, 74, 76, 77, 78, 79, 80, 81, 82] hz hs gx trivial rfl
  have cw : ∀ j, j < 175 → h_414.2.1 q_34 j = P_words j := fun j hj => ((hs.a gq_34 rfl j).1).trans (cw j hj)
  have f_211 := (hs.o gx trivial rfl).2.trans f_211
  have hM := hM.tr (hs.mono ?o5)
  case o5 => decide
  have gx := gx.S hs
  have gq_34 := gq_34.S hs
  have gq_413 := gq_413.S hs
  have f_415 : h_414.2.2 x 82 = (some q_413) := ?o6
  case o6 =>
    rw [eh_414]
    exact hx_pr_at _ _ _ _
  have hcon := hx_con.add (tb := T_tb) hcon false f_415 gq_413 (fun z => by cases z)
  refine lv_aload_n hx hb dX10_init_1531 rfl (lv_at hl 0 rfl) ?_
  refine lv_sipush (v := 300) hx hb dX10_init_1532 ?o7 ?_
  case o7 => decide
  refine hk_newa hx hb hts hW 109 tt_109 (atype := .int) rfl kw_186 (tys := P_ty dA) (t0 := 0) rfl (fun _ => Iff.rfl) rfl (i := (300 : Int32)) ?o8 (Nat.le_of_ble_eq_true rfl) (Nat.le_of_ble_eq_true rfl) (Nat.le_of_ble_eq_true rfl) dX10_init_1535 (fun q_417 H h_416 eh_416 hqq_417 hW hs gq_417 => ?_)
  case o8 => decide
  have hT : hx_T T_tb ((L1 ++ [q_413]) ++ [q_417]) h_416 := ?o9
  case o9 =>
    rw [eh_416]
    exact hx_T_nw hT hqq_417 tt_109 rfl
  have hcon := hcon.S hs trivial rfl
  have hz := hx_zr [2, 3, 4, 5, 6, 12, 15, 17, 19, 21, 22, 23, 24, 25, 26, 27, 28, 30, 31, 32, 33, 34, 35, 37, 38, 39, 40, 41, 42, 43, 44, 45, 46, 47, 48, 49, 50, 51, 52, 53, 54, 55, 56, 58, 60, 61, 62, 63, 64, 65, 66, 73, 74, 76, 77, 78, 79, 80, 81, 82] hz hs gx trivial rfl
  have cw : ∀ j, j < 175 → h_416.2.1 q_34 j = P_words j := fun j hj => ((hs.a gq_34 rfl j).1).trans (cw j hj)
  have f_211 := (hs.o gx trivial rfl).2.trans f_211
  have hM := hM.tr (hs.mono ?o10)
  case o10 => decide
  have gx := gx.S hs
  have gq_34 := gq_34.S hs
  refine hx_putrF hx hb hts hC_10 hown hW hT (hx_S.rf (M := [(126, 85)])) gx tt_126 85 ?o11 rfl kw_1228 ⟨rfl, rfl, rfl⟩ rfl hin rfl (x := (some q_417)) ⟨fun _ z => (by cases z), fun q hq => (by cases hq; exact ⟨gq_417.1, by rw [gq_417.2]; decide⟩)⟩ rfl rfl rfl (List.mem_singleton.mpr rfl) dX10_init_1537 (fun H locs h_418 eh_418 hW hT hs => ?_)
  case o11 => decide
  have hcon := hcon.S hs trivial rfl
  have hz := hx_zr [2, 3, 4, 5, 6, 12, 15, 17, 19, 21, 22, 23, 24, 25, 26, 27, 28, 30, 31, 32, 33, 34, 35, 37, 38, 39, 40, 41, 42, 43, 44, 45, 46, 47, 48, 49, 50, 51, 52, 53, 54, 55, 56, 58, 60, 61, 62, 63, 64, 65, 66, 73, 74, 76, 77, 78, 79, 80, 81, 82, 85] hz hs gx trivial rfl
  have cw : ∀ j, j < 175 → h_418.2.1 q_34 j = P_words j := fun j hj => ((hs.a gq_34 rfl j).1).trans (cw j hj)
  have f_211 := (hs.o gx trivial rfl).2.trans f_211
  have hM := hM.tr (hs.mono ?o12)
  case o12 => decide
  have gx := gx.S hs
  have gq_34 := gq_34.S hs
  have gq_417 := gq_417.S hs
  have f_419 : h_418.2.2 x 85 = (some q_417) := ?o13
  case o13 =>
    rw [eh_418]
    exact hx_pr_at _ _ _ _
  have hcon := hx_con.add (tb := T_tb) hcon false f_419 gq_417 (fun z => by cases z)
  refine lv_aload_n hx hb dX10_init_1540 rfl (lv_at hl 0 rfl) ?_
  refine lv_iconst (v := 4) hx hb dX10_init_1541 ?o14 ?_
  case o14 => decide
  refine hk_newa hx hb hts hW 110 tt_110 (atype := .int) rfl kw_186 (tys := P_ty dA) (t0 := 0) rfl (fun _ => Iff.rfl) rfl (i := (4 : Int32)) ?o15 (Nat.le_of_ble_eq_true rfl) (Nat.le_of_ble_eq_true rfl) (Nat.le_of_ble_eq_true rfl) dX10_init_1542 (fun q_421 H h_420 eh_420 hqq_421 hW hs gq_421 => ?_)
  case o15 => decide
  have hT : hx_T T_tb (((L1 ++ [q_413]) ++ [q_417]) ++ [q_421]) h_420 := ?o16
  case o16 =>
    rw [eh_420]
    exact hx_T_nw hT hqq_421 tt_110 rfl
  have hcon := hcon.S hs trivial rfl
  have hz := hx_zr [2, 3, 4, 5, 6, 12, 15, 17, 19, 21, 22, 23, 24, 25, 26, 27, 28, 30, 31, 32, 33, 34, 35, 37, 38, 39, 40, 41, 42, 43, 44, 45, 46, 47, 48, 49, 50, 51, 52, 53, 54, 55, 56, 58, 60, 61, 62, 63, 64, 65, 66, 73, 74, 76, 77, 78, 79, 80, 81, 82, 85] hz hs gx trivial rfl
  have cw : ∀ j, j < 175 → h_420.2.1 q_34 j = P_words j := fun j hj => ((hs.a gq_34 rfl j).1).trans (cw j hj)
  have f_211 := (hs.o gx trivial rfl).2.trans f_211
  have hM := hM.tr (hs.mono ?o17)
  case o17 => decide
  have gx := gx.S hs
  have gq_34 := gq_34.S hs
  refine hx_putrF hx hb hts hC_10 hown hW hT (hx_S.rf (M := [(126, 88)])) gx tt_126 88 ?o18 rfl kw_1231 ⟨rfl, rfl, rfl⟩ rfl hin rfl (x := (some q_421)) ⟨fun _ z => (by cases z), fun q hq => (by cases hq; exact ⟨gq_421.1, by rw [gq_421.2]; decide⟩)⟩ rfl rfl rfl (List.mem_singleton.mpr rfl) dX10_init_1544 (fun H locs h_422 eh_422 hW hT hs => ?_)
  case o18 => decide
  have hcon := hcon.S hs trivial rfl
  have hz := hx_zr [2, 3, 4, 5, 6, 12, 15, 17, 19, 21, 22, 23, 24, 25, 26, 27, 28, 30, 31, 32, 33, 34, 35, 37, 38, 39, 40, 41, 42, 43, 44, 45, 46, 47, 48, 49, 50, 51, 52, 53, 54, 55, 56, 58, 60, 61, 62, 63, 64, 65, 66, 73, 74, 76, 77, 78, 79, 80, 81, 82, 85, 88] hz hs gx trivial rfl
  have cw : ∀ j, j < 175 → h_422.2.1 q_34 j = P_words j := fun j hj => ((hs.a gq_34 rfl j).1).trans (cw j hj)
  have f_211 := (hs.o gx trivial rfl).2.trans f_211
  have hM := hM.tr (hs.mono ?o19)
  case o19 => decide
  have gx := gx.S hs
  have gq_34 := gq_34.S hs
  have gq_421 := gq_421.S hs
  have f_423 : h_422.2.2 x 88 = (some q_421) := ?o20
  case o20 =>
    rw [eh_422]
    exact hx_pr_at _ _ _ _
  have hcon := hx_con.add (tb := T_tb) hcon false f_423 gq_421 (fun z => by cases z)
  refine lv_aload_n hx hb dX10_init_1547 rfl (lv_at hl 0 rfl) ?_
  refine lv_iconst (v := 4) hx hb dX10_init_1548 ?o21 ?_
  case o21 => decide
  refine hk_newa hx hb hts hW 111 tt_111 (atype := .int) rfl kw_186 (tys := P_ty dA) (t0 := 0) rfl (fun _ => Iff.rfl) rfl (i := (4 : Int32)) ?o22 (Nat.le_of_ble_eq_true rfl) (Nat.le_of_ble_eq_true rfl) (Nat.le_of_ble_eq_true rfl) dX10_init_1549 (fun q_425 H h_424 eh_424 hqq_425 hW hs gq_425 => ?_)
  case o22 => decide
  have hT : hx_T T_tb ((((L1 ++ [q_413]) ++ [q_417]) ++ [q_421]) ++ [q_425]) h_424 := ?o23
  case o23 =>
    rw [eh_424]
    exact hx_T_nw hT hqq_425 tt_111 rfl
  have hcon := hcon.S hs trivial rfl
  have hz := hx_zr [2, 3, 4, 5, 6, 12, 15, 17, 19, 21, 22, 23, 24, 25, 26, 27, 28, 30, 31, 32, 33, 34, 35, 37, 38, 39, 40, 41, 42, 43, 44, 45, 46, 47, 48, 49, 50, 51, 52, 53, 54, 55, 56, 58, 60, 61, 62, 63, 64, 65, 66, 73, 74, 76, 77, 78, 79, 80, 81, 82, 85, 88] hz hs gx trivial rfl
  have cw : ∀ j, j < 175 → h_424.2.1 q_34 j = P_words j := fun j hj => ((hs.a gq_34 rfl j).1).trans (cw j hj)
  have f_211 := (hs.o gx trivial rfl).2.trans f_211
  have hM := hM.tr (hs.mono ?o24)
  case o24 => decide
  have gx := gx.S hs
  have gq_34 := gq_34.S hs
  refine hx_putrF hx hb hts hC_10 hown hW hT (hx_S.rf (M := [(126, 89)])) gx tt_126 89 ?o25 rfl kw_1232 ⟨rfl, rfl, rfl⟩ rfl hin rfl (x := (some q_425)) ⟨fun _ z => (by cases z), fun q hq => (by cases hq; exact ⟨gq_425.1, by rw [gq_425.2]; decide⟩)⟩ rfl rfl rfl (List.mem_singleton.mpr rfl) dX10_init_1551 (fun H locs h_426 eh_426 hW hT hs => ?_)
  case o25 => decide
  have hcon := hcon.S hs trivial rfl
  have hz := hx_zr [2, 3, 4, 5, 6, 12, 15, 17, 19, 21, 22, 23, 24, 25, 26, 27, 28, 30, 31, 32, 33, 34, 35, 37, 38, 39, 40, 41, 42, 43, 44, 45, 46, 47, 48, 49, 50, 51, 52, 53, 54, 55, 56, 58, 60, 61, 62, 63, 64, 65, 66, 73, 74, 76, 77, 78, 79, 80, 81, 82, 85, 88, 89] hz hs gx trivial rfl
  have cw : ∀ j, j < 175 → h_426.2.1 q_34 j = P_words j := fun j hj => ((hs.a gq_34 rfl j).1).trans (cw j hj)
  have f_211 := (hs.o gx trivial rfl).2.trans f_211
  have hM := hM.tr (hs.mono ?o26)
  case o26 => decide
  have gx := gx.S hs
  have gq_34 := gq_34.S hs
  have gq_425 := gq_425.S hs
  have f_427 : h_426.2.2 x 89 = (some q_425) := ?o27
  case o27 =>
    rw [eh_426]
    exact hx_pr_at _ _ _ _
  have hcon := hx_con.add (tb := T_tb) hcon false f_427 gq_425 (fun z => by cases z)
  refine lv_aload_n hx hb dX10_init_1554 rfl (lv_at hl 0 rfl) ?_
  refine lv_bipush (v := 8) hx hb dX10_init_1555 ?o28 ?_
  case o28 => decide
  refine hk_newa hx hb hts hW 112 tt_112 (atype := .int) rfl kw_186 (tys := P_ty dA) (t0 := 0) rfl (fun _ => Iff.rfl) rfl (i := (8 : Int32)) ?o29 (Nat.le_of_ble_eq_true rfl) (Nat.le_of_ble_eq_true rfl) (Nat.le_of_ble_eq_true rfl) dX10_init_1557 (fun q_429 H h_428 eh_428 hqq_429 hW hs gq_429 => ?_)
  case o29 => decide
  have hT : hx_T T_tb (((((L1 ++ [q_413]) ++ [q_417]) ++ [q_421]) ++ [q_425]) ++ [q_429]) h_428 := ?o30
  case o30 =>
    rw [eh_428]
    exact hx_T_nw hT hqq_429 tt_112 rfl
  have hcon := hcon.S hs trivial rfl
  have hz := hx_zr [2, 3, 4, 5, 6, 12, 15, 17, 19, 21, 22, 23, 24, 25, 26, 27, 28, 30, 31, 32, 33, 34, 35, 37, 38, 39, 40, 41, 42, 43, 44, 45, 46, 47, 48, 49, 50, 51, 52, 53, 54, 55, 56, 58, 60, 61, 62, 63, 64, 65, 66, 73, 74, 76, 77, 78, 79, 80, 81, 82, 85, 88, 89] hz hs gx trivial rfl
  have cw : ∀ j, j < 175 → h_428.2.1 q_34 j = P_words j := fun j hj => ((hs.a gq_34 rfl j).1).trans (cw j hj)
  have f_211 := (hs.o gx trivial rfl).2.trans f_211
  have hM := hM.tr (hs.mono ?o31)
  case o31 => decide
  have gx := gx.S hs
  have gq_34 := gq_34.S hs
  have cz : (∀ j, h_428.2.1 q_429 j = 0) ∧ ∀ j, h_428.2.2 q_429 j = none := ?o32
  case o32 =>
    rw [eh_428]
    exact ⟨fun _ => hx_nw_i, fun _ => hx_nw_r⟩
  refine hx_putrF hx hb hts hC_10 hown hW hT (hx_S.rf (M := [(126, 91)])) gx tt_126 91 ?o33 rfl kw_1234 ⟨rfl, rfl, rfl⟩ rfl hin rfl (x := (some q_429)) ⟨fun _ z => (by cases z), fun q hq => (by cases hq; exact ⟨gq_429.1, by rw [gq_429.2]; decide⟩)⟩ rfl rfl rfl (List.mem_singleton.mpr rfl) dX10_init_1559 (fun H locs h_430 eh_430 hW hT hs => ?_)
  case o33 => decide
  have hcon := hcon.S hs trivial rfl
  have hz := hx_zr [2, 3, 4, 5, 6, 12, 15, 17, 19, 21, 22, 23, 24, 25, 26, 27, 28, 30, 31, 32, 33, 34, 35, 37, 38, 39, 40, 41, 42, 43, 44, 45, 46, 47, 48, 49, 50, 51, 52, 53, 54, 55, 56, 58, 60, 61, 62, 63, 64, 65, 66, 73, 74, 76, 77, 78, 79, 80, 81, 82, 85, 88, 89, 91] hz hs gx trivial rfl
  have cw : ∀ j, j < 175 → h_430.2.1 q_34 j = P_words j := fun j hj => ((hs.a gq_34 rfl j).1).trans (cw j hj)
  have cz : (∀ j, h_430.2.1 q_429 j = 0) ∧ ∀ j, h_430.2.2 q_429 j = none := ⟨fun j => ((hs.a gq_429 rfl j).1).trans (cz.1 j), fun j => ((hs.a gq_429 rfl j).2).trans (cz.2 j)⟩
  have f_211 := (hs.o gx trivial rfl).2.trans f_211
  have hM := hM.tr (hs.mono ?o34)
  case o34 => decide
  have gx := gx.S hs
  have gq_34 := gq_34.S hs
  have gq_429 := gq_429.S hs
  have f_431 : h_430.2.2 x 91 = (some q_429) := ?o35
  case o35 =>
    rw [eh_430]
    exact hx_pr_at _ _ _ _
  have hcon := hx_con.add (tb := T_tb) hcon true f_431 gq_429 (fun _ => cz)
  refine lv_aload_n hx hb dX10_init_1562 rfl (lv_at hl 0 rfl) ?_
  refine lv_bipush (v := 8) hx hb dX10_init_1563 ?o36 ?_
  case o36 => decide
  refine hk_newa hx hb hts hW 113 tt_113 (atype := .int) rfl kw_186 (tys := P_ty dA) (t0 := 0) rfl (fun _ => Iff.rfl) rfl (i := (8 : Int32)) ?o37 (Nat.le_of_ble_eq_true rfl) (Nat.le_of_ble_eq_true rfl) (Nat.le_of_ble_eq_true rfl) dX10_init_1565 (fun q_433 H h_432 eh_432 hqq_433 hW hs gq_433 => ?_)
  case o37 => decide
  have hT : hx_T T_tb ((((((L1 ++ [q_413]) ++ [q_417]) ++ [q_421]) ++ [q_425]) ++ [q_429]) ++ [q_433]) h_432 := ?o38
  case o38 =>
    rw [eh_432]
    exact hx_T_nw hT hqq_433 tt_113 rfl
  have hcon := hcon.S hs trivial rfl
  have hz := hx_zr [2, 3, 4, 5, 6, 12, 15, 17, 19, 21, 22, 23, 24, 25, 26, 27, 28, 30, 31, 32, 33, 34, 35, 37, 38, 39, 40, 41, 42, 43, 44, 45, 46, 47, 48, 49, 50, 51, 52, 53, 54, 55, 56, 58, 60, 61, 62, 63, 64, 65, 66, 73, 74, 76, 77, 78, 79, 80, 81, 82, 85, 88, 89, 91] hz hs gx trivial rfl
  have cw : ∀ j, j < 175 → h_432.2.1 q_34 j = P_words j := fun j hj => ((hs.a gq_34 rfl j).1).trans (cw j hj)
  have f_211 := (hs.o gx trivial rfl).2.trans f_211
  have hM := hM.tr (hs.mono ?o39)
  case o39 => decide
  have gx := gx.S hs
  have gq_34 := gq_34.S hs
  refine hx_putrF hx hb hts hC_10 hown hW hT (hx_S.rf (M := [(126, 93)])) gx tt_126 93 ?o40 rfl kw_1236 ⟨rfl, rfl, rfl⟩ rfl hin rfl (x := (some q_433)) ⟨fun _ z => (by cases z), fun q hq => (by cases hq; exact ⟨gq_433.1, by rw [gq_433.2]; decide⟩)⟩ rfl rfl rfl (List.mem_singleton.mpr rfl) dX10_init_1567 (fun H locs h_434 eh_434 hW hT hs => ?_)
  case o40 => decide
  have hcon := hcon.S hs trivial rfl
  have hz := hx_zr [2, 3, 4, 5, 6, 12, 15, 17, 19, 21, 22, 23, 24, 25, 26, 27, 28, 30, 31, 32, 33, 34, 35, 37, 38, 39, 40, 41, 42, 43, 44, 45, 46, 47, 48, 49, 50, 51, 52, 53, 54, 55, 56, 58, 60, 61, 62, 63, 64, 65, 66, 73, 74, 76, 77, 78, 79, 80, 81, 82, 85, 88, 89, 91, 93] hz hs gx trivial rfl
  have cw : ∀ j, j < 175 → h_434.2.1 q_34 j = P_words j := fun j hj => ((hs.a gq_34 rfl j).1).trans (cw j hj)
  have f_211 := (hs.o gx trivial rfl).2.trans f_211
  have hM := hM.tr (hs.mono ?o41)
  case o41 => decide
  have gx := gx.S hs
  have gq_34 := gq_34.S hs
  have gq_433 := gq_433.S hs
  have f_435 : h_434.2.2 x 93 = (some q_433) := ?o42
  case o42 =>
    rw [eh_434]
    exact hx_pr_at _ _ _ _
  have hcon := hx_con.add (tb := T_tb) hcon false f_435 gq_433 (fun z => by cases z)
  refine lv_aload_n hx hb dX10_init_1570 rfl (lv_at hl 0 rfl) ?_
  refine lv_sipush (v := 2304) hx hb dX10_init_1571 ?o43 ?_
  case o43 => decide
  refine hk_newa hx hb hts hW 114 tt_114 (atype := .int) rfl kw_186 (tys := P_ty dA) (t0 := 0) rfl (fun _ => Iff.rfl) rfl (i := (2304 : Int32)) ?o44 (Nat.le_of_ble_eq_true rfl) (Nat.le_of_ble_eq_true rfl) (Nat.le_of_ble_eq_true rfl) dX10_init_1574 (fun q_437 H h_436 eh_436 hqq_437 hW hs gq_437 => ?_)
  case o44 => decide
  have hT : hx_T T_tb (((((((L1 ++ [q_413]) ++ [q_417]) ++ [q_421]) ++ [q_425]) ++ [q_429]) ++ [q_433]) ++ [q_437]) h_436 := ?o45
  case o45 =>
    rw [eh_436]
    exact hx_T_nw hT hqq_437 tt_114 rfl
  have hcon := hcon.S hs trivial rfl
  have hz := hx_zr [2, 3, 4, 5, 6, 12, 15, 17, 19, 21, 22, 23, 24, 25, 26, 27, 28, 30, 31, 32, 33, 34, 35, 37, 38, 39, 40, 41, 42, 43, 44, 45, 46, 47, 48, 49, 50, 51, 52, 53, 54, 55, 56, 58, 60, 61, 62, 63, 64, 65, 66, 73, 74, 76, 77, 78, 79, 80, 81, 82, 85, 88, 89, 91, 93] hz hs gx trivial rfl
  have cw : ∀ j, j < 175 → h_436.2.1 q_34 j = P_words j := fun j hj => ((hs.a gq_34 rfl j).1).trans (cw j hj)
  have f_211 := (hs.o gx trivial rfl).2.trans f_211
  have hM := hM.tr (hs.mono ?o46)
  case o46 => decide
  have gx := gx.S hs
  have gq_34 := gq_34.S hs
  refine hx_putrF hx hb hts hC_10 hown hW hT (hx_S.rf (M := [(126, 94)])) gx tt_126 94 ?o47 rfl kw_1237 ⟨rfl, rfl, rfl⟩ rfl hin rfl (x := (some q_437)) ⟨fun _ z => (by cases z), fun q hq => (by cases hq; exact ⟨gq_437.1, by rw [gq_437.2]; decide⟩)⟩ rfl rfl rfl (List.mem_singleton.mpr rfl) dX10_init_1576 (fun H locs h_438 eh_438 hW hT hs => ?_)
  case o47 => decide
  have hcon := hcon.S hs trivial rfl
  have hz := hx_zr [2, 3, 4, 5, 6, 12, 15, 17, 19, 21, 22, 23, 24, 25, 26, 27, 28, 30, 31, 32, 33, 34, 35, 37, 38, 39, 40, 41, 42, 43, 44, 45, 46, 47, 48, 49, 50, 51, 52, 53, 54, 55, 56, 58, 60, 61, 62, 63, 64, 65, 66, 73, 74, 76, 77, 78, 79, 80, 81, 82, 85, 88, 89, 91, 93, 94] hz hs gx trivial rfl
  have cw : ∀ j, j < 175 → h_438.2.1 q_34 j = P_words j := fun j hj => ((hs.a gq_34 rfl j).1).trans (cw j hj)
  have f_211 := (hs.o gx trivial rfl).2.trans f_211
  have hM := hM.tr (hs.mono ?o48)
  case o48 => decide
  have gx := gx.S hs
  have gq_34 := gq_34.S hs
  have gq_437 := gq_437.S hs
  have f_439 : h_438.2.2 x 94 = (some q_437) := ?o49
  case o49 =>
    rw [eh_438]
    exact hx_pr_at _ _ _ _
  have hcon := hx_con.add (tb := T_tb) hcon false f_439 gq_437 (fun z => by cases z)
  refine lv_aload_n hx hb dX10_init_1579 rfl (lv_at hl 0 rfl) ?_
  refine lv_bipush (v := 61) hx hb dX10_init_1580 ?o50 ?_
  case o50 => decide
  refine hk_newL hx hb hts hW 115 tt_115 kw_1438 (tys := P_ty dA) (t0 := 3) rfl (i := (61 : Int32)) ?o51 (Nat.le_of_ble_eq_true rfl) (Nat.le_of_ble_eq_true rfl) (Nat.le_of_ble_eq_true rfl) dX10_init_1582 (fun q_441 H h_440 eh_440 hqq_441 hW hs gq_441 => ?_)
  case o51 => decide
  have hT : hx_T T_tb ((((((((L1 ++ [q_413]) ++ [q_417]) ++ [q_421]) ++ [q_425]) ++ [q_429]) ++ [q_433]) ++ [q_437]) ++ [q_441]) h_440 := ?o52
  case o52 =>
    rw [eh_440]
    exact hx_T_nw hT hqq_441 tt_115 rfl
  have hcon := hcon.S hs trivial rfl
  have hz := hx_zr [2, 3, 4, 5, 6, 12, 15, 17, 19, 21, 22, 23, 24, 25, 26, 27, 28, 30, 31, 32, 33, 34, 35, 37, 38, 39, 40, 41, 42, 43, 44, 45, 46, 47, 48, 49, 50, 51, 52, 53, 54, 55, 56, 58, 60, 61, 62, 63, 64, 65, 66, 73, 74, 76, 77, 78, 79, 80, 81, 82, 85, 88, 89, 91, 93, 94] hz hs gx trivial rfl
  have cw : ∀ j, j < 175 → h_440.2.1 q_34 j = P_words j := fun j hj => ((hs.a gq_34 rfl j).1).trans (cw j hj)
  have f_211 := (hs.o gx trivial rfl).2.trans f_211
  have hM := hM.tr (hs.mono ?o53)
  case o53 => decide
  have gx := gx.S hs
  have gq_34 := gq_34.S hs
  refine hx_putrF hx hb hts hC_10 hown hW hT (hx_S.rf (M := [(126, 97)])) gx tt_126 97 ?o54 rfl kw_1240 ⟨rfl, rfl, rfl⟩ rfl hin rfl (x := (some q_441)) ⟨fun _ z => (by cases z), fun q hq => (by cases hq; exact ⟨gq_441.1, by rw [gq_441.2]; decide⟩)⟩ rfl rfl rfl (List.mem_singleton.mpr rfl) dX10_init_1584 (fun H locs h_442 eh_442 hW hT hs => ?_)
  case o54 => decide
  have hcon := hcon.S hs trivial rfl
  have hz := hx_zr [2, 3, 4, 5, 6, 12, 15, 17, 19, 21, 22, 23, 24, 25, 26, 27, 28, 30, 31, 32, 33, 34, 35, 37, 38, 39, 40, 41, 42, 43, 44, 45, 46, 47, 48, 49, 50, 51, 52, 53, 54, 55, 56, 58, 60, 61, 62, 63, 64, 65, 66, 73, 74, 76, 77, 78, 79, 80, 81, 82, 85, 88, 89, 91, 93, 94, 97] hz hs gx trivial rfl
  have cw : ∀ j, j < 175 → h_442.2.1 q_34 j = P_words j := fun j hj => ((hs.a gq_34 rfl j).1).trans (cw j hj)
  have f_211 := (hs.o gx trivial rfl).2.trans f_211
  have hM := hM.tr (hs.mono ?o55)
  case o55 => decide
  have gx := gx.S hs
  have gq_34 := gq_34.S hs
  have gq_441 := gq_441.S hs
  have f_443 : h_442.2.2 x 97 = (some q_441) := ?o56
  case o56 =>
    rw [eh_442]
    exact hx_pr_at _ _ _ _
  have hcon := hx_con.add (tb := T_tb) hcon false f_443 gq_441 (fun z => by cases z)
  obtain ⟨k97, fk97, gk97, -⟩ := hcon.get 0 rfl
  obtain ⟨k94, fk94, gk94, -⟩ := hcon.get 1 rfl
  obtain ⟨k93, fk93, gk93, -⟩ := hcon.get 2 rfl
  obtain ⟨k91, fk91, gk91, ztr⟩ := hcon.get 3 rfl
  have zq_k91 : ∀ j, h_442.2.1 k91 j = 0 := fun j => (ztr rfl).1 j
  obtain ⟨k89, fk89, gk89, -⟩ := hcon.get 4 rfl
  obtain ⟨k88, fk88, gk88, -⟩ := hcon.get 5 rfl
  obtain ⟨k85, fk85, gk85, -⟩ := hcon.get 6 rfl
  obtain ⟨k82, fk82, gk82, -⟩ := hcon.get 7 rfl
  obtain ⟨k81, fk81, gk81, -⟩ := hcon.get 8 rfl
  obtain ⟨k80, fk80, gk80, -⟩ := hcon.get 9 rfl
  obtain ⟨k79, fk79, gk79, -⟩ := hcon.get 10 rfl
  obtain ⟨k78, fk78, gk78, -⟩ := hcon.get 11 rfl
  obtain ⟨k77, fk77, gk77, -⟩ := hcon.get 12 rfl
  obtain ⟨k76, fk76, gk76, -⟩ := hcon.get 13 rfl
  obtain ⟨k74, fk74, gk74, -⟩ := hcon.get 14 rfl
  obtain ⟨k73, fk73, gk73, -⟩ := hcon.get 15 rfl
  obtain ⟨k66, fk66, gk66, -⟩ := hcon.get 16 rfl
  obtain ⟨k65, fk65, gk65, -⟩ := hcon.get 17 rfl
  obtain ⟨k64, fk64, gk64, ztr⟩ := hcon.get 18 rfl
  have zq_k64 : ∀ j, h_442.2.1 k64 j = 0 := fun j => (ztr rfl).1 j
  obtain ⟨k63, fk63, gk63, ztr⟩ := hcon.get 19 rfl
  have zq_k63 : ∀ j, h_442.2.1 k63 j = 0 := fun j => (ztr rfl).1 j
  obtain ⟨k62, fk62, gk62, ztr⟩ := hcon.get 20 rfl
  have zq_k62 : ∀ j, h_442.2.1 k62 j = 0 := fun j => (ztr rfl).1 j
  obtain ⟨k61, fk61, gk61, ztr⟩ := hcon.get 21 rfl
  have zq_k61 : ∀ j, h_442.2.1 k61 j = 0 := fun j => (ztr rfl).1 j
  obtain ⟨k60, fk60, gk60, ztr⟩ := hcon.get 22 rfl
  have zq_k60 : ∀ j, h_442.2.1 k60 j = 0 := fun j => (ztr rfl).1 j
  obtain ⟨k58, fk58, gk58, -⟩ := hcon.get 23 rfl
  obtain ⟨k56, fk56, gk56, ztr⟩ := hcon.get 24 rfl
  have zq_k56 : ∀ j, h_442.2.1 k56 j = 0 := fun j => (ztr rfl).1 j
  obtain ⟨k55, fk55, gk55, ztr⟩ := hcon.get 25 rfl
  have zq_k55 : ∀ j, h_442.2.1 k55 j = 0 := fun j => (ztr rfl).1 j
  obtain ⟨k54, fk54, gk54, ztr⟩ := hcon.get 26 rfl
  have zq_k54 : ∀ j, h_442.2.1 k54 j = 0 := fun j => (ztr rfl).1 j
  obtain ⟨k53, fk53, gk53, -⟩ := hcon.get 27 rfl
  obtain ⟨k52, fk52, gk52, -⟩ := hcon.get 28 rfl
  obtain ⟨k51, fk51, gk51, ztr⟩ := hcon.get 29 rfl
  have zq_k51 : ∀ j, h_442.2.1 k51 j = 0 := fun j => (ztr rfl).1 j
  obtain ⟨k50, fk50, gk50, ztr⟩ := hcon.get 30 rfl
  have zq_k50 : ∀ j, h_442.2.1 k50 j = 0 := fun j => (ztr rfl).1 j
  obtain ⟨k49, fk49, gk49, ztr⟩ := hcon.get 31 rfl
  have zq_k49 : ∀ j, h_442.2.1 k49 j = 0 := fun j => (ztr rfl).1 j
  obtain ⟨k48, fk48, gk48, ztr⟩ := hcon.get 32 rfl
  have zq_k48 : ∀ j, h_442.2.1 k48 j = 0 := fun j => (ztr rfl).1 j
  obtain ⟨k47, fk47, gk47, ztr⟩ := hcon.get 33 rfl
  have zq_k47 : ∀ j, h_442.2.1 k47 j = 0 := fun j => (ztr rfl).1 j
  obtain ⟨k46, fk46, gk46, ztr⟩ := hcon.get 34 rfl
  have zq_k46 : ∀ j, h_442.2.1 k46 j = 0 := fun j => (ztr rfl).1 j
  obtain ⟨k45, fk45, gk45, ztr⟩ := hcon.get 35 rfl
  have zq_k45 : ∀ j, h_442.2.1 k45 j = 0 := fun j => (ztr rfl).1 j
  obtain ⟨k44, fk44, gk44, -⟩ := hcon.get 36 rfl
  obtain ⟨k43, fk43, gk43, ztr⟩ := hcon.get 37 rfl
  have zq_k43 : ∀ j, h_442.2.1 k43 j = 0 := fun j => (ztr rfl).1 j
  obtain ⟨k42, fk42, gk42, -⟩ := hcon.get 38 rfl
  obtain ⟨k41, fk41, gk41, -⟩ := hcon.get 39 rfl
  obtain ⟨k40, fk40, gk40, ztr⟩ := hcon.get 40 rfl
  have zq_k40 : ∀ j, h_442.2.1 k40 j = 0 := fun j => (ztr rfl).1 j
  obtain ⟨k39, fk39, gk39, ztr⟩ := hcon.get 41 rfl
  have zq_k39 : ∀ j, h_442.2.1 k39 j = 0 := fun j => (ztr rfl).1 j
  obtain ⟨k38, fk38, gk38, -⟩ := hcon.get 42 rfl
  obtain ⟨k37, fk37, gk37, -⟩ := hcon.get 43 rfl
  obtain ⟨k35, fk35, gk35, -⟩ := hcon.get 44 rfl
  obtain ⟨k34, fk34, gk34, -⟩ := hcon.get 45 rfl
  obtain ⟨k33, fk33, gk33, -⟩ := hcon.get 46 rfl
  obtain ⟨k32, fk32, gk32, -⟩ := hcon.get 47 rfl
  obtain ⟨k31, fk31, gk31, -⟩ := hcon.get 48 rfl
  obtain ⟨k30, fk30, gk30, -⟩ := hcon.get 49 rfl
  obtain ⟨k28, fk28, gk28, ztr⟩ := hcon.get 50 rfl
  have zq_k28 : ∀ j, h_442.2.1 k28 j = 0 := fun j => (ztr rfl).1 j
  obtain ⟨k27, fk27, gk27, ztr⟩ := hcon.get 51 rfl
  have zq_k27 : ∀ j, h_442.2.1 k27 j = 0 := fun j => (ztr rfl).1 j
  obtain ⟨k26, fk26, gk26, ztr⟩ := hcon.get 52 rfl
  have zq_k26 : ∀ j, h_442.2.1 k26 j = 0 := fun j => (ztr rfl).1 j
  obtain ⟨k25, fk25, gk25, ztr⟩ := hcon.get 53 rfl
  have zq_k25 : ∀ j, h_442.2.1 k25 j = 0 := fun j => (ztr rfl).1 j
  obtain ⟨k24, fk24, gk24, ztr⟩ := hcon.get 54 rfl
  have zq_k24 : ∀ j, h_442.2.1 k24 j = 0 := fun j => (ztr rfl).1 j
  obtain ⟨k23, fk23, gk23, ztr⟩ := hcon.get 55 rfl
  have zq_k23 : ∀ j, h_442.2.1 k23 j = 0 := fun j => (ztr rfl).1 j
  obtain ⟨k22, fk22, gk22, ztr⟩ := hcon.get 56 rfl
  have zq_k22 : ∀ j, h_442.2.1 k22 j = 0 := fun j => (ztr rfl).1 j
  obtain ⟨k21, fk21, gk21, ztr⟩ := hcon.get 57 rfl
  have zq_k21 : ∀ j, h_442.2.1 k21 j = 0 := fun j => (ztr rfl).1 j
  obtain ⟨k17, fk17, gk17, -⟩ := hcon.get 58 rfl
  obtain ⟨k15, fk15, gk15, -⟩ := hcon.get 59 rfl
  obtain ⟨k12, fk12, gk12, -⟩ := hcon.get 60 rfl
  obtain ⟨k6, fk6, gk6, ztr⟩ := hcon.get 61 rfl
  have zq_k6 : ∀ j, h_442.2.1 k6 j = 0 := fun j => (ztr rfl).1 j
  obtain ⟨k5, fk5, gk5, -⟩ := hcon.get 62 rfl
  obtain ⟨k4, fk4, gk4, -⟩ := hcon.get 63 rfl
  obtain ⟨k3, fk3, gk3, -⟩ := hcon.get 64 rfl
  obtain ⟨k2, fk2, gk2, -⟩ := hcon.get 65 rfl
  have f0_now : h_442.2.1 x 0 = 0 := (hz 0 rfl).1
  have f0_acts : h_442.2.1 x 1 = 0 := (hz 1 rfl).1
  have f0_claims : h_442.2.1 x 36 = 0 := (hz 36 rfl).1
  have f0_heardMany : h_442.2.1 x 57 = 0 := (hz 57 rfl).1
  have f0_taped : h_442.2.1 x 7 = 0 := (hz 7 rfl).1
  have f0_persons : h_442.2.1 x 20 = 0 := (hz 20 rfl).1
  have f0_lines : h_442.2.1 x 29 = 0 := (hz 29 rfl).1
  have f0_payments : h_442.2.1 x 59 = 0 := (hz 59 rfl).1
  have f0_planMany : h_442.2.1 x 72 = 0 := (hz 72 rfl).1
  have f0_hasNetted : h_442.2.1 x 83 = 0 := (hz 83 rfl).1
  have f0_ringMany : h_442.2.1 x 84 = 0 := (hz 84 rfl).1
  have f0_listed : h_442.2.1 x 90 = 0 := (hz 90 rfl).1
  have f0_walkedMany : h_442.2.1 x 92 = 0 := (hz 92 rfl).1
  have hwd : hx_wd (h_442.2.1 q_34) := cw
  have hF : hx_F (fun k f => hx_o ((((((((L1 ++ [q_413]) ++ [q_417]) ++ [q_421]) ++ [q_425]) ++ [q_429]) ++ [q_433]) ++ [q_437]) ++ [q_441]) h_442 f (h_442.2.1 x k) (h_442.2.2 x k)) T_f10 0 := ⟨hx_oi f0_now ?o57, hx_oi f0_acts ?o58, hx_or fk2 gk2 ?o59, hx_or fk3 gk3 ?o60, hx_or fk4 gk4 ?o61, hx_or fk5 gk5 ?o62, hx_or fk6 gk6 ?o63, hx_oi f0_taped ?o64, hx_oi (hz 8 rfl).1 ?o65, hx_oi (hz 9 rfl).1 ?o66, hx_oi (hz 10 rfl).1 ?o67, hx_oi (hz 11 rfl).1 ?o68, hx_or fk12 gk12 ?o69, hx_oi (hz 13 rfl).1 ?o70, hx_oi (hz 14 rfl).1 ?o71, hx_or fk15 gk15 ?o72, hx_oi (hz 16 rfl).1 ?o73, hx_or fk17 gk17 ?o74, hx_oi (hz 18 rfl).1 ?o75, hx_or f_211 gq_34 ?o76, hx_oi f0_persons ?o77, hx_or fk21 gk21 ?o78, hx_or fk22 gk22 ?o79, hx_or fk23 gk23 ?o80, hx_or fk24 gk24 ?o81, hx_or fk25 gk25 ?o82, hx_or fk26 gk26 ?o83, hx_or fk27 gk27 ?o84, hx_or fk28 gk28 ?o85, hx_oi f0_lines ?o86, hx_or fk30 gk30 ?o87, hx_or fk31 gk31 ?o88, hx_or fk32 gk32 ?o89, hx_or fk33 gk33 ?o90, hx_or fk34 gk34 ?o91, hx_or fk35 gk35 ?o92, hx_oi f0_claims ?o93, hx_or fk37 gk37 ?o94, hx_or fk38 gk38 ?o95, hx_or fk39 gk39 ?o96, hx_or fk40 gk40 ?o97, hx_or fk41 gk41 ?o98, hx_or fk42 gk42 ?o99, hx_or fk43 gk43 ?o100, hx_or fk44 gk44 ?o101, hx_or fk45 gk45 ?o102, hx_or fk46 gk46 ?o103, hx_or fk47 gk47 ?o104, hx_or fk48 gk48 ?o105, hx_or fk49 gk49 ?o106, hx_or fk50 gk50 ?o107, hx_or fk51 gk51 ?o108, hx_or fk52 gk52 ?o109, hx_or fk53 gk53 ?o110, hx_or fk54 gk54 ?o111, hx_or fk55 gk55 ?o112, hx_or fk56 gk56 ?o113, hx_oi f0_heardMany ?o114, hx_or fk58 gk58 ?o115, hx_oi f0_payments ?o116, hx_or fk60 gk60 ?o117, hx_or fk61 gk61 ?o118, hx_or fk62 gk62 ?o119, hx_or fk63 gk63 ?o120, hx_or fk64 gk64 ?o121, hx_or fk65 gk65 ?o122, hx_or fk66 gk66 ?o123, hx_oi (hz 67 rfl).1 ?o124, hx_oi (hz 68 rfl).1 ?o125, hx_oi (hz 69 rfl).1 ?o126, hx_oi (hz 70 rfl).1 ?o127, hx_oi (hz 71 rfl).1 ?o128, hx_oi f0_planMany ?o129, hx_or fk73 gk73 ?o130, hx_or fk74 gk74 ?o131, hx_oi (hz 75 rfl).1 ?o132, hx_or fk76 gk76 ?o133, hx_or fk77 gk77 ?o134, hx_or fk78 gk78 ?o135, hx_or fk79 gk79 ?o136, hx_or fk80 gk80 ?o137, hx_or fk81 gk81 ?o138, hx_or fk82 gk82 ?o139, hx_oi f0_hasNetted ?o140, hx_oi f0_ringMany ?o141, hx_or fk85 gk85 ?o142, hx_oi (hz 86 rfl).1 ?o143, hx_oi (hz 87 rfl).1 ?o144, hx_or fk88 gk88 ?o145, hx_or fk89 gk89 ?o146, hx_oi f0_listed ?o147, hx_or fk91 gk91 ?o148, hx_oi f0_walkedMany ?o149, hx_or fk93 gk93 ?o150, hx_or fk94 gk94 ?o151, hx_oi (hz 95 rfl).1 ?o152, hx_oi (hz 96 rfl).1 ?o153, hx_or fk97 gk97 ?o154, trivial⟩
  case o57 => decide
  case o58 => decide
  case o59 => decide
  case o60 => decide
  case o61 => decide
  case o62 => decide
  case o63 => decide
  case o64 => decide
  case o65 => decide
  case o66 => decide
  case o67 => decide
  case o68 => decide
  case o69 => decide
  case o70 => decide
  case o71 => decide
  case o72 => decide
  case o73 => decide
  case o74 => decide
  case o75 => decide
  case o76 => decide
  case o77 => decide
  case o78 => decide
  case o79 => decide
  case o80 => decide
  case o81 => decide
  case o82 => decide
  case o83 => decide
  case o84 => decide
  case o85 => decide
  case o86 => decide
  case o87 => decide
  case o88 => decide
  case o89 => decide
  case o90 => decide
  case o91 => decide
  case o92 => decide
  case o93 => decide
  case o94 => decide
  case o95 => decide
  case o96 => decide
  case o97 => decide
  case o98 => decide
  case o99 => decide
  case o100 => decide
  case o101 => decide
  case o102 => decide
  case o103 => decide
  case o104 => decide
  case o105 => decide
  case o106 => decide
  case o107 => decide
  case o108 => decide
  case o109 => decide
  case o110 => decide
  case o111 => decide
  case o112 => decide
  case o113 => decide
  case o114 => decide
  case o115 => decide
  case o116 => decide
  case o117 => decide
  case o118 => decide
  case o119 => decide
  case o120 => decide
  case o121 => decide
  case o122 => decide
  case o123 => decide
  case o124 => decide
  case o125 => decide
  case o126 => decide
  case o127 => decide
  case o128 => decide
  case o129 => decide
  case o130 => decide
  case o131 => decide
  case o132 => decide
  case o133 => decide
  case o134 => decide
  case o135 => decide
  case o136 => decide
  case o137 => decide
  case o138 => decide
  case o139 => decide
  case o140 => decide
  case o141 => decide
  case o142 => decide
  case o143 => decide
  case o144 => decide
  case o145 => decide
  case o146 => decide
  case o147 => decide
  case o148 => decide
  case o149 => decide
  case o150 => decide
  case o151 => decide
  case o152 => decide
  case o153 => decide
  case o154 => decide
  have hT := hx_T_rt hT gx tt_10 rfl (hx_F_all hF)
  have hW := hx_W_rt hW gx tt_126 tt_10 (fun _ _ => rfl)
  have hM := hx_SX_rt (x := x) (t := 10) hM
  have gq_34 := hx_rt_o (t := 10) gq_34 (gq_34.ne gx ?o155)
  case o155 => decide
  have gk91 := hx_rt_o (t := 10) gk91 (gk91.ne gx ?o156)
  case o156 => decide
  have gk64 := hx_rt_o (t := 10) gk64 (gk64.ne gx ?o157)
  case o157 => decide
  have gk63 := hx_rt_o (t := 10) gk63 (gk63.ne gx ?o158)
  case o158 => decide
  have gk62 := hx_rt_o (t := 10) gk62 (gk62.ne gx ?o159)
  case o159 => decide
  have gk61 := hx_rt_o (t := 10) gk61 (gk61.ne gx ?o160)
  case o160 => decide
  have gk60 := hx_rt_o (t := 10) gk60 (gk60.ne gx ?o161)
  case o161 => decide
  have gk56 := hx_rt_o (t := 10) gk56 (gk56.ne gx ?o162)
  case o162 => decide
  have gk55 := hx_rt_o (t := 10) gk55 (gk55.ne gx ?o163)
  case o163 => decide
  have gk54 := hx_rt_o (t := 10) gk54 (gk54.ne gx ?o164)
  case o164 => decide
  have gk51 := hx_rt_o (t := 10) gk51 (gk51.ne gx ?o165)
  case o165 => decide
  have gk50 := hx_rt_o (t := 10) gk50 (gk50.ne gx ?o166)
  case o166 => decide
  have gk49 := hx_rt_o (t := 10) gk49 (gk49.ne gx ?o167)
  case o167 => decide
  have gk48 := hx_rt_o (t := 10) gk48 (gk48.ne gx ?o168)
  case o168 => decide
  have gk47 := hx_rt_o (t := 10) gk47 (gk47.ne gx ?o169)
  case o169 => decide
  have gk46 := hx_rt_o (t := 10) gk46 (gk46.ne gx ?o170)
  case o170 => decide
  have gk45 := hx_rt_o (t := 10) gk45 (gk45.ne gx ?o171)
  case o171 => decide
  have gk43 := hx_rt_o (t := 10) gk43 (gk43.ne gx ?o172)
  case o172 => decide
  have gk40 := hx_rt_o (t := 10) gk40 (gk40.ne gx ?o173)
  case o173 => decide
  have gk39 := hx_rt_o (t := 10) gk39 (gk39.ne gx ?o174)
  case o174 => decide
  have gk28 := hx_rt_o (t := 10) gk28 (gk28.ne gx ?o175)
  case o175 => decide
  have gk27 := hx_rt_o (t := 10) gk27 (gk27.ne gx ?o176)
  case o176 => decide
  have gk26 := hx_rt_o (t := 10) gk26 (gk26.ne gx ?o177)
  case o177 => decide
  have gk25 := hx_rt_o (t := 10) gk25 (gk25.ne gx ?o178)
  case o178 => decide
  have gk24 := hx_rt_o (t := 10) gk24 (gk24.ne gx ?o179)
  case o179 => decide
  have gk23 := hx_rt_o (t := 10) gk23 (gk23.ne gx ?o180)
  case o180 => decide
  have gk22 := hx_rt_o (t := 10) gk22 (gk22.ne gx ?o181)
  case o181 => decide
  have gk21 := hx_rt_o (t := 10) gk21 (gk21.ne gx ?o182)
  case o182 => decide
  have gk15 := hx_rt_o (t := 10) gk15 (gk15.ne gx ?o183)
  case o183 => decide
  have gk6 := hx_rt_o (t := 10) gk6 (gk6.ne gx ?o184)
  case o184 => decide
  have gk5 := hx_rt_o (t := 10) gk5 (gk5.ne gx ?o185)
  case o185 => decide
  have gk4 := hx_rt_o (t := 10) gk4 (gk4.ne gx ?o186)
  case o186 => decide
  have gk3 := hx_rt_o (t := 10) gk3 (gk3.ne gx ?o187)
  case o187 => decide
  have gk2 := hx_rt_o (t := 10) gk2 (gk2.ne gx ?o188)
  case o188 => decide
  have gx := hx_rt_g (t := 10) gx
  have f_211 : (hx_rt h_442 x 10).2.2 x 19 = some q_34 := f_211
  have fk91 : (hx_rt h_442 x 10).2.2 x 91 = some k91 := fk91
  have fk64 : (hx_rt h_442 x 10).2.2 x 64 = some k64 := fk64
  have fk63 : (hx_rt h_442 x 10).2.2 x 63 = some k63 := fk63
  have fk62 : (hx_rt h_442 x 10).2.2 x 62 = some k62 := fk62
  have fk61 : (hx_rt h_442 x 10).2.2 x 61 = some k61 := fk61
  have fk60 : (hx_rt h_442 x 10).2.2 x 60 = some k60 := fk60
  have fk56 : (hx_rt h_442 x 10).2.2 x 56 = some k56 := fk56
  have fk55 : (hx_rt h_442 x 10).2.2 x 55 = some k55 := fk55
  have fk54 : (hx_rt h_442 x 10).2.2 x 54 = some k54 := fk54
  have fk51 : (hx_rt h_442 x 10).2.2 x 51 = some k51 := fk51
  have fk50 : (hx_rt h_442 x 10).2.2 x 50 = some k50 := fk50
  have fk49 : (hx_rt h_442 x 10).2.2 x 49 = some k49 := fk49
  have fk48 : (hx_rt h_442 x 10).2.2 x 48 = some k48 := fk48
  have fk47 : (hx_rt h_442 x 10).2.2 x 47 = some k47 := fk47
  have fk46 : (hx_rt h_442 x 10).2.2 x 46 = some k46 := fk46
  have fk45 : (hx_rt h_442 x 10).2.2 x 45 = some k45 := fk45
  have fk43 : (hx_rt h_442 x 10).2.2 x 43 = some k43 := fk43
  have fk40 : (hx_rt h_442 x 10).2.2 x 40 = some k40 := fk40
  have fk39 : (hx_rt h_442 x 10).2.2 x 39 = some k39 := fk39
  have fk28 : (hx_rt h_442 x 10).2.2 x 28 = some k28 := fk28
  have fk27 : (hx_rt h_442 x 10).2.2 x 27 = some k27 := fk27
  have fk26 : (hx_rt h_442 x 10).2.2 x 26 = some k26 := fk26
  have fk25 : (hx_rt h_442 x 10).2.2 x 25 = some k25 := fk25
  have fk24 : (hx_rt h_442 x 10).2.2 x 24 = some k24 := fk24
  have fk23 : (hx_rt h_442 x 10).2.2 x 23 = some k23 := fk23
  have fk22 : (hx_rt h_442 x 10).2.2 x 22 = some k22 := fk22
  have fk21 : (hx_rt h_442 x 10).2.2 x 21 = some k21 := fk21
  have fk15 : (hx_rt h_442 x 10).2.2 x 15 = some k15 := fk15
  have fk6 : (hx_rt h_442 x 10).2.2 x 6 = some k6 := fk6
  have fk5 : (hx_rt h_442 x 10).2.2 x 5 = some k5 := fk5
  have fk4 : (hx_rt h_442 x 10).2.2 x 4 = some k4 := fk4
  have fk3 : (hx_rt h_442 x 10).2.2 x 3 = some k3 := fk3
  have fk2 : (hx_rt h_442 x 10).2.2 x 2 = some k2 := fk2
  have f0_now : (hx_rt h_442 x 10).2.1 x 0 = (0 : Int32) := f0_now
  have f0_acts : (hx_rt h_442 x 10).2.1 x 1 = (0 : Int32) := f0_acts
  have f0_claims : (hx_rt h_442 x 10).2.1 x 36 = (0 : Int32) := f0_claims
  have f0_heardMany : (hx_rt h_442 x 10).2.1 x 57 = (0 : Int32) := f0_heardMany
  have f0_taped : (hx_rt h_442 x 10).2.1 x 7 = (0 : Int32) := f0_taped
  have f0_persons : (hx_rt h_442 x 10).2.1 x 20 = (0 : Int32) := f0_persons
  have f0_lines : (hx_rt h_442 x 10).2.1 x 29 = (0 : Int32) := f0_lines
  have f0_payments : (hx_rt h_442 x 10).2.1 x 59 = (0 : Int32) := f0_payments
  have f0_planMany : (hx_rt h_442 x 10).2.1 x 72 = (0 : Int32) := f0_planMany
  have f0_hasNetted : (hx_rt h_442 x 10).2.1 x 83 = (0 : Int32) := f0_hasNetted
  have f0_ringMany : (hx_rt h_442 x 10).2.1 x 84 = (0 : Int32) := f0_ringMany
  have f0_listed : (hx_rt h_442 x 10).2.1 x 90 = (0 : Int32) := f0_listed
  have f0_walkedMany : (hx_rt h_442 x 10).2.1 x 92 = (0 : Int32) := f0_walkedMany
  have hwdn : hx_wd ((hx_rt h_442 x 10).2.1 q_34) := hwd
  have zn_k91 : ∀ j, (hx_rt h_442 x 10).2.1 k91 j = 0 := zq_k91
  have zn_k64 : ∀ j, (hx_rt h_442 x 10).2.1 k64 j = 0 := zq_k64
  have zn_k63 : ∀ j, (hx_rt h_442 x 10).2.1 k63 j = 0 := zq_k63
  have zn_k62 : ∀ j, (hx_rt h_442 x 10).2.1 k62 j = 0 := zq_k62
  have zn_k61 : ∀ j, (hx_rt h_442 x 10).2.1 k61 j = 0 := zq_k61
  have zn_k60 : ∀ j, (hx_rt h_442 x 10).2.1 k60 j = 0 := zq_k60
  have zn_k56 : ∀ j, (hx_rt h_442 x 10).2.1 k56 j = 0 := zq_k56
  have zn_k55 : ∀ j, (hx_rt h_442 x 10).2.1 k55 j = 0 := zq_k55
  have zn_k54 : ∀ j, (hx_rt h_442 x 10).2.1 k54 j = 0 := zq_k54
  have zn_k51 : ∀ j, (hx_rt h_442 x 10).2.1 k51 j = 0 := zq_k51
  have zn_k50 : ∀ j, (hx_rt h_442 x 10).2.1 k50 j = 0 := zq_k50
  have zn_k49 : ∀ j, (hx_rt h_442 x 10).2.1 k49 j = 0 := zq_k49
  have zn_k48 : ∀ j, (hx_rt h_442 x 10).2.1 k48 j = 0 := zq_k48
  have zn_k47 : ∀ j, (hx_rt h_442 x 10).2.1 k47 j = 0 := zq_k47
  have zn_k46 : ∀ j, (hx_rt h_442 x 10).2.1 k46 j = 0 := zq_k46
  have zn_k45 : ∀ j, (hx_rt h_442 x 10).2.1 k45 j = 0 := zq_k45
  have zn_k43 : ∀ j, (hx_rt h_442 x 10).2.1 k43 j = 0 := zq_k43
  have zn_k40 : ∀ j, (hx_rt h_442 x 10).2.1 k40 j = 0 := zq_k40
  have zn_k39 : ∀ j, (hx_rt h_442 x 10).2.1 k39 j = 0 := zq_k39
  have zn_k28 : ∀ j, (hx_rt h_442 x 10).2.1 k28 j = 0 := zq_k28
  have zn_k27 : ∀ j, (hx_rt h_442 x 10).2.1 k27 j = 0 := zq_k27
  have zn_k26 : ∀ j, (hx_rt h_442 x 10).2.1 k26 j = 0 := zq_k26
  have zn_k25 : ∀ j, (hx_rt h_442 x 10).2.1 k25 j = 0 := zq_k25
  have zn_k24 : ∀ j, (hx_rt h_442 x 10).2.1 k24 j = 0 := zq_k24
  have zn_k23 : ∀ j, (hx_rt h_442 x 10).2.1 k23 j = 0 := zq_k23
  have zn_k22 : ∀ j, (hx_rt h_442 x 10).2.1 k22 j = 0 := zq_k22
  have zn_k21 : ∀ j, (hx_rt h_442 x 10).2.1 k21 j = 0 := zq_k21
  have zn_k6 : ∀ j, (hx_rt h_442 x 10).2.1 k6 j = 0 := zq_k6
  generalize eh : hx_rt h_442 x 10 = h_444 at hT hW hM gx gq_34 gk91 gk64 gk63 gk62 gk61 gk60 gk56 gk55 gk54 gk51 gk50 gk49 gk48 gk47 gk46 gk45 gk43 gk40 gk39 gk28 gk27 gk26 gk25 gk24 gk23 gk22 gk21 gk15 gk6 gk5 gk4 gk3 gk2 f_211 fk91 fk64 fk63 fk62 fk61 fk60 fk56 fk55 fk54 fk51 fk50 fk49 fk48 fk47 fk46 fk45 fk43 fk40 fk39 fk28 fk27 fk26 fk25 fk24 fk23 fk22 fk21 fk15 fk6 fk5 fk4 fk3 fk2 f0_now f0_acts f0_claims f0_heardMany f0_taped f0_persons f0_lines f0_payments f0_planMany f0_hasNetted f0_ringMany f0_listed f0_walkedMany hwdn zn_k91 zn_k64 zn_k63 zn_k62 zn_k61 zn_k60 zn_k56 zn_k55 zn_k54 zn_k51 zn_k50 zn_k49 zn_k48 zn_k47 zn_k46 zn_k45 zn_k43 zn_k40 zn_k39 zn_k28 zn_k27 zn_k26 zn_k25 zn_k24 zn_k23 zn_k22 zn_k21 zn_k6
  obtain ⟨wfn, nwf⟩ : ∃ g : Nat → Int32, h_444.2.1 q_34 = g := ⟨_, rfl⟩
  have hwdw : hx_wd wfn := ?o189
  case o189 =>
    rw [← nwf]
    exact hwdn
  obtain ⟨zf_k91, nz_k91⟩ : ∃ g : Nat → Int32, h_444.2.1 k91 = g := ⟨_, rfl⟩
  have zw_k91 : ∀ j, zf_k91 j = 0 := ?o190
  case o190 =>
    rw [← nz_k91]
    exact zn_k91
  obtain ⟨zf_k64, nz_k64⟩ : ∃ g : Nat → Int32, h_444.2.1 k64 = g := ⟨_, rfl⟩
  have zw_k64 : ∀ j, zf_k64 j = 0 := ?o191
  case o191 =>
    rw [← nz_k64]
    exact zn_k64
  obtain ⟨zf_k63, nz_k63⟩ : ∃ g : Nat → Int32, h_444.2.1 k63 = g := ⟨_, rfl⟩
  have zw_k63 : ∀ j, zf_k63 j = 0 := ?o192
  case o192 =>
    rw [← nz_k63]
    exact zn_k63
  obtain ⟨zf_k62, nz_k62⟩ : ∃ g : Nat → Int32, h_444.2.1 k62 = g := ⟨_, rfl⟩
  have zw_k62 : ∀ j, zf_k62 j = 0 := ?o193
  case o193 =>
    rw [← nz_k62]
    exact zn_k62
  obtain ⟨zf_k61, nz_k61⟩ : ∃ g : Nat → Int32, h_444.2.1 k61 = g := ⟨_, rfl⟩
  have zw_k61 : ∀ j, zf_k61 j = 0 := ?o194
  case o194 =>
    rw [← nz_k61]
    exact zn_k61
  obtain ⟨zf_k60, nz_k60⟩ : ∃ g : Nat → Int32, h_444.2.1 k60 = g := ⟨_, rfl⟩
  have zw_k60 : ∀ j, zf_k60 j = 0 := ?o195
  case o195 =>
    rw [← nz_k60]
    exact zn_k60
  obtain ⟨zf_k56, nz_k56⟩ : ∃ g : Nat → Int32, h_444.2.1 k56 = g := ⟨_, rfl⟩
  have zw_k56 : ∀ j, zf_k56 j = 0 := ?o196
  case o196 =>
    rw [← nz_k56]
    exact zn_k56
  obtain ⟨zf_k55, nz_k55⟩ : ∃ g : Nat → Int32, h_444.2.1 k55 = g := ⟨_, rfl⟩
  have zw_k55 : ∀ j, zf_k55 j = 0 := ?o197
  case o197 =>
    rw [← nz_k55]
    exact zn_k55
  obtain ⟨zf_k54, nz_k54⟩ : ∃ g : Nat → Int32, h_444.2.1 k54 = g := ⟨_, rfl⟩
  have zw_k54 : ∀ j, zf_k54 j = 0 := ?o198
  case o198 =>
    rw [← nz_k54]
    exact zn_k54
  obtain ⟨zf_k51, nz_k51⟩ : ∃ g : Nat → Int32, h_444.2.1 k51 = g := ⟨_, rfl⟩
  have zw_k51 : ∀ j, zf_k51 j = 0 := ?o199
  case o199 =>
    rw [← nz_k51]
    exact zn_k51
  obtain ⟨zf_k50, nz_k50⟩ : ∃ g : Nat → Int32, h_444.2.1 k50 = g := ⟨_, rfl⟩
  have zw_k50 : ∀ j, zf_k50 j = 0 := ?o200
  case o200 =>
    rw [← nz_k50]
    exact zn_k50
  obtain ⟨zf_k49, nz_k49⟩ : ∃ g : Nat → Int32, h_444.2.1 k49 = g := ⟨_, rfl⟩
  have zw_k49 : ∀ j, zf_k49 j = 0 := ?o201
  case o201 =>
    rw [← nz_k49]
    exact zn_k49
  obtain ⟨zf_k48, nz_k48⟩ : ∃ g : Nat → Int32, h_444.2.1 k48 = g := ⟨_, rfl⟩
  have zw_k48 : ∀ j, zf_k48 j = 0 := ?o202
  case o202 =>
    rw [← nz_k48]
    exact zn_k48
  obtain ⟨zf_k47, nz_k47⟩ : ∃ g : Nat → Int32, h_444.2.1 k47 = g := ⟨_, rfl⟩
  have zw_k47 : ∀ j, zf_k47 j = 0 := ?o203
  case o203 =>
    rw [← nz_k47]
    exact zn_k47
  obtain ⟨zf_k46, nz_k46⟩ : ∃ g : Nat → Int32, h_444.2.1 k46 = g := ⟨_, rfl⟩
  have zw_k46 : ∀ j, zf_k46 j = 0 := ?o204
  case o204 =>
    rw [← nz_k46]
    exact zn_k46
  obtain ⟨zf_k45, nz_k45⟩ : ∃ g : Nat → Int32, h_444.2.1 k45 = g := ⟨_, rfl⟩
  have zw_k45 : ∀ j, zf_k45 j = 0 := ?o205
  case o205 =>
    rw [← nz_k45]
    exact zn_k45
  obtain ⟨zf_k43, nz_k43⟩ : ∃ g : Nat → Int32, h_444.2.1 k43 = g := ⟨_, rfl⟩
  have zw_k43 : ∀ j, zf_k43 j = 0 := ?o206
  case o206 =>
    rw [← nz_k43]
    exact zn_k43
  obtain ⟨zf_k40, nz_k40⟩ : ∃ g : Nat → Int32, h_444.2.1 k40 = g := ⟨_, rfl⟩
  have zw_k40 : ∀ j, zf_k40 j = 0 := ?o207
  case o207 =>
    rw [← nz_k40]
    exact zn_k40
  obtain ⟨zf_k39, nz_k39⟩ : ∃ g : Nat → Int32, h_444.2.1 k39 = g := ⟨_, rfl⟩
  have zw_k39 : ∀ j, zf_k39 j = 0 := ?o208
  case o208 =>
    rw [← nz_k39]
    exact zn_k39
  obtain ⟨zf_k28, nz_k28⟩ : ∃ g : Nat → Int32, h_444.2.1 k28 = g := ⟨_, rfl⟩
  have zw_k28 : ∀ j, zf_k28 j = 0 := ?o209
  case o209 =>
    rw [← nz_k28]
    exact zn_k28
  obtain ⟨zf_k27, nz_k27⟩ : ∃ g : Nat → Int32, h_444.2.1 k27 = g := ⟨_, rfl⟩
  have zw_k27 : ∀ j, zf_k27 j = 0 := ?o210
  case o210 =>
    rw [← nz_k27]
    exact zn_k27
  obtain ⟨zf_k26, nz_k26⟩ : ∃ g : Nat → Int32, h_444.2.1 k26 = g := ⟨_, rfl⟩
  have zw_k26 : ∀ j, zf_k26 j = 0 := ?o211
  case o211 =>
    rw [← nz_k26]
    exact zn_k26
  obtain ⟨zf_k25, nz_k25⟩ : ∃ g : Nat → Int32, h_444.2.1 k25 = g := ⟨_, rfl⟩
  have zw_k25 : ∀ j, zf_k25 j = 0 := ?o212
  case o212 =>
    rw [← nz_k25]
    exact zn_k25
  obtain ⟨zf_k24, nz_k24⟩ : ∃ g : Nat → Int32, h_444.2.1 k24 = g := ⟨_, rfl⟩
  have zw_k24 : ∀ j, zf_k24 j = 0 := ?o213
  case o213 =>
    rw [← nz_k24]
    exact zn_k24
  obtain ⟨zf_k23, nz_k23⟩ : ∃ g : Nat → Int32, h_444.2.1 k23 = g := ⟨_, rfl⟩
  have zw_k23 : ∀ j, zf_k23 j = 0 := ?o214
  case o214 =>
    rw [← nz_k23]
    exact zn_k23
  obtain ⟨zf_k22, nz_k22⟩ : ∃ g : Nat → Int32, h_444.2.1 k22 = g := ⟨_, rfl⟩
  have zw_k22 : ∀ j, zf_k22 j = 0 := ?o215
  case o215 =>
    rw [← nz_k22]
    exact zn_k22
  obtain ⟨zf_k21, nz_k21⟩ : ∃ g : Nat → Int32, h_444.2.1 k21 = g := ⟨_, rfl⟩
  have zw_k21 : ∀ j, zf_k21 j = 0 := ?o216
  case o216 =>
    rw [← nz_k21]
    exact zn_k21
  obtain ⟨zf_k6, nz_k6⟩ : ∃ g : Nat → Int32, h_444.2.1 k6 = g := ⟨_, rfl⟩
  have zw_k6 : ∀ j, zf_k6 j = 0 := ?o217
  case o217 =>
    rw [← nz_k6]
    exact zn_k6
  refine lv_iconst (v := 0) hx hb dX10_init_1587 ?o218 ?_
  case o218 => decide
  refine lv_istore_n (lv' := [(1, .int (0 : Int32)), (0, .ref x)]) hx hb dX10_init_1588 rfl hl ?o219 rfl (fun ls hl => ?_)
  case o219 => decide
  obtain ⟨fa_445, nfa_445⟩ : ∃ g : Nat → Int32, h_444.2.1 k3 = g := ⟨_, rfl⟩
  have loop1589 : ∀ (n1589 : Nat) (iv1589_1 : Int32) (ia1589_k3 : Nat → Int32) (H : Heap) (locs : List Loc) (hL1 : List Nat) (hl1 : hx_h), 0 ≤ iv1589_1.toInt → iv1589_1.toInt ≤ 13 → (hx_rk1 ia1589_k3 iv1589_1.toInt) → (hv_WI ia1589_k3 iv1589_1.toInt) → ∀ (ls : Array Slot), 13 - iv1589_1.toInt < (n1589 : Int) → hx_W T_tb (P_ty dA) (dC, dI) vwCl (hx_A L sz) s.heap hL1 hl1 s H locs → hx_T T_tb hL1 hl1 → hx_S T_tb [(10, 14), (10, 16), (10, 18), (50, 0), (51, 0), (52, 0), (55, 0), (57, 0), (126, 2), (126, 3), (126, 4), (126, 5), (126, 6), (126, 12), (126, 15), (126, 17), (126, 19), (126, 21), (126, 22), (126, 23), (126, 24), (126, 25), (126, 26), (126, 27), (126, 28), (126, 30), (126, 31), (126, 32), (126, 33), (126, 34), (126, 35), (126, 37), (126, 38), (126, 39), (126, 40), (126, 41), (126, 42), (126, 43), (126, 44), (126, 45), (126, 46), (126, 47), (126, 48), (126, 49), (126, 50), (126, 51), (126, 52), (126, 53), (126, 54), (126, 55), (126, 56), (126, 58), (126, 60), (126, 61), (126, 62), (126, 63), (126, 64), (126, 65), (126, 66), (126, 73), (126, 74), (126, 76), (126, 77), (126, 78), (126, 79), (126, 80), (126, 81), (126, 82), (126, 85), (126, 88), (126, 89), (126, 91), (126, 93), (126, 94), (126, 97)] (hx_X L x) h hL1 hl1 → hl1.2.2 x 19 = some q_34 → hl1.2.2 x 91 = some k91 → hl1.2.2 x 64 = some k64 → hl1.2.2 x 63 = some k63 → hl1.2.2 x 62 = some k62 → hl1.2.2 x 61 = some k61 → hl1.2.2 x 60 = some k60 → hl1.2.2 x 56 = some k56 → hl1.2.2 x 55 = some k55 → hl1.2.2 x 54 = some k54 → hl1.2.2 x 51 = some k51 → hl1.2.2 x 50 = some k50 → hl1.2.2 x 49 = some k49 → hl1.2.2 x 48 = some k48 → hl1.2.2 x 47 = some k47 → hl1.2.2 x 46 = some k46 → hl1.2.2 x 45 = some k45 → hl1.2.2 x 43 = some k43 → hl1.2.2 x 40 = some k40 → hl1.2.2 x 39 = some k39 → hl1.2.2 x 28 = some k28 → hl1.2.2 x 27 = some k27 → hl1.2.2 x 26 = some k26 → hl1.2.2 x 25 = some k25 → hl1.2.2 x 24 = some k24 → hl1.2.2 x 23 = some k23 → hl1.2.2 x 22 = some k22 → hl1.2.2 x 21 = some k21 → hl1.2.2 x 15 = some k15 → hl1.2.2 x 6 = some k6 → hl1.2.2 x 5 = some k5 → hl1.2.2 x 4 = some k4 → hl1.2.2 x 3 = some k3 → hl1.2.2 x 2 = some k2 → hl1.2.1 x 0 = (0 : Int32) → hl1.2.1 x 1 = (0 : Int32) → hl1.2.1 x 36 = (0 : Int32) → hl1.2.1 x 57 = (0 : Int32) → hl1.2.1 x 7 = (0 : Int32) → hl1.2.1 x 20 = (0 : Int32) → hl1.2.1 x 29 = (0 : Int32) → hl1.2.1 x 59 = (0 : Int32) → hl1.2.1 x 72 = (0 : Int32) → hl1.2.1 x 83 = (0 : Int32) → hl1.2.1 x 84 = (0 : Int32) → hl1.2.1 x 90 = (0 : Int32) → hl1.2.1 x 92 = (0 : Int32) → hx_g hL1 hl1 x 10 → hx_g hL1 hl1 q_34 57 → hx_g hL1 hl1 k91 112 → hx_g hL1 hl1 k64 97 → hx_g hL1 hl1 k63 96 → hx_g hL1 hl1 k62 95 → hx_g hL1 hl1 k61 94 → hx_g hL1 hl1 k60 93 → hx_g hL1 hl1 k56 91 → hx_g hL1 hl1 k55 90 → hx_g hL1 hl1 k54 89 → hx_g hL1 hl1 k51 86 → hx_g hL1 hl1 k50 85 → hx_g hL1 hl1 k49 84 → hx_g hL1 hl1 k48 83 → hx_g hL1 hl1 k47 82 → hx_g hL1 hl1 k46 81 → hx_g hL1 hl1 k45 80 → hx_g hL1 hl1 k43 78 → hx_g hL1 hl1 k40 75 → hx_g hL1 hl1 k39 74 → hx_g hL1 hl1 k28 65 → hx_g hL1 hl1 k27 64 → hx_g hL1 hl1 k26 63 → hx_g hL1 hl1 k25 62 → hx_g hL1 hl1 k24 61 → hx_g hL1 hl1 k23 60 → hx_g hL1 hl1 k22 59 → hx_g hL1 hl1 k21 58 → hx_g hL1 hl1 k15 55 → hx_g hL1 hl1 k6 53 → hx_g hL1 hl1 k5 52 → hx_g hL1 hl1 k4 51 → hx_g hL1 hl1 k3 50 → hx_g hL1 hl1 k2 49 → hl1.2.1 k3 = ia1589_k3 → hl1.2.1 q_34 = wfn → hl1.2.1 k91 = zf_k91 → hl1.2.1 k64 = zf_k64 → hl1.2.1 k63 = zf_k63 → hl1.2.1 k62 = zf_k62 → hl1.2.1 k61 = zf_k61 → hl1.2.1 k60 = zf_k60 → hl1.2.1 k56 = zf_k56 → hl1.2.1 k55 = zf_k55 → hl1.2.1 k54 = zf_k54 → hl1.2.1 k51 = zf_k51 → hl1.2.1 k50 = zf_k50 → hl1.2.1 k49 = zf_k49 → hl1.2.1 k48 = zf_k48 → hl1.2.1 k47 = zf_k47 → hl1.2.1 k46 = zf_k46 → hl1.2.1 k45 = zf_k45 → hl1.2.1 k43 = zf_k43 → hl1.2.1 k40 = zf_k40 → hl1.2.1 k39 = zf_k39 → hl1.2.1 k28 = zf_k28 → hl1.2.1 k27 = zf_k27 → hl1.2.1 k26 = zf_k26 → hl1.2.1 k25 = zf_k25 → hl1.2.1 k24 = zf_k24 → hl1.2.1 k23 = zf_k23 → hl1.2.1 k22 = zf_k22 → hl1.2.1 k21 = zf_k21 → hl1.2.1 k6 = zf_k6 → lv_has ls 2 [(1, .int iv1589_1), (0, .ref x)] → W p l e ({ frames := 2, cells := 67, slots := 15340, locals := 42 }) s m ([.ref x] : List Value).toArray below meth c H locs 67 15340 (MQ below (va_Qv (fun (u : List Nat × hx_h) => hx_T T_tb u.1 u.2 ∧ hx_S T_tb [(10, 14), (10, 16), (10, 18), (50, 0), (51, 0), (52, 0), (55, 0), (57, 0), (126, 2), (126, 3), (126, 4), (126, 5), (126, 6), (126, 12), (126, 15), (126, 17), (126, 19), (126, 21), (126, 22), (126, 23), (126, 24), (126, 25), (126, 26), (126, 27), (126, 28), (126, 30), (126, 31), (126, 32), (126, 33), (126, 34), (126, 35), (126, 37), (126, 38), (126, 39), (126, 40), (126, 41), (126, 42), (126, 43), (126, 44), (126, 45), (126, 46), (126, 47), (126, 48), (126, 49), (126, 50), (126, 51), (126, 52), (126, 53), (126, 54), (126, 55), (126, 56), (126, 58), (126, 60), (126, 61), (126, 62), (126, 63), (126, 64), (126, 65), (126, 66), (126, 73), (126, 74), (126, 76), (126, 77), (126, 78), (126, 79), (126, 80), (126, 81), (126, 82), (126, 85), (126, 88), (126, 89), (126, 91), (126, 93), (126, 94), (126, 97)] (hx_X L x) h u.1 u.2 ∧ hx_g u.1 u.2 x 10 ∧ u.2.2.1 x 0 = 0 ∧ u.2.2.1 x 1 = 0 ∧ u.2.2.1 x 36 = 0 ∧ u.2.2.1 x 57 = 0 ∧ u.2.2.1 x 7 = 0 ∧ u.2.2.1 x 20 = 0 ∧ u.2.2.1 x 29 = 0 ∧ u.2.2.1 x 59 = 0 ∧ u.2.2.1 x 72 = 0 ∧ u.2.2.1 x 83 = 0 ∧ u.2.2.1 x 84 = 0 ∧ u.2.2.1 x 90 = 0 ∧ u.2.2.1 x 92 = 0 ∧ ∃ q_words q_rule q_proofSteps q_proof q_tries q_isDead q_isJudge q_found q_list q_judged q_weekly q_owed q_doorX q_doorY q_tape q_born q_kin q_sum q_filed q_owedFrom q_heard q_ordered q_goods q_seized q_served q_earns q_heads q_payOf q_payDay q_paySum q_payKnown q_payStruck q_actDay : Nat, u.2.2.2 x 19 = some q_words ∧ hx_g u.1 u.2 q_words 57 ∧ u.2.2.2 x 3 = some q_rule ∧ hx_g u.1 u.2 q_rule 50 ∧ u.2.2.2 x 4 = some q_proofSteps ∧ hx_g u.1 u.2 q_proofSteps 51 ∧ u.2.2.2 x 5 = some q_proof ∧ hx_g u.1 u.2 q_proof 52 ∧ u.2.2.2 x 45 = some q_tries ∧ hx_g u.1 u.2 q_tries 80 ∧ u.2.2.2 x 27 = some q_isDead ∧ hx_g u.1 u.2 q_isDead 64 ∧ u.2.2.2 x 28 = some q_isJudge ∧ hx_g u.1 u.2 q_isJudge 65 ∧ u.2.2.2 x 46 = some q_found ∧ hx_g u.1 u.2 q_found 81 ∧ u.2.2.2 x 91 = some q_list ∧ hx_g u.1 u.2 q_list 112 ∧ u.2.2.2 x 51 = some q_judged ∧ hx_g u.1 u.2 q_judged 86 ∧ u.2.2.2 x 54 = some q_weekly ∧ hx_g u.1 u.2 q_weekly 89 ∧ u.2.2.2 x 55 = some q_owed ∧ hx_g u.1 u.2 q_owed 90 ∧ u.2.2.2 x 24 = some q_doorX ∧ hx_g u.1 u.2 q_doorX 61 ∧ u.2.2.2 x 25 = some q_doorY ∧ hx_g u.1 u.2 q_doorY 62 ∧ u.2.2.2 x 6 = some q_tape ∧ hx_g u.1 u.2 q_tape 53 ∧ u.2.2.2 x 21 = some q_born ∧ hx_g u.1 u.2 q_born 58 ∧ u.2.2.2 x 26 = some q_kin ∧ hx_g u.1 u.2 q_kin 63 ∧ u.2.2.2 x 39 = some q_sum ∧ hx_g u.1 u.2 q_sum 74 ∧ u.2.2.2 x 43 = some q_filed ∧ hx_g u.1 u.2 q_filed 78 ∧ u.2.2.2 x 40 = some q_owedFrom ∧ hx_g u.1 u.2 q_owedFrom 75 ∧ u.2.2.2 x 47 = some q_heard ∧ hx_g u.1 u.2 q_heard 82 ∧ u.2.2.2 x 48 = some q_ordered ∧ hx_g u.1 u.2 q_ordered 83 ∧ u.2.2.2 x 56 = some q_goods ∧ hx_g u.1 u.2 q_goods 91 ∧ u.2.2.2 x 49 = some q_seized ∧ hx_g u.1 u.2 q_seized 84 ∧ u.2.2.2 x 50 = some q_served ∧ hx_g u.1 u.2 q_served 85 ∧ u.2.2.2 x 22 = some q_earns ∧ hx_g u.1 u.2 q_earns 59 ∧ u.2.2.2 x 23 = some q_heads ∧ hx_g u.1 u.2 q_heads 60 ∧ u.2.2.2 x 60 = some q_payOf ∧ hx_g u.1 u.2 q_payOf 93 ∧ u.2.2.2 x 61 = some q_payDay ∧ hx_g u.1 u.2 q_payDay 94 ∧ u.2.2.2 x 62 = some q_paySum ∧ hx_g u.1 u.2 q_paySum 95 ∧ u.2.2.2 x 63 = some q_payKnown ∧ hx_g u.1 u.2 q_payKnown 96 ∧ u.2.2.2 x 64 = some q_payStruck ∧ hx_g u.1 u.2 q_payStruck 97 ∧ u.2.2.2 x 2 = some q_actDay ∧ hx_g u.1 u.2 q_actDay 49 ∧ hx_wd (u.2.2.1 q_words) ∧ hx_WK (u.2.2.1 q_rule) 0 ∧ hx_RP (u.2.2.1 q_proof) (u.2.2.1 q_proofSteps) 0 ∧ (∀ j, u.2.2.1 q_tries j = 0) ∧ (∀ j, u.2.2.1 q_isDead j = 0) ∧ (∀ j, u.2.2.1 q_isJudge j = 0) ∧ (∀ j, u.2.2.1 q_found j = 0) ∧ (∀ j, u.2.2.1 q_list j = 0) ∧ (∀ j, u.2.2.1 q_judged j = 0) ∧ (∀ j, u.2.2.1 q_weekly j = 0) ∧ (∀ j, u.2.2.1 q_owed j = 0) ∧ (∀ j, u.2.2.1 q_doorX j = 0) ∧ (∀ j, u.2.2.1 q_doorY j = 0) ∧ (∀ j, u.2.2.1 q_tape j = 0) ∧ (∀ j, u.2.2.1 q_born j = 0) ∧ (∀ j, u.2.2.1 q_kin j = 0) ∧ (∀ j, u.2.2.1 q_sum j = 0) ∧ (∀ j, u.2.2.1 q_filed j = 0) ∧ (∀ j, u.2.2.1 q_owedFrom j = 0) ∧ (∀ j, u.2.2.1 q_heard j = 0) ∧ (∀ j, u.2.2.1 q_ordered j = 0) ∧ (∀ j, u.2.2.1 q_goods j = 0) ∧ (∀ j, u.2.2.1 q_seized j = 0) ∧ (∀ j, u.2.2.1 q_served j = 0) ∧ (∀ j, u.2.2.1 q_earns j = 0) ∧ (∀ j, u.2.2.1 q_heads j = 0) ∧ (∀ j, u.2.2.1 q_payOf j = 0) ∧ (∀ j, u.2.2.1 q_payDay j = 0) ∧ (∀ j, u.2.2.1 q_paySum j = 0) ∧ (∀ j, u.2.2.1 q_payKnown j = 0) ∧ (∀ j, u.2.2.1 q_payStruck j = 0) ∧ hv_CA (u.2.2.1 q_actDay) (u.2.2.1 q_rule) (u.2.2.1 q_proofSteps) (u.2.2.1 q_proof) 0 (fun _ => hv_A0)) (hx_E T_tb (P_ty dA) (dC, dI) vwCl (hx_A L sz)) (hx_A L sz)) ([.ref x] : List Value).toArray s 67 15340 (hx_A L sz)) (F0 m 1589 ls []) := by
    intro n1589
    induction n1589 with
    | zero => intro iv1589_1 ia1589_k3 H locs hL1 hl1 bliv1589_1 buiv1589_1 vi1589_0 vi1589_1 ls hn1589; exfalso; omega
    | succ n1589 ih1589 =>
      intro iv1589_1 ia1589_k3 H locs hL1 hl1 bliv1589_1 buiv1589_1 vi1589_0 vi1589_1 ls hn1589 hW hT hM f_211 fk91 fk64 fk63 fk62 fk61 fk60 fk56 fk55 fk54 fk51 fk50 fk49 fk48 fk47 fk46 fk45 fk43 fk40 fk39 fk28 fk27 fk26 fk25 fk24 fk23 fk22 fk21 fk15 fk6 fk5 fk4 fk3 fk2 f0_now f0_acts f0_claims f0_heardMany f0_taped f0_persons f0_lines f0_payments f0_planMany f0_hasNetted f0_ringMany f0_listed f0_walkedMany gx gq_34 gk91 gk64 gk63 gk62 gk61 gk60 gk56 gk55 gk54 gk51 gk50 gk49 gk48 gk47 gk46 gk45 gk43 gk40 gk39 gk28 gk27 gk26 gk25 gk24 gk23 gk22 gk21 gk15 gk6 gk5 gk4 gk3 gk2 nia1589_k3 nwf nz_k91 nz_k64 nz_k63 nz_k62 nz_k61 nz_k60 nz_k56 nz_k55 nz_k54 nz_k51 nz_k50 nz_k49 nz_k48 nz_k47 nz_k46 nz_k45 nz_k43 nz_k40 nz_k39 nz_k28 nz_k27 nz_k26 nz_k25 nz_k24 nz_k23 nz_k22 nz_k21 nz_k6 hl
      refine lv_iload_n hx hb dX10_init_1589 rfl (lv_at hl 0 rfl) ?_
      refine lv_bipush (v := 13) hx hb dX10_init_1590 ?o220 ?_
      case o220 => decide
      refine hb_icmp_ge (zx := iv1589_1.toInt) (zy := 13) (tgt := 1611) hx hb rfl ?o221 dX10_init_1592 ?o222 (fun c_446 => ?_) (fun c_446 => ?_)
      case o221 => decide
      case o222 => decide
      · skip
        refine lv_aload_n hx hb dX10_init_1611 rfl (lv_at hl 1 rfl) ?_
        refine hx_gov (hx_runV (As := []) (rest := []) ⟨hx, hb, hml, hown, hts⟩ hW gx tt_10 (T := TX10) (N := 98) rfl (t_X10_clears_v l dC dI dA hL1 hl1 H.size x hT gx) (cwV 0 hts (hx_gV kw_1125 kw_1122 kw_1124 kw_48 kw_103) rfl rfl rfl (by decide +kernel) ⟨Nat.le_of_ble_eq_true rfl, Nat.le_of_ble_eq_true rfl⟩) rfl hl.1 rfl (Nat.le_of_ble_eq_true rfl) dX10_init_1612 ⟨Nat.le_of_ble_eq_true rfl, Nat.le_of_ble_eq_true rfl⟩) hW (fun L_447 h_448 H locs p_450 hW => ?_)
        obtain ⟨⟨w_452, w_453, w_454, fw_452, fw_453, fw_454, hr_451⟩, hT, hs⟩ := p_450
        replace hT : hx_T T_tb L_447 h_448 := hT
        replace hs : hx_S T_tb [(10, 14), (10, 16), (10, 18)] hL1 hl1 L_447 h_448 := hs
        replace f_211 := (hs.o gx trivial rfl).2.trans f_211
        replace fk91 := (hs.o gx trivial rfl).2.trans fk91
        replace fk64 := (hs.o gx trivial rfl).2.trans fk64
        replace fk63 := (hs.o gx trivial rfl).2.trans fk63
        replace fk62 := (hs.o gx trivial rfl).2.trans fk62
        replace fk61 := (hs.o gx trivial rfl).2.trans fk61
        replace fk60 := (hs.o gx trivial rfl).2.trans fk60
        replace fk56 := (hs.o gx trivial rfl).2.trans fk56
        replace fk55 := (hs.o gx trivial rfl).2.trans fk55
        replace fk54 := (hs.o gx trivial rfl).2.trans fk54
        replace fk51 := (hs.o gx trivial rfl).2.trans fk51
        replace fk50 := (hs.o gx trivial rfl).2.trans fk50
        replace fk49 := (hs.o gx trivial rfl).2.trans fk49
        replace fk48 := (hs.o gx trivial rfl).2.trans fk48
        replace fk47 := (hs.o gx trivial rfl).2.trans fk47
        replace fk46 := (hs.o gx trivial rfl).2.trans fk46
        replace fk45 := (hs.o gx trivial rfl).2.trans fk45
        replace fk43 := (hs.o gx trivial rfl).2.trans fk43
        replace fk40 := (hs.o gx trivial rfl).2.trans fk40
        replace fk39 := (hs.o gx trivial rfl).2.trans fk39
        replace fk28 := (hs.o gx trivial rfl).2.trans fk28
        replace fk27 := (hs.o gx trivial rfl).2.trans fk27
        replace fk26 := (hs.o gx trivial rfl).2.trans fk26
        replace fk25 := (hs.o gx trivial rfl).2.trans fk25
        replace fk24 := (hs.o gx trivial rfl).2.trans fk24
        replace fk23 := (hs.o gx trivial rfl).2.trans fk23
        replace fk22 := (hs.o gx trivial rfl).2.trans fk22
        replace fk21 := (hs.o gx trivial rfl).2.trans fk21
        replace fk15 := (hs.o gx trivial rfl).2.trans fk15
        replace fk6 := (hs.o gx trivial rfl).2.trans fk6
        replace fk5 := (hs.o gx trivial rfl).2.trans fk5
        replace fk4 := (hs.o gx trivial rfl).2.trans fk4
        replace fk3 := (hs.o gx trivial rfl).2.trans fk3
        replace fk2 := (hs.o gx trivial rfl).2.trans fk2
        replace f0_now := (hs.o gx trivial rfl).1.trans f0_now
        replace f0_acts := (hs.o gx trivial rfl).1.trans f0_acts
        replace f0_claims := (hs.o gx trivial rfl).1.trans f0_claims
        replace f0_heardMany := (hs.o gx trivial rfl).1.trans f0_heardMany
        replace f0_taped := (hs.o gx trivial rfl).1.trans f0_taped
        replace f0_persons := (hs.o gx trivial rfl).1.trans f0_persons
        replace f0_lines := (hs.o gx trivial rfl).1.trans f0_lines
        replace f0_payments := (hs.o gx trivial rfl).1.trans f0_payments
        replace f0_planMany := (hs.o gx trivial rfl).1.trans f0_planMany
        replace f0_hasNetted := (hs.o gx trivial rfl).1.trans f0_hasNetted
        replace f0_ringMany := (hs.o gx trivial rfl).1.trans f0_ringMany
        replace f0_listed := (hs.o gx trivial rfl).1.trans f0_listed
        replace f0_walkedMany := (hs.o gx trivial rfl).1.trans f0_walkedMany
        replace nwf : h_448.2.1 q_34 = wfn := (funext fun j => (hs.a gq_34 rfl j).1).trans nwf
        replace nz_k91 : h_448.2.1 k91 = zf_k91 := (funext fun j => (hs.a gk91 rfl j).1).trans nz_k91
        replace nz_k64 : h_448.2.1 k64 = zf_k64 := (funext fun j => (hs.a gk64 rfl j).1).trans nz_k64
        replace nz_k63 : h_448.2.1 k63 = zf_k63 := (funext fun j => (hs.a gk63 rfl j).1).trans nz_k63
        replace nz_k62 : h_448.2.1 k62 = zf_k62 := (funext fun j => (hs.a gk62 rfl j).1).trans nz_k62
        replace nz_k61 : h_448.2.1 k61 = zf_k61 := (funext fun j => (hs.a gk61 rfl j).1).trans nz_k61
        replace nz_k60 : h_448.2.1 k60 = zf_k60 := (funext fun j => (hs.a gk60 rfl j).1).trans nz_k60
        replace nz_k56 : h_448.2.1 k56 = zf_k56 := (funext fun j => (hs.a gk56 rfl j).1).trans nz_k56
        replace nz_k55 : h_448.2.1 k55 = zf_k55 := (funext fun j => (hs.a gk55 rfl j).1).trans nz_k55
        replace nz_k54 : h_448.2.1 k54 = zf_k54 := (funext fun j => (hs.a gk54 rfl j).1).trans nz_k54
        replace nz_k51 : h_448.2.1 k51 = zf_k51 := (funext fun j => (hs.a gk51 rfl j).1).trans nz_k51
        replace nz_k50 : h_448.2.1 k50 = zf_k50 := (funext fun j => (hs.a gk50 rfl j).1).trans nz_k50
        replace nz_k49 : h_448.2.1 k49 = zf_k49 := (funext fun j => (hs.a gk49 rfl j).1).trans nz_k49
        replace nz_k48 : h_448.2.1 k48 = zf_k48 := (funext fun j => (hs.a gk48 rfl j).1).trans nz_k48
        replace nz_k47 : h_448.2.1 k47 = zf_k47 := (funext fun j => (hs.a gk47 rfl j).1).trans nz_k47
        replace nz_k46 : h_448.2.1 k46 = zf_k46 := (funext fun j => (hs.a gk46 rfl j).1).trans nz_k46
        replace nz_k45 : h_448.2.1 k45 = zf_k45 := (funext fun j => (hs.a gk45 rfl j).1).trans nz_k45
        replace nz_k43 : h_448.2.1 k43 = zf_k43 := (funext fun j => (hs.a gk43 rfl j).1).trans nz_k43
        replace nz_k40 : h_448.2.1 k40 = zf_k40 := (funext fun j => (hs.a gk40 rfl j).1).trans nz_k40
        replace nz_k39 : h_448.2.1 k39 = zf_k39 := (funext fun j => (hs.a gk39 rfl j).1).trans nz_k39
        replace nz_k28 : h_448.2.1 k28 = zf_k28 := (funext fun j => (hs.a gk28 rfl j).1).trans nz_k28
        replace nz_k27 : h_448.2.1 k27 = zf_k27 := (funext fun j => (hs.a gk27 rfl j).1).trans nz_k27
        replace nz_k26 : h_448.2.1 k26 = zf_k26 := (funext fun j => (hs.a gk26 rfl j).1).trans nz_k26
        replace nz_k25 : h_448.2.1 k25 = zf_k25 := (funext fun j => (hs.a gk25 rfl j).1).trans nz_k25
        replace nz_k24 : h_448.2.1 k24 = zf_k24 := (funext fun j => (hs.a gk24 rfl j).1).trans nz_k24
        replace nz_k23 : h_448.2.1 k23 = zf_k23 := (funext fun j => (hs.a gk23 rfl j).1).trans nz_k23
        replace nz_k22 : h_448.2.1 k22 = zf_k22 := (funext fun j => (hs.a gk22 rfl j).1).trans nz_k22
        replace nz_k21 : h_448.2.1 k21 = zf_k21 := (funext fun j => (hs.a gk21 rfl j).1).trans nz_k21
        replace nz_k6 : h_448.2.1 k6 = zf_k6 := (funext fun j => (hs.a gk6 rfl j).1).trans nz_k6
        replace nia1589_k3 : h_448.2.1 k3 = ia1589_k3 := (funext fun j => (hs.a gk3 rfl j).1).trans nia1589_k3
        replace hM := hM.tr (hs.mono ?o223)
        case o223 => decide
        replace gx := gx.S hs
        replace gq_34 := gq_34.S hs
        replace gk91 := gk91.S hs
        replace gk64 := gk64.S hs
        replace gk63 := gk63.S hs
        replace gk62 := gk62.S hs
        replace gk61 := gk61.S hs
        replace gk60 := gk60.S hs
        replace gk56 := gk56.S hs
        replace gk55 := gk55.S hs
        replace gk54 := gk54.S hs
        replace gk51 := gk51.S hs
        replace gk50 := gk50.S hs
        replace gk49 := gk49.S hs
        replace gk48 := gk48.S hs
        replace gk47 := gk47.S hs
        replace gk46 := gk46.S hs
        replace gk45 := gk45.S hs
        replace gk43 := gk43.S hs
        replace gk40 := gk40.S hs
        replace gk39 := gk39.S hs
        replace gk28 := gk28.S hs
        replace gk27 := gk27.S hs
        replace gk26 := gk26.S hs
        replace gk25 := gk25.S hs
        replace gk24 := gk24.S hs
        replace gk23 := gk23.S hs
        replace gk22 := gk22.S hs
        replace gk21 := gk21.S hs
        replace gk15 := gk15.S hs
        replace gk6 := gk6.S hs
        replace gk5 := gk5.S hs
        replace gk4 := gk4.S hs
        replace gk3 := gk3.S hs
        replace gk2 := gk2.S hs
        have fw_452 : h_448.2.1 x 14 = w_452 := fw_452
        have bw_452 := hT.gi gx tt_10 (k := 14) rfl
        rw [fw_452] at bw_452
        have bw_452 : 0 ≤ w_452.toInt ∧ w_452.toInt ≤ 128 := bw_452
        have fw_453 : h_448.2.1 x 16 = w_453 := fw_453
        have bw_453 := hT.gi gx tt_10 (k := 16) rfl
        rw [fw_453] at bw_453
        have bw_453 : 0 ≤ w_453.toInt ∧ w_453.toInt ≤ 20 := bw_453
        have fw_454 : h_448.2.1 x 18 = w_454 := fw_454
        have bw_454 := hT.gi gx tt_10 (k := 18) rfl
        rw [fw_454] at bw_454
        have bw_454 : 0 ≤ w_454.toInt ∧ w_454.toInt ≤ 128 := bw_454
        refine lv_aload_n hx hb dX10_init_1615 rfl (lv_at hl 1 rfl) ?_
        obtain ⟨fa_455, nfa_455⟩ : ∃ g : Nat → Int32, h_448.2.1 k15 = g := ⟨_, rfl⟩
        refine hx_gov (hx_runV (As := []) (rest := []) ⟨hx, hb, hml, hown, hts⟩ hW gx tt_10 (T := TX10) (N := 98) rfl (t_X10_withoutProof_v l dC dI dA L_447 h_448 H.size x hT gx k15 gk15 fk15 fa_455 nfa_455 w_452 fw_452 ?o224) (cwV 0 hts (hx_gV kw_1129 kw_1126 kw_1128 kw_49 kw_103) rfl rfl rfl (by decide +kernel) ⟨Nat.le_of_ble_eq_true rfl, Nat.le_of_ble_eq_true rfl⟩) rfl hl.1 rfl (Nat.le_of_ble_eq_true rfl) dX10_init_1616 ⟨Nat.le_of_ble_eq_true rfl, Nat.le_of_ble_eq_true rfl⟩) hW (fun L_456 h_457 H locs p_459 hW => ?_)
        case o224 => omega
        obtain ⟨⟨w_461, w_462, fw_461, fw_462, hr_460⟩, hT, hs⟩ := p_459
        replace hT : hx_T T_tb L_456 h_457 := hT
        replace hs : hx_S T_tb [(10, 14), (55, 0)] L_447 h_448 L_456 h_457 := hs
        replace f_211 := (hs.o gx trivial rfl).2.trans f_211
        replace fk91 := (hs.o gx trivial rfl).2.trans fk91
        replace fk64 := (hs.o gx trivial rfl).2.trans fk64
        replace fk63 := (hs.o gx trivial rfl).2.trans fk63
        replace fk62 := (hs.o gx trivial rfl).2.trans fk62
        replace fk61 := (hs.o gx trivial rfl).2.trans fk61
        replace fk60 := (hs.o gx trivial rfl).2.trans fk60
        replace fk56 := (hs.o gx trivial rfl).2.trans fk56
        replace fk55 := (hs.o gx trivial rfl).2.trans fk55
        replace fk54 := (hs.o gx trivial rfl).2.trans fk54
        replace fk51 := (hs.o gx trivial rfl).2.trans fk51
        replace fk50 := (hs.o gx trivial rfl).2.trans fk50
        replace fk49 := (hs.o gx trivial rfl).2.trans fk49
        replace fk48 := (hs.o gx trivial rfl).2.trans fk48
        replace fk47 := (hs.o gx trivial rfl).2.trans fk47
        replace fk46 := (hs.o gx trivial rfl).2.trans fk46
        replace fk45 := (hs.o gx trivial rfl).2.trans fk45
        replace fk43 := (hs.o gx trivial rfl).2.trans fk43
        replace fk40 := (hs.o gx trivial rfl).2.trans fk40
        replace fk39 := (hs.o gx trivial rfl).2.trans fk39
        replace fk28 := (hs.o gx trivial rfl).2.trans fk28
        replace fk27 := (hs.o gx trivial rfl).2.trans fk27
        replace fk26 := (hs.o gx trivial rfl).2.trans fk26
        replace fk25 := (hs.o gx trivial rfl).2.trans fk25
        replace fk24 := (hs.o gx trivial rfl).2.trans fk24
        replace fk23 := (hs.o gx trivial rfl).2.trans fk23
        replace fk22 := (hs.o gx trivial rfl).2.trans fk22
        replace fk21 := (hs.o gx trivial rfl).2.trans fk21
        replace fk15 := (hs.o gx trivial rfl).2.trans fk15
        replace fk6 := (hs.o gx trivial rfl).2.trans fk6
        replace fk5 := (hs.o gx trivial rfl).2.trans fk5
        replace fk4 := (hs.o gx trivial rfl).2.trans fk4
        replace fk3 := (hs.o gx trivial rfl).2.trans fk3
        replace fk2 := (hs.o gx trivial rfl).2.trans fk2
        replace f0_now := (hs.o gx trivial rfl).1.trans f0_now
        replace f0_acts := (hs.o gx trivial rfl).1.trans f0_acts
        replace f0_claims := (hs.o gx trivial rfl).1.trans f0_claims
        replace f0_heardMany := (hs.o gx trivial rfl).1.trans f0_heardMany
        replace f0_taped := (hs.o gx trivial rfl).1.trans f0_taped
        replace f0_persons := (hs.o gx trivial rfl).1.trans f0_persons
        replace f0_lines := (hs.o gx trivial rfl).1.trans f0_lines
        replace f0_payments := (hs.o gx trivial rfl).1.trans f0_payments
        replace f0_planMany := (hs.o gx trivial rfl).1.trans f0_planMany
        replace f0_hasNetted := (hs.o gx trivial rfl).1.trans f0_hasNetted
        replace f0_ringMany := (hs.o gx trivial rfl).1.trans f0_ringMany
        replace f0_listed := (hs.o gx trivial rfl).1.trans f0_listed
        replace f0_walkedMany := (hs.o gx trivial rfl).1.trans f0_walkedMany
        replace fw_453 := (hs.o gx trivial rfl).1.trans fw_453
        replace fw_454 := (hs.o gx trivial rfl).1.trans fw_454
        replace nwf : h_457.2.1 q_34 = wfn := (funext fun j => (hs.a gq_34 rfl j).1).trans nwf
        replace nz_k91 : h_457.2.1 k91 = zf_k91 := (funext fun j => (hs.a gk91 rfl j).1).trans nz_k91
        replace nz_k64 : h_457.2.1 k64 = zf_k64 := (funext fun j => (hs.a gk64 rfl j).1).trans nz_k64
        replace nz_k63 : h_457.2.1 k63 = zf_k63 := (funext fun j => (hs.a gk63 rfl j).1).trans nz_k63
        replace nz_k62 : h_457.2.1 k62 = zf_k62 := (funext fun j => (hs.a gk62 rfl j).1).trans nz_k62
        replace nz_k61 : h_457.2.1 k61 = zf_k61 := (funext fun j => (hs.a gk61 rfl j).1).trans nz_k61
        replace nz_k60 : h_457.2.1 k60 = zf_k60 := (funext fun j => (hs.a gk60 rfl j).1).trans nz_k60
        replace nz_k56 : h_457.2.1 k56 = zf_k56 := (funext fun j => (hs.a gk56 rfl j).1).trans nz_k56
        replace nz_k55 : h_457.2.1 k55 = zf_k55 := (funext fun j => (hs.a gk55 rfl j).1).trans nz_k55
        replace nz_k54 : h_457.2.1 k54 = zf_k54 := (funext fun j => (hs.a gk54 rfl j).1).trans nz_k54
        replace nz_k51 : h_457.2.1 k51 = zf_k51 := (funext fun j => (hs.a gk51 rfl j).1).trans nz_k51
        replace nz_k50 : h_457.2.1 k50 = zf_k50 := (funext fun j => (hs.a gk50 rfl j).1).trans nz_k50
        replace nz_k49 : h_457.2.1 k49 = zf_k49 := (funext fun j => (hs.a gk49 rfl j).1).trans nz_k49
        replace nz_k48 : h_457.2.1 k48 = zf_k48 := (funext fun j => (hs.a gk48 rfl j).1).trans nz_k48
        replace nz_k47 : h_457.2.1 k47 = zf_k47 := (funext fun j => (hs.a gk47 rfl j).1).trans nz_k47
        replace nz_k46 : h_457.2.1 k46 = zf_k46 := (funext fun j => (hs.a gk46 rfl j).1).trans nz_k46
        replace nz_k45 : h_457.2.1 k45 = zf_k45 := (funext fun j => (hs.a gk45 rfl j).1).trans nz_k45
        replace nz_k43 : h_457.2.1 k43 = zf_k43 := (funext fun j => (hs.a gk43 rfl j).1).trans nz_k43
        replace nz_k40 : h_457.2.1 k40 = zf_k40 := (funext fun j => (hs.a gk40 rfl j).1).trans nz_k40
        replace nz_k39 : h_457.2.1 k39 = zf_k39 := (funext fun j => (hs.a gk39 rfl j).1).trans nz_k39
        replace nz_k28 : h_457.2.1 k28 = zf_k28 := (funext fun j => (hs.a gk28 rfl j).1).trans nz_k28
        replace nz_k27 : h_457.2.1 k27 = zf_k27 := (funext fun j => (hs.a gk27 rfl j).1).trans nz_k27
        replace nz_k26 : h_457.2.1 k26 = zf_k26 := (funext fun j => (hs.a gk26 rfl j).1).trans nz_k26
        replace nz_k25 : h_457.2.1 k25 = zf_k25 := (funext fun j => (hs.a gk25 rfl j).1).trans nz_k25
        replace nz_k24 : h_457.2.1 k24 = zf_k24 := (funext fun j => (hs.a gk24 rfl j).1).trans nz_k24
        replace nz_k23 : h_457.2.1 k23 = zf_k23 := (funext fun j => (hs.a gk23 rfl j).1).trans nz_k23
        replace nz_k22 : h_457.2.1 k22 = zf_k22 := (funext fun j => (hs.a gk22 rfl j).1).trans nz_k22
        replace nz_k21 : h_457.2.1 k21 = zf_k21 := (funext fun j => (hs.a gk21 rfl j).1).trans nz_k21
        replace nz_k6 : h_457.2.1 k6 = zf_k6 := (funext fun j => (hs.a gk6 rfl j).1).trans nz_k6
        replace nia1589_k3 : h_457.2.1 k3 = ia1589_k3 := (funext fun j => (hs.a gk3 rfl j).1).trans nia1589_k3
        replace hM := hM.tr (hs.mono ?o225)
        case o225 => decide
        replace gx := gx.S hs
        replace gq_34 := gq_34.S hs
        replace gk91 := gk91.S hs
        replace gk64 := gk64.S hs
        replace gk63 := gk63.S hs
        replace gk62 := gk62.S hs
        replace gk61 := gk61.S hs
        replace gk60 := gk60.S hs
        replace gk56 := gk56.S hs
        replace gk55 := gk55.S hs
        replace gk54 := gk54.S hs
        replace gk51 := gk51.S hs
        replace gk50 := gk50.S hs
        replace gk49 := gk49.S hs
        replace gk48 := gk48.S hs
        replace gk47 := gk47.S hs
        replace gk46 := gk46.S hs
        replace gk45 := gk45.S hs
        replace gk43 := gk43.S hs
        replace gk40 := gk40.S hs
        replace gk39 := gk39.S hs
        replace gk28 := gk28.S hs
        replace gk27 := gk27.S hs
        replace gk26 := gk26.S hs
        replace gk25 := gk25.S hs
        replace gk24 := gk24.S hs
        replace gk23 := gk23.S hs
        replace gk22 := gk22.S hs
        replace gk21 := gk21.S hs
        replace gk15 := gk15.S hs
        replace gk6 := gk6.S hs
        replace gk5 := gk5.S hs
        replace gk4 := gk4.S hs
        replace gk3 := gk3.S hs
        replace gk2 := gk2.S hs
        have fw_461 : h_457.2.1 x 14 = w_461 := fw_461
        have bw_461 := hT.gi gx tt_10 (k := 14) rfl
        rw [fw_461] at bw_461
        have bw_461 : 0 ≤ w_461.toInt ∧ w_461.toInt ≤ 128 := bw_461
        have fw_462 : h_457.2.1 k15 = w_462 := fw_462
        refine lv_aload_n hx hb dX10_init_1619 rfl (lv_at hl 1 rfl) ?_
        refine lv_iconst (v := 0) hx hb dX10_init_1620 ?o226 ?_
        case o226 => decide
        have zc_0 : (0 : Int32).toInt = 0 := ?o227
        case o227 => decide
        obtain ⟨fa_463, nfa_463⟩ : ∃ g : Nat → Int32, h_457.2.1 k4 = g := ⟨_, rfl⟩
        obtain ⟨fa_464, nfa_464⟩ : ∃ g : Nat → Int32, h_457.2.1 k5 = g := ⟨_, rfl⟩
        refine hx_gov (hx_runV (As := [.int (0 : Int32)]) (rest := []) ⟨hx, hb, hml, hown, hts⟩ hW gx tt_10 (T := TX10) (N := 98) rfl (t_X10_keepsProof l dC dI dA L_456 h_457 H.size x (0 : Int32) hT gx k15 gk15 fk15 k4 gk4 fk4 k5 gk5 fk5 w_462 fw_462 fa_463 nfa_463 fa_464 nfa_464 w_461 fw_461 ?o228) (cwV 1 hts (hx_gV kw_1142 kw_1139 kw_1141 kw_51 kw_103) rfl rfl rfl (by decide +kernel) ⟨Nat.le_of_ble_eq_true rfl, Nat.le_of_ble_eq_true rfl⟩) rfl hl.1 rfl (Nat.le_of_ble_eq_true rfl) dX10_init_1621 ⟨Nat.le_of_ble_eq_true rfl, Nat.le_of_ble_eq_true rfl⟩) hW (fun L_465 h_466 H locs p_468 hW => ?_)
        case o228 => decide
        obtain ⟨⟨w_470, w_471, fw_470, fw_471, hr_469⟩, hT, hs⟩ := p_468
        replace hT : hx_T T_tb L_465 h_466 := hT
        replace hs : hx_S T_tb [(51, 0), (52, 0)] L_456 h_457 L_465 h_466 := hs
        replace f_211 := (hs.o gx trivial rfl).2.trans f_211
        replace fk91 := (hs.o gx trivial rfl).2.trans fk91
        replace fk64 := (hs.o gx trivial rfl).2.trans fk64
        replace fk63 := (hs.o gx trivial rfl).2.trans fk63
        replace fk62 := (hs.o gx trivial rfl).2.trans fk62
        replace fk61 := (hs.o gx trivial rfl).2.trans fk61
        replace fk60 := (hs.o gx trivial rfl).2.trans fk60
        replace fk56 := (hs.o gx trivial rfl).2.trans fk56
        replace fk55 := (hs.o gx trivial rfl).2.trans fk55
        replace fk54 := (hs.o gx trivial rfl).2.trans fk54
        replace fk51 := (hs.o gx trivial rfl).2.trans fk51
        replace fk50 := (hs.o gx trivial rfl).2.trans fk50
        replace fk49 := (hs.o gx trivial rfl).2.trans fk49
        replace fk48 := (hs.o gx trivial rfl).2.trans fk48
        replace fk47 := (hs.o gx trivial rfl).2.trans fk47
        replace fk46 := (hs.o gx trivial rfl).2.trans fk46
        replace fk45 := (hs.o gx trivial rfl).2.trans fk45
        replace fk43 := (hs.o gx trivial rfl).2.trans fk43
        replace fk40 := (hs.o gx trivial rfl).2.trans fk40
        replace fk39 := (hs.o gx trivial rfl).2.trans fk39
        replace fk28 := (hs.o gx trivial rfl).2.trans fk28
        replace fk27 := (hs.o gx trivial rfl).2.trans fk27
        replace fk26 := (hs.o gx trivial rfl).2.trans fk26
        replace fk25 := (hs.o gx trivial rfl).2.trans fk25
        replace fk24 := (hs.o gx trivial rfl).2.trans fk24
        replace fk23 := (hs.o gx trivial rfl).2.trans fk23
        replace fk22 := (hs.o gx trivial rfl).2.trans fk22
        replace fk21 := (hs.o gx trivial rfl).2.trans fk21
        replace fk15 := (hs.o gx trivial rfl).2.trans fk15
        replace fk6 := (hs.o gx trivial rfl).2.trans fk6
        replace fk5 := (hs.o gx trivial rfl).2.trans fk5
        replace fk4 := (hs.o gx trivial rfl).2.trans fk4
        replace fk3 := (hs.o gx trivial rfl).2.trans fk3
        replace fk2 := (hs.o gx trivial rfl).2.trans fk2
        replace f0_now := (hs.o gx trivial rfl).1.trans f0_now
        replace f0_acts := (hs.o gx trivial rfl).1.trans f0_acts
        replace f0_claims := (hs.o gx trivial rfl).1.trans f0_claims
        replace f0_heardMany := (hs.o gx trivial rfl).1.trans f0_heardMany
        replace f0_taped := (hs.o gx trivial rfl).1.trans f0_taped
        replace f0_persons := (hs.o gx trivial rfl).1.trans f0_persons
        replace f0_lines := (hs.o gx trivial rfl).1.trans f0_lines
        replace f0_payments := (hs.o gx trivial rfl).1.trans f0_payments
        replace f0_planMany := (hs.o gx trivial rfl).1.trans f0_planMany
        replace f0_hasNetted := (hs.o gx trivial rfl).1.trans f0_hasNetted
        replace f0_ringMany := (hs.o gx trivial rfl).1.trans f0_ringMany
        replace f0_listed := (hs.o gx trivial rfl).1.trans f0_listed
        replace f0_walkedMany := (hs.o gx trivial rfl).1.trans f0_walkedMany
        replace fw_453 := (hs.o gx trivial rfl).1.trans fw_453
        replace fw_454 := (hs.o gx trivial rfl).1.trans fw_454
        replace fw_461 := (hs.o gx trivial rfl).1.trans fw_461
        replace nwf : h_466.2.1 q_34 = wfn := (funext fun j => (hs.a gq_34 rfl j).1).trans nwf
        replace nz_k91 : h_466.2.1 k91 = zf_k91 := (funext fun j => (hs.a gk91 rfl j).1).trans nz_k91
        replace nz_k64 : h_466.2.1 k64 = zf_k64 := (funext fun j => (hs.a gk64 rfl j).1).trans nz_k64
        replace nz_k63 : h_466.2.1 k63 = zf_k63 := (funext fun j => (hs.a gk63 rfl j).1).trans nz_k63
        replace nz_k62 : h_466.2.1 k62 = zf_k62 := (funext fun j => (hs.a gk62 rfl j).1).trans nz_k62
        replace nz_k61 : h_466.2.1 k61 = zf_k61 := (funext fun j => (hs.a gk61 rfl j).1).trans nz_k61
        replace nz_k60 : h_466.2.1 k60 = zf_k60 := (funext fun j => (hs.a gk60 rfl j).1).trans nz_k60
        replace nz_k56 : h_466.2.1 k56 = zf_k56 := (funext fun j => (hs.a gk56 rfl j).1).trans nz_k56
        replace nz_k55 : h_466.2.1 k55 = zf_k55 := (funext fun j => (hs.a gk55 rfl j).1).trans nz_k55
        replace nz_k54 : h_466.2.1 k54 = zf_k54 := (funext fun j => (hs.a gk54 rfl j).1).trans nz_k54
        replace nz_k51 : h_466.2.1 k51 = zf_k51 := (funext fun j => (hs.a gk51 rfl j).1).trans nz_k51
        replace nz_k50 : h_466.2.1 k50 = zf_k50 := (funext fun j => (hs.a gk50 rfl j).1).trans nz_k50
        replace nz_k49 : h_466.2.1 k49 = zf_k49 := (funext fun j => (hs.a gk49 rfl j).1).trans nz_k49
        replace nz_k48 : h_466.2.1 k48 = zf_k48 := (funext fun j => (hs.a gk48 rfl j).1).trans nz_k48
        replace nz_k47 : h_466.2.1 k47 = zf_k47 := (funext fun j => (hs.a gk47 rfl j).1).trans nz_k47
        replace nz_k46 : h_466.2.1 k46 = zf_k46 := (funext fun j => (hs.a gk46 rfl j).1).trans nz_k46
        replace nz_k45 : h_466.2.1 k45 = zf_k45 := (funext fun j => (hs.a gk45 rfl j).1).trans nz_k45
        replace nz_k43 : h_466.2.1 k43 = zf_k43 := (funext fun j => (hs.a gk43 rfl j).1).trans nz_k43
        replace nz_k40 : h_466.2.1 k40 = zf_k40 := (funext fun j => (hs.a gk40 rfl j).1).trans nz_k40
        replace nz_k39 : h_466.2.1 k39 = zf_k39 := (funext fun j => (hs.a gk39 rfl j).1).trans nz_k39
        replace nz_k28 : h_466.2.1 k28 = zf_k28 := (funext fun j => (hs.a gk28 rfl j).1).trans nz_k28
        replace nz_k27 : h_466.2.1 k27 = zf_k27 := (funext fun j => (hs.a gk27 rfl j).1).trans nz_k27
        replace nz_k26 : h_466.2.1 k26 = zf_k26 := (funext fun j => (hs.a gk26 rfl j).1).trans nz_k26
        replace nz_k25 : h_466.2.1 k25 = zf_k25 := (funext fun j => (hs.a gk25 rfl j).1).trans nz_k25
        replace nz_k24 : h_466.2.1 k24 = zf_k24 := (funext fun j => (hs.a gk24 rfl j).1).trans nz_k24
        replace nz_k23 : h_466.2.1 k23 = zf_k23 := (funext fun j => (hs.a gk23 rfl j).1).trans nz_k23
        replace nz_k22 : h_466.2.1 k22 = zf_k22 := (funext fun j => (hs.a gk22 rfl j).1).trans nz_k22
        replace nz_k21 : h_466.2.1 k21 = zf_k21 := (funext fun j => (hs.a gk21 rfl j).1).trans nz_k21
        replace nz_k6 : h_466.2.1 k6 = zf_k6 := (funext fun j => (hs.a gk6 rfl j).1).trans nz_k6
        replace nia1589_k3 : h_466.2.1 k3 = ia1589_k3 := (funext fun j => (hs.a gk3 rfl j).1).trans nia1589_k3
        replace fw_462 : h_466.2.1 k15 = w_462 := (funext fun j => (hs.a gk15 rfl j).1).trans fw_462
        replace hM := hM.tr (hs.mono ?o229)
        case o229 => decide
        replace gx := gx.S hs
        replace gq_34 := gq_34.S hs
        replace gk91 := gk91.S hs
        replace gk64 := gk64.S hs
        replace gk63 := gk63.S hs
        replace gk62 := gk62.S hs
        replace gk61 := gk61.S hs
        replace gk60 := gk60.S hs
        replace gk56 := gk56.S hs
        replace gk55 := gk55.S hs
        replace gk54 := gk54.S hs
        replace gk51 := gk51.S hs
        replace gk50 := gk50.S hs
        replace gk49 := gk49.S hs
        replace gk48 := gk48.S hs
        replace gk47 := gk47.S hs
        replace gk46 := gk46.S hs
        replace gk45 := gk45.S hs
        replace gk43 := gk43.S hs
        replace gk40 := gk40.S hs
        replace gk39 := gk39.S hs
        replace gk28 := gk28.S hs
        replace gk27 := gk27.S hs
        replace gk26 := gk26.S hs
        replace gk25 := gk25.S hs
        replace gk24 := gk24.S hs
        replace gk23 := gk23.S hs
        replace gk22 := gk22.S hs
        replace gk21 := gk21.S hs
        replace gk15 := gk15.S hs
        replace gk6 := gk6.S hs
        replace gk5 := gk5.S hs
        replace gk4 := gk4.S hs
        replace gk3 := gk3.S hs
        replace gk2 := gk2.S hs
        have fw_470 : h_466.2.1 k4 = w_470 := fw_470
        have fw_471 : h_466.2.1 k5 = w_471 := fw_471
        refine W.widen (k := 67) (n := 15340) (Nat.le_of_ble_eq_true rfl) (Nat.le_of_ble_eq_true rfl) ?_
        have hwk : hx_WK ia1589_k3 0 := fun p h0 h1 => by
          have hp0 : p = 0 := ?o230
          case o230 => omega
          subst hp0; have q := hx_rk1_e vi1589_0 (by omega)
          refine ⟨q.1, fun j h9 h13 => ?_⟩
          have ej : 13 * (0 : Int).toNat + j = j := ?o231
          case o231 => simp
          show (ia1589_k3 (13 * (0 : Int).toNat + j)).toInt ≤ 999
          rw [ej]; exact q.2 j h9 h13
        have hrpn : hx_RP w_471 w_470 0 := hx_RP_0 ?o232 ?o233 ?o234 hr_460.1 hr_469.1 hr_469.2
        case o232 => decide
        case o233 => omega
        case o234 => omega
        obtain ⟨fa_472, nfa_472⟩ : ∃ g : Nat → Int32, h_466.2.1 k2 = g := ⟨_, rfl⟩
        exact hx_retv hx hb hr hlk hW ⟨hT, hM, gx, f0_now, f0_acts, f0_claims, f0_heardMany, f0_taped, f0_persons, f0_lines, f0_payments, f0_planMany, f0_hasNetted, f0_ringMany, f0_listed, f0_walkedMany, q_34, k3, k4, k5, k45, k27, k28, k46, k91, k51, k54, k55, k24, k25, k6, k21, k26, k39, k43, k40, k47, k48, k56, k49, k50, k22, k23, k60, k61, k62, k63, k64, k2, f_211, gq_34, fk3, gk3, fk4, gk4, fk5, gk5, fk45, gk45, fk27, gk27, fk28, gk28, fk46, gk46, fk91, gk91, fk51, gk51, fk54, gk54, fk55, gk55, fk24, gk24, fk25, gk25, fk6, gk6, fk21, gk21, fk26, gk26, fk39, gk39, fk43, gk43, fk40, gk40, fk47, gk47, fk48, gk48, fk56, gk56, fk49, gk49, fk50, gk50, fk22, gk22, fk23, gk23, fk60, gk60, fk61, gk61, fk62, gk62, fk63, gk63, fk64, gk64, fk2, gk2, by rw [nwf]; exact hwdw, by rw [nia1589_k3]; exact hwk, by rw [fw_471, fw_470]; exact hrpn, fun j => by rw [nz_k45]; exact zw_k45 j, fun j => by rw [nz_k27]; exact zw_k27 j, fun j => by rw [nz_k28]; exact zw_k28 j, fun j => by rw [nz_k46]; exact zw_k46 j, fun j => by rw [nz_k91]; exact zw_k91 j, fun j => by rw [nz_k51]; exact zw_k51 j, fun j => by rw [nz_k54]; exact zw_k54 j, fun j => by rw [nz_k55]; exact zw_k55 j, fun j => by rw [nz_k24]; exact zw_k24 j, fun j => by rw [nz_k25]; exact zw_k25 j, fun j => by rw [nz_k6]; exact zw_k6 j, fun j => by rw [nz_k21]; exact zw_k21 j, fun j => by rw [nz_k26]; exact zw_k26 j, fun j => by rw [nz_k39]; exact zw_k39 j, fun j => by rw [nz_k43]; exact zw_k43 j, fun j => by rw [nz_k40]; exact zw_k40 j, fun j => by rw [nz_k47]; exact zw_k47 j, fun j => by rw [nz_k48]; exact zw_k48 j, fun j => by rw [nz_k56]; exact zw_k56 j, fun j => by rw [nz_k49]; exact zw_k49 j, fun j => by rw [nz_k50]; exact zw_k50 j, fun j => by rw [nz_k22]; exact zw_k22 j, fun j => by rw [nz_k23]; exact zw_k23 j, fun j => by rw [nz_k60]; exact zw_k60 j, fun j => by rw [nz_k61]; exact zw_k61 j, fun j => by rw [nz_k62]; exact zw_k62 j, fun j => by rw [nz_k63]; exact zw_k63 j, fun j => by rw [nz_k64]; exact zw_k64 j, by rw [nfa_472, nia1589_k3, fw_470, fw_471]; exact hv_CA_0 (by decide) (hv_WI_e vi1589_1 (by omega)) hr_469.1 hr_469.2 (by omega) hr_460.2⟩ dX10_init_1624
      · skip
        refine lv_aload_n hx hb dX10_init_1595 rfl (lv_at hl 1 rfl) ?_
        refine hk_getr hx hb hts hC_10 hown hW gx tt_10 3 ?o235 rfl kw_1146 ⟨rfl, rfl, rfl⟩ fk3 dX10_init_1596 ?_
        case o235 => decide
        refine lv_iload_n hx hb dX10_init_1599 rfl (lv_at hl 0 rfl) ?_
        refine lv_iload_n hx hb dX10_init_1600 rfl (lv_at hl 0 rfl) ?_
        refine hx_goi (hx_runS (As := [.int iv1589_1]) (rest := [.int iv1589_1, .ref k3]) ⟨hx, hb, hml, hown, hts⟩ hW (t_X10_without_v l dC dI dA hL1 hl1 H.size iv1589_1 hT ⟨?o236, ?o237⟩) (va_cwS 1 hts (hx_gS kw_1121 kw_1119 kw_1120 kw_103) rfl rfl rfl (by decide +kernel) ⟨Nat.le_of_ble_eq_true rfl, Nat.le_of_ble_eq_true rfl⟩) rfl hl.1 rfl (Nat.le_of_ble_eq_true rfl) dX10_init_1601 ⟨Nat.le_of_ble_eq_true rfl, Nat.le_of_ble_eq_true rfl⟩) hW (fun r_475 L_473 h_474 H locs p_476 hW => ?_)
        case o236 => omega
        case o237 => omega
        obtain ⟨hr_477, hT, hs⟩ := p_476
        replace hT : hx_T T_tb L_473 h_474 := hT
        replace hs : hx_S T_tb [] hL1 hl1 L_473 h_474 := hs
        replace f_211 := (hs.o gx trivial rfl).2.trans f_211
        replace fk91 := (hs.o gx trivial rfl).2.trans fk91
        replace fk64 := (hs.o gx trivial rfl).2.trans fk64
        replace fk63 := (hs.o gx trivial rfl).2.trans fk63
        replace fk62 := (hs.o gx trivial rfl).2.trans fk62
        replace fk61 := (hs.o gx trivial rfl).2.trans fk61
        replace fk60 := (hs.o gx trivial rfl).2.trans fk60
        replace fk56 := (hs.o gx trivial rfl).2.trans fk56
        replace fk55 := (hs.o gx trivial rfl).2.trans fk55
        replace fk54 := (hs.o gx trivial rfl).2.trans fk54
        replace fk51 := (hs.o gx trivial rfl).2.trans fk51
        replace fk50 := (hs.o gx trivial rfl).2.trans fk50
        replace fk49 := (hs.o gx trivial rfl).2.trans fk49
        replace fk48 := (hs.o gx trivial rfl).2.trans fk48
        replace fk47 := (hs.o gx trivial rfl).2.trans fk47
        replace fk46 := (hs.o gx trivial rfl).2.trans fk46
        replace fk45 := (hs.o gx trivial rfl).2.trans fk45
        replace fk43 := (hs.o gx trivial rfl).2.trans fk43
        replace fk40 := (hs.o gx trivial rfl).2.trans fk40
        replace fk39 := (hs.o gx trivial rfl).2.trans fk39
        replace fk28 := (hs.o gx trivial rfl).2.trans fk28
        replace fk27 := (hs.o gx trivial rfl).2.trans fk27
        replace fk26 := (hs.o gx trivial rfl).2.trans fk26
        replace fk25 := (hs.o gx trivial rfl).2.trans fk25
        replace fk24 := (hs.o gx trivial rfl).2.trans fk24
        replace fk23 := (hs.o gx trivial rfl).2.trans fk23
        replace fk22 := (hs.o gx trivial rfl).2.trans fk22
        replace fk21 := (hs.o gx trivial rfl).2.trans fk21
        replace fk15 := (hs.o gx trivial rfl).2.trans fk15
        replace fk6 := (hs.o gx trivial rfl).2.trans fk6
        replace fk5 := (hs.o gx trivial rfl).2.trans fk5
        replace fk4 := (hs.o gx trivial rfl).2.trans fk4
        replace fk3 := (hs.o gx trivial rfl).2.trans fk3
        replace fk2 := (hs.o gx trivial rfl).2.trans fk2
        replace f0_now := (hs.o gx trivial rfl).1.trans f0_now
        replace f0_acts := (hs.o gx trivial rfl).1.trans f0_acts
        replace f0_claims := (hs.o gx trivial rfl).1.trans f0_claims
        replace f0_heardMany := (hs.o gx trivial rfl).1.trans f0_heardMany
        replace f0_taped := (hs.o gx trivial rfl).1.trans f0_taped
        replace f0_persons := (hs.o gx trivial rfl).1.trans f0_persons
        replace f0_lines := (hs.o gx trivial rfl).1.trans f0_lines
        replace f0_payments := (hs.o gx trivial rfl).1.trans f0_payments
        replace f0_planMany := (hs.o gx trivial rfl).1.trans f0_planMany
        replace f0_hasNetted := (hs.o gx trivial rfl).1.trans f0_hasNetted
        replace f0_ringMany := (hs.o gx trivial rfl).1.trans f0_ringMany
        replace f0_listed := (hs.o gx trivial rfl).1.trans f0_listed
        replace f0_walkedMany := (hs.o gx trivial rfl).1.trans f0_walkedMany
        replace nwf : h_474.2.1 q_34 = wfn := (funext fun j => (hs.a gq_34 rfl j).1).trans nwf
        replace nz_k91 : h_474.2.1 k91 = zf_k91 := (funext fun j => (hs.a gk91 rfl j).1).trans nz_k91
        replace nz_k64 : h_474.2.1 k64 = zf_k64 := (funext fun j => (hs.a gk64 rfl j).1).trans nz_k64
        replace nz_k63 : h_474.2.1 k63 = zf_k63 := (funext fun j => (hs.a gk63 rfl j).1).trans nz_k63
        replace nz_k62 : h_474.2.1 k62 = zf_k62 := (funext fun j => (hs.a gk62 rfl j).1).trans nz_k62
        replace nz_k61 : h_474.2.1 k61 = zf_k61 := (funext fun j => (hs.a gk61 rfl j).1).trans nz_k61
        replace nz_k60 : h_474.2.1 k60 = zf_k60 := (funext fun j => (hs.a gk60 rfl j).1).trans nz_k60
        replace nz_k56 : h_474.2.1 k56 = zf_k56 := (funext fun j => (hs.a gk56 rfl j).1).trans nz_k56
        replace nz_k55 : h_474.2.1 k55 = zf_k55 := (funext fun j => (hs.a gk55 rfl j).1).trans nz_k55
        replace nz_k54 : h_474.2.1 k54 = zf_k54 := (funext fun j => (hs.a gk54 rfl j).1).trans nz_k54
        replace nz_k51 : h_474.2.1 k51 = zf_k51 := (funext fun j => (hs.a gk51 rfl j).1).trans nz_k51
        replace nz_k50 : h_474.2.1 k50 = zf_k50 := (funext fun j => (hs.a gk50 rfl j).1).trans nz_k50
        replace nz_k49 : h_474.2.1 k49 = zf_k49 := (funext fun j => (hs.a gk49 rfl j).1).trans nz_k49
        replace nz_k48 : h_474.2.1 k48 = zf_k48 := (funext fun j => (hs.a gk48 rfl j).1).trans nz_k48
        replace nz_k47 : h_474.2.1 k47 = zf_k47 := (funext fun j => (hs.a gk47 rfl j).1).trans nz_k47
        replace nz_k46 : h_474.2.1 k46 = zf_k46 := (funext fun j => (hs.a gk46 rfl j).1).trans nz_k46
        replace nz_k45 : h_474.2.1 k45 = zf_k45 := (funext fun j => (hs.a gk45 rfl j).1).trans nz_k45
        replace nz_k43 : h_474.2.1 k43 = zf_k43 := (funext fun j => (hs.a gk43 rfl j).1).trans nz_k43
        replace nz_k40 : h_474.2.1 k40 = zf_k40 := (funext fun j => (hs.a gk40 rfl j).1).trans nz_k40
        replace nz_k39 : h_474.2.1 k39 = zf_k39 := (funext fun j => (hs.a gk39 rfl j).1).trans nz_k39
        replace nz_k28 : h_474.2.1 k28 = zf_k28 := (funext fun j => (hs.a gk28 rfl j).1).trans nz_k28
        replace nz_k27 : h_474.2.1 k27 = zf_k27 := (funext fun j => (hs.a gk27 rfl j).1).trans nz_k27
        replace nz_k26 : h_474.2.1 k26 = zf_k26 := (funext fun j => (hs.a gk26 rfl j).1).trans nz_k26
        replace nz_k25 : h_474.2.1 k25 = zf_k25 := (funext fun j => (hs.a gk25 rfl j).1).trans nz_k25
        replace nz_k24 : h_474.2.1 k24 = zf_k24 := (funext fun j => (hs.a gk24 rfl j).1).trans nz_k24
        replace nz_k23 : h_474.2.1 k23 = zf_k23 := (funext fun j => (hs.a gk23 rfl j).1).trans nz_k23
        replace nz_k22 : h_474.2.1 k22 = zf_k22 := (funext fun j => (hs.a gk22 rfl j).1).trans nz_k22
        replace nz_k21 : h_474.2.1 k21 = zf_k21 := (funext fun j => (hs.a gk21 rfl j).1).trans nz_k21
        replace nz_k6 : h_474.2.1 k6 = zf_k6 := (funext fun j => (hs.a gk6 rfl j).1).trans nz_k6
        replace nia1589_k3 : h_474.2.1 k3 = ia1589_k3 := (funext fun j => (hs.a gk3 rfl j).1).trans nia1589_k3
        replace hM := hM.tr (hs.mono ?o238)
        case o238 => decide
        replace gx := gx.S hs
        replace gq_34 := gq_34.S hs
        replace gk91 := gk91.S hs
        replace gk64 := gk64.S hs
        replace gk63 := gk63.S hs
        replace gk62 := gk62.S hs
        replace gk61 := gk61.S hs
        replace gk60 := gk60.S hs
        replace gk56 := gk56.S hs
        replace gk55 := gk55.S hs
        replace gk54 := gk54.S hs
        replace gk51 := gk51.S hs
        replace gk50 := gk50.S hs
        replace gk49 := gk49.S hs
        replace gk48 := gk48.S hs
        replace gk47 := gk47.S hs
        replace gk46 := gk46.S hs
        replace gk45 := gk45.S hs
        replace gk43 := gk43.S hs
        replace gk40 := gk40.S hs
        replace gk39 := gk39.S hs
        replace gk28 := gk28.S hs
        replace gk27 := gk27.S hs
        replace gk26 := gk26.S hs
        replace gk25 := gk25.S hs
        replace gk24 := gk24.S hs
        replace gk23 := gk23.S hs
        replace gk22 := gk22.S hs
        replace gk21 := gk21.S hs
        replace gk15 := gk15.S hs
        replace gk6 := gk6.S hs
        replace gk5 := gk5.S hs
        replace gk4 := gk4.S hs
        replace gk3 := gk3.S hs
        replace gk2 := gk2.S hs
        have nia1589_k3O := nia1589_k3
        refine hx_iast hx hb hW hT (hx_S.rf (M := [(50, 0)])) gk3 tt_50 rfl ⟨?o239, ?o240⟩ rfl ⟨?o241, ?o242⟩ (List.mem_singleton.mpr rfl) dX10_init_1604 (fun H locs h_478 eh_478 hW hT hs => ?_)
        case o239 => omega
        case o240 => omega
        case o241 => omega
        case o242 => omega
        replace f_211 := (hs.o gx trivial rfl).2.trans f_211
        replace fk91 := (hs.o gx trivial rfl).2.trans fk91
        replace fk64 := (hs.o gx trivial rfl).2.trans fk64
        replace fk63 := (hs.o gx trivial rfl).2.trans fk63
        replace fk62 := (hs.o gx trivial rfl).2.trans fk62
        replace fk61 := (hs.o gx trivial rfl).2.trans fk61
        replace fk60 := (hs.o gx trivial rfl).2.trans fk60
        replace fk56 := (hs.o gx trivial rfl).2.trans fk56
        replace fk55 := (hs.o gx trivial rfl).2.trans fk55
        replace fk54 := (hs.o gx trivial rfl).2.trans fk54
        replace fk51 := (hs.o gx trivial rfl).2.trans fk51
        replace fk50 := (hs.o gx trivial rfl).2.trans fk50
        replace fk49 := (hs.o gx trivial rfl).2.trans fk49
        replace fk48 := (hs.o gx trivial rfl).2.trans fk48
        replace fk47 := (hs.o gx trivial rfl).2.trans fk47
        replace fk46 := (hs.o gx trivial rfl).2.trans fk46
        replace fk45 := (hs.o gx trivial rfl).2.trans fk45
        replace fk43 := (hs.o gx trivial rfl).2.trans fk43
        replace fk40 := (hs.o gx trivial rfl).2.trans fk40
        replace fk39 := (hs.o gx trivial rfl).2.trans fk39
        replace fk28 := (hs.o gx trivial rfl).2.trans fk28
        replace fk27 := (hs.o gx trivial rfl).2.trans fk27
        replace fk26 := (hs.o gx trivial rfl).2.trans fk26
        replace fk25 := (hs.o gx trivial rfl).2.trans fk25
        replace fk24 := (hs.o gx trivial rfl).2.trans fk24
        replace fk23 := (hs.o gx trivial rfl).2.trans fk23
        replace fk22 := (hs.o gx trivial rfl).2.trans fk22
        replace fk21 := (hs.o gx trivial rfl).2.trans fk21
        replace fk15 := (hs.o gx trivial rfl).2.trans fk15
        replace fk6 := (hs.o gx trivial rfl).2.trans fk6
        replace fk5 := (hs.o gx trivial rfl).2.trans fk5
        replace fk4 := (hs.o gx trivial rfl).2.trans fk4
        replace fk3 := (hs.o gx trivial rfl).2.trans fk3
        replace fk2 := (hs.o gx trivial rfl).2.trans fk2
        replace f0_now := (hs.o gx trivial rfl).1.trans f0_now
        replace f0_acts := (hs.o gx trivial rfl).1.trans f0_acts
        replace f0_claims := (hs.o gx trivial rfl).1.trans f0_claims
        replace f0_heardMany := (hs.o gx trivial rfl).1.trans f0_heardMany
        replace f0_taped := (hs.o gx trivial rfl).1.trans f0_taped
        replace f0_persons := (hs.o gx trivial rfl).1.trans f0_persons
        replace f0_lines := (hs.o gx trivial rfl).1.trans f0_lines
        replace f0_payments := (hs.o gx trivial rfl).1.trans f0_payments
        replace f0_planMany := (hs.o gx trivial rfl).1.trans f0_planMany
        replace f0_hasNetted := (hs.o gx trivial rfl).1.trans f0_hasNetted
        replace f0_ringMany := (hs.o gx trivial rfl).1.trans f0_ringMany
        replace f0_listed := (hs.o gx trivial rfl).1.trans f0_listed
        replace f0_walkedMany := (hs.o gx trivial rfl).1.trans f0_walkedMany
        replace nwf : h_478.2.1 q_34 = wfn := (funext fun j => (hs.a gq_34 rfl j).1).trans nwf
        replace nz_k91 : h_478.2.1 k91 = zf_k91 := (funext fun j => (hs.a gk91 rfl j).1).trans nz_k91
        replace nz_k64 : h_478.2.1 k64 = zf_k64 := (funext fun j => (hs.a gk64 rfl j).1).trans nz_k64
        replace nz_k63 : h_478.2.1 k63 = zf_k63 := (funext fun j => (hs.a gk63 rfl j).1).trans nz_k63
        replace nz_k62 : h_478.2.1 k62 = zf_k62 := (funext fun j => (hs.a gk62 rfl j).1).trans nz_k62
        replace nz_k61 : h_478.2.1 k61 = zf_k61 := (funext fun j => (hs.a gk61 rfl j).1).trans nz_k61
        replace nz_k60 : h_478.2.1 k60 = zf_k60 := (funext fun j => (hs.a gk60 rfl j).1).trans nz_k60
        replace nz_k56 : h_478.2.1 k56 = zf_k56 := (funext fun j => (hs.a gk56 rfl j).1).trans nz_k56
        replace nz_k55 : h_478.2.1 k55 = zf_k55 := (funext fun j => (hs.a gk55 rfl j).1).trans nz_k55
        replace nz_k54 : h_478.2.1 k54 = zf_k54 := (funext fun j => (hs.a gk54 rfl j).1).trans nz_k54
        replace nz_k51 : h_478.2.1 k51 = zf_k51 := (funext fun j => (hs.a gk51 rfl j).1).trans nz_k51
        replace nz_k50 : h_478.2.1 k50 = zf_k50 := (funext fun j => (hs.a gk50 rfl j).1).trans nz_k50
        replace nz_k49 : h_478.2.1 k49 = zf_k49 := (funext fun j => (hs.a gk49 rfl j).1).trans nz_k49
        replace nz_k48 : h_478.2.1 k48 = zf_k48 := (funext fun j => (hs.a gk48 rfl j).1).trans nz_k48
        replace nz_k47 : h_478.2.1 k47 = zf_k47 := (funext fun j => (hs.a gk47 rfl j).1).trans nz_k47
        replace nz_k46 : h_478.2.1 k46 = zf_k46 := (funext fun j => (hs.a gk46 rfl j).1).trans nz_k46
        replace nz_k45 : h_478.2.1 k45 = zf_k45 := (funext fun j => (hs.a gk45 rfl j).1).trans nz_k45
        replace nz_k43 : h_478.2.1 k43 = zf_k43 := (funext fun j => (hs.a gk43 rfl j).1).trans nz_k43
        replace nz_k40 : h_478.2.1 k40 = zf_k40 := (funext fun j => (hs.a gk40 rfl j).1).trans nz_k40
        replace nz_k39 : h_478.2.1 k39 = zf_k39 := (funext fun j => (hs.a gk39 rfl j).1).trans nz_k39
        replace nz_k28 : h_478.2.1 k28 = zf_k28 := (funext fun j => (hs.a gk28 rfl j).1).trans nz_k28
        replace nz_k27 : h_478.2.1 k27 = zf_k27 := (funext fun j => (hs.a gk27 rfl j).1).trans nz_k27
        replace nz_k26 : h_478.2.1 k26 = zf_k26 := (funext fun j => (hs.a gk26 rfl j).1).trans nz_k26
        replace nz_k25 : h_478.2.1 k25 = zf_k25 := (funext fun j => (hs.a gk25 rfl j).1).trans nz_k25
        replace nz_k24 : h_478.2.1 k24 = zf_k24 := (funext fun j => (hs.a gk24 rfl j).1).trans nz_k24
        replace nz_k23 : h_478.2.1 k23 = zf_k23 := (funext fun j => (hs.a gk23 rfl j).1).trans nz_k23
        replace nz_k22 : h_478.2.1 k22 = zf_k22 := (funext fun j => (hs.a gk22 rfl j).1).trans nz_k22
        replace nz_k21 : h_478.2.1 k21 = zf_k21 := (funext fun j => (hs.a gk21 rfl j).1).trans nz_k21
        replace nz_k6 : h_478.2.1 k6 = zf_k6 := (funext fun j => (hs.a gk6 rfl j).1).trans nz_k6
        replace hM := hM.tr (hs.mono ?o243)
        case o243 => decide
        replace gx := gx.S hs
        replace gq_34 := gq_34.S hs
        replace gk91 := gk91.S hs
        replace gk64 := gk64.S hs
        replace gk63 := gk63.S hs
        replace gk62 := gk62.S hs
        replace gk61 := gk61.S hs
        replace gk60 := gk60.S hs
        replace gk56 := gk56.S hs
        replace gk55 := gk55.S hs
        replace gk54 := gk54.S hs
        replace gk51 := gk51.S hs
        replace gk50 := gk50.S hs
        replace gk49 := gk49.S hs
        replace gk48 := gk48.S hs
        replace gk47 := gk47.S hs
        replace gk46 := gk46.S hs
        replace gk45 := gk45.S hs
        replace gk43 := gk43.S hs
        replace gk40 := gk40.S hs
        replace gk39 := gk39.S hs
        replace gk28 := gk28.S hs
        replace gk27 := gk27.S hs
        replace gk26 := gk26.S hs
        replace gk25 := gk25.S hs
        replace gk24 := gk24.S hs
        replace gk23 := gk23.S hs
        replace gk22 := gk22.S hs
        replace gk21 := gk21.S hs
        replace gk15 := gk15.S hs
        replace gk6 := gk6.S hs
        replace gk5 := gk5.S hs
        replace gk4 := gk4.S hs
        replace gk3 := gk3.S hs
        replace gk2 := gk2.S hs
        obtain ⟨fa_479, dfa_479⟩ : ∃ g : Nat → Int32, g = hx_up ia1589_k3 iv1589_1.toNatClampNeg r_475 := ⟨_, rfl⟩
        have nfa_479 : h_478.2.1 k3 = fa_479 := ?o244
        case o244 =>
          rw [eh_478, dfa_479, ← nia1589_k3O]
          exact hx_pi_fun _ _ _ _
        obtain ⟨x_480, ex_480⟩ : ∃ y : Int32, y = iv1589_1 + Int32.ofInt 1 := ⟨_, rfl⟩
        have rg_481 := i32_r iv1589_1
        have zx_480 : x_480.toInt = iv1589_1.toInt + (1) := ?o245
        case o245 =>
          rw [ex_480]
          refine i32_add rfl ?o246 ?o247 ?o248
          case o246 => decide
          case o247 => omega
          case o248 => omega
        refine lv_iinc (v := x_480) (lv' := [(1, .int x_480), (0, .ref x)]) hx hb dX10_init_1605 hl (k := 0) rfl ex_480.symm ?o249 rfl (fun ls hl => ?_)
        case o249 => decide
        refine lv_goto (tgt := 1589) hx hb dX10_init_1608 ?o250 ?_
        case o250 => decide
        refine ih1589 x_480 fa_479 _ _ L_473 h_478 ?o251 ?o252 (hx_rd2 vi1589_0 dfa_479 ?o253 ?o254 (fun z => ?o255) (fun z => ?o256) zx_480) (hv_WI_s vi1589_1 dfa_479 ?o257 hr_477.1 zx_480) ls ?o258 hW hT hM f_211 fk91 fk64 fk63 fk62 fk61 fk60 fk56 fk55 fk54 fk51 fk50 fk49 fk48 fk47 fk46 fk45 fk43 fk40 fk39 fk28 fk27 fk26 fk25 fk24 fk23 fk22 fk21 fk15 fk6 fk5 fk4 fk3 fk2 f0_now f0_acts f0_claims f0_heardMany f0_taped f0_persons f0_lines f0_payments f0_planMany f0_hasNetted f0_ringMany f0_listed f0_walkedMany gx gq_34 gk91 gk64 gk63 gk62 gk61 gk60 gk56 gk55 gk54 gk51 gk50 gk49 gk48 gk47 gk46 gk45 gk43 gk40 gk39 gk28 gk27 gk26 gk25 gk24 gk23 gk22 gk21 gk15 gk6 gk5 gk4 gk3 gk2 nfa_479 nwf nz_k91 nz_k64 nz_k63 nz_k62 nz_k61 nz_k60 nz_k56 nz_k55 nz_k54 nz_k51 nz_k50 nz_k49 nz_k48 nz_k47 nz_k46 nz_k45 nz_k43 nz_k40 nz_k39 nz_k28 nz_k27 nz_k26 nz_k25 nz_k24 nz_k23 nz_k22 nz_k21 nz_k6 (lv_sub hl [0, 1] rfl)
        case o251 => omega
        case o252 => omega
        case o253 => omega
        case o254 => omega
        case o255 => omega
        case o256 => omega
        case o257 => omega
        case o258 => omega
  have zk_0 : (0 : Int32).toInt = 0 := ?o259
  case o259 => decide
  refine loop1589 14 (0 : Int32) fa_445 _ _ ((((((((L1 ++ [q_413]) ++ [q_417]) ++ [q_421]) ++ [q_425]) ++ [q_429]) ++ [q_433]) ++ [q_437]) ++ [q_441]) h_444 ?o260 ?o261 hx_rk1_0 (hv_WI_0 ?o262) ls ?o263 hW hT hM f_211 fk91 fk64 fk63 fk62 fk61 fk60 fk56 fk55 fk54 fk51 fk50 fk49 fk48 fk47 fk46 fk45 fk43 fk40 fk39 fk28 fk27 fk26 fk25 fk24 fk23 fk22 fk21 fk15 fk6 fk5 fk4 fk3 fk2 f0_now f0_acts f0_claims f0_heardMany f0_taped f0_persons f0_lines f0_payments f0_planMany f0_hasNetted f0_ringMany f0_listed f0_walkedMany gx gq_34 gk91 gk64 gk63 gk62 gk61 gk60 gk56 gk55 gk54 gk51 gk50 gk49 gk48 gk47 gk46 gk45 gk43 gk40 gk39 gk28 gk27 gk26 gk25 gk24 gk23 gk22 gk21 gk15 gk6 gk5 gk4 gk3 gk2 nfa_445 nwf nz_k91 nz_k64 nz_k63 nz_k62 nz_k61 nz_k60 nz_k56 nz_k55 nz_k54 nz_k51 nz_k50 nz_k49 nz_k48 nz_k47 nz_k46 nz_k45 nz_k43 nz_k40 nz_k39 nz_k28 nz_k27 nz_k26 nz_k25 nz_k24 nz_k23 nz_k22 nz_k21 nz_k6 hl
  case o260 => decide
  case o261 => decide
  case o262 => decide
  case o263 => omega

set_option maxHeartbeats 4000000 in
set_option maxRecDepth 100000 in
theorem si_13 (l : Launch) (dC : Nat → ClassId) (dI : Nat → Nat → Nat) (dA : Nat → ClassId) (L : List Nat) (h : hx_h) (sz : Nat) (b0 : hx_z) (x : Nat) (q_34 : Nat) {p : Program} {e : Env} {s : State} {m : MethodId} {below : List Frame} {meth : Method} {c : Code} (hx : p.tables.exec = Jvm.exec) (hb : c.code = cX10_init) (hml : c.maxLocals = 2) (hr : meth.sig.returnType = none) (hlk : meth.locks = false) (hts : ∀ w ∈ hx_all, w.before ([.ref x] : List Value).toArray s = true) (hown : s.vm.findClass "SmallCourtModel" = some m.cls) (hin : meth.name = "<init>") (hsz : s.heap.size = sz) (hZ : hx_Xt (hx_A L sz) b0 s) (L1 : List Nat) (hl1 : hx_h) (H : Heap) (locs : List Loc) (ls : Array Slot) (hW : hx_W T_tb (P_ty dA) (dC, dI) vwCl (hx_A L sz) s.heap L1 hl1 s H locs) (hT : hx_T T_tb L1 hl1) (hM : hx_S T_tb [(10, 14), (10, 16), (10, 18), (50, 0), (51, 0), (52, 0), (55, 0), (57, 0), (126, 2), (126, 3), (126, 4), (126, 5), (126, 6), (126, 12), (126, 15), (126, 17), (126, 19), (126, 21), (126, 22), (126, 23), (126, 24), (126, 25), (126, 26), (126, 27), (126, 28), (126, 30), (126, 31), (126, 32), (126, 33), (126, 34), (126, 35), (126, 37), (126, 38), (126, 39), (126, 40), (126, 41), (126, 42), (126, 43), (126, 44), (126, 45), (126, 46), (126, 47), (126, 48), (126, 49), (126, 50), (126, 51), (126, 52), (126, 53), (126, 54), (126, 55), (126, 56), (126, 58), (126, 60), (126, 61), (126, 62), (126, 63), (126, 64), (126, 65), (126, 66), (126, 73), (126, 74), (126, 76), (126, 77), (126, 78), (126, 79), (126, 80), (126, 81), (126, 82), (126, 85), (126, 88), (126, 89), (126, 91), (126, 93), (126, 94), (126, 97)] (hx_X L x) h L1 hl1) (gx : hx_g L1 hl1 x 126) (hcon : hx_con L1 hl1 x 126 [(64, 97, true), (63, 96, true), (62, 95, true), (61, 94, true), (60, 93, true), (58, 92, false), (56, 91, true), (55, 90, true), (54, 89, true), (53, 88, false), (52, 87, false), (51, 86, true), (50, 85, true), (49, 84, true), (48, 83, true), (47, 82, true), (46, 81, true), (45, 80, true), (44, 79, false), (43, 78, true), (42, 77, false), (41, 76, false), (40, 75, true), (39, 74, true), (38, 73, false), (37, 72, false), (35, 71, false), (34, 70, false), (33, 69, false), (32, 68, false), (31, 67, false), (30, 66, false), (28, 65, true), (27, 64, true), (26, 63, true), (25, 62, true), (24, 61, true), (23, 60, true), (22, 59, true), (21, 58, true), (17, 56, false), (15, 55, false), (12, 54, false), (6, 53, true), (5, 52, false), (4, 51, false), (3, 50, false), (2, 49, false)] []) (hz : ∀ j, [2, 3, 4, 5, 6, 12, 15, 17, 19, 21, 22, 23, 24, 25, 26, 27, 28, 30, 31, 32, 33, 34, 35, 37, 38, 39, 40, 41, 42, 43, 44, 45, 46, 47, 48, 49, 50, 51, 52, 53, 54, 55, 56, 58, 60, 61, 62, 63, 64].contains j = false → hl1.2.1 x j = 0 ∧ hl1.2.2 x j = none) (gq_34 : hx_g L1 hl1 q_34 57) (f_211 : hl1.2.2 x 19 = some q_34) (cw : ∀ j, j < 175 → hl1.2.1 q_34 j = P_words j) (hl : lv_has ls 2 [(0, .ref x)]) : W p l e ({ frames := 2, cells := 67, slots := 15340, locals := 42 }) s m ([.ref x] : List Value).toArray below meth c H locs 49 10851 (MQ below (va_Qv (fun (u : List Nat × hx_h) => hx_T T_tb u.1 u.2 ∧ hx_S T_tb [(10, 14), (10, 16), (10, 18), (50, 0), (51, 0), (52, 0), (55, 0), (57, 0), (126, 2), (126, 3), (126, 4), (126, 5), (126, 6), (126, 12), (126, 15), (126, 17), (126, 19), (126, 21), (126, 22), (126, 23), (126, 24), (126, 25), (126, 26), (126, 27), (126, 28), (126, 30), (126, 31), (126, 32), (126, 33), (126, 34), (126, 35), (126, 37), (126, 38), (126, 39), (126, 40), (126, 41), (126, 42), (126, 43), (126, 44), (126, 45), (126, 46), (126, 47), (126, 48), (126, 49), (126, 50), (126, 51), (126, 52), (126, 53), (126, 54), (126, 55), (126, 56), (126, 58), (126, 60), (126, 61), (126, 62), (126, 63), (126, 64), (126, 65), (126, 66), (126, 73), (126, 74), (126, 76), (126, 77), (126, 78), (126, 79), (126, 80), (126, 81), (126, 82), (126, 85), (126, 88), (126, 89), (126, 91), (126, 93), (126, 94), (126, 97)] (hx_X L x) h u.1 u.2 ∧ hx_g u.1 u.2 x 10 ∧ u.2.2.1 x 0 = 0 ∧ u.2.2.1 x 1 = 0 ∧ u.2.2.1 x 36 = 0 ∧ u.2.2.1 x 57 = 0 ∧ u.2.2.1 x 7 = 0 ∧ u.2.2.1 x 20 = 0 ∧ u.2.2.1 x 29 = 0 ∧ u.2.2.1 x 59 = 0 ∧ u.2.2.1 x 72 = 0 ∧ u.2.2.1 x 83 = 0 ∧ u.2.2.1 x 84 = 0 ∧ u.2.2.1 x 90 = 0 ∧ u.2.2.1 x 92 = 0 ∧ ∃ q_words q_rule q_proofSteps q_proof q_tries q_isDead q_isJudge q_found q_list q_judged q_weekly q_owed q_doorX q_doorY q_tape q_born q_kin q_sum q_filed q_owedFrom q_heard q_ordered q_goods q_seized q_served q_earns q_heads q_payOf q_payDay q_paySum q_payKnown q_payStruck q_actDay : Nat, u.2.2.2 x 19 = some q_words ∧ hx_g u.1 u.2 q_words 57 ∧ u.2.2.2 x 3 = some q_rule ∧ hx_g u.1 u.2 q_rule 50 ∧ u.2.2.2 x 4 = some q_proofSteps ∧ hx_g u.1 u.2 q_proofSteps 51 ∧ u.2.2.2 x 5 = some q_proof ∧ hx_g u.1 u.2 q_proof 52 ∧ u.2.2.2 x 45 = some q_tries ∧ hx_g u.1 u.2 q_tries 80 ∧ u.2.2.2 x 27 = some q_isDead ∧ hx_g u.1 u.2 q_isDead 64 ∧ u.2.2.2 x 28 = some q_isJudge ∧ hx_g u.1 u.2 q_isJudge 65 ∧ u.2.2.2 x 46 = some q_found ∧ hx_g u.1 u.2 q_found 81 ∧ u.2.2.2 x 91 = some q_list ∧ hx_g u.1 u.2 q_list 112 ∧ u.2.2.2 x 51 = some q_judged ∧ hx_g u.1 u.2 q_judged 86 ∧ u.2.2.2 x 54 = some q_weekly ∧ hx_g u.1 u.2 q_weekly 89 ∧ u.2.2.2 x 55 = some q_owed ∧ hx_g u.1 u.2 q_owed 90 ∧ u.2.2.2 x 24 = some q_doorX ∧ hx_g u.1 u.2 q_doorX 61 ∧ u.2.2.2 x 25 = some q_doorY ∧ hx_g u.1 u.2 q_doorY 62 ∧ u.2.2.2 x 6 = some q_tape ∧ hx_g u.1 u.2 q_tape 53 ∧ u.2.2.2 x 21 = some q_born ∧ hx_g u.1 u.2 q_born 58 ∧ u.2.2.2 x 26 = some q_kin ∧ hx_g u.1 u.2 q_kin 63 ∧ u.2.2.2 x 39 = some q_sum ∧ hx_g u.1 u.2 q_sum 74 ∧ u.2.2.2 x 43 = some q_filed ∧ hx_g u.1 u.2 q_filed 78 ∧ u.2.2.2 x 40 = some q_owedFrom ∧ hx_g u.1 u.2 q_owedFrom 75 ∧ u.2.2.2 x 47 = some q_heard ∧ hx_g u.1 u.2 q_heard 82 ∧ u.2.2.2 x 48 = some q_ordered ∧ hx_g u.1 u.2 q_ordered 83 ∧ u.2.2.2 x 56 = some q_goods ∧ hx_g u.1 u.2 q_goods 91 ∧ u.2.2.2 x 49 = some q_seized ∧ hx_g u.1 u.2 q_seized 84 ∧ u.2.2.2 x 50 = some q_served ∧ hx_g u.1 u.2 q_served 85 ∧ u.2.2.2 x 22 = some q_earns ∧ hx_g u.1 u.2 q_earns 59 ∧ u.2.2.2 x 23 = some q_heads ∧ hx_g u.1 u.2 q_heads 60 ∧ u.2.2.2 x 60 = some q_payOf ∧ hx_g u.1 u.2 q_payOf 93 ∧ u.2.2.2 x 61 = some q_payDay ∧ hx_g u.1 u.2 q_payDay 94 ∧ u.2.2.2 x 62 = some q_paySum ∧ hx_g u.1 u.2 q_paySum 95 ∧ u.2.2.2 x 63 = some q_payKnown ∧ hx_g u.1 u.2 q_payKnown 96 ∧ u.2.2.2 x 64 = some q_payStruck ∧ hx_g u.1 u.2 q_payStruck 97 ∧ u.2.2.2 x 2 = some q_actDay ∧ hx_g u.1 u.2 q_actDay 49 ∧ hx_wd (u.2.2.1 q_words) ∧ hx_WK (u.2.2.1 q_rule) 0 ∧ hx_RP (u.2.2.1 q_proof) (u.2.2.1 q_proofSteps) 0 ∧ (∀ j, u.2.2.1 q_tries j = 0) ∧ (∀ j, u.2.2.1 q_isDead j = 0) ∧ (∀ j, u.2.2.1 q_isJudge j = 0) ∧ (∀ j, u.2.2.1 q_found j = 0) ∧ (∀ j, u.2.2.1 q_list j = 0) ∧ (∀ j, u.2.2.1 q_judged j = 0) ∧ (∀ j, u.2.2.1 q_weekly j = 0) ∧ (∀ j, u.2.2.1 q_owed j = 0) ∧ (∀ j, u.2.2.1 q_doorX j = 0) ∧ (∀ j, u.2.2.1 q_doorY j = 0) ∧ (∀ j, u.2.2.1 q_tape j = 0) ∧ (∀ j, u.2.2.1 q_born j = 0) ∧ (∀ j, u.2.2.1 q_kin j = 0) ∧ (∀ j, u.2.2.1 q_sum j = 0) ∧ (∀ j, u.2.2.1 q_filed j = 0) ∧ (∀ j, u.2.2.1 q_owedFrom j = 0) ∧ (∀ j, u.2.2.1 q_heard j = 0) ∧ (∀ j, u.2.2.1 q_ordered j = 0) ∧ (∀ j, u.2.2.1 q_goods j = 0) ∧ (∀ j, u.2.2.1 q_seized j = 0) ∧ (∀ j, u.2.2.1 q_served j = 0) ∧ (∀ j, u.2.2.1 q_earns j = 0) ∧ (∀ j, u.2.2.1 q_heads j = 0) ∧ (∀ j, u.2.2.1 q_payOf j = 0) ∧ (∀ j, u.2.2.1 q_payDay j = 0) ∧ (∀ j, u.2.2.1 q_paySum j = 0) ∧ (∀ j, u.2.2.1 q_payKnown j = 0) ∧ (∀ j, u.2.2.1 q_payStruck j = 0) ∧ hv_CA (u.2.2.1 q_actDay) (u.2.2.1 q_rule) (u.2.2.1 q_proofSteps) (u.2.2.1 q_proof) 0 (fun _ => hv_A0)) (hx_E T_tb (P_ty dA) (dC, dI) vwCl (hx_A L sz)) (hx_A L sz)) ([.ref x] : List Value).toArray s 67 15340 (hx_A L sz)) (F0 m 1449 ls []) := by
  refine lv_aload_n hx hb dX10_init_1449 rfl (lv_at hl 0 rfl) ?_
  refine lv_bipush (v := 40) hx hb dX10_init_1450 ?o0 ?_
  case o0 => decide
  refine hk_newa hx hb hts hW 98 tt_98 (atype := .int) rfl kw_186 (tys := P_ty dA) (t0 := 0) rfl (fun _ => Iff.rfl) rfl (i := (40 : Int32)) ?o1 (Nat.le_of_ble_eq_true rfl) (Nat.le_of_ble_eq_true rfl) (Nat.le_of_ble_eq_true rfl) dX10_init_1452 (fun q_373 H h_372 eh_372 hqq_373 hW hs gq_373 => ?_)
  case o1 => decide
  have hT : hx_T T_tb (L1 ++ [q_373]) h_372 := ?o2
  case o2 =>
    rw [eh_372]
    exact hx_T_nw hT hqq_373 tt_98 rfl
  have hcon := hcon.S hs trivial rfl
  have hz := hx_zr [2, 3, 4, 5, 6, 12, 15, 17, 19, 21, 22, 23, 24, 25, 26, 27, 28, 30, 31, 32, 33, 34, 35, 37, 38, 39, 40, 41, 42, 43, 44, 45, 46, 47, 48, 49, 50, 51, 52, 53, 54, 55, 56, 58, 60, 61, 62, 63, 64] hz hs gx trivial rfl
  have cw : ∀ j, j < 175 → h_372.2.1 q_34 j = P_words j := fun j hj => ((hs.a gq_34 rfl j).1).trans (cw j hj)
  have f_211 := (hs.o gx trivial rfl).2.trans f_211
  have hM := hM.tr (hs.mono ?o3)
  case o3 => decide
  have gx := gx.S hs
  have gq_34 := gq_34.S hs
  refine hx_putrF hx hb hts hC_10 hown hW hT (hx_S.rf (M := [(126, 65)])) gx tt_126 65 ?o4 rfl kw_1208 ⟨rfl, rfl, rfl⟩ rfl hin rfl (x := (some q_373)) ⟨fun _ z => (by cases z), fun q hq => (by cases hq; exact ⟨gq_373.1, by rw [gq_373.2]; decide⟩)⟩ rfl rfl rfl (List.mem_singleton.mpr rfl) dX10_init_1454 (fun H locs h_374 eh_374 hW hT hs => ?_)
  case o4 => decide
  have hcon := hcon.S hs trivial rfl
  have hz := hx_zr [2, 3, 4, 5, 6, 12, 15, 17, 19, 21, 22, 23, 24, 25, 26, 27, 28, 30, 31, 32, 33, 34, 35, 37, 38, 39, 40, 41, 42, 43, 44, 45, 46, 47, 48, 49, 50, 51, 52, 53, 54, 55, 56, 58, 60, 61, 62, 63, 64, 65] hz hs gx trivial rfl
  have cw : ∀ j, j < 175 → h_374.2.1 q_34 j = P_words j := fun j hj => ((hs.a gq_34 rfl j).1).trans (cw j hj)
  have f_211 := (hs.o gx trivial rfl).2.trans f_211
  have hM := hM.tr (hs.mono ?o5)
  case o5 => decide
  have gx := gx.S hs
  have gq_34 := gq_34.S hs
  have gq_373 := gq_373.S hs
  have f_375 : h_374.2.2 x 65 = (some q_373) := ?o6
  case o6 =>
    rw [eh_374]
    exact hx_pr_at _ _ _ _
  have hcon := hx_con.add (tb := T_tb) hcon false f_375 gq_373 (fun z => by cases z)
  refine lv_aload_n hx hb dX10_init_1457 rfl (lv_at hl 0 rfl) ?_
  refine lv_sipush (v := 128) hx hb dX10_init_1458 ?o7 ?_
  case o7 => decide
  refine hk_newa hx hb hts hW 99 tt_99 (atype := .boolean) rfl kw_222 (tys := P_ty dA) (t0 := 2) rfl (fun _ => Iff.rfl) rfl (i := (128 : Int32)) ?o8 (Nat.le_of_ble_eq_true rfl) (Nat.le_of_ble_eq_true rfl) (Nat.le_of_ble_eq_true rfl) dX10_init_1461 (fun q_377 H h_376 eh_376 hqq_377 hW hs gq_377 => ?_)
  case o8 => decide
  have hT : hx_T T_tb ((L1 ++ [q_373]) ++ [q_377]) h_376 := ?o9
  case o9 =>
    rw [eh_376]
    exact hx_T_nw hT hqq_377 tt_99 rfl
  have hcon := hcon.S hs trivial rfl
  have hz := hx_zr [2, 3, 4, 5, 6, 12, 15, 17, 19, 21, 22, 23, 24, 25, 26, 27, 28, 30, 31, 32, 33, 34, 35, 37, 38, 39, 40, 41, 42, 43, 44, 45, 46, 47, 48, 49, 50, 51, 52, 53, 54, 55, 56, 58, 60, 61, 62, 63, 64, 65] hz hs gx trivial rfl
  have cw : ∀ j, j < 175 → h_376.2.1 q_34 j = P_words j := fun j hj => ((hs.a gq_34 rfl j).1).trans (cw j hj)
  have f_211 := (hs.o gx trivial rfl).2.trans f_211
  have hM := hM.tr (hs.mono ?o10)
  case o10 => decide
  have gx := gx.S hs
  have gq_34 := gq_34.S hs
  refine hx_putrF hx hb hts hC_10 hown hW hT (hx_S.rf (M := [(126, 66)])) gx tt_126 66 ?o11 rfl kw_1209 ⟨rfl, rfl, rfl⟩ rfl hin rfl (x := (some q_377)) ⟨fun _ z => (by cases z), fun q hq => (by cases hq; exact ⟨gq_377.1, by rw [gq_377.2]; decide⟩)⟩ rfl rfl rfl (List.mem_singleton.mpr rfl) dX10_init_1463 (fun H locs h_378 eh_378 hW hT hs => ?_)
  case o11 => decide
  have hcon := hcon.S hs trivial rfl
  have hz := hx_zr [2, 3, 4, 5, 6, 12, 15, 17, 19, 21, 22, 23, 24, 25, 26, 27, 28, 30, 31, 32, 33, 34, 35, 37, 38, 39, 40, 41, 42, 43, 44, 45, 46, 47, 48, 49, 50, 51, 52, 53, 54, 55, 56, 58, 60, 61, 62, 63, 64, 65, 66] hz hs gx trivial rfl
  have cw : ∀ j, j < 175 → h_378.2.1 q_34 j = P_words j := fun j hj => ((hs.a gq_34 rfl j).1).trans (cw j hj)
  have f_211 := (hs.o gx trivial rfl).2.trans f_211
  have hM := hM.tr (hs.mono ?o12)
  case o12 => decide
  have gx := gx.S hs
  have gq_34 := gq_34.S hs
  have gq_377 := gq_377.S hs
  have f_379 : h_378.2.2 x 66 = (some q_377) := ?o13
  case o13 =>
    rw [eh_378]
    exact hx_pr_at _ _ _ _
  have hcon := hx_con.add (tb := T_tb) hcon false f_379 gq_377 (fun z => by cases z)
  refine lv_aload_n hx hb dX10_init_1466 rfl (lv_at hl 0 rfl) ?_
  refine lv_iconst (v := 4) hx hb dX10_init_1467 ?o14 ?_
  case o14 => decide
  refine hk_newa hx hb hts hW 100 tt_100 (atype := .int) rfl kw_186 (tys := P_ty dA) (t0 := 0) rfl (fun _ => Iff.rfl) rfl (i := (4 : Int32)) ?o15 (Nat.le_of_ble_eq_true rfl) (Nat.le_of_ble_eq_true rfl) (Nat.le_of_ble_eq_true rfl) dX10_init_1468 (fun q_381 H h_380 eh_380 hqq_381 hW hs gq_381 => ?_)
  case o15 => decide
  have hT : hx_T T_tb (((L1 ++ [q_373]) ++ [q_377]) ++ [q_381]) h_380 := ?o16
  case o16 =>
    rw [eh_380]
    exact hx_T_nw hT hqq_381 tt_100 rfl
  have hcon := hcon.S hs trivial rfl
  have hz := hx_zr [2, 3, 4, 5, 6, 12, 15, 17, 19, 21, 22, 23, 24, 25, 26, 27, 28, 30, 31, 32, 33, 34, 35, 37, 38, 39, 40, 41, 42, 43, 44, 45, 46, 47, 48, 49, 50, 51, 52, 53, 54, 55, 56, 58, 60, 61, 62, 63, 64, 65, 66] hz hs gx trivial rfl
  have cw : ∀ j, j < 175 → h_380.2.1 q_34 j = P_words j := fun j hj => ((hs.a gq_34 rfl j).1).trans (cw j hj)
  have f_211 := (hs.o gx trivial rfl).2.trans f_211
  have hM := hM.tr (hs.mono ?o17)
  case o17 => decide
  have gx := gx.S hs
  have gq_34 := gq_34.S hs
  refine hx_putrF hx hb hts hC_10 hown hW hT (hx_S.rf (M := [(126, 73)])) gx tt_126 73 ?o18 rfl kw_1216 ⟨rfl, rfl, rfl⟩ rfl hin rfl (x := (some q_381)) ⟨fun _ z => (by cases z), fun q hq => (by cases hq; exact ⟨gq_381.1, by rw [gq_381.2]; decide⟩)⟩ rfl rfl rfl (List.mem_singleton.mpr rfl) dX10_init_1470 (fun H locs h_382 eh_382 hW hT hs => ?_)
  case o18 => decide
  have hcon := hcon.S hs trivial rfl
  have hz := hx_zr [2, 3, 4, 5, 6, 12, 15, 17, 19, 21, 22, 23, 24, 25, 26, 27, 28, 30, 31, 32, 33, 34, 35, 37, 38, 39, 40, 41, 42, 43, 44, 45, 46, 47, 48, 49, 50, 51, 52, 53, 54, 55, 56, 58, 60, 61, 62, 63, 64, 65, 66, 73] hz hs gx trivial rfl
  have cw : ∀ j, j < 175 → h_382.2.1 q_34 j = P_words j := fun j hj => ((hs.a gq_34 rfl j).1).trans (cw j hj)
  have f_211 := (hs.o gx trivial rfl).2.trans f_211
  have hM := hM.tr (hs.mono ?o19)
  case o19 => decide
  have gx := gx.S hs
  have gq_34 := gq_34.S hs
  have gq_381 := gq_381.S hs
  have f_383 : h_382.2.2 x 73 = (some q_381) := ?o20
  case o20 =>
    rw [eh_382]
    exact hx_pr_at _ _ _ _
  have hcon := hx_con.add (tb := T_tb) hcon false f_383 gq_381 (fun z => by cases z)
  refine lv_aload_n hx hb dX10_init_1473 rfl (lv_at hl 0 rfl) ?_
  refine lv_iconst (v := 4) hx hb dX10_init_1474 ?o21 ?_
  case o21 => decide
  refine hk_newa hx hb hts hW 101 tt_101 (atype := .int) rfl kw_186 (tys := P_ty dA) (t0 := 0) rfl (fun _ => Iff.rfl) rfl (i := (4 : Int32)) ?o22 (Nat.le_of_ble_eq_true rfl) (Nat.le_of_ble_eq_true rfl) (Nat.le_of_ble_eq_true rfl) dX10_init_1475 (fun q_385 H h_384 eh_384 hqq_385 hW hs gq_385 => ?_)
  case o22 => decide
  have hT : hx_T T_tb ((((L1 ++ [q_373]) ++ [q_377]) ++ [q_381]) ++ [q_385]) h_384 := ?o23
  case o23 =>
    rw [eh_384]
    exact hx_T_nw hT hqq_385 tt_101 rfl
  have hcon := hcon.S hs trivial rfl
  have hz := hx_zr [2, 3, 4, 5, 6, 12, 15, 17, 19, 21, 22, 23, 24, 25, 26, 27, 28, 30, 31, 32, 33, 34, 35, 37, 38, 39, 40, 41, 42, 43, 44, 45, 46, 47, 48, 49, 50, 51, 52, 53, 54, 55, 56, 58, 60, 61, 62, 63, 64, 65, 66, 73] hz hs gx trivial rfl
  have cw : ∀ j, j < 175 → h_384.2.1 q_34 j = P_words j := fun j hj => ((hs.a gq_34 rfl j).1).trans (cw j hj)
  have f_211 := (hs.o gx trivial rfl).2.trans f_211
  have hM := hM.tr (hs.mono ?o24)
  case o24 => decide
  have gx := gx.S hs
  have gq_34 := gq_34.S hs
  refine hx_putrF hx hb hts hC_10 hown hW hT (hx_S.rf (M := [(126, 74)])) gx tt_126 74 ?o25 rfl kw_1217 ⟨rfl, rfl, rfl⟩ rfl hin rfl (x := (some q_385)) ⟨fun _ z => (by cases z), fun q hq => (by cases hq; exact ⟨gq_385.1, by rw [gq_385.2]; decide⟩)⟩ rfl rfl rfl (List.mem_singleton.mpr rfl) dX10_init_1477 (fun H locs h_386 eh_386 hW hT hs => ?_)
  case o25 => decide
  have hcon := hcon.S hs trivial rfl
  have hz := hx_zr [2, 3, 4, 5, 6, 12, 15, 17, 19, 21, 22, 23, 24, 25, 26, 27, 28, 30, 31, 32, 33, 34, 35, 37, 38, 39, 40, 41, 42, 43, 44, 45, 46, 47, 48, 49, 50, 51, 52, 53, 54, 55, 56, 58, 60, 61, 62, 63, 64, 65, 66, 73, 74] hz hs gx trivial rfl
  have cw : ∀ j, j < 175 → h_386.2.1 q_34 j = P_words j := fun j hj => ((hs.a gq_34 rfl j).1).trans (cw j hj)
  have f_211 := (hs.o gx trivial rfl).2.trans f_211
  have hM := hM.tr (hs.mono ?o26)
  case o26 => decide
  have gx := gx.S hs
  have gq_34 := gq_34.S hs
  have gq_385 := gq_385.S hs
  have f_387 : h_386.2.2 x 74 = (some q_385) := ?o27
  case o27 =>
    rw [eh_386]
    exact hx_pr_at _ _ _ _
  have hcon := hx_con.add (tb := T_tb) hcon false f_387 gq_385 (fun z => by cases z)
  refine lv_aload_n hx hb dX10_init_1480 rfl (lv_at hl 0 rfl) ?_
  refine lv_iconst (v := 4) hx hb dX10_init_1481 ?o28 ?_
  case o28 => decide
  refine hk_newa hx hb hts hW 102 tt_102 (atype := .int) rfl kw_186 (tys := P_ty dA) (t0 := 0) rfl (fun _ => Iff.rfl) rfl (i := (4 : Int32)) ?o29 (Nat.le_of_ble_eq_true rfl) (Nat.le_of_ble_eq_true rfl) (Nat.le_of_ble_eq_true rfl) dX10_init_1482 (fun q_389 H h_388 eh_388 hqq_389 hW hs gq_389 => ?_)
  case o29 => decide
  have hT : hx_T T_tb (((((L1 ++ [q_373]) ++ [q_377]) ++ [q_381]) ++ [q_385]) ++ [q_389]) h_388 := ?o30
  case o30 =>
    rw [eh_388]
    exact hx_T_nw hT hqq_389 tt_102 rfl
  have hcon := hcon.S hs trivial rfl
  have hz := hx_zr [2, 3, 4, 5, 6, 12, 15, 17, 19, 21, 22, 23, 24, 25, 26, 27, 28, 30, 31, 32, 33, 34, 35, 37, 38, 39, 40, 41, 42, 43, 44, 45, 46, 47, 48, 49, 50, 51, 52, 53, 54, 55, 56, 58, 60, 61, 62, 63, 64, 65, 66, 73, 74] hz hs gx trivial rfl
  have cw : ∀ j, j < 175 → h_388.2.1 q_34 j = P_words j := fun j hj => ((hs.a gq_34 rfl j).1).trans (cw j hj)
  have f_211 := (hs.o gx trivial rfl).2.trans f_211
  have hM := hM.tr (hs.mono ?o31)
  case o31 => decide
  have gx := gx.S hs
  have gq_34 := gq_34.S hs
  refine hx_putrF hx hb hts hC_10 hown hW hT (hx_S.rf (M := [(126, 76)])) gx tt_126 76 ?o32 rfl kw_1219 ⟨rfl, rfl, rfl⟩ rfl hin rfl (x := (some q_389)) ⟨fun _ z => (by cases z), fun q hq => (by cases hq; exact ⟨gq_389.1, by rw [gq_389.2]; decide⟩)⟩ rfl rfl rfl (List.mem_singleton.mpr rfl) dX10_init_1484 (fun H locs h_390 eh_390 hW hT hs => ?_)
  case o32 => decide
  have hcon := hcon.S hs trivial rfl
  have hz := hx_zr [2, 3, 4, 5, 6, 12, 15, 17, 19, 21, 22, 23, 24, 25, 26, 27, 28, 30, 31, 32, 33, 34, 35, 37, 38, 39, 40, 41, 42, 43, 44, 45, 46, 47, 48, 49, 50, 51, 52, 53, 54, 55, 56, 58, 60, 61, 62, 63, 64, 65, 66, 73, 74, 76] hz hs gx trivial rfl
  have cw : ∀ j, j < 175 → h_390.2.1 q_34 j = P_words j := fun j hj => ((hs.a gq_34 rfl j).1).trans (cw j hj)
  have f_211 := (hs.o gx trivial rfl).2.trans f_211
  have hM := hM.tr (hs.mono ?o33)
  case o33 => decide
  have gx := gx.S hs
  have gq_34 := gq_34.S hs
  have gq_389 := gq_389.S hs
  have f_391 : h_390.2.2 x 76 = (some q_389) := ?o34
  case o34 =>
    rw [eh_390]
    exact hx_pr_at _ _ _ _
  have hcon := hx_con.add (tb := T_tb) hcon false f_391 gq_389 (fun z => by cases z)
  refine lv_aload_n hx hb dX10_init_1487 rfl (lv_at hl 0 rfl) ?_
  refine lv_iconst (v := 4) hx hb dX10_init_1488 ?o35 ?_
  case o35 => decide
  refine hk_newa hx hb hts hW 103 tt_103 (atype := .int) rfl kw_186 (tys := P_ty dA) (t0 := 0) rfl (fun _ => Iff.rfl) rfl (i := (4 : Int32)) ?o36 (Nat.le_of_ble_eq_true rfl) (Nat.le_of_ble_eq_true rfl) (Nat.le_of_ble_eq_true rfl) dX10_init_1489 (fun q_393 H h_392 eh_392 hqq_393 hW hs gq_393 => ?_)
  case o36 => decide
  have hT : hx_T T_tb ((((((L1 ++ [q_373]) ++ [q_377]) ++ [q_381]) ++ [q_385]) ++ [q_389]) ++ [q_393]) h_392 := ?o37
  case o37 =>
    rw [eh_392]
    exact hx_T_nw hT hqq_393 tt_103 rfl
  have hcon := hcon.S hs trivial rfl
  have hz := hx_zr [2, 3, 4, 5, 6, 12, 15, 17, 19, 21, 22, 23, 24, 25, 26, 27, 28, 30, 31, 32, 33, 34, 35, 37, 38, 39, 40, 41, 42, 43, 44, 45, 46, 47, 48, 49, 50, 51, 52, 53, 54, 55, 56, 58, 60, 61, 62, 63, 64, 65, 66, 73, 74, 76] hz hs gx trivial rfl
  have cw : ∀ j, j < 175 → h_392.2.1 q_34 j = P_words j := fun j hj => ((hs.a gq_34 rfl j).1).trans (cw j hj)
  have f_211 := (hs.o gx trivial rfl).2.trans f_211
  have hM := hM.tr (hs.mono ?o38)
  case o38 => decide
  have gx := gx.S hs
  have gq_34 := gq_34.S hs
  refine hx_putrF hx hb hts hC_10 hown hW hT (hx_S.rf (M := [(126, 77)])) gx tt_126 77 ?o39 rfl kw_1220 ⟨rfl, rfl, rfl⟩ rfl hin rfl (x := (some q_393)) ⟨fun _ z => (by cases z), fun q hq => (by cases hq; exact ⟨gq_393.1, by rw [gq_393.2]; decide⟩)⟩ rfl rfl rfl (List.mem_singleton.mpr rfl) dX10_init_1491 (fun H locs h_394 eh_394 hW hT hs => ?_)
  case o39 => decide
  have hcon := hcon.S hs trivial rfl
  have hz := hx_zr [2, 3, 4, 5, 6, 12, 15, 17, 19, 21, 22, 23, 24, 25, 26, 27, 28, 30, 31, 32, 33, 34, 35, 37, 38, 39, 40, 41, 42, 43, 44, 45, 46, 47, 48, 49, 50, 51, 52, 53, 54, 55, 56, 58, 60, 61, 62, 63, 64, 65, 66, 73, 74, 76, 77] hz hs gx trivial rfl
  have cw : ∀ j, j < 175 → h_394.2.1 q_34 j = P_words j := fun j hj => ((hs.a gq_34 rfl j).1).trans (cw j hj)
  have f_211 := (hs.o gx trivial rfl).2.trans f_211
  have hM := hM.tr (hs.mono ?o40)
  case o40 => decide
  have gx := gx.S hs
  have gq_34 := gq_34.S hs
  have gq_393 := gq_393.S hs
  have f_395 : h_394.2.2 x 77 = (some q_393) := ?o41
  case o41 =>
    rw [eh_394]
    exact hx_pr_at _ _ _ _
  have hcon := hx_con.add (tb := T_tb) hcon false f_395 gq_393 (fun z => by cases z)
  refine lv_aload_n hx hb dX10_init_1494 rfl (lv_at hl 0 rfl) ?_
  refine lv_iconst (v := 4) hx hb dX10_init_1495 ?o42 ?_
  case o42 => decide
  refine hk_newa hx hb hts hW 104 tt_104 (atype := .int) rfl kw_186 (tys := P_ty dA) (t0 := 0) rfl (fun _ => Iff.rfl) rfl (i := (4 : Int32)) ?o43 (Nat.le_of_ble_eq_true rfl) (Nat.le_of_ble_eq_true rfl) (Nat.le_of_ble_eq_true rfl) dX10_init_1496 (fun q_397 H h_396 eh_396 hqq_397 hW hs gq_397 => ?_)
  case o43 => decide
  have hT : hx_T T_tb (((((((L1 ++ [q_373]) ++ [q_377]) ++ [q_381]) ++ [q_385]) ++ [q_389]) ++ [q_393]) ++ [q_397]) h_396 := ?o44
  case o44 =>
    rw [eh_396]
    exact hx_T_nw hT hqq_397 tt_104 rfl
  have hcon := hcon.S hs trivial rfl
  have hz := hx_zr [2, 3, 4, 5, 6, 12, 15, 17, 19, 21, 22, 23, 24, 25, 26, 27, 28, 30, 31, 32, 33, 34, 35, 37, 38, 39, 40, 41, 42, 43, 44, 45, 46, 47, 48, 49, 50, 51, 52, 53, 54, 55, 56, 58, 60, 61, 62, 63, 64, 65, 66, 73, 74, 76, 77] hz hs gx trivial rfl
  have cw : ∀ j, j < 175 → h_396.2.1 q_34 j = P_words j := fun j hj => ((hs.a gq_34 rfl j).1).trans (cw j hj)
  have f_211 := (hs.o gx trivial rfl).2.trans f_211
  have hM := hM.tr (hs.mono ?o45)
  case o45 => decide
  have gx := gx.S hs
  have gq_34 := gq_34.S hs
  refine hx_putrF hx hb hts hC_10 hown hW hT (hx_S.rf (M := [(126, 78)])) gx tt_126 78 ?o46 rfl kw_1221 ⟨rfl, rfl, rfl⟩ rfl hin rfl (x := (some q_397)) ⟨fun _ z => (by cases z), fun q hq => (by cases hq; exact ⟨gq_397.1, by rw [gq_397.2]; decide⟩)⟩ rfl rfl rfl (List.mem_singleton.mpr rfl) dX10_init_1498 (fun H locs h_398 eh_398 hW hT hs => ?_)
  case o46 => decide
  have hcon := hcon.S hs trivial rfl
  have hz := hx_zr [2, 3, 4, 5, 6, 12, 15, 17, 19, 21, 22, 23, 24, 25, 26, 27, 28, 30, 31, 32, 33, 34, 35, 37, 38, 39, 40, 41, 42, 43, 44, 45, 46, 47, 48, 49, 50, 51, 52, 53, 54, 55, 56, 58, 60, 61, 62, 63, 64, 65, 66, 73, 74, 76, 77, 78] hz hs gx trivial rfl
  have cw : ∀ j, j < 175 → h_398.2.1 q_34 j = P_words j := fun j hj => ((hs.a gq_34 rfl j).1).trans (cw j hj)
  have f_211 := (hs.o gx trivial rfl).2.trans f_211
  have hM := hM.tr (hs.mono ?o47)
  case o47 => decide
  have gx := gx.S hs
  have gq_34 := gq_34.S hs
  have gq_397 := gq_397.S hs
  have f_399 : h_398.2.2 x 78 = (some q_397) := ?o48
  case o48 =>
    rw [eh_398]
    exact hx_pr_at _ _ _ _
  have hcon := hx_con.add (tb := T_tb) hcon false f_399 gq_397 (fun z => by cases z)
  refine lv_aload_n hx hb dX10_init_1501 rfl (lv_at hl 0 rfl) ?_
  refine lv_iconst (v := 4) hx hb dX10_init_1502 ?o49 ?_
  case o49 => decide
  refine hk_newa hx hb hts hW 105 tt_105 (atype := .int) rfl kw_186 (tys := P_ty dA) (t0 := 0) rfl (fun _ => Iff.rfl) rfl (i := (4 : Int32)) ?o50 (Nat.le_of_ble_eq_true rfl) (Nat.le_of_ble_eq_true rfl) (Nat.le_of_ble_eq_true rfl) dX10_init_1503 (fun q_401 H h_400 eh_400 hqq_401 hW hs gq_401 => ?_)
  case o50 => decide
  have hT : hx_T T_tb ((((((((L1 ++ [q_373]) ++ [q_377]) ++ [q_381]) ++ [q_385]) ++ [q_389]) ++ [q_393]) ++ [q_397]) ++ [q_401]) h_400 := ?o51
  case o51 =>
    rw [eh_400]
    exact hx_T_nw hT hqq_401 tt_105 rfl
  have hcon := hcon.S hs trivial rfl
  have hz := hx_zr [2, 3, 4, 5, 6, 12, 15, 17, 19, 21, 22, 23, 24, 25, 26, 27, 28, 30, 31, 32, 33, 34, 35, 37, 38, 39, 40, 41, 42, 43, 44, 45, 46, 47, 48, 49, 50, 51, 52, 53, 54, 55, 56, 58, 60, 61, 62, 63, 64, 65, 66, 73, 74, 76, 77, 78] hz hs gx trivial rfl
  have cw : ∀ j, j < 175 → h_400.2.1 q_34 j = P_words j := fun j hj => ((hs.a gq_34 rfl j).1).trans (cw j hj)
  have f_211 := (hs.o gx trivial rfl).2.trans f_211
  have hM := hM.tr (hs.mono ?o52)
  case o52 => decide
  have gx := gx.S hs
  have gq_34 := gq_34.S hs
  refine hx_putrF hx hb hts hC_10 hown hW hT (hx_S.rf (M := [(126, 79)])) gx tt_126 79 ?o53 rfl kw_1222 ⟨rfl, rfl, rfl⟩ rfl hin rfl (x := (some q_401)) ⟨fun _ z => (by cases z), fun q hq => (by cases hq; exact ⟨gq_401.1, by rw [gq_401.2]; decide⟩)⟩ rfl rfl rfl (List.mem_singleton.mpr rfl) dX10_init_1505 (fun H locs h_402 eh_402 hW hT hs => ?_)
  case o53 => decide
  have hcon := hcon.S hs trivial rfl
  have hz := hx_zr [2, 3, 4, 5, 6, 12, 15, 17, 19, 21, 22, 23, 24, 25, 26, 27, 28, 30, 31, 32, 33, 34, 35, 37, 38, 39, 40, 41, 42, 43, 44, 45, 46, 47, 48, 49, 50, 51, 52, 53, 54, 55, 56, 58, 60, 61, 62, 63, 64, 65, 66, 73, 74, 76, 77, 78, 79] hz hs gx trivial rfl
  have cw : ∀ j, j < 175 → h_402.2.1 q_34 j = P_words j := fun j hj => ((hs.a gq_34 rfl j).1).trans (cw j hj)
  have f_211 := (hs.o gx trivial rfl).2.trans f_211
  have hM := hM.tr (hs.mono ?o54)
  case o54 => decide
  have gx := gx.S hs
  have gq_34 := gq_34.S hs
  have gq_401 := gq_401.S hs
  have f_403 : h_402.2.2 x 79 = (some q_401) := ?o55
  case o55 =>
    rw [eh_402]
    exact hx_pr_at _ _ _ _
  have hcon := hx_con.add (tb := T_tb) hcon false f_403 gq_401 (fun z => by cases z)
  refine lv_aload_n hx hb dX10_init_1508 rfl (lv_at hl 0 rfl) ?_
  refine lv_iconst (v := 4) hx hb dX10_init_1509 ?o56 ?_
  case o56 => decide
  refine hk_newa hx hb hts hW 106 tt_106 (atype := .int) rfl kw_186 (tys := P_ty dA) (t0 := 0) rfl (fun _ => Iff.rfl) rfl (i := (4 : Int32)) ?o57 (Nat.le_of_ble_eq_true rfl) (Nat.le_of_ble_eq_true rfl) (Nat.le_of_ble_eq_true rfl) dX10_init_1510 (fun q_405 H h_404 eh_404 hqq_405 hW hs gq_405 => ?_)
  case o57 => decide
  have hT : hx_T T_tb (((((((((L1 ++ [q_373]) ++ [q_377]) ++ [q_381]) ++ [q_385]) ++ [q_389]) ++ [q_393]) ++ [q_397]) ++ [q_401]) ++ [q_405]) h_404 := ?o58
  case o58 =>
    rw [eh_404]
    exact hx_T_nw hT hqq_405 tt_106 rfl
  have hcon := hcon.S hs trivial rfl
  have hz := hx_zr [2, 3, 4, 5, 6, 12, 15, 17, 19, 21, 22, 23, 24, 25, 26, 27, 28, 30, 31, 32, 33, 34, 35, 37, 38, 39, 40, 41, 42, 43, 44, 45, 46, 47, 48, 49, 50, 51, 52, 53, 54, 55, 56, 58, 60, 61, 62, 63, 64, 65, 66, 73, 74, 76, 77, 78, 79] hz hs gx trivial rfl
  have cw : ∀ j, j < 175 → h_404.2.1 q_34 j = P_words j := fun j hj => ((hs.a gq_34 rfl j).1).trans (cw j hj)
  have f_211 := (hs.o gx trivial rfl).2.trans f_211
  have hM := hM.tr (hs.mono ?o59)
  case o59 => decide
  have gx := gx.S hs
  have gq_34 := gq_34.S hs
  refine hx_putrF hx hb hts hC_10 hown hW hT (hx_S.rf (M := [(126, 80)])) gx tt_126 80 ?o60 rfl kw_1223 ⟨rfl, rfl, rfl⟩ rfl hin rfl (x := (some q_405)) ⟨fun _ z => (by cases z), fun q hq => (by cases hq; exact ⟨gq_405.1, by rw [gq_405.2]; decide⟩)⟩ rfl rfl rfl (List.mem_singleton.mpr rfl) dX10_init_1512 (fun H locs h_406 eh_406 hW hT hs => ?_)
  case o60 => decide
  have hcon := hcon.S hs trivial rfl
  have hz := hx_zr [2, 3, 4, 5, 6, 12, 15, 17, 19, 21, 22, 23, 24, 25, 26, 27, 28, 30, 31, 32, 33, 34, 35, 37, 38, 39, 40, 41, 42, 43, 44, 45, 46, 47, 48, 49, 50, 51, 52, 53, 54, 55, 56, 58, 60, 61, 62, 63, 64, 65, 66, 73, 74, 76, 77, 78, 79, 80] hz hs gx trivial rfl
  have cw : ∀ j, j < 175 → h_406.2.1 q_34 j = P_words j := fun j hj => ((hs.a gq_34 rfl j).1).trans (cw j hj)
  have f_211 := (hs.o gx trivial rfl).2.trans f_211
  have hM := hM.tr (hs.mono ?o61)
  case o61 => decide
  have gx := gx.S hs
  have gq_34 := gq_34.S hs
  have gq_405 := gq_405.S hs
  have f_407 : h_406.2.2 x 80 = (some q_405) := ?o62
  case o62 =>
    rw [eh_406]
    exact hx_pr_at _ _ _ _
  have hcon := hx_con.add (tb := T_tb) hcon false f_407 gq_405 (fun z => by cases z)
  refine lv_aload_n hx hb dX10_init_1515 rfl (lv_at hl 0 rfl) ?_
  refine lv_iconst (v := 4) hx hb dX10_init_1516 ?o63 ?_
  case o63 => decide
  refine hk_newa hx hb hts hW 107 tt_107 (atype := .int) rfl kw_186 (tys := P_ty dA) (t0 := 0) rfl (fun _ => Iff.rfl) rfl (i := (4 : Int32)) ?o64 (Nat.le_of_ble_eq_true rfl) (Nat.le_of_ble_eq_true rfl) (Nat.le_of_ble_eq_true rfl) dX10_init_1517 (fun q_409 H h_408 eh_408 hqq_409 hW hs gq_409 => ?_)
  case o64 => decide
  have hT : hx_T T_tb ((((((((((L1 ++ [q_373]) ++ [q_377]) ++ [q_381]) ++ [q_385]) ++ [q_389]) ++ [q_393]) ++ [q_397]) ++ [q_401]) ++ [q_405]) ++ [q_409]) h_408 := ?o65
  case o65 =>
    rw [eh_408]
    exact hx_T_nw hT hqq_409 tt_107 rfl
  have hcon := hcon.S hs trivial rfl
  have hz := hx_zr [2, 3, 4, 5, 6, 12, 15, 17, 19, 21, 22, 23, 24, 25, 26, 27, 28, 30, 31, 32, 33, 34, 35, 37, 38, 39, 40, 41, 42, 43, 44, 45, 46, 47, 48, 49, 50, 51, 52, 53, 54, 55, 56, 58, 60, 61, 62, 63, 64, 65, 66, 73, 74, 76, 77, 78, 79, 80] hz hs gx trivial rfl
  have cw : ∀ j, j < 175 → h_408.2.1 q_34 j = P_words j := fun j hj => ((hs.a gq_34 rfl j).1).trans (cw j hj)
  have f_211 := (hs.o gx trivial rfl).2.trans f_211
  have hM := hM.tr (hs.mono ?o66)
  case o66 => decide
  have gx := gx.S hs
  have gq_34 := gq_34.S hs
  refine hx_putrF hx hb hts hC_10 hown hW hT (hx_S.rf (M := [(126, 81)])) gx tt_126 81 ?o67 rfl kw_1224 ⟨rfl, rfl, rfl⟩ rfl hin rfl (x := (some q_409)) ⟨fun _ z => (by cases z), fun q hq => (by cases hq; exact ⟨gq_409.1, by rw [gq_409.2]; decide⟩)⟩ rfl rfl rfl (List.mem_singleton.mpr rfl) dX10_init_1519 (fun H locs h_410 eh_410 hW hT hs => ?_)
  case o67 => decide
  have hcon := hcon.S hs trivial rfl
  have hz := hx_zr [2, 3, 4, 5, 6, 12, 15, 17, 19, 21, 22, 23, 24, 25, 26, 27, 28, 30, 31, 32, 33, 34, 35, 37, 38, 39, 40, 41, 42, 43, 44, 45, 46, 47, 48, 49, 50, 51, 52, 53, 54, 55, 56, 58, 60, 61, 62, 63, 64, 65, 66, 73, 74, 76, 77, 78, 79, 80, 81] hz hs gx trivial rfl
  have cw : ∀ j, j < 175 → h_410.2.1 q_34 j = P_words j := fun j hj => ((hs.a gq_34 rfl j).1).trans (cw j hj)
  have f_211 := (hs.o gx trivial rfl).2.trans f_211
  have hM := hM.tr (hs.mono ?o68)
  case o68 => decide
  have gx := gx.S hs
  have gq_34 := gq_34.S hs
  have gq_409 := gq_409.S hs
  have f_411 : h_410.2.2 x 81 = (some q_409) := ?o69
  case o69 =>
    rw [eh_410]
    exact hx_pr_at _ _ _ _
  have hcon := hx_con.add (tb := T_tb) hcon false f_411 gq_409 (fun z => by cases z)
  exact si_14 l dC dI dA L h sz b0 x q_34 hx hb hml hr hlk hts hown hin hsz hZ ((((((((((L1 ++ [q_373]) ++ [q_377]) ++ [q_381]) ++ [q_385]) ++ [q_389]) ++ [q_393]) ++ [q_397]) ++ [q_401]) ++ [q_405]) ++ [q_409]) h_410 _ _ ls hW hT hM gx hcon hz gq_34 f_211 cw hl

set_option maxHeartbeats 4000000 in
set_option maxRecDepth 100000 in
theorem si_12 (l : Launch) (dC : Nat → ClassId) (dI : Nat → Nat → Nat) (dA : Nat → ClassId) (L : List Nat) (h : hx_h) (sz : Nat) (b0 : hx_z) (x : Nat) (q_34 : Nat) {p : Program} {e : Env} {s : State} {m : MethodId} {below : List Frame} {meth : Method} {c : Code} (hx : p.tables.exec = Jvm.exec) (hb : c.code = cX10_init) (hml : c.maxLocals = 2) (hr : meth.sig.returnType = none) (hlk : meth.locks = false) (hts : ∀ w ∈ hx_all, w.before ([.ref x] : List Value).toArray s = true) (hown : s.vm.findClass "SmallCourtModel" = some m.cls) (hin : meth.name = "<init>") (hsz : s.heap.size = sz) (hZ : hx_Xt (hx_A L sz) b0 s) (L1 : List Nat) (hl1 : hx_h) (H : Heap) (locs : List Loc) (ls : Array Slot) (hW : hx_W T_tb (P_ty dA) (dC, dI) vwCl (hx_A L sz) s.heap L1 hl1 s H locs) (hT : hx_T T_tb L1 hl1) (hM : hx_S T_tb [(10, 14), (10, 16), (10, 18), (50, 0), (51, 0), (52, 0), (55, 0), (57, 0), (126, 2), (126, 3), (126, 4), (126, 5), (126, 6), (126, 12), (126, 15), (126, 17), (126, 19), (126, 21), (126, 22), (126, 23), (126, 24), (126, 25), (126, 26), (126, 27), (126, 28), (126, 30), (126, 31), (126, 32), (126, 33), (126, 34), (126, 35), (126, 37), (126, 38), (126, 39), (126, 40), (126, 41), (126, 42), (126, 43), (126, 44), (126, 45), (126, 46), (126, 47), (126, 48), (126, 49), (126, 50), (126, 51), (126, 52), (126, 53), (126, 54), (126, 55), (126, 56), (126, 58), (126, 60), (126, 61), (126, 62), (126, 63), (126, 64), (126, 65), (126, 66), (126, 73), (126, 74), (126, 76), (126, 77), (126, 78), (126, 79), (126, 80), (126, 81), (126, 82), (126, 85), (126, 88), (126, 89), (126, 91), (126, 93), (126, 94), (126, 97)] (hx_X L x) h L1 hl1) (gx : hx_g L1 hl1 x 126) (hcon : hx_con L1 hl1 x 126 [(53, 88, false), (52, 87, false), (51, 86, true), (50, 85, true), (49, 84, true), (48, 83, true), (47, 82, true), (46, 81, true), (45, 80, true), (44, 79, false), (43, 78, true), (42, 77, false), (41, 76, false), (40, 75, true), (39, 74, true), (38, 73, false), (37, 72, false), (35, 71, false), (34, 70, false), (33, 69, false), (32, 68, false), (31, 67, false), (30, 66, false), (28, 65, true), (27, 64, true), (26, 63, true), (25, 62, true), (24, 61, true), (23, 60, true), (22, 59, true), (21, 58, true), (17, 56, false), (15, 55, false), (12, 54, false), (6, 53, true), (5, 52, false), (4, 51, false), (3, 50, false), (2, 49, false)] []) (hz : ∀ j, [2, 3, 4, 5, 6, 12, 15, 17, 19, 21, 22, 23, 24, 25, 26, 27, 28, 30, 31, 32, 33, 34, 35, 37, 38, 39, 40, 41, 42, 43, 44, 45, 46, 47, 48, 49, 50, 51, 52, 53].contains j = false → hl1.2.1 x j = 0 ∧ hl1.2.2 x j = none) (gq_34 : hx_g L1 hl1 q_34 57) (f_211 : hl1.2.2 x 19 = some q_34) (cw : ∀ j, j < 175 → hl1.2.1 q_34 j = P_words j) (hl : lv_has ls 2 [(0, .ref x)]) : W p l e ({ frames := 2, cells := 67, slots := 15340, locals := 42 }) s m ([.ref x] : List Value).toArray below meth c H locs 40 7451 (MQ below (va_Qv (fun (u : List Nat × hx_h) => hx_T T_tb u.1 u.2 ∧ hx_S T_tb [(10, 14), (10, 16), (10, 18), (50, 0), (51, 0), (52, 0), (55, 0), (57, 0), (126, 2), (126, 3), (126, 4), (126, 5), (126, 6), (126, 12), (126, 15), (126, 17), (126, 19), (126, 21), (126, 22), (126, 23), (126, 24), (126, 25), (126, 26), (126, 27), (126, 28), (126, 30), (126, 31), (126, 32), (126, 33), (126, 34), (126, 35), (126, 37), (126, 38), (126, 39), (126, 40), (126, 41), (126, 42), (126, 43), (126, 44), (126, 45), (126, 46), (126, 47), (126, 48), (126, 49), (126, 50), (126, 51), (126, 52), (126, 53), (126, 54), (126, 55), (126, 56), (126, 58), (126, 60), (126, 61), (126, 62), (126, 63), (126, 64), (126, 65), (126, 66), (126, 73), (126, 74), (126, 76), (126, 77), (126, 78), (126, 79), (126, 80), (126, 81), (126, 82), (126, 85), (126, 88), (126, 89), (126, 91), (126, 93), (126, 94), (126, 97)] (hx_X L x) h u.1 u.2 ∧ hx_g u.1 u.2 x 10 ∧ u.2.2.1 x 0 = 0 ∧ u.2.2.1 x 1 = 0 ∧ u.2.2.1 x 36 = 0 ∧ u.2.2.1 x 57 = 0 ∧ u.2.2.1 x 7 = 0 ∧ u.2.2.1 x 20 = 0 ∧ u.2.2.1 x 29 = 0 ∧ u.2.2.1 x 59 = 0 ∧ u.2.2.1 x 72 = 0 ∧ u.2.2.1 x 83 = 0 ∧ u.2.2.1 x 84 = 0 ∧ u.2.2.1 x 90 = 0 ∧ u.2.2.1 x 92 = 0 ∧ ∃ q_words q_rule q_proofSteps q_proof q_tries q_isDead q_isJudge q_found q_list q_judged q_weekly q_owed q_doorX q_doorY q_tape q_born q_kin q_sum q_filed q_owedFrom q_heard q_ordered q_goods q_seized q_served q_earns q_heads q_payOf q_payDay q_paySum q_payKnown q_payStruck q_actDay : Nat, u.2.2.2 x 19 = some q_words ∧ hx_g u.1 u.2 q_words 57 ∧ u.2.2.2 x 3 = some q_rule ∧ hx_g u.1 u.2 q_rule 50 ∧ u.2.2.2 x 4 = some q_proofSteps ∧ hx_g u.1 u.2 q_proofSteps 51 ∧ u.2.2.2 x 5 = some q_proof ∧ hx_g u.1 u.2 q_proof 52 ∧ u.2.2.2 x 45 = some q_tries ∧ hx_g u.1 u.2 q_tries 80 ∧ u.2.2.2 x 27 = some q_isDead ∧ hx_g u.1 u.2 q_isDead 64 ∧ u.2.2.2 x 28 = some q_isJudge ∧ hx_g u.1 u.2 q_isJudge 65 ∧ u.2.2.2 x 46 = some q_found ∧ hx_g u.1 u.2 q_found 81 ∧ u.2.2.2 x 91 = some q_list ∧ hx_g u.1 u.2 q_list 112 ∧ u.2.2.2 x 51 = some q_judged ∧ hx_g u.1 u.2 q_judged 86 ∧ u.2.2.2 x 54 = some q_weekly ∧ hx_g u.1 u.2 q_weekly 89 ∧ u.2.2.2 x 55 = some q_owed ∧ hx_g u.1 u.2 q_owed 90 ∧ u.2.2.2 x 24 = some q_doorX ∧ hx_g u.1 u.2 q_doorX 61 ∧ u.2.2.2 x 25 = some q_doorY ∧ hx_g u.1 u.2 q_doorY 62 ∧ u.2.2.2 x 6 = some q_tape ∧ hx_g u.1 u.2 q_tape 53 ∧ u.2.2.2 x 21 = some q_born ∧ hx_g u.1 u.2 q_born 58 ∧ u.2.2.2 x 26 = some q_kin ∧ hx_g u.1 u.2 q_kin 63 ∧ u.2.2.2 x 39 = some q_sum ∧ hx_g u.1 u.2 q_sum 74 ∧ u.2.2.2 x 43 = some q_filed ∧ hx_g u.1 u.2 q_filed 78 ∧ u.2.2.2 x 40 = some q_owedFrom ∧ hx_g u.1 u.2 q_owedFrom 75 ∧ u.2.2.2 x 47 = some q_heard ∧ hx_g u.1 u.2 q_heard 82 ∧ u.2.2.2 x 48 = some q_ordered ∧ hx_g u.1 u.2 q_ordered 83 ∧ u.2.2.2 x 56 = some q_goods ∧ hx_g u.1 u.2 q_goods 91 ∧ u.2.2.2 x 49 = some q_seized ∧ hx_g u.1 u.2 q_seized 84 ∧ u.2.2.2 x 50 = some q_served ∧ hx_g u.1 u.2 q_served 85 ∧ u.2.2.2 x 22 = some q_earns ∧ hx_g u.1 u.2 q_earns 59 ∧ u.2.2.2 x 23 = some q_heads ∧ hx_g u.1 u.2 q_heads 60 ∧ u.2.2.2 x 60 = some q_payOf ∧ hx_g u.1 u.2 q_payOf 93 ∧ u.2.2.2 x 61 = some q_payDay ∧ hx_g u.1 u.2 q_payDay 94 ∧ u.2.2.2 x 62 = some q_paySum ∧ hx_g u.1 u.2 q_paySum 95 ∧ u.2.2.2 x 63 = some q_payKnown ∧ hx_g u.1 u.2 q_payKnown 96 ∧ u.2.2.2 x 64 = some q_payStruck ∧ hx_g u.1 u.2 q_payStruck 97 ∧ u.2.2.2 x 2 = some q_actDay ∧ hx_g u.1 u.2 q_actDay 49 ∧ hx_wd (u.2.2.1 q_words) ∧ hx_WK (u.2.2.1 q_rule) 0 ∧ hx_RP (u.2.2.1 q_proof) (u.2.2.1 q_proofSteps) 0 ∧ (∀ j, u.2.2.1 q_tries j = 0) ∧ (∀ j, u.2.2.1 q_isDead j = 0) ∧ (∀ j, u.2.2.1 q_isJudge j = 0) ∧ (∀ j, u.2.2.1 q_found j = 0) ∧ (∀ j, u.2.2.1 q_list j = 0) ∧ (∀ j, u.2.2.1 q_judged j = 0) ∧ (∀ j, u.2.2.1 q_weekly j = 0) ∧ (∀ j, u.2.2.1 q_owed j = 0) ∧ (∀ j, u.2.2.1 q_doorX j = 0) ∧ (∀ j, u.2.2.1 q_doorY j = 0) ∧ (∀ j, u.2.2.1 q_tape j = 0) ∧ (∀ j, u.2.2.1 q_born j = 0) ∧ (∀ j, u.2.2.1 q_kin j = 0) ∧ (∀ j, u.2.2.1 q_sum j = 0) ∧ (∀ j, u.2.2.1 q_filed j = 0) ∧ (∀ j, u.2.2.1 q_owedFrom j = 0) ∧ (∀ j, u.2.2.1 q_heard j = 0) ∧ (∀ j, u.2.2.1 q_ordered j = 0) ∧ (∀ j, u.2.2.1 q_goods j = 0) ∧ (∀ j, u.2.2.1 q_seized j = 0) ∧ (∀ j, u.2.2.1 q_served j = 0) ∧ (∀ j, u.2.2.1 q_earns j = 0) ∧ (∀ j, u.2.2.1 q_heads j = 0) ∧ (∀ j, u.2.2.1 q_payOf j = 0) ∧ (∀ j, u.2.2.1 q_payDay j = 0) ∧ (∀ j, u.2.2.1 q_paySum j = 0) ∧ (∀ j, u.2.2.1 q_payKnown j = 0) ∧ (∀ j, u.2.2.1 q_payStruck j = 0) ∧ hv_CA (u.2.2.1 q_actDay) (u.2.2.1 q_rule) (u.2.2.1 q_proofSteps) (u.2.2.1 q_proof) 0 (fun _ => hv_A0)) (hx_E T_tb (P_ty dA) (dC, dI) vwCl (hx_A L sz)) (hx_A L sz)) ([.ref x] : List Value).toArray s 67 15340 (hx_A L sz)) (F0 m 1372 ls []) := by
  refine lv_aload_n hx hb dX10_init_1372 rfl (lv_at hl 0 rfl) ?_
  refine lv_bipush (v := 100) hx hb dX10_init_1373 ?o0 ?_
  case o0 => decide
  refine hk_newa hx hb hts hW 89 tt_89 (atype := .int) rfl kw_186 (tys := P_ty dA) (t0 := 0) rfl (fun _ => Iff.rfl) rfl (i := (100 : Int32)) ?o1 (Nat.le_of_ble_eq_true rfl) (Nat.le_of_ble_eq_true rfl) (Nat.le_of_ble_eq_true rfl) dX10_init_1375 (fun q_337 H h_336 eh_336 hqq_337 hW hs gq_337 => ?_)
  case o1 => decide
  have hT : hx_T T_tb (L1 ++ [q_337]) h_336 := ?o2
  case o2 =>
    rw [eh_336]
    exact hx_T_nw hT hqq_337 tt_89 rfl
  have hcon := hcon.S hs trivial rfl
  have hz := hx_zr [2, 3, 4, 5, 6, 12, 15, 17, 19, 21, 22, 23, 24, 25, 26, 27, 28, 30, 31, 32, 33, 34, 35, 37, 38, 39, 40, 41, 42, 43, 44, 45, 46, 47, 48, 49, 50, 51, 52, 53] hz hs gx trivial rfl
  have cw : ∀ j, j < 175 → h_336.2.1 q_34 j = P_words j := fun j hj => ((hs.a gq_34 rfl j).1).trans (cw j hj)
  have f_211 := (hs.o gx trivial rfl).2.trans f_211
  have hM := hM.tr (hs.mono ?o3)
  case o3 => decide
  have gx := gx.S hs
  have gq_34 := gq_34.S hs
  have cz : (∀ j, h_336.2.1 q_337 j = 0) ∧ ∀ j, h_336.2.2 q_337 j = none := ?o4
  case o4 =>
    rw [eh_336]
    exact ⟨fun _ => hx_nw_i, fun _ => hx_nw_r⟩
  refine hx_putrF hx hb hts hC_10 hown hW hT (hx_S.rf (M := [(126, 54)])) gx tt_126 54 ?o5 rfl kw_1197 ⟨rfl, rfl, rfl⟩ rfl hin rfl (x := (some q_337)) ⟨fun _ z => (by cases z), fun q hq => (by cases hq; exact ⟨gq_337.1, by rw [gq_337.2]; decide⟩)⟩ rfl rfl rfl (List.mem_singleton.mpr rfl) dX10_init_1377 (fun H locs h_338 eh_338 hW hT hs => ?_)
  case o5 => decide
  have hcon := hcon.S hs trivial rfl
  have hz := hx_zr [2, 3, 4, 5, 6, 12, 15, 17, 19, 21, 22, 23, 24, 25, 26, 27, 28, 30, 31, 32, 33, 34, 35, 37, 38, 39, 40, 41, 42, 43, 44, 45, 46, 47, 48, 49, 50, 51, 52, 53, 54] hz hs gx trivial rfl
  have cw : ∀ j, j < 175 → h_338.2.1 q_34 j = P_words j := fun j hj => ((hs.a gq_34 rfl j).1).trans (cw j hj)
  have cz : (∀ j, h_338.2.1 q_337 j = 0) ∧ ∀ j, h_338.2.2 q_337 j = none := ⟨fun j => ((hs.a gq_337 rfl j).1).trans (cz.1 j), fun j => ((hs.a gq_337 rfl j).2).trans (cz.2 j)⟩
  have f_211 := (hs.o gx trivial rfl).2.trans f_211
  have hM := hM.tr (hs.mono ?o6)
  case o6 => decide
  have gx := gx.S hs
  have gq_34 := gq_34.S hs
  have gq_337 := gq_337.S hs
  have f_339 : h_338.2.2 x 54 = (some q_337) := ?o7
  case o7 =>
    rw [eh_338]
    exact hx_pr_at _ _ _ _
  have hcon := hx_con.add (tb := T_tb) hcon true f_339 gq_337 (fun _ => cz)
  refine lv_aload_n hx hb dX10_init_1380 rfl (lv_at hl 0 rfl) ?_
  refine lv_bipush (v := 100) hx hb dX10_init_1381 ?o8 ?_
  case o8 => decide
  refine hk_newa hx hb hts hW 90 tt_90 (atype := .int) rfl kw_186 (tys := P_ty dA) (t0 := 0) rfl (fun _ => Iff.rfl) rfl (i := (100 : Int32)) ?o9 (Nat.le_of_ble_eq_true rfl) (Nat.le_of_ble_eq_true rfl) (Nat.le_of_ble_eq_true rfl) dX10_init_1383 (fun q_341 H h_340 eh_340 hqq_341 hW hs gq_341 => ?_)
  case o9 => decide
  have hT : hx_T T_tb ((L1 ++ [q_337]) ++ [q_341]) h_340 := ?o10
  case o10 =>
    rw [eh_340]
    exact hx_T_nw hT hqq_341 tt_90 rfl
  have hcon := hcon.S hs trivial rfl
  have hz := hx_zr [2, 3, 4, 5, 6, 12, 15, 17, 19, 21, 22, 23, 24, 25, 26, 27, 28, 30, 31, 32, 33, 34, 35, 37, 38, 39, 40, 41, 42, 43, 44, 45, 46, 47, 48, 49, 50, 51, 52, 53, 54] hz hs gx trivial rfl
  have cw : ∀ j, j < 175 → h_340.2.1 q_34 j = P_words j := fun j hj => ((hs.a gq_34 rfl j).1).trans (cw j hj)
  have f_211 := (hs.o gx trivial rfl).2.trans f_211
  have hM := hM.tr (hs.mono ?o11)
  case o11 => decide
  have gx := gx.S hs
  have gq_34 := gq_34.S hs
  have cz : (∀ j, h_340.2.1 q_341 j = 0) ∧ ∀ j, h_340.2.2 q_341 j = none := ?o12
  case o12 =>
    rw [eh_340]
    exact ⟨fun _ => hx_nw_i, fun _ => hx_nw_r⟩
  refine hx_putrF hx hb hts hC_10 hown hW hT (hx_S.rf (M := [(126, 55)])) gx tt_126 55 ?o13 rfl kw_1198 ⟨rfl, rfl, rfl⟩ rfl hin rfl (x := (some q_341)) ⟨fun _ z => (by cases z), fun q hq => (by cases hq; exact ⟨gq_341.1, by rw [gq_341.2]; decide⟩)⟩ rfl rfl rfl (List.mem_singleton.mpr rfl) dX10_init_1385 (fun H locs h_342 eh_342 hW hT hs => ?_)
  case o13 => decide
  have hcon := hcon.S hs trivial rfl
  have hz := hx_zr [2, 3, 4, 5, 6, 12, 15, 17, 19, 21, 22, 23, 24, 25, 26, 27, 28, 30, 31, 32, 33, 34, 35, 37, 38, 39, 40, 41, 42, 43, 44, 45, 46, 47, 48, 49, 50, 51, 52, 53, 54, 55] hz hs gx trivial rfl
  have cw : ∀ j, j < 175 → h_342.2.1 q_34 j = P_words j := fun j hj => ((hs.a gq_34 rfl j).1).trans (cw j hj)
  have cz : (∀ j, h_342.2.1 q_341 j = 0) ∧ ∀ j, h_342.2.2 q_341 j = none := ⟨fun j => ((hs.a gq_341 rfl j).1).trans (cz.1 j), fun j => ((hs.a gq_341 rfl j).2).trans (cz.2 j)⟩
  have f_211 := (hs.o gx trivial rfl).2.trans f_211
  have hM := hM.tr (hs.mono ?o14)
  case o14 => decide
  have gx := gx.S hs
  have gq_34 := gq_34.S hs
  have gq_341 := gq_341.S hs
  have f_343 : h_342.2.2 x 55 = (some q_341) := ?o15
  case o15 =>
    rw [eh_342]
    exact hx_pr_at _ _ _ _
  have hcon := hx_con.add (tb := T_tb) hcon true f_343 gq_341 (fun _ => cz)
  refine lv_aload_n hx hb dX10_init_1388 rfl (lv_at hl 0 rfl) ?_
  refine lv_bipush (v := 100) hx hb dX10_init_1389 ?o16 ?_
  case o16 => decide
  refine hk_newa hx hb hts hW 91 tt_91 (atype := .int) rfl kw_186 (tys := P_ty dA) (t0 := 0) rfl (fun _ => Iff.rfl) rfl (i := (100 : Int32)) ?o17 (Nat.le_of_ble_eq_true rfl) (Nat.le_of_ble_eq_true rfl) (Nat.le_of_ble_eq_true rfl) dX10_init_1391 (fun q_345 H h_344 eh_344 hqq_345 hW hs gq_345 => ?_)
  case o17 => decide
  have hT : hx_T T_tb (((L1 ++ [q_337]) ++ [q_341]) ++ [q_345]) h_344 := ?o18
  case o18 =>
    rw [eh_344]
    exact hx_T_nw hT hqq_345 tt_91 rfl
  have hcon := hcon.S hs trivial rfl
  have hz := hx_zr [2, 3, 4, 5, 6, 12, 15, 17, 19, 21, 22, 23, 24, 25, 26, 27, 28, 30, 31, 32, 33, 34, 35, 37, 38, 39, 40, 41, 42, 43, 44, 45, 46, 47, 48, 49, 50, 51, 52, 53, 54, 55] hz hs gx trivial rfl
  have cw : ∀ j, j < 175 → h_344.2.1 q_34 j = P_words j := fun j hj => ((hs.a gq_34 rfl j).1).trans (cw j hj)
  have f_211 := (hs.o gx trivial rfl).2.trans f_211
  have hM := hM.tr (hs.mono ?o19)
  case o19 => decide
  have gx := gx.S hs
  have gq_34 := gq_34.S hs
  have cz : (∀ j, h_344.2.1 q_345 j = 0) ∧ ∀ j, h_344.2.2 q_345 j = none := ?o20
  case o20 =>
    rw [eh_344]
    exact ⟨fun _ => hx_nw_i, fun _ => hx_nw_r⟩
  refine hx_putrF hx hb hts hC_10 hown hW hT (hx_S.rf (M := [(126, 56)])) gx tt_126 56 ?o21 rfl kw_1199 ⟨rfl, rfl, rfl⟩ rfl hin rfl (x := (some q_345)) ⟨fun _ z => (by cases z), fun q hq => (by cases hq; exact ⟨gq_345.1, by rw [gq_345.2]; decide⟩)⟩ rfl rfl rfl (List.mem_singleton.mpr rfl) dX10_init_1393 (fun H locs h_346 eh_346 hW hT hs => ?_)
  case o21 => decide
  have hcon := hcon.S hs trivial rfl
  have hz := hx_zr [2, 3, 4, 5, 6, 12, 15, 17, 19, 21, 22, 23, 24, 25, 26, 27, 28, 30, 31, 32, 33, 34, 35, 37, 38, 39, 40, 41, 42, 43, 44, 45, 46, 47, 48, 49, 50, 51, 52, 53, 54, 55, 56] hz hs gx trivial rfl
  have cw : ∀ j, j < 175 → h_346.2.1 q_34 j = P_words j := fun j hj => ((hs.a gq_34 rfl j).1).trans (cw j hj)
  have cz : (∀ j, h_346.2.1 q_345 j = 0) ∧ ∀ j, h_346.2.2 q_345 j = none := ⟨fun j => ((hs.a gq_345 rfl j).1).trans (cz.1 j), fun j => ((hs.a gq_345 rfl j).2).trans (cz.2 j)⟩
  have f_211 := (hs.o gx trivial rfl).2.trans f_211
  have hM := hM.tr (hs.mono ?o22)
  case o22 => decide
  have gx := gx.S hs
  have gq_34 := gq_34.S hs
  have gq_345 := gq_345.S hs
  have f_347 : h_346.2.2 x 56 = (some q_345) := ?o23
  case o23 =>
    rw [eh_346]
    exact hx_pr_at _ _ _ _
  have hcon := hx_con.add (tb := T_tb) hcon true f_347 gq_345 (fun _ => cz)
  refine lv_aload_n hx hb dX10_init_1396 rfl (lv_at hl 0 rfl) ?_
  refine lv_bipush (v := 100) hx hb dX10_init_1397 ?o24 ?_
  case o24 => decide
  refine hk_newa hx hb hts hW 92 tt_92 (atype := .int) rfl kw_186 (tys := P_ty dA) (t0 := 0) rfl (fun _ => Iff.rfl) rfl (i := (100 : Int32)) ?o25 (Nat.le_of_ble_eq_true rfl) (Nat.le_of_ble_eq_true rfl) (Nat.le_of_ble_eq_true rfl) dX10_init_1399 (fun q_349 H h_348 eh_348 hqq_349 hW hs gq_349 => ?_)
  case o25 => decide
  have hT : hx_T T_tb ((((L1 ++ [q_337]) ++ [q_341]) ++ [q_345]) ++ [q_349]) h_348 := ?o26
  case o26 =>
    rw [eh_348]
    exact hx_T_nw hT hqq_349 tt_92 rfl
  have hcon := hcon.S hs trivial rfl
  have hz := hx_zr [2, 3, 4, 5, 6, 12, 15, 17, 19, 21, 22, 23, 24, 25, 26, 27, 28, 30, 31, 32, 33, 34, 35, 37, 38, 39, 40, 41, 42, 43, 44, 45, 46, 47, 48, 49, 50, 51, 52, 53, 54, 55, 56] hz hs gx trivial rfl
  have cw : ∀ j, j < 175 → h_348.2.1 q_34 j = P_words j := fun j hj => ((hs.a gq_34 rfl j).1).trans (cw j hj)
  have f_211 := (hs.o gx trivial rfl).2.trans f_211
  have hM := hM.tr (hs.mono ?o27)
  case o27 => decide
  have gx := gx.S hs
  have gq_34 := gq_34.S hs
  refine hx_putrF hx hb hts hC_10 hown hW hT (hx_S.rf (M := [(126, 58)])) gx tt_126 58 ?o28 rfl kw_1201 ⟨rfl, rfl, rfl⟩ rfl hin rfl (x := (some q_349)) ⟨fun _ z => (by cases z), fun q hq => (by cases hq; exact ⟨gq_349.1, by rw [gq_349.2]; decide⟩)⟩ rfl rfl rfl (List.mem_singleton.mpr rfl) dX10_init_1401 (fun H locs h_350 eh_350 hW hT hs => ?_)
  case o28 => decide
  have hcon := hcon.S hs trivial rfl
  have hz := hx_zr [2, 3, 4, 5, 6, 12, 15, 17, 19, 21, 22, 23, 24, 25, 26, 27, 28, 30, 31, 32, 33, 34, 35, 37, 38, 39, 40, 41, 42, 43, 44, 45, 46, 47, 48, 49, 50, 51, 52, 53, 54, 55, 56, 58] hz hs gx trivial rfl
  have cw : ∀ j, j < 175 → h_350.2.1 q_34 j = P_words j := fun j hj => ((hs.a gq_34 rfl j).1).trans (cw j hj)
  have f_211 := (hs.o gx trivial rfl).2.trans f_211
  have hM := hM.tr (hs.mono ?o29)
  case o29 => decide
  have gx := gx.S hs
  have gq_34 := gq_34.S hs
  have gq_349 := gq_349.S hs
  have f_351 : h_350.2.2 x 58 = (some q_349) := ?o30
  case o30 =>
    rw [eh_350]
    exact hx_pr_at _ _ _ _
  have hcon := hx_con.add (tb := T_tb) hcon false f_351 gq_349 (fun z => by cases z)
  refine lv_aload_n hx hb dX10_init_1404 rfl (lv_at hl 0 rfl) ?_
  refine lv_sipush (v := 600) hx hb dX10_init_1405 ?o31 ?_
  case o31 => decide
  refine hk_newa hx hb hts hW 93 tt_93 (atype := .int) rfl kw_186 (tys := P_ty dA) (t0 := 0) rfl (fun _ => Iff.rfl) rfl (i := (600 : Int32)) ?o32 (Nat.le_of_ble_eq_true rfl) (Nat.le_of_ble_eq_true rfl) (Nat.le_of_ble_eq_true rfl) dX10_init_1408 (fun q_353 H h_352 eh_352 hqq_353 hW hs gq_353 => ?_)
  case o32 => decide
  have hT : hx_T T_tb (((((L1 ++ [q_337]) ++ [q_341]) ++ [q_345]) ++ [q_349]) ++ [q_353]) h_352 := ?o33
  case o33 =>
    rw [eh_352]
    exact hx_T_nw hT hqq_353 tt_93 rfl
  have hcon := hcon.S hs trivial rfl
  have hz := hx_zr [2, 3, 4, 5, 6, 12, 15, 17, 19, 21, 22, 23, 24, 25, 26, 27, 28, 30, 31, 32, 33, 34, 35, 37, 38, 39, 40, 41, 42, 43, 44, 45, 46, 47, 48, 49, 50, 51, 52, 53, 54, 55, 56, 58] hz hs gx trivial rfl
  have cw : ∀ j, j < 175 → h_352.2.1 q_34 j = P_words j := fun j hj => ((hs.a gq_34 rfl j).1).trans (cw j hj)
  have f_211 := (hs.o gx trivial rfl).2.trans f_211
  have hM := hM.tr (hs.mono ?o34)
  case o34 => decide
  have gx := gx.S hs
  have gq_34 := gq_34.S hs
  have cz : (∀ j, h_352.2.1 q_353 j = 0) ∧ ∀ j, h_352.2.2 q_353 j = none := ?o35
  case o35 =>
    rw [eh_352]
    exact ⟨fun _ => hx_nw_i, fun _ => hx_nw_r⟩
  refine hx_putrF hx hb hts hC_10 hown hW hT (hx_S.rf (M := [(126, 60)])) gx tt_126 60 ?o36 rfl kw_1203 ⟨rfl, rfl, rfl⟩ rfl hin rfl (x := (some q_353)) ⟨fun _ z => (by cases z), fun q hq => (by cases hq; exact ⟨gq_353.1, by rw [gq_353.2]; decide⟩)⟩ rfl rfl rfl (List.mem_singleton.mpr rfl) dX10_init_1410 (fun H locs h_354 eh_354 hW hT hs => ?_)
  case o36 => decide
  have hcon := hcon.S hs trivial rfl
  have hz := hx_zr [2, 3, 4, 5, 6, 12, 15, 17, 19, 21, 22, 23, 24, 25, 26, 27, 28, 30, 31, 32, 33, 34, 35, 37, 38, 39, 40, 41, 42, 43, 44, 45, 46, 47, 48, 49, 50, 51, 52, 53, 54, 55, 56, 58, 60] hz hs gx trivial rfl
  have cw : ∀ j, j < 175 → h_354.2.1 q_34 j = P_words j := fun j hj => ((hs.a gq_34 rfl j).1).trans (cw j hj)
  have cz : (∀ j, h_354.2.1 q_353 j = 0) ∧ ∀ j, h_354.2.2 q_353 j = none := ⟨fun j => ((hs.a gq_353 rfl j).1).trans (cz.1 j), fun j => ((hs.a gq_353 rfl j).2).trans (cz.2 j)⟩
  have f_211 := (hs.o gx trivial rfl).2.trans f_211
  have hM := hM.tr (hs.mono ?o37)
  case o37 => decide
  have gx := gx.S hs
  have gq_34 := gq_34.S hs
  have gq_353 := gq_353.S hs
  have f_355 : h_354.2.2 x 60 = (some q_353) := ?o38
  case o38 =>
    rw [eh_354]
    exact hx_pr_at _ _ _ _
  have hcon := hx_con.add (tb := T_tb) hcon true f_355 gq_353 (fun _ => cz)
  refine lv_aload_n hx hb dX10_init_1413 rfl (lv_at hl 0 rfl) ?_
  refine lv_sipush (v := 600) hx hb dX10_init_1414 ?o39 ?_
  case o39 => decide
  refine hk_newa hx hb hts hW 94 tt_94 (atype := .int) rfl kw_186 (tys := P_ty dA) (t0 := 0) rfl (fun _ => Iff.rfl) rfl (i := (600 : Int32)) ?o40 (Nat.le_of_ble_eq_true rfl) (Nat.le_of_ble_eq_true rfl) (Nat.le_of_ble_eq_true rfl) dX10_init_1417 (fun q_357 H h_356 eh_356 hqq_357 hW hs gq_357 => ?_)
  case o40 => decide
  have hT : hx_T T_tb ((((((L1 ++ [q_337]) ++ [q_341]) ++ [q_345]) ++ [q_349]) ++ [q_353]) ++ [q_357]) h_356 := ?o41
  case o41 =>
    rw [eh_356]
    exact hx_T_nw hT hqq_357 tt_94 rfl
  have hcon := hcon.S hs trivial rfl
  have hz := hx_zr [2, 3, 4, 5, 6, 12, 15, 17, 19, 21, 22, 23, 24, 25, 26, 27, 28, 30, 31, 32, 33, 34, 35, 37, 38, 39, 40, 41, 42, 43, 44, 45, 46, 47, 48, 49, 50, 51, 52, 53, 54, 55, 56, 58, 60] hz hs gx trivial rfl
  have cw : ∀ j, j < 175 → h_356.2.1 q_34 j = P_words j := fun j hj => ((hs.a gq_34 rfl j).1).trans (cw j hj)
  have f_211 := (hs.o gx trivial rfl).2.trans f_211
  have hM := hM.tr (hs.mono ?o42)
  case o42 => decide
  have gx := gx.S hs
  have gq_34 := gq_34.S hs
  have cz : (∀ j, h_356.2.1 q_357 j = 0) ∧ ∀ j, h_356.2.2 q_357 j = none := ?o43
  case o43 =>
    rw [eh_356]
    exact ⟨fun _ => hx_nw_i, fun _ => hx_nw_r⟩
  refine hx_putrF hx hb hts hC_10 hown hW hT (hx_S.rf (M := [(126, 61)])) gx tt_126 61 ?o44 rfl kw_1204 ⟨rfl, rfl, rfl⟩ rfl hin rfl (x := (some q_357)) ⟨fun _ z => (by cases z), fun q hq => (by cases hq; exact ⟨gq_357.1, by rw [gq_357.2]; decide⟩)⟩ rfl rfl rfl (List.mem_singleton.mpr rfl) dX10_init_1419 (fun H locs h_358 eh_358 hW hT hs => ?_)
  case o44 => decide
  have hcon := hcon.S hs trivial rfl
  have hz := hx_zr [2, 3, 4, 5, 6, 12, 15, 17, 19, 21, 22, 23, 24, 25, 26, 27, 28, 30, 31, 32, 33, 34, 35, 37, 38, 39, 40, 41, 42, 43, 44, 45, 46, 47, 48, 49, 50, 51, 52, 53, 54, 55, 56, 58, 60, 61] hz hs gx trivial rfl
  have cw : ∀ j, j < 175 → h_358.2.1 q_34 j = P_words j := fun j hj => ((hs.a gq_34 rfl j).1).trans (cw j hj)
  have cz : (∀ j, h_358.2.1 q_357 j = 0) ∧ ∀ j, h_358.2.2 q_357 j = none := ⟨fun j => ((hs.a gq_357 rfl j).1).trans (cz.1 j), fun j => ((hs.a gq_357 rfl j).2).trans (cz.2 j)⟩
  have f_211 := (hs.o gx trivial rfl).2.trans f_211
  have hM := hM.tr (hs.mono ?o45)
  case o45 => decide
  have gx := gx.S hs
  have gq_34 := gq_34.S hs
  have gq_357 := gq_357.S hs
  have f_359 : h_358.2.2 x 61 = (some q_357) := ?o46
  case o46 =>
    rw [eh_358]
    exact hx_pr_at _ _ _ _
  have hcon := hx_con.add (tb := T_tb) hcon true f_359 gq_357 (fun _ => cz)
  refine lv_aload_n hx hb dX10_init_1422 rfl (lv_at hl 0 rfl) ?_
  refine lv_sipush (v := 600) hx hb dX10_init_1423 ?o47 ?_
  case o47 => decide
  refine hk_newa hx hb hts hW 95 tt_95 (atype := .int) rfl kw_186 (tys := P_ty dA) (t0 := 0) rfl (fun _ => Iff.rfl) rfl (i := (600 : Int32)) ?o48 (Nat.le_of_ble_eq_true rfl) (Nat.le_of_ble_eq_true rfl) (Nat.le_of_ble_eq_true rfl) dX10_init_1426 (fun q_361 H h_360 eh_360 hqq_361 hW hs gq_361 => ?_)
  case o48 => decide
  have hT : hx_T T_tb (((((((L1 ++ [q_337]) ++ [q_341]) ++ [q_345]) ++ [q_349]) ++ [q_353]) ++ [q_357]) ++ [q_361]) h_360 := ?o49
  case o49 =>
    rw [eh_360]
    exact hx_T_nw hT hqq_361 tt_95 rfl
  have hcon := hcon.S hs trivial rfl
  have hz := hx_zr [2, 3, 4, 5, 6, 12, 15, 17, 19, 21, 22, 23, 24, 25, 26, 27, 28, 30, 31, 32, 33, 34, 35, 37, 38, 39, 40, 41, 42, 43, 44, 45, 46, 47, 48, 49, 50, 51, 52, 53, 54, 55, 56, 58, 60, 61] hz hs gx trivial rfl
  have cw : ∀ j, j < 175 → h_360.2.1 q_34 j = P_words j := fun j hj => ((hs.a gq_34 rfl j).1).trans (cw j hj)
  have f_211 := (hs.o gx trivial rfl).2.trans f_211
  have hM := hM.tr (hs.mono ?o50)
  case o50 => decide
  have gx := gx.S hs
  have gq_34 := gq_34.S hs
  have cz : (∀ j, h_360.2.1 q_361 j = 0) ∧ ∀ j, h_360.2.2 q_361 j = none := ?o51
  case o51 =>
    rw [eh_360]
    exact ⟨fun _ => hx_nw_i, fun _ => hx_nw_r⟩
  refine hx_putrF hx hb hts hC_10 hown hW hT (hx_S.rf (M := [(126, 62)])) gx tt_126 62 ?o52 rfl kw_1205 ⟨rfl, rfl, rfl⟩ rfl hin rfl (x := (some q_361)) ⟨fun _ z => (by cases z), fun q hq => (by cases hq; exact ⟨gq_361.1, by rw [gq_361.2]; decide⟩)⟩ rfl rfl rfl (List.mem_singleton.mpr rfl) dX10_init_1428 (fun H locs h_362 eh_362 hW hT hs => ?_)
  case o52 => decide
  have hcon := hcon.S hs trivial rfl
  have hz := hx_zr [2, 3, 4, 5, 6, 12, 15, 17, 19, 21, 22, 23, 24, 25, 26, 27, 28, 30, 31, 32, 33, 34, 35, 37, 38, 39, 40, 41, 42, 43, 44, 45, 46, 47, 48, 49, 50, 51, 52, 53, 54, 55, 56, 58, 60, 61, 62] hz hs gx trivial rfl
  have cw : ∀ j, j < 175 → h_362.2.1 q_34 j = P_words j := fun j hj => ((hs.a gq_34 rfl j).1).trans (cw j hj)
  have cz : (∀ j, h_362.2.1 q_361 j = 0) ∧ ∀ j, h_362.2.2 q_361 j = none := ⟨fun j => ((hs.a gq_361 rfl j).1).trans (cz.1 j), fun j => ((hs.a gq_361 rfl j).2).trans (cz.2 j)⟩
  have f_211 := (hs.o gx trivial rfl).2.trans f_211
  have hM := hM.tr (hs.mono ?o53)
  case o53 => decide
  have gx := gx.S hs
  have gq_34 := gq_34.S hs
  have gq_361 := gq_361.S hs
  have f_363 : h_362.2.2 x 62 = (some q_361) := ?o54
  case o54 =>
    rw [eh_362]
    exact hx_pr_at _ _ _ _
  have hcon := hx_con.add (tb := T_tb) hcon true f_363 gq_361 (fun _ => cz)
  refine lv_aload_n hx hb dX10_init_1431 rfl (lv_at hl 0 rfl) ?_
  refine lv_sipush (v := 600) hx hb dX10_init_1432 ?o55 ?_
  case o55 => decide
  refine hk_newa hx hb hts hW 96 tt_96 (atype := .int) rfl kw_186 (tys := P_ty dA) (t0 := 0) rfl (fun _ => Iff.rfl) rfl (i := (600 : Int32)) ?o56 (Nat.le_of_ble_eq_true rfl) (Nat.le_of_ble_eq_true rfl) (Nat.le_of_ble_eq_true rfl) dX10_init_1435 (fun q_365 H h_364 eh_364 hqq_365 hW hs gq_365 => ?_)
  case o56 => decide
  have hT : hx_T T_tb ((((((((L1 ++ [q_337]) ++ [q_341]) ++ [q_345]) ++ [q_349]) ++ [q_353]) ++ [q_357]) ++ [q_361]) ++ [q_365]) h_364 := ?o57
  case o57 =>
    rw [eh_364]
    exact hx_T_nw hT hqq_365 tt_96 rfl
  have hcon := hcon.S hs trivial rfl
  have hz := hx_zr [2, 3, 4, 5, 6, 12, 15, 17, 19, 21, 22, 23, 24, 25, 26, 27, 28, 30, 31, 32, 33, 34, 35, 37, 38, 39, 40, 41, 42, 43, 44, 45, 46, 47, 48, 49, 50, 51, 52, 53, 54, 55, 56, 58, 60, 61, 62] hz hs gx trivial rfl
  have cw : ∀ j, j < 175 → h_364.2.1 q_34 j = P_words j := fun j hj => ((hs.a gq_34 rfl j).1).trans (cw j hj)
  have f_211 := (hs.o gx trivial rfl).2.trans f_211
  have hM := hM.tr (hs.mono ?o58)
  case o58 => decide
  have gx := gx.S hs
  have gq_34 := gq_34.S hs
  have cz : (∀ j, h_364.2.1 q_365 j = 0) ∧ ∀ j, h_364.2.2 q_365 j = none := ?o59
  case o59 =>
    rw [eh_364]
    exact ⟨fun _ => hx_nw_i, fun _ => hx_nw_r⟩
  refine hx_putrF hx hb hts hC_10 hown hW hT (hx_S.rf (M := [(126, 63)])) gx tt_126 63 ?o60 rfl kw_1206 ⟨rfl, rfl, rfl⟩ rfl hin rfl (x := (some q_365)) ⟨fun _ z => (by cases z), fun q hq => (by cases hq; exact ⟨gq_365.1, by rw [gq_365.2]; decide⟩)⟩ rfl rfl rfl (List.mem_singleton.mpr rfl) dX10_init_1437 (fun H locs h_366 eh_366 hW hT hs => ?_)
  case o60 => decide
  have hcon := hcon.S hs trivial rfl
  have hz := hx_zr [2, 3, 4, 5, 6, 12, 15, 17, 19, 21, 22, 23, 24, 25, 26, 27, 28, 30, 31, 32, 33, 34, 35, 37, 38, 39, 40, 41, 42, 43, 44, 45, 46, 47, 48, 49, 50, 51, 52, 53, 54, 55, 56, 58, 60, 61, 62, 63] hz hs gx trivial rfl
  have cw : ∀ j, j < 175 → h_366.2.1 q_34 j = P_words j := fun j hj => ((hs.a gq_34 rfl j).1).trans (cw j hj)
  have cz : (∀ j, h_366.2.1 q_365 j = 0) ∧ ∀ j, h_366.2.2 q_365 j = none := ⟨fun j => ((hs.a gq_365 rfl j).1).trans (cz.1 j), fun j => ((hs.a gq_365 rfl j).2).trans (cz.2 j)⟩
  have f_211 := (hs.o gx trivial rfl).2.trans f_211
  have hM := hM.tr (hs.mono ?o61)
  case o61 => decide
  have gx := gx.S hs
  have gq_34 := gq_34.S hs
  have gq_365 := gq_365.S hs
  have f_367 : h_366.2.2 x 63 = (some q_365) := ?o62
  case o62 =>
    rw [eh_366]
    exact hx_pr_at _ _ _ _
  have hcon := hx_con.add (tb := T_tb) hcon true f_367 gq_365 (fun _ => cz)
  refine lv_aload_n hx hb dX10_init_1440 rfl (lv_at hl 0 rfl) ?_
  refine lv_sipush (v := 600) hx hb dX10_init_1441 ?o63 ?_
  case o63 => decide
  refine hk_newa hx hb hts hW 97 tt_97 (atype := .int) rfl kw_186 (tys := P_ty dA) (t0 := 0) rfl (fun _ => Iff.rfl) rfl (i := (600 : Int32)) ?o64 (Nat.le_of_ble_eq_true rfl) (Nat.le_of_ble_eq_true rfl) (Nat.le_of_ble_eq_true rfl) dX10_init_1444 (fun q_369 H h_368 eh_368 hqq_369 hW hs gq_369 => ?_)
  case o64 => decide
  have hT : hx_T T_tb (((((((((L1 ++ [q_337]) ++ [q_341]) ++ [q_345]) ++ [q_349]) ++ [q_353]) ++ [q_357]) ++ [q_361]) ++ [q_365]) ++ [q_369]) h_368 := ?o65
  case o65 =>
    rw [eh_368]
    exact hx_T_nw hT hqq_369 tt_97 rfl
  have hcon := hcon.S hs trivial rfl
  have hz := hx_zr [2, 3, 4, 5, 6, 12, 15, 17, 19, 21, 22, 23, 24, 25, 26, 27, 28, 30, 31, 32, 33, 34, 35, 37, 38, 39, 40, 41, 42, 43, 44, 45, 46, 47, 48, 49, 50, 51, 52, 53, 54, 55, 56, 58, 60, 61, 62, 63] hz hs gx trivial rfl
  have cw : ∀ j, j < 175 → h_368.2.1 q_34 j = P_words j := fun j hj => ((hs.a gq_34 rfl j).1).trans (cw j hj)
  have f_211 := (hs.o gx trivial rfl).2.trans f_211
  have hM := hM.tr (hs.mono ?o66)
  case o66 => decide
  have gx := gx.S hs
  have gq_34 := gq_34.S hs
  have cz : (∀ j, h_368.2.1 q_369 j = 0) ∧ ∀ j, h_368.2.2 q_369 j = none := ?o67
  case o67 =>
    rw [eh_368]
    exact ⟨fun _ => hx_nw_i, fun _ => hx_nw_r⟩
  refine hx_putrF hx hb hts hC_10 hown hW hT (hx_S.rf (M := [(126, 64)])) gx tt_126 64 ?o68 rfl kw_1207 ⟨rfl, rfl, rfl⟩ rfl hin rfl (x := (some q_369)) ⟨fun _ z => (by cases z), fun q hq => (by cases hq; exact ⟨gq_369.1, by rw [gq_369.2]; decide⟩)⟩ rfl rfl rfl (List.mem_singleton.mpr rfl) dX10_init_1446 (fun H locs h_370 eh_370 hW hT hs => ?_)
  case o68 => decide
  have hcon := hcon.S hs trivial rfl
  have hz := hx_zr [2, 3, 4, 5, 6, 12, 15, 17, 19, 21, 22, 23, 24, 25, 26, 27, 28, 30, 31, 32, 33, 34, 35, 37, 38, 39, 40, 41, 42, 43, 44, 45, 46, 47, 48, 49, 50, 51, 52, 53, 54, 55, 56, 58, 60, 61, 62, 63, 64] hz hs gx trivial rfl
  have cw : ∀ j, j < 175 → h_370.2.1 q_34 j = P_words j := fun j hj => ((hs.a gq_34 rfl j).1).trans (cw j hj)
  have cz : (∀ j, h_370.2.1 q_369 j = 0) ∧ ∀ j, h_370.2.2 q_369 j = none := ⟨fun j => ((hs.a gq_369 rfl j).1).trans (cz.1 j), fun j => ((hs.a gq_369 rfl j).2).trans (cz.2 j)⟩
  have f_211 := (hs.o gx trivial rfl).2.trans f_211
  have hM := hM.tr (hs.mono ?o69)
  case o69 => decide
  have gx := gx.S hs
  have gq_34 := gq_34.S hs
  have gq_369 := gq_369.S hs
  have f_371 : h_370.2.2 x 64 = (some q_369) := ?o70
  case o70 =>
    rw [eh_370]
    exact hx_pr_at _ _ _ _
  have hcon := hx_con.add (tb := T_tb) hcon true f_371 gq_369 (fun _ => cz)
  exact si_13 l dC dI dA L h sz b0 x q_34 hx hb hml hr hlk hts hown hin hsz hZ (((((((((L1 ++ [q_337]) ++ [q_341]) ++ [q_345]) ++ [q_349]) ++ [q_353]) ++ [q_357]) ++ [q_361]) ++ [q_365]) ++ [q_369]) h_370 _ _ ls hW hT hM gx hcon hz gq_34 f_211 cw hl

set_option maxHeartbeats 4000000 in
set_option maxRecDepth 100000 in
theorem si_11 (l : Launch) (dC : Nat → ClassId) (dI : Nat → Nat → Nat) (dA : Nat → ClassId) (L : List Nat) (h : hx_h) (sz : Nat) (b0 : hx_z) (x : Nat) (q_34 : Nat) {p : Program} {e : Env} {s : State} {m : MethodId} {below : List Frame} {meth : Method} {c : Code} (hx : p.tables.exec = Jvm.exec) (hb : c.code = cX10_init) (hml : c.maxLocals = 2) (hr : meth.sig.returnType = none) (hlk : meth.locks = false) (hts : ∀ w ∈ hx_all, w.before ([.ref x] : List Value).toArray s = true) (hown : s.vm.findClass "SmallCourtModel" = some m.cls) (hin : meth.name = "<init>") (hsz : s.heap.size = sz) (hZ : hx_Xt (hx_A L sz) b0 s) (L1 : List Nat) (hl1 : hx_h) (H : Heap) (locs : List Loc) (ls : Array Slot) (hW : hx_W T_tb (P_ty dA) (dC, dI) vwCl (hx_A L sz) s.heap L1 hl1 s H locs) (hT : hx_T T_tb L1 hl1) (hM : hx_S T_tb [(10, 14), (10, 16), (10, 18), (50, 0), (51, 0), (52, 0), (55, 0), (57, 0), (126, 2), (126, 3), (126, 4), (126, 5), (126, 6), (126, 12), (126, 15), (126, 17), (126, 19), (126, 21), (126, 22), (126, 23), (126, 24), (126, 25), (126, 26), (126, 27), (126, 28), (126, 30), (126, 31), (126, 32), (126, 33), (126, 34), (126, 35), (126, 37), (126, 38), (126, 39), (126, 40), (126, 41), (126, 42), (126, 43), (126, 44), (126, 45), (126, 46), (126, 47), (126, 48), (126, 49), (126, 50), (126, 51), (126, 52), (126, 53), (126, 54), (126, 55), (126, 56), (126, 58), (126, 60), (126, 61), (126, 62), (126, 63), (126, 64), (126, 65), (126, 66), (126, 73), (126, 74), (126, 76), (126, 77), (126, 78), (126, 79), (126, 80), (126, 81), (126, 82), (126, 85), (126, 88), (126, 89), (126, 91), (126, 93), (126, 94), (126, 97)] (hx_X L x) h L1 hl1) (gx : hx_g L1 hl1 x 126) (hcon : hx_con L1 hl1 x 126 [(44, 79, false), (43, 78, true), (42, 77, false), (41, 76, false), (40, 75, true), (39, 74, true), (38, 73, false), (37, 72, false), (35, 71, false), (34, 70, false), (33, 69, false), (32, 68, false), (31, 67, false), (30, 66, false), (28, 65, true), (27, 64, true), (26, 63, true), (25, 62, true), (24, 61, true), (23, 60, true), (22, 59, true), (21, 58, true), (17, 56, false), (15, 55, false), (12, 54, false), (6, 53, true), (5, 52, false), (4, 51, false), (3, 50, false), (2, 49, false)] []) (hz : ∀ j, [2, 3, 4, 5, 6, 12, 15, 17, 19, 21, 22, 23, 24, 25, 26, 27, 28, 30, 31, 32, 33, 34, 35, 37, 38, 39, 40, 41, 42, 43, 44].contains j = false → hl1.2.1 x j = 0 ∧ hl1.2.2 x j = none) (gq_34 : hx_g L1 hl1 q_34 57) (f_211 : hl1.2.2 x 19 = some q_34) (cw : ∀ j, j < 175 → hl1.2.1 q_34 j = P_words j) (hl : lv_has ls 2 [(0, .ref x)]) : W p l e ({ frames := 2, cells := 67, slots := 15340, locals := 42 }) s m ([.ref x] : List Value).toArray below meth c H locs 31 5651 (MQ below (va_Qv (fun (u : List Nat × hx_h) => hx_T T_tb u.1 u.2 ∧ hx_S T_tb [(10, 14), (10, 16), (10, 18), (50, 0), (51, 0), (52, 0), (55, 0), (57, 0), (126, 2), (126, 3), (126, 4), (126, 5), (126, 6), (126, 12), (126, 15), (126, 17), (126, 19), (126, 21), (126, 22), (126, 23), (126, 24), (126, 25), (126, 26), (126, 27), (126, 28), (126, 30), (126, 31), (126, 32), (126, 33), (126, 34), (126, 35), (126, 37), (126, 38), (126, 39), (126, 40), (126, 41), (126, 42), (126, 43), (126, 44), (126, 45), (126, 46), (126, 47), (126, 48), (126, 49), (126, 50), (126, 51), (126, 52), (126, 53), (126, 54), (126, 55), (126, 56), (126, 58), (126, 60), (126, 61), (126, 62), (126, 63), (126, 64), (126, 65), (126, 66), (126, 73), (126, 74), (126, 76), (126, 77), (126, 78), (126, 79), (126, 80), (126, 81), (126, 82), (126, 85), (126, 88), (126, 89), (126, 91), (126, 93), (126, 94), (126, 97)] (hx_X L x) h u.1 u.2 ∧ hx_g u.1 u.2 x 10 ∧ u.2.2.1 x 0 = 0 ∧ u.2.2.1 x 1 = 0 ∧ u.2.2.1 x 36 = 0 ∧ u.2.2.1 x 57 = 0 ∧ u.2.2.1 x 7 = 0 ∧ u.2.2.1 x 20 = 0 ∧ u.2.2.1 x 29 = 0 ∧ u.2.2.1 x 59 = 0 ∧ u.2.2.1 x 72 = 0 ∧ u.2.2.1 x 83 = 0 ∧ u.2.2.1 x 84 = 0 ∧ u.2.2.1 x 90 = 0 ∧ u.2.2.1 x 92 = 0 ∧ ∃ q_words q_rule q_proofSteps q_proof q_tries q_isDead q_isJudge q_found q_list q_judged q_weekly q_owed q_doorX q_doorY q_tape q_born q_kin q_sum q_filed q_owedFrom q_heard q_ordered q_goods q_seized q_served q_earns q_heads q_payOf q_payDay q_paySum q_payKnown q_payStruck q_actDay : Nat, u.2.2.2 x 19 = some q_words ∧ hx_g u.1 u.2 q_words 57 ∧ u.2.2.2 x 3 = some q_rule ∧ hx_g u.1 u.2 q_rule 50 ∧ u.2.2.2 x 4 = some q_proofSteps ∧ hx_g u.1 u.2 q_proofSteps 51 ∧ u.2.2.2 x 5 = some q_proof ∧ hx_g u.1 u.2 q_proof 52 ∧ u.2.2.2 x 45 = some q_tries ∧ hx_g u.1 u.2 q_tries 80 ∧ u.2.2.2 x 27 = some q_isDead ∧ hx_g u.1 u.2 q_isDead 64 ∧ u.2.2.2 x 28 = some q_isJudge ∧ hx_g u.1 u.2 q_isJudge 65 ∧ u.2.2.2 x 46 = some q_found ∧ hx_g u.1 u.2 q_found 81 ∧ u.2.2.2 x 91 = some q_list ∧ hx_g u.1 u.2 q_list 112 ∧ u.2.2.2 x 51 = some q_judged ∧ hx_g u.1 u.2 q_judged 86 ∧ u.2.2.2 x 54 = some q_weekly ∧ hx_g u.1 u.2 q_weekly 89 ∧ u.2.2.2 x 55 = some q_owed ∧ hx_g u.1 u.2 q_owed 90 ∧ u.2.2.2 x 24 = some q_doorX ∧ hx_g u.1 u.2 q_doorX 61 ∧ u.2.2.2 x 25 = some q_doorY ∧ hx_g u.1 u.2 q_doorY 62 ∧ u.2.2.2 x 6 = some q_tape ∧ hx_g u.1 u.2 q_tape 53 ∧ u.2.2.2 x 21 = some q_born ∧ hx_g u.1 u.2 q_born 58 ∧ u.2.2.2 x 26 = some q_kin ∧ hx_g u.1 u.2 q_kin 63 ∧ u.2.2.2 x 39 = some q_sum ∧ hx_g u.1 u.2 q_sum 74 ∧ u.2.2.2 x 43 = some q_filed ∧ hx_g u.1 u.2 q_filed 78 ∧ u.2.2.2 x 40 = some q_owedFrom ∧ hx_g u.1 u.2 q_owedFrom 75 ∧ u.2.2.2 x 47 = some q_heard ∧ hx_g u.1 u.2 q_heard 82 ∧ u.2.2.2 x 48 = some q_ordered ∧ hx_g u.1 u.2 q_ordered 83 ∧ u.2.2.2 x 56 = some q_goods ∧ hx_g u.1 u.2 q_goods 91 ∧ u.2.2.2 x 49 = some q_seized ∧ hx_g u.1 u.2 q_seized 84 ∧ u.2.2.2 x 50 = some q_served ∧ hx_g u.1 u.2 q_served 85 ∧ u.2.2.2 x 22 = some q_earns ∧ hx_g u.1 u.2 q_earns 59 ∧ u.2.2.2 x 23 = some q_heads ∧ hx_g u.1 u.2 q_heads 60 ∧ u.2.2.2 x 60 = some q_payOf ∧ hx_g u.1 u.2 q_payOf 93 ∧ u.2.2.2 x 61 = some q_payDay ∧ hx_g u.1 u.2 q_payDay 94 ∧ u.2.2.2 x 62 = some q_paySum ∧ hx_g u.1 u.2 q_paySum 95 ∧ u.2.2.2 x 63 = some q_payKnown ∧ hx_g u.1 u.2 q_payKnown 96 ∧ u.2.2.2 x 64 = some q_payStruck ∧ hx_g u.1 u.2 q_payStruck 97 ∧ u.2.2.2 x 2 = some q_actDay ∧ hx_g u.1 u.2 q_actDay 49 ∧ hx_wd (u.2.2.1 q_words) ∧ hx_WK (u.2.2.1 q_rule) 0 ∧ hx_RP (u.2.2.1 q_proof) (u.2.2.1 q_proofSteps) 0 ∧ (∀ j, u.2.2.1 q_tries j = 0) ∧ (∀ j, u.2.2.1 q_isDead j = 0) ∧ (∀ j, u.2.2.1 q_isJudge j = 0) ∧ (∀ j, u.2.2.1 q_found j = 0) ∧ (∀ j, u.2.2.1 q_list j = 0) ∧ (∀ j, u.2.2.1 q_judged j = 0) ∧ (∀ j, u.2.2.1 q_weekly j = 0) ∧ (∀ j, u.2.2.1 q_owed j = 0) ∧ (∀ j, u.2.2.1 q_doorX j = 0) ∧ (∀ j, u.2.2.1 q_doorY j = 0) ∧ (∀ j, u.2.2.1 q_tape j = 0) ∧ (∀ j, u.2.2.1 q_born j = 0) ∧ (∀ j, u.2.2.1 q_kin j = 0) ∧ (∀ j, u.2.2.1 q_sum j = 0) ∧ (∀ j, u.2.2.1 q_filed j = 0) ∧ (∀ j, u.2.2.1 q_owedFrom j = 0) ∧ (∀ j, u.2.2.1 q_heard j = 0) ∧ (∀ j, u.2.2.1 q_ordered j = 0) ∧ (∀ j, u.2.2.1 q_goods j = 0) ∧ (∀ j, u.2.2.1 q_seized j = 0) ∧ (∀ j, u.2.2.1 q_served j = 0) ∧ (∀ j, u.2.2.1 q_earns j = 0) ∧ (∀ j, u.2.2.1 q_heads j = 0) ∧ (∀ j, u.2.2.1 q_payOf j = 0) ∧ (∀ j, u.2.2.1 q_payDay j = 0) ∧ (∀ j, u.2.2.1 q_paySum j = 0) ∧ (∀ j, u.2.2.1 q_payKnown j = 0) ∧ (∀ j, u.2.2.1 q_payStruck j = 0) ∧ hv_CA (u.2.2.1 q_actDay) (u.2.2.1 q_rule) (u.2.2.1 q_proofSteps) (u.2.2.1 q_proof) 0 (fun _ => hv_A0)) (hx_E T_tb (P_ty dA) (dC, dI) vwCl (hx_A L sz)) (hx_A L sz)) ([.ref x] : List Value).toArray s 67 15340 (hx_A L sz)) (F0 m 1298 ls []) := by
  refine lv_aload_n hx hb dX10_init_1298 rfl (lv_at hl 0 rfl) ?_
  refine lv_bipush (v := 100) hx hb dX10_init_1299 ?o0 ?_
  case o0 => decide
  refine hk_newa hx hb hts hW 80 tt_80 (atype := .int) rfl kw_186 (tys := P_ty dA) (t0 := 0) rfl (fun _ => Iff.rfl) rfl (i := (100 : Int32)) ?o1 (Nat.le_of_ble_eq_true rfl) (Nat.le_of_ble_eq_true rfl) (Nat.le_of_ble_eq_true rfl) dX10_init_1301 (fun q_301 H h_300 eh_300 hqq_301 hW hs gq_301 => ?_)
  case o1 => decide
  have hT : hx_T T_tb (L1 ++ [q_301]) h_300 := ?o2
  case o2 =>
    rw [eh_300]
    exact hx_T_nw hT hqq_301 tt_80 rfl
  have hcon := hcon.S hs trivial rfl
  have hz := hx_zr [2, 3, 4, 5, 6, 12, 15, 17, 19, 21, 22, 23, 24, 25, 26, 27, 28, 30, 31, 32, 33, 34, 35, 37, 38, 39, 40, 41, 42, 43, 44] hz hs gx trivial rfl
  have cw : ∀ j, j < 175 → h_300.2.1 q_34 j = P_words j := fun j hj => ((hs.a gq_34 rfl j).1).trans (cw j hj)
  have f_211 := (hs.o gx trivial rfl).2.trans f_211
  have hM := hM.tr (hs.mono ?o3)
  case o3 => decide
  have gx := gx.S hs
  have gq_34 := gq_34.S hs
  have cz : (∀ j, h_300.2.1 q_301 j = 0) ∧ ∀ j, h_300.2.2 q_301 j = none := ?o4
  case o4 =>
    rw [eh_300]
    exact ⟨fun _ => hx_nw_i, fun _ => hx_nw_r⟩
  refine hx_putrF hx hb hts hC_10 hown hW hT (hx_S.rf (M := [(126, 45)])) gx tt_126 45 ?o5 rfl kw_1188 ⟨rfl, rfl, rfl⟩ rfl hin rfl (x := (some q_301)) ⟨fun _ z => (by cases z), fun q hq => (by cases hq; exact ⟨gq_301.1, by rw [gq_301.2]; decide⟩)⟩ rfl rfl rfl (List.mem_singleton.mpr rfl) dX10_init_1303 (fun H locs h_302 eh_302 hW hT hs => ?_)
  case o5 => decide
  have hcon := hcon.S hs trivial rfl
  have hz := hx_zr [2, 3, 4, 5, 6, 12, 15, 17, 19, 21, 22, 23, 24, 25, 26, 27, 28, 30, 31, 32, 33, 34, 35, 37, 38, 39, 40, 41, 42, 43, 44, 45] hz hs gx trivial rfl
  have cw : ∀ j, j < 175 → h_302.2.1 q_34 j = P_words j := fun j hj => ((hs.a gq_34 rfl j).1).trans (cw j hj)
  have cz : (∀ j, h_302.2.1 q_301 j = 0) ∧ ∀ j, h_302.2.2 q_301 j = none := ⟨fun j => ((hs.a gq_301 rfl j).1).trans (cz.1 j), fun j => ((hs.a gq_301 rfl j).2).trans (cz.2 j)⟩
  have f_211 := (hs.o gx trivial rfl).2.trans f_211
  have hM := hM.tr (hs.mono ?o6)
  case o6 => decide
  have gx := gx.S hs
  have gq_34 := gq_34.S hs
  have gq_301 := gq_301.S hs
  have f_303 : h_302.2.2 x 45 = (some q_301) := ?o7
  case o7 =>
    rw [eh_302]
    exact hx_pr_at _ _ _ _
  have hcon := hx_con.add (tb := T_tb) hcon true f_303 gq_301 (fun _ => cz)
  refine lv_aload_n hx hb dX10_init_1306 rfl (lv_at hl 0 rfl) ?_
  refine lv_bipush (v := 100) hx hb dX10_init_1307 ?o8 ?_
  case o8 => decide
  refine hk_newa hx hb hts hW 81 tt_81 (atype := .int) rfl kw_186 (tys := P_ty dA) (t0 := 0) rfl (fun _ => Iff.rfl) rfl (i := (100 : Int32)) ?o9 (Nat.le_of_ble_eq_true rfl) (Nat.le_of_ble_eq_true rfl) (Nat.le_of_ble_eq_true rfl) dX10_init_1309 (fun q_305 H h_304 eh_304 hqq_305 hW hs gq_305 => ?_)
  case o9 => decide
  have hT : hx_T T_tb ((L1 ++ [q_301]) ++ [q_305]) h_304 := ?o10
  case o10 =>
    rw [eh_304]
    exact hx_T_nw hT hqq_305 tt_81 rfl
  have hcon := hcon.S hs trivial rfl
  have hz := hx_zr [2, 3, 4, 5, 6, 12, 15, 17, 19, 21, 22, 23, 24, 25, 26, 27, 28, 30, 31, 32, 33, 34, 35, 37, 38, 39, 40, 41, 42, 43, 44, 45] hz hs gx trivial rfl
  have cw : ∀ j, j < 175 → h_304.2.1 q_34 j = P_words j := fun j hj => ((hs.a gq_34 rfl j).1).trans (cw j hj)
  have f_211 := (hs.o gx trivial rfl).2.trans f_211
  have hM := hM.tr (hs.mono ?o11)
  case o11 => decide
  have gx := gx.S hs
  have gq_34 := gq_34.S hs
  have cz : (∀ j, h_304.2.1 q_305 j = 0) ∧ ∀ j, h_304.2.2 q_305 j = none := ?o12
  case o12 =>
    rw [eh_304]
    exact ⟨fun _ => hx_nw_i, fun _ => hx_nw_r⟩
  refine hx_putrF hx hb hts hC_10 hown hW hT (hx_S.rf (M := [(126, 46)])) gx tt_126 46 ?o13 rfl kw_1189 ⟨rfl, rfl, rfl⟩ rfl hin rfl (x := (some q_305)) ⟨fun _ z => (by cases z), fun q hq => (by cases hq; exact ⟨gq_305.1, by rw [gq_305.2]; decide⟩)⟩ rfl rfl rfl (List.mem_singleton.mpr rfl) dX10_init_1311 (fun H locs h_306 eh_306 hW hT hs => ?_)
  case o13 => decide
  have hcon := hcon.S hs trivial rfl
  have hz := hx_zr [2, 3, 4, 5, 6, 12, 15, 17, 19, 21, 22, 23, 24, 25, 26, 27, 28, 30, 31, 32, 33, 34, 35, 37, 38, 39, 40, 41, 42, 43, 44, 45, 46] hz hs gx trivial rfl
  have cw : ∀ j, j < 175 → h_306.2.1 q_34 j = P_words j := fun j hj => ((hs.a gq_34 rfl j).1).trans (cw j hj)
  have cz : (∀ j, h_306.2.1 q_305 j = 0) ∧ ∀ j, h_306.2.2 q_305 j = none := ⟨fun j => ((hs.a gq_305 rfl j).1).trans (cz.1 j), fun j => ((hs.a gq_305 rfl j).2).trans (cz.2 j)⟩
  have f_211 := (hs.o gx trivial rfl).2.trans f_211
  have hM := hM.tr (hs.mono ?o14)
  case o14 => decide
  have gx := gx.S hs
  have gq_34 := gq_34.S hs
  have gq_305 := gq_305.S hs
  have f_307 : h_306.2.2 x 46 = (some q_305) := ?o15
  case o15 =>
    rw [eh_306]
    exact hx_pr_at _ _ _ _
  have hcon := hx_con.add (tb := T_tb) hcon true f_307 gq_305 (fun _ => cz)
  refine lv_aload_n hx hb dX10_init_1314 rfl (lv_at hl 0 rfl) ?_
  refine lv_bipush (v := 100) hx hb dX10_init_1315 ?o16 ?_
  case o16 => decide
  refine hk_newa hx hb hts hW 82 tt_82 (atype := .int) rfl kw_186 (tys := P_ty dA) (t0 := 0) rfl (fun _ => Iff.rfl) rfl (i := (100 : Int32)) ?o17 (Nat.le_of_ble_eq_true rfl) (Nat.le_of_ble_eq_true rfl) (Nat.le_of_ble_eq_true rfl) dX10_init_1317 (fun q_309 H h_308 eh_308 hqq_309 hW hs gq_309 => ?_)
  case o17 => decide
  have hT : hx_T T_tb (((L1 ++ [q_301]) ++ [q_305]) ++ [q_309]) h_308 := ?o18
  case o18 =>
    rw [eh_308]
    exact hx_T_nw hT hqq_309 tt_82 rfl
  have hcon := hcon.S hs trivial rfl
  have hz := hx_zr [2, 3, 4, 5, 6, 12, 15, 17, 19, 21, 22, 23, 24, 25, 26, 27, 28, 30, 31, 32, 33, 34, 35, 37, 38, 39, 40, 41, 42, 43, 44, 45, 46] hz hs gx trivial rfl
  have cw : ∀ j, j < 175 → h_308.2.1 q_34 j = P_words j := fun j hj => ((hs.a gq_34 rfl j).1).trans (cw j hj)
  have f_211 := (hs.o gx trivial rfl).2.trans f_211
  have hM := hM.tr (hs.mono ?o19)
  case o19 => decide
  have gx := gx.S hs
  have gq_34 := gq_34.S hs
  have cz : (∀ j, h_308.2.1 q_309 j = 0) ∧ ∀ j, h_308.2.2 q_309 j = none := ?o20
  case o20 =>
    rw [eh_308]
    exact ⟨fun _ => hx_nw_i, fun _ => hx_nw_r⟩
  refine hx_putrF hx hb hts hC_10 hown hW hT (hx_S.rf (M := [(126, 47)])) gx tt_126 47 ?o21 rfl kw_1190 ⟨rfl, rfl, rfl⟩ rfl hin rfl (x := (some q_309)) ⟨fun _ z => (by cases z), fun q hq => (by cases hq; exact ⟨gq_309.1, by rw [gq_309.2]; decide⟩)⟩ rfl rfl rfl (List.mem_singleton.mpr rfl) dX10_init_1319 (fun H locs h_310 eh_310 hW hT hs => ?_)
  case o21 => decide
  have hcon := hcon.S hs trivial rfl
  have hz := hx_zr [2, 3, 4, 5, 6, 12, 15, 17, 19, 21, 22, 23, 24, 25, 26, 27, 28, 30, 31, 32, 33, 34, 35, 37, 38, 39, 40, 41, 42, 43, 44, 45, 46, 47] hz hs gx trivial rfl
  have cw : ∀ j, j < 175 → h_310.2.1 q_34 j = P_words j := fun j hj => ((hs.a gq_34 rfl j).1).trans (cw j hj)
  have cz : (∀ j, h_310.2.1 q_309 j = 0) ∧ ∀ j, h_310.2.2 q_309 j = none := ⟨fun j => ((hs.a gq_309 rfl j).1).trans (cz.1 j), fun j => ((hs.a gq_309 rfl j).2).trans (cz.2 j)⟩
  have f_211 := (hs.o gx trivial rfl).2.trans f_211
  have hM := hM.tr (hs.mono ?o22)
  case o22 => decide
  have gx := gx.S hs
  have gq_34 := gq_34.S hs
  have gq_309 := gq_309.S hs
  have f_311 : h_310.2.2 x 47 = (some q_309) := ?o23
  case o23 =>
    rw [eh_310]
    exact hx_pr_at _ _ _ _
  have hcon := hx_con.add (tb := T_tb) hcon true f_311 gq_309 (fun _ => cz)
  refine lv_aload_n hx hb dX10_init_1322 rfl (lv_at hl 0 rfl) ?_
  refine lv_bipush (v := 100) hx hb dX10_init_1323 ?o24 ?_
  case o24 => decide
  refine hk_newa hx hb hts hW 83 tt_83 (atype := .int) rfl kw_186 (tys := P_ty dA) (t0 := 0) rfl (fun _ => Iff.rfl) rfl (i := (100 : Int32)) ?o25 (Nat.le_of_ble_eq_true rfl) (Nat.le_of_ble_eq_true rfl) (Nat.le_of_ble_eq_true rfl) dX10_init_1325 (fun q_313 H h_312 eh_312 hqq_313 hW hs gq_313 => ?_)
  case o25 => decide
  have hT : hx_T T_tb ((((L1 ++ [q_301]) ++ [q_305]) ++ [q_309]) ++ [q_313]) h_312 := ?o26
  case o26 =>
    rw [eh_312]
    exact hx_T_nw hT hqq_313 tt_83 rfl
  have hcon := hcon.S hs trivial rfl
  have hz := hx_zr [2, 3, 4, 5, 6, 12, 15, 17, 19, 21, 22, 23, 24, 25, 26, 27, 28, 30, 31, 32, 33, 34, 35, 37, 38, 39, 40, 41, 42, 43, 44, 45, 46, 47] hz hs gx trivial rfl
  have cw : ∀ j, j < 175 → h_312.2.1 q_34 j = P_words j := fun j hj => ((hs.a gq_34 rfl j).1).trans (cw j hj)
  have f_211 := (hs.o gx trivial rfl).2.trans f_211
  have hM := hM.tr (hs.mono ?o27)
  case o27 => decide
  have gx := gx.S hs
  have gq_34 := gq_34.S hs
  have cz : (∀ j, h_312.2.1 q_313 j = 0) ∧ ∀ j, h_312.2.2 q_313 j = none := ?o28
  case o28 =>
    rw [eh_312]
    exact ⟨fun _ => hx_nw_i, fun _ => hx_nw_r⟩
  refine hx_putrF hx hb hts hC_10 hown hW hT (hx_S.rf (M := [(126, 48)])) gx tt_126 48 ?o29 rfl kw_1191 ⟨rfl, rfl, rfl⟩ rfl hin rfl (x := (some q_313)) ⟨fun _ z => (by cases z), fun q hq => (by cases hq; exact ⟨gq_313.1, by rw [gq_313.2]; decide⟩)⟩ rfl rfl rfl (List.mem_singleton.mpr rfl) dX10_init_1327 (fun H locs h_314 eh_314 hW hT hs => ?_)
  case o29 => decide
  have hcon := hcon.S hs trivial rfl
  have hz := hx_zr [2, 3, 4, 5, 6, 12, 15, 17, 19, 21, 22, 23, 24, 25, 26, 27, 28, 30, 31, 32, 33, 34, 35, 37, 38, 39, 40, 41, 42, 43, 44, 45, 46, 47, 48] hz hs gx trivial rfl
  have cw : ∀ j, j < 175 → h_314.2.1 q_34 j = P_words j := fun j hj => ((hs.a gq_34 rfl j).1).trans (cw j hj)
  have cz : (∀ j, h_314.2.1 q_313 j = 0) ∧ ∀ j, h_314.2.2 q_313 j = none := ⟨fun j => ((hs.a gq_313 rfl j).1).trans (cz.1 j), fun j => ((hs.a gq_313 rfl j).2).trans (cz.2 j)⟩
  have f_211 := (hs.o gx trivial rfl).2.trans f_211
  have hM := hM.tr (hs.mono ?o30)
  case o30 => decide
  have gx := gx.S hs
  have gq_34 := gq_34.S hs
  have gq_313 := gq_313.S hs
  have f_315 : h_314.2.2 x 48 = (some q_313) := ?o31
  case o31 =>
    rw [eh_314]
    exact hx_pr_at _ _ _ _
  have hcon := hx_con.add (tb := T_tb) hcon true f_315 gq_313 (fun _ => cz)
  refine lv_aload_n hx hb dX10_init_1330 rfl (lv_at hl 0 rfl) ?_
  refine lv_bipush (v := 100) hx hb dX10_init_1331 ?o32 ?_
  case o32 => decide
  refine hk_newa hx hb hts hW 84 tt_84 (atype := .int) rfl kw_186 (tys := P_ty dA) (t0 := 0) rfl (fun _ => Iff.rfl) rfl (i := (100 : Int32)) ?o33 (Nat.le_of_ble_eq_true rfl) (Nat.le_of_ble_eq_true rfl) (Nat.le_of_ble_eq_true rfl) dX10_init_1333 (fun q_317 H h_316 eh_316 hqq_317 hW hs gq_317 => ?_)
  case o33 => decide
  have hT : hx_T T_tb (((((L1 ++ [q_301]) ++ [q_305]) ++ [q_309]) ++ [q_313]) ++ [q_317]) h_316 := ?o34
  case o34 =>
    rw [eh_316]
    exact hx_T_nw hT hqq_317 tt_84 rfl
  have hcon := hcon.S hs trivial rfl
  have hz := hx_zr [2, 3, 4, 5, 6, 12, 15, 17, 19, 21, 22, 23, 24, 25, 26, 27, 28, 30, 31, 32, 33, 34, 35, 37, 38, 39, 40, 41, 42, 43, 44, 45, 46, 47, 48] hz hs gx trivial rfl
  have cw : ∀ j, j < 175 → h_316.2.1 q_34 j = P_words j := fun j hj => ((hs.a gq_34 rfl j).1).trans (cw j hj)
  have f_211 := (hs.o gx trivial rfl).2.trans f_211
  have hM := hM.tr (hs.mono ?o35)
  case o35 => decide
  have gx := gx.S hs
  have gq_34 := gq_34.S hs
  have cz : (∀ j, h_316.2.1 q_317 j = 0) ∧ ∀ j, h_316.2.2 q_317 j = none := ?o36
  case o36 =>
    rw [eh_316]
    exact ⟨fun _ => hx_nw_i, fun _ => hx_nw_r⟩
  refine hx_putrF hx hb hts hC_10 hown hW hT (hx_S.rf (M := [(126, 49)])) gx tt_126 49 ?o37 rfl kw_1192 ⟨rfl, rfl, rfl⟩ rfl hin rfl (x := (some q_317)) ⟨fun _ z => (by cases z), fun q hq => (by cases hq; exact ⟨gq_317.1, by rw [gq_317.2]; decide⟩)⟩ rfl rfl rfl (List.mem_singleton.mpr rfl) dX10_init_1335 (fun H locs h_318 eh_318 hW hT hs => ?_)
  case o37 => decide
  have hcon := hcon.S hs trivial rfl
  have hz := hx_zr [2, 3, 4, 5, 6, 12, 15, 17, 19, 21, 22, 23, 24, 25, 26, 27, 28, 30, 31, 32, 33, 34, 35, 37, 38, 39, 40, 41, 42, 43, 44, 45, 46, 47, 48, 49] hz hs gx trivial rfl
  have cw : ∀ j, j < 175 → h_318.2.1 q_34 j = P_words j := fun j hj => ((hs.a gq_34 rfl j).1).trans (cw j hj)
  have cz : (∀ j, h_318.2.1 q_317 j = 0) ∧ ∀ j, h_318.2.2 q_317 j = none := ⟨fun j => ((hs.a gq_317 rfl j).1).trans (cz.1 j), fun j => ((hs.a gq_317 rfl j).2).trans (cz.2 j)⟩
  have f_211 := (hs.o gx trivial rfl).2.trans f_211
  have hM := hM.tr (hs.mono ?o38)
  case o38 => decide
  have gx := gx.S hs
  have gq_34 := gq_34.S hs
  have gq_317 := gq_317.S hs
  have f_319 : h_318.2.2 x 49 = (some q_317) := ?o39
  case o39 =>
    rw [eh_318]
    exact hx_pr_at _ _ _ _
  have hcon := hx_con.add (tb := T_tb) hcon true f_319 gq_317 (fun _ => cz)
  refine lv_aload_n hx hb dX10_init_1338 rfl (lv_at hl 0 rfl) ?_
  refine lv_bipush (v := 100) hx hb dX10_init_1339 ?o40 ?_
  case o40 => decide
  refine hk_newa hx hb hts hW 85 tt_85 (atype := .int) rfl kw_186 (tys := P_ty dA) (t0 := 0) rfl (fun _ => Iff.rfl) rfl (i := (100 : Int32)) ?o41 (Nat.le_of_ble_eq_true rfl) (Nat.le_of_ble_eq_true rfl) (Nat.le_of_ble_eq_true rfl) dX10_init_1341 (fun q_321 H h_320 eh_320 hqq_321 hW hs gq_321 => ?_)
  case o41 => decide
  have hT : hx_T T_tb ((((((L1 ++ [q_301]) ++ [q_305]) ++ [q_309]) ++ [q_313]) ++ [q_317]) ++ [q_321]) h_320 := ?o42
  case o42 =>
    rw [eh_320]
    exact hx_T_nw hT hqq_321 tt_85 rfl
  have hcon := hcon.S hs trivial rfl
  have hz := hx_zr [2, 3, 4, 5, 6, 12, 15, 17, 19, 21, 22, 23, 24, 25, 26, 27, 28, 30, 31, 32, 33, 34, 35, 37, 38, 39, 40, 41, 42, 43, 44, 45, 46, 47, 48, 49] hz hs gx trivial rfl
  have cw : ∀ j, j < 175 → h_320.2.1 q_34 j = P_words j := fun j hj => ((hs.a gq_34 rfl j).1).trans (cw j hj)
  have f_211 := (hs.o gx trivial rfl).2.trans f_211
  have hM := hM.tr (hs.mono ?o43)
  case o43 => decide
  have gx := gx.S hs
  have gq_34 := gq_34.S hs
  have cz : (∀ j, h_320.2.1 q_321 j = 0) ∧ ∀ j, h_320.2.2 q_321 j = none := ?o44
  case o44 =>
    rw [eh_320]
    exact ⟨fun _ => hx_nw_i, fun _ => hx_nw_r⟩
  refine hx_putrF hx hb hts hC_10 hown hW hT (hx_S.rf (M := [(126, 50)])) gx tt_126 50 ?o45 rfl kw_1193 ⟨rfl, rfl, rfl⟩ rfl hin rfl (x := (some q_321)) ⟨fun _ z => (by cases z), fun q hq => (by cases hq; exact ⟨gq_321.1, by rw [gq_321.2]; decide⟩)⟩ rfl rfl rfl (List.mem_singleton.mpr rfl) dX10_init_1343 (fun H locs h_322 eh_322 hW hT hs => ?_)
  case o45 => decide
  have hcon := hcon.S hs trivial rfl
  have hz := hx_zr [2, 3, 4, 5, 6, 12, 15, 17, 19, 21, 22, 23, 24, 25, 26, 27, 28, 30, 31, 32, 33, 34, 35, 37, 38, 39, 40, 41, 42, 43, 44, 45, 46, 47, 48, 49, 50] hz hs gx trivial rfl
  have cw : ∀ j, j < 175 → h_322.2.1 q_34 j = P_words j := fun j hj => ((hs.a gq_34 rfl j).1).trans (cw j hj)
  have cz : (∀ j, h_322.2.1 q_321 j = 0) ∧ ∀ j, h_322.2.2 q_321 j = none := ⟨fun j => ((hs.a gq_321 rfl j).1).trans (cz.1 j), fun j => ((hs.a gq_321 rfl j).2).trans (cz.2 j)⟩
  have f_211 := (hs.o gx trivial rfl).2.trans f_211
  have hM := hM.tr (hs.mono ?o46)
  case o46 => decide
  have gx := gx.S hs
  have gq_34 := gq_34.S hs
  have gq_321 := gq_321.S hs
  have f_323 : h_322.2.2 x 50 = (some q_321) := ?o47
  case o47 =>
    rw [eh_322]
    exact hx_pr_at _ _ _ _
  have hcon := hx_con.add (tb := T_tb) hcon true f_323 gq_321 (fun _ => cz)
  refine lv_aload_n hx hb dX10_init_1346 rfl (lv_at hl 0 rfl) ?_
  refine lv_bipush (v := 100) hx hb dX10_init_1347 ?o48 ?_
  case o48 => decide
  refine hk_newa hx hb hts hW 86 tt_86 (atype := .int) rfl kw_186 (tys := P_ty dA) (t0 := 0) rfl (fun _ => Iff.rfl) rfl (i := (100 : Int32)) ?o49 (Nat.le_of_ble_eq_true rfl) (Nat.le_of_ble_eq_true rfl) (Nat.le_of_ble_eq_true rfl) dX10_init_1349 (fun q_325 H h_324 eh_324 hqq_325 hW hs gq_325 => ?_)
  case o49 => decide
  have hT : hx_T T_tb (((((((L1 ++ [q_301]) ++ [q_305]) ++ [q_309]) ++ [q_313]) ++ [q_317]) ++ [q_321]) ++ [q_325]) h_324 := ?o50
  case o50 =>
    rw [eh_324]
    exact hx_T_nw hT hqq_325 tt_86 rfl
  have hcon := hcon.S hs trivial rfl
  have hz := hx_zr [2, 3, 4, 5, 6, 12, 15, 17, 19, 21, 22, 23, 24, 25, 26, 27, 28, 30, 31, 32, 33, 34, 35, 37, 38, 39, 40, 41, 42, 43, 44, 45, 46, 47, 48, 49, 50] hz hs gx trivial rfl
  have cw : ∀ j, j < 175 → h_324.2.1 q_34 j = P_words j := fun j hj => ((hs.a gq_34 rfl j).1).trans (cw j hj)
  have f_211 := (hs.o gx trivial rfl).2.trans f_211
  have hM := hM.tr (hs.mono ?o51)
  case o51 => decide
  have gx := gx.S hs
  have gq_34 := gq_34.S hs
  have cz : (∀ j, h_324.2.1 q_325 j = 0) ∧ ∀ j, h_324.2.2 q_325 j = none := ?o52
  case o52 =>
    rw [eh_324]
    exact ⟨fun _ => hx_nw_i, fun _ => hx_nw_r⟩
  refine hx_putrF hx hb hts hC_10 hown hW hT (hx_S.rf (M := [(126, 51)])) gx tt_126 51 ?o53 rfl kw_1194 ⟨rfl, rfl, rfl⟩ rfl hin rfl (x := (some q_325)) ⟨fun _ z => (by cases z), fun q hq => (by cases hq; exact ⟨gq_325.1, by rw [gq_325.2]; decide⟩)⟩ rfl rfl rfl (List.mem_singleton.mpr rfl) dX10_init_1351 (fun H locs h_326 eh_326 hW hT hs => ?_)
  case o53 => decide
  have hcon := hcon.S hs trivial rfl
  have hz := hx_zr [2, 3, 4, 5, 6, 12, 15, 17, 19, 21, 22, 23, 24, 25, 26, 27, 28, 30, 31, 32, 33, 34, 35, 37, 38, 39, 40, 41, 42, 43, 44, 45, 46, 47, 48, 49, 50, 51] hz hs gx trivial rfl
  have cw : ∀ j, j < 175 → h_326.2.1 q_34 j = P_words j := fun j hj => ((hs.a gq_34 rfl j).1).trans (cw j hj)
  have cz : (∀ j, h_326.2.1 q_325 j = 0) ∧ ∀ j, h_326.2.2 q_325 j = none := ⟨fun j => ((hs.a gq_325 rfl j).1).trans (cz.1 j), fun j => ((hs.a gq_325 rfl j).2).trans (cz.2 j)⟩
  have f_211 := (hs.o gx trivial rfl).2.trans f_211
  have hM := hM.tr (hs.mono ?o54)
  case o54 => decide
  have gx := gx.S hs
  have gq_34 := gq_34.S hs
  have gq_325 := gq_325.S hs
  have f_327 : h_326.2.2 x 51 = (some q_325) := ?o55
  case o55 =>
    rw [eh_326]
    exact hx_pr_at _ _ _ _
  have hcon := hx_con.add (tb := T_tb) hcon true f_327 gq_325 (fun _ => cz)
  refine lv_aload_n hx hb dX10_init_1354 rfl (lv_at hl 0 rfl) ?_
  refine lv_sipush (v := 300) hx hb dX10_init_1355 ?o56 ?_
  case o56 => decide
  refine hk_newa hx hb hts hW 87 tt_87 (atype := .int) rfl kw_186 (tys := P_ty dA) (t0 := 0) rfl (fun _ => Iff.rfl) rfl (i := (300 : Int32)) ?o57 (Nat.le_of_ble_eq_true rfl) (Nat.le_of_ble_eq_true rfl) (Nat.le_of_ble_eq_true rfl) dX10_init_1358 (fun q_329 H h_328 eh_328 hqq_329 hW hs gq_329 => ?_)
  case o57 => decide
  have hT : hx_T T_tb ((((((((L1 ++ [q_301]) ++ [q_305]) ++ [q_309]) ++ [q_313]) ++ [q_317]) ++ [q_321]) ++ [q_325]) ++ [q_329]) h_328 := ?o58
  case o58 =>
    rw [eh_328]
    exact hx_T_nw hT hqq_329 tt_87 rfl
  have hcon := hcon.S hs trivial rfl
  have hz := hx_zr [2, 3, 4, 5, 6, 12, 15, 17, 19, 21, 22, 23, 24, 25, 26, 27, 28, 30, 31, 32, 33, 34, 35, 37, 38, 39, 40, 41, 42, 43, 44, 45, 46, 47, 48, 49, 50, 51] hz hs gx trivial rfl
  have cw : ∀ j, j < 175 → h_328.2.1 q_34 j = P_words j := fun j hj => ((hs.a gq_34 rfl j).1).trans (cw j hj)
  have f_211 := (hs.o gx trivial rfl).2.trans f_211
  have hM := hM.tr (hs.mono ?o59)
  case o59 => decide
  have gx := gx.S hs
  have gq_34 := gq_34.S hs
  refine hx_putrF hx hb hts hC_10 hown hW hT (hx_S.rf (M := [(126, 52)])) gx tt_126 52 ?o60 rfl kw_1195 ⟨rfl, rfl, rfl⟩ rfl hin rfl (x := (some q_329)) ⟨fun _ z => (by cases z), fun q hq => (by cases hq; exact ⟨gq_329.1, by rw [gq_329.2]; decide⟩)⟩ rfl rfl rfl (List.mem_singleton.mpr rfl) dX10_init_1360 (fun H locs h_330 eh_330 hW hT hs => ?_)
  case o60 => decide
  have hcon := hcon.S hs trivial rfl
  have hz := hx_zr [2, 3, 4, 5, 6, 12, 15, 17, 19, 21, 22, 23, 24, 25, 26, 27, 28, 30, 31, 32, 33, 34, 35, 37, 38, 39, 40, 41, 42, 43, 44, 45, 46, 47, 48, 49, 50, 51, 52] hz hs gx trivial rfl
  have cw : ∀ j, j < 175 → h_330.2.1 q_34 j = P_words j := fun j hj => ((hs.a gq_34 rfl j).1).trans (cw j hj)
  have f_211 := (hs.o gx trivial rfl).2.trans f_211
  have hM := hM.tr (hs.mono ?o61)
  case o61 => decide
  have gx := gx.S hs
  have gq_34 := gq_34.S hs
  have gq_329 := gq_329.S hs
  have f_331 : h_330.2.2 x 52 = (some q_329) := ?o62
  case o62 =>
    rw [eh_330]
    exact hx_pr_at _ _ _ _
  have hcon := hx_con.add (tb := T_tb) hcon false f_331 gq_329 (fun z => by cases z)
  refine lv_aload_n hx hb dX10_init_1363 rfl (lv_at hl 0 rfl) ?_
  refine lv_sipush (v := 800) hx hb dX10_init_1364 ?o63 ?_
  case o63 => decide
  refine hk_newa hx hb hts hW 88 tt_88 (atype := .int) rfl kw_186 (tys := P_ty dA) (t0 := 0) rfl (fun _ => Iff.rfl) rfl (i := (800 : Int32)) ?o64 (Nat.le_of_ble_eq_true rfl) (Nat.le_of_ble_eq_true rfl) (Nat.le_of_ble_eq_true rfl) dX10_init_1367 (fun q_333 H h_332 eh_332 hqq_333 hW hs gq_333 => ?_)
  case o64 => decide
  have hT : hx_T T_tb (((((((((L1 ++ [q_301]) ++ [q_305]) ++ [q_309]) ++ [q_313]) ++ [q_317]) ++ [q_321]) ++ [q_325]) ++ [q_329]) ++ [q_333]) h_332 := ?o65
  case o65 =>
    rw [eh_332]
    exact hx_T_nw hT hqq_333 tt_88 rfl
  have hcon := hcon.S hs trivial rfl
  have hz := hx_zr [2, 3, 4, 5, 6, 12, 15, 17, 19, 21, 22, 23, 24, 25, 26, 27, 28, 30, 31, 32, 33, 34, 35, 37, 38, 39, 40, 41, 42, 43, 44, 45, 46, 47, 48, 49, 50, 51, 52] hz hs gx trivial rfl
  have cw : ∀ j, j < 175 → h_332.2.1 q_34 j = P_words j := fun j hj => ((hs.a gq_34 rfl j).1).trans (cw j hj)
  have f_211 := (hs.o gx trivial rfl).2.trans f_211
  have hM := hM.tr (hs.mono ?o66)
  case o66 => decide
  have gx := gx.S hs
  have gq_34 := gq_34.S hs
  refine hx_putrF hx hb hts hC_10 hown hW hT (hx_S.rf (M := [(126, 53)])) gx tt_126 53 ?o67 rfl kw_1196 ⟨rfl, rfl, rfl⟩ rfl hin rfl (x := (some q_333)) ⟨fun _ z => (by cases z), fun q hq => (by cases hq; exact ⟨gq_333.1, by rw [gq_333.2]; decide⟩)⟩ rfl rfl rfl (List.mem_singleton.mpr rfl) dX10_init_1369 (fun H locs h_334 eh_334 hW hT hs => ?_)
  case o67 => decide
  have hcon := hcon.S hs trivial rfl
  have hz := hx_zr [2, 3, 4, 5, 6, 12, 15, 17, 19, 21, 22, 23, 24, 25, 26, 27, 28, 30, 31, 32, 33, 34, 35, 37, 38, 39, 40, 41, 42, 43, 44, 45, 46, 47, 48, 49, 50, 51, 52, 53] hz hs gx trivial rfl
  have cw : ∀ j, j < 175 → h_334.2.1 q_34 j = P_words j := fun j hj => ((hs.a gq_34 rfl j).1).trans (cw j hj)
  have f_211 := (hs.o gx trivial rfl).2.trans f_211
  have hM := hM.tr (hs.mono ?o68)
  case o68 => decide
  have gx := gx.S hs
  have gq_34 := gq_34.S hs
  have gq_333 := gq_333.S hs
  have f_335 : h_334.2.2 x 53 = (some q_333) := ?o69
  case o69 =>
    rw [eh_334]
    exact hx_pr_at _ _ _ _
  have hcon := hx_con.add (tb := T_tb) hcon false f_335 gq_333 (fun z => by cases z)
  exact si_12 l dC dI dA L h sz b0 x q_34 hx hb hml hr hlk hts hown hin hsz hZ (((((((((L1 ++ [q_301]) ++ [q_305]) ++ [q_309]) ++ [q_313]) ++ [q_317]) ++ [q_321]) ++ [q_325]) ++ [q_329]) ++ [q_333]) h_334 _ _ ls hW hT hM gx hcon hz gq_34 f_211 cw hl

set_option maxHeartbeats 4000000 in
set_option maxRecDepth 100000 in
theorem si_10 (l : Launch) (dC : Nat → ClassId) (dI : Nat → Nat → Nat) (dA : Nat → ClassId) (L : List Nat) (h : hx_h) (sz : Nat) (b0 : hx_z) (x : Nat) (q_34 : Nat) {p : Program} {e : Env} {s : State} {m : MethodId} {below : List Frame} {meth : Method} {c : Code} (hx : p.tables.exec = Jvm.exec) (hb : c.code = cX10_init) (hml : c.maxLocals = 2) (hr : meth.sig.returnType = none) (hlk : meth.locks = false) (hts : ∀ w ∈ hx_all, w.before ([.ref x] : List Value).toArray s = true) (hown : s.vm.findClass "SmallCourtModel" = some m.cls) (hin : meth.name = "<init>") (hsz : s.heap.size = sz) (hZ : hx_Xt (hx_A L sz) b0 s) (L1 : List Nat) (hl1 : hx_h) (H : Heap) (locs : List Loc) (ls : Array Slot) (hW : hx_W T_tb (P_ty dA) (dC, dI) vwCl (hx_A L sz) s.heap L1 hl1 s H locs) (hT : hx_T T_tb L1 hl1) (hM : hx_S T_tb [(10, 14), (10, 16), (10, 18), (50, 0), (51, 0), (52, 0), (55, 0), (57, 0), (126, 2), (126, 3), (126, 4), (126, 5), (126, 6), (126, 12), (126, 15), (126, 17), (126, 19), (126, 21), (126, 22), (126, 23), (126, 24), (126, 25), (126, 26), (126, 27), (126, 28), (126, 30), (126, 31), (126, 32), (126, 33), (126, 34), (126, 35), (126, 37), (126, 38), (126, 39), (126, 40), (126, 41), (126, 42), (126, 43), (126, 44), (126, 45), (126, 46), (126, 47), (126, 48), (126, 49), (126, 50), (126, 51), (126, 52), (126, 53), (126, 54), (126, 55), (126, 56), (126, 58), (126, 60), (126, 61), (126, 62), (126, 63), (126, 64), (126, 65), (126, 66), (126, 73), (126, 74), (126, 76), (126, 77), (126, 78), (126, 79), (126, 80), (126, 81), (126, 82), (126, 85), (126, 88), (126, 89), (126, 91), (126, 93), (126, 94), (126, 97)] (hx_X L x) h L1 hl1) (gx : hx_g L1 hl1 x 126) (hcon : hx_con L1 hl1 x 126 [(34, 70, false), (33, 69, false), (32, 68, false), (31, 67, false), (30, 66, false), (28, 65, true), (27, 64, true), (26, 63, true), (25, 62, true), (24, 61, true), (23, 60, true), (22, 59, true), (21, 58, true), (17, 56, false), (15, 55, false), (12, 54, false), (6, 53, true), (5, 52, false), (4, 51, false), (3, 50, false), (2, 49, false)] []) (hz : ∀ j, [2, 3, 4, 5, 6, 12, 15, 17, 19, 21, 22, 23, 24, 25, 26, 27, 28, 30, 31, 32, 33, 34].contains j = false → hl1.2.1 x j = 0 ∧ hl1.2.2 x j = none) (gq_34 : hx_g L1 hl1 q_34 57) (f_211 : hl1.2.2 x 19 = some q_34) (cw : ∀ j, j < 175 → hl1.2.1 q_34 j = P_words j) (hl : lv_has ls 2 [(0, .ref x)]) : W p l e ({ frames := 2, cells := 67, slots := 15340, locals := 42 }) s m ([.ref x] : List Value).toArray below meth c H locs 22 4451 (MQ below (va_Qv (fun (u : List Nat × hx_h) => hx_T T_tb u.1 u.2 ∧ hx_S T_tb [(10, 14), (10, 16), (10, 18), (50, 0), (51, 0), (52, 0), (55, 0), (57, 0), (126, 2), (126, 3), (126, 4), (126, 5), (126, 6), (126, 12), (126, 15), (126, 17), (126, 19), (126, 21), (126, 22), (126, 23), (126, 24), (126, 25), (126, 26), (126, 27), (126, 28), (126, 30), (126, 31), (126, 32), (126, 33), (126, 34), (126, 35), (126, 37), (126, 38), (126, 39), (126, 40), (126, 41), (126, 42), (126, 43), (126, 44), (126, 45), (126, 46), (126, 47), (126, 48), (126, 49), (126, 50), (126, 51), (126, 52), (126, 53), (126, 54), (126, 55), (126, 56), (126, 58), (126, 60), (126, 61), (126, 62), (126, 63), (126, 64), (126, 65), (126, 66), (126, 73), (126, 74), (126, 76), (126, 77), (126, 78), (126, 79), (126, 80), (126, 81), (126, 82), (126, 85), (126, 88), (126, 89), (126, 91), (126, 93), (126, 94), (126, 97)] (hx_X L x) h u.1 u.2 ∧ hx_g u.1 u.2 x 10 ∧ u.2.2.1 x 0 = 0 ∧ u.2.2.1 x 1 = 0 ∧ u.2.2.1 x 36 = 0 ∧ u.2.2.1 x 57 = 0 ∧ u.2.2.1 x 7 = 0 ∧ u.2.2.1 x 20 = 0 ∧ u.2.2.1 x 29 = 0 ∧ u.2.2.1 x 59 = 0 ∧ u.2.2.1 x 72 = 0 ∧ u.2.2.1 x 83 = 0 ∧ u.2.2.1 x 84 = 0 ∧ u.2.2.1 x 90 = 0 ∧ u.2.2.1 x 92 = 0 ∧ ∃ q_words q_rule q_proofSteps q_proof q_tries q_isDead q_isJudge q_found q_list q_judged q_weekly q_owed q_doorX q_doorY q_tape q_born q_kin q_sum q_filed q_owedFrom q_heard q_ordered q_goods q_seized q_served q_earns q_heads q_payOf q_payDay q_paySum q_payKnown q_payStruck q_actDay : Nat, u.2.2.2 x 19 = some q_words ∧ hx_g u.1 u.2 q_words 57 ∧ u.2.2.2 x 3 = some q_rule ∧ hx_g u.1 u.2 q_rule 50 ∧ u.2.2.2 x 4 = some q_proofSteps ∧ hx_g u.1 u.2 q_proofSteps 51 ∧ u.2.2.2 x 5 = some q_proof ∧ hx_g u.1 u.2 q_proof 52 ∧ u.2.2.2 x 45 = some q_tries ∧ hx_g u.1 u.2 q_tries 80 ∧ u.2.2.2 x 27 = some q_isDead ∧ hx_g u.1 u.2 q_isDead 64 ∧ u.2.2.2 x 28 = some q_isJudge ∧ hx_g u.1 u.2 q_isJudge 65 ∧ u.2.2.2 x 46 = some q_found ∧ hx_g u.1 u.2 q_found 81 ∧ u.2.2.2 x 91 = some q_list ∧ hx_g u.1 u.2 q_list 112 ∧ u.2.2.2 x 51 = some q_judged ∧ hx_g u.1 u.2 q_judged 86 ∧ u.2.2.2 x 54 = some q_weekly ∧ hx_g u.1 u.2 q_weekly 89 ∧ u.2.2.2 x 55 = some q_owed ∧ hx_g u.1 u.2 q_owed 90 ∧ u.2.2.2 x 24 = some q_doorX ∧ hx_g u.1 u.2 q_doorX 61 ∧ u.2.2.2 x 25 = some q_doorY ∧ hx_g u.1 u.2 q_doorY 62 ∧ u.2.2.2 x 6 = some q_tape ∧ hx_g u.1 u.2 q_tape 53 ∧ u.2.2.2 x 21 = some q_born ∧ hx_g u.1 u.2 q_born 58 ∧ u.2.2.2 x 26 = some q_kin ∧ hx_g u.1 u.2 q_kin 63 ∧ u.2.2.2 x 39 = some q_sum ∧ hx_g u.1 u.2 q_sum 74 ∧ u.2.2.2 x 43 = some q_filed ∧ hx_g u.1 u.2 q_filed 78 ∧ u.2.2.2 x 40 = some q_owedFrom ∧ hx_g u.1 u.2 q_owedFrom 75 ∧ u.2.2.2 x 47 = some q_heard ∧ hx_g u.1 u.2 q_heard 82 ∧ u.2.2.2 x 48 = some q_ordered ∧ hx_g u.1 u.2 q_ordered 83 ∧ u.2.2.2 x 56 = some q_goods ∧ hx_g u.1 u.2 q_goods 91 ∧ u.2.2.2 x 49 = some q_seized ∧ hx_g u.1 u.2 q_seized 84 ∧ u.2.2.2 x 50 = some q_served ∧ hx_g u.1 u.2 q_served 85 ∧ u.2.2.2 x 22 = some q_earns ∧ hx_g u.1 u.2 q_earns 59 ∧ u.2.2.2 x 23 = some q_heads ∧ hx_g u.1 u.2 q_heads 60 ∧ u.2.2.2 x 60 = some q_payOf ∧ hx_g u.1 u.2 q_payOf 93 ∧ u.2.2.2 x 61 = some q_payDay ∧ hx_g u.1 u.2 q_payDay 94 ∧ u.2.2.2 x 62 = some q_paySum ∧ hx_g u.1 u.2 q_paySum 95 ∧ u.2.2.2 x 63 = some q_payKnown ∧ hx_g u.1 u.2 q_payKnown 96 ∧ u.2.2.2 x 64 = some q_payStruck ∧ hx_g u.1 u.2 q_payStruck 97 ∧ u.2.2.2 x 2 = some q_actDay ∧ hx_g u.1 u.2 q_actDay 49 ∧ hx_wd (u.2.2.1 q_words) ∧ hx_WK (u.2.2.1 q_rule) 0 ∧ hx_RP (u.2.2.1 q_proof) (u.2.2.1 q_proofSteps) 0 ∧ (∀ j, u.2.2.1 q_tries j = 0) ∧ (∀ j, u.2.2.1 q_isDead j = 0) ∧ (∀ j, u.2.2.1 q_isJudge j = 0) ∧ (∀ j, u.2.2.1 q_found j = 0) ∧ (∀ j, u.2.2.1 q_list j = 0) ∧ (∀ j, u.2.2.1 q_judged j = 0) ∧ (∀ j, u.2.2.1 q_weekly j = 0) ∧ (∀ j, u.2.2.1 q_owed j = 0) ∧ (∀ j, u.2.2.1 q_doorX j = 0) ∧ (∀ j, u.2.2.1 q_doorY j = 0) ∧ (∀ j, u.2.2.1 q_tape j = 0) ∧ (∀ j, u.2.2.1 q_born j = 0) ∧ (∀ j, u.2.2.1 q_kin j = 0) ∧ (∀ j, u.2.2.1 q_sum j = 0) ∧ (∀ j, u.2.2.1 q_filed j = 0) ∧ (∀ j, u.2.2.1 q_owedFrom j = 0) ∧ (∀ j, u.2.2.1 q_heard j = 0) ∧ (∀ j, u.2.2.1 q_ordered j = 0) ∧ (∀ j, u.2.2.1 q_goods j = 0) ∧ (∀ j, u.2.2.1 q_seized j = 0) ∧ (∀ j, u.2.2.1 q_served j = 0) ∧ (∀ j, u.2.2.1 q_earns j = 0) ∧ (∀ j, u.2.2.1 q_heads j = 0) ∧ (∀ j, u.2.2.1 q_payOf j = 0) ∧ (∀ j, u.2.2.1 q_payDay j = 0) ∧ (∀ j, u.2.2.1 q_paySum j = 0) ∧ (∀ j, u.2.2.1 q_payKnown j = 0) ∧ (∀ j, u.2.2.1 q_payStruck j = 0) ∧ hv_CA (u.2.2.1 q_actDay) (u.2.2.1 q_rule) (u.2.2.1 q_proofSteps) (u.2.2.1 q_proof) 0 (fun _ => hv_A0)) (hx_E T_tb (P_ty dA) (dC, dI) vwCl (hx_A L sz)) (hx_A L sz)) ([.ref x] : List Value).toArray s 67 15340 (hx_A L sz)) (F0 m 1225 ls []) := by
  refine lv_aload_n hx hb dX10_init_1225 rfl (lv_at hl 0 rfl) ?_
  refine lv_sipush (v := 400) hx hb dX10_init_1226 ?o0 ?_
  case o0 => decide
  refine hk_newa hx hb hts hW 71 tt_71 (atype := .boolean) rfl kw_222 (tys := P_ty dA) (t0 := 2) rfl (fun _ => Iff.rfl) rfl (i := (400 : Int32)) ?o1 (Nat.le_of_ble_eq_true rfl) (Nat.le_of_ble_eq_true rfl) (Nat.le_of_ble_eq_true rfl) dX10_init_1229 (fun q_265 H h_264 eh_264 hqq_265 hW hs gq_265 => ?_)
  case o1 => decide
  have hT : hx_T T_tb (L1 ++ [q_265]) h_264 := ?o2
  case o2 =>
    rw [eh_264]
    exact hx_T_nw hT hqq_265 tt_71 rfl
  have hcon := hcon.S hs trivial rfl
  have hz := hx_zr [2, 3, 4, 5, 6, 12, 15, 17, 19, 21, 22, 23, 24, 25, 26, 27, 28, 30, 31, 32, 33, 34] hz hs gx trivial rfl
  have cw : ∀ j, j < 175 → h_264.2.1 q_34 j = P_words j := fun j hj => ((hs.a gq_34 rfl j).1).trans (cw j hj)
  have f_211 := (hs.o gx trivial rfl).2.trans f_211
  have hM := hM.tr (hs.mono ?o3)
  case o3 => decide
  have gx := gx.S hs
  have gq_34 := gq_34.S hs
  refine hx_putrF hx hb hts hC_10 hown hW hT (hx_S.rf (M := [(126, 35)])) gx tt_126 35 ?o4 rfl kw_1178 ⟨rfl, rfl, rfl⟩ rfl hin rfl (x := (some q_265)) ⟨fun _ z => (by cases z), fun q hq => (by cases hq; exact ⟨gq_265.1, by rw [gq_265.2]; decide⟩)⟩ rfl rfl rfl (List.mem_singleton.mpr rfl) dX10_init_1231 (fun H locs h_266 eh_266 hW hT hs => ?_)
  case o4 => decide
  have hcon := hcon.S hs trivial rfl
  have hz := hx_zr [2, 3, 4, 5, 6, 12, 15, 17, 19, 21, 22, 23, 24, 25, 26, 27, 28, 30, 31, 32, 33, 34, 35] hz hs gx trivial rfl
  have cw : ∀ j, j < 175 → h_266.2.1 q_34 j = P_words j := fun j hj => ((hs.a gq_34 rfl j).1).trans (cw j hj)
  have f_211 := (hs.o gx trivial rfl).2.trans f_211
  have hM := hM.tr (hs.mono ?o5)
  case o5 => decide
  have gx := gx.S hs
  have gq_34 := gq_34.S hs
  have gq_265 := gq_265.S hs
  have f_267 : h_266.2.2 x 35 = (some q_265) := ?o6
  case o6 =>
    rw [eh_266]
    exact hx_pr_at _ _ _ _
  have hcon := hx_con.add (tb := T_tb) hcon false f_267 gq_265 (fun z => by cases z)
  refine lv_aload_n hx hb dX10_init_1234 rfl (lv_at hl 0 rfl) ?_
  refine lv_bipush (v := 100) hx hb dX10_init_1235 ?o7 ?_
  case o7 => decide
  refine hk_newa hx hb hts hW 72 tt_72 (atype := .int) rfl kw_186 (tys := P_ty dA) (t0 := 0) rfl (fun _ => Iff.rfl) rfl (i := (100 : Int32)) ?o8 (Nat.le_of_ble_eq_true rfl) (Nat.le_of_ble_eq_true rfl) (Nat.le_of_ble_eq_true rfl) dX10_init_1237 (fun q_269 H h_268 eh_268 hqq_269 hW hs gq_269 => ?_)
  case o8 => decide
  have hT : hx_T T_tb ((L1 ++ [q_265]) ++ [q_269]) h_268 := ?o9
  case o9 =>
    rw [eh_268]
    exact hx_T_nw hT hqq_269 tt_72 rfl
  have hcon := hcon.S hs trivial rfl
  have hz := hx_zr [2, 3, 4, 5, 6, 12, 15, 17, 19, 21, 22, 23, 24, 25, 26, 27, 28, 30, 31, 32, 33, 34, 35] hz hs gx trivial rfl
  have cw : ∀ j, j < 175 → h_268.2.1 q_34 j = P_words j := fun j hj => ((hs.a gq_34 rfl j).1).trans (cw j hj)
  have f_211 := (hs.o gx trivial rfl).2.trans f_211
  have hM := hM.tr (hs.mono ?o10)
  case o10 => decide
  have gx := gx.S hs
  have gq_34 := gq_34.S hs
  refine hx_putrF hx hb hts hC_10 hown hW hT (hx_S.rf (M := [(126, 37)])) gx tt_126 37 ?o11 rfl kw_1180 ⟨rfl, rfl, rfl⟩ rfl hin rfl (x := (some q_269)) ⟨fun _ z => (by cases z), fun q hq => (by cases hq; exact ⟨gq_269.1, by rw [gq_269.2]; decide⟩)⟩ rfl rfl rfl (List.mem_singleton.mpr rfl) dX10_init_1239 (fun H locs h_270 eh_270 hW hT hs => ?_)
  case o11 => decide
  have hcon := hcon.S hs trivial rfl
  have hz := hx_zr [2, 3, 4, 5, 6, 12, 15, 17, 19, 21, 22, 23, 24, 25, 26, 27, 28, 30, 31, 32, 33, 34, 35, 37] hz hs gx trivial rfl
  have cw : ∀ j, j < 175 → h_270.2.1 q_34 j = P_words j := fun j hj => ((hs.a gq_34 rfl j).1).trans (cw j hj)
  have f_211 := (hs.o gx trivial rfl).2.trans f_211
  have hM := hM.tr (hs.mono ?o12)
  case o12 => decide
  have gx := gx.S hs
  have gq_34 := gq_34.S hs
  have gq_269 := gq_269.S hs
  have f_271 : h_270.2.2 x 37 = (some q_269) := ?o13
  case o13 =>
    rw [eh_270]
    exact hx_pr_at _ _ _ _
  have hcon := hx_con.add (tb := T_tb) hcon false f_271 gq_269 (fun z => by cases z)
  refine lv_aload_n hx hb dX10_init_1242 rfl (lv_at hl 0 rfl) ?_
  refine lv_bipush (v := 100) hx hb dX10_init_1243 ?o14 ?_
  case o14 => decide
  refine hk_newa hx hb hts hW 73 tt_73 (atype := .int) rfl kw_186 (tys := P_ty dA) (t0 := 0) rfl (fun _ => Iff.rfl) rfl (i := (100 : Int32)) ?o15 (Nat.le_of_ble_eq_true rfl) (Nat.le_of_ble_eq_true rfl) (Nat.le_of_ble_eq_true rfl) dX10_init_1245 (fun q_273 H h_272 eh_272 hqq_273 hW hs gq_273 => ?_)
  case o15 => decide
  have hT : hx_T T_tb (((L1 ++ [q_265]) ++ [q_269]) ++ [q_273]) h_272 := ?o16
  case o16 =>
    rw [eh_272]
    exact hx_T_nw hT hqq_273 tt_73 rfl
  have hcon := hcon.S hs trivial rfl
  have hz := hx_zr [2, 3, 4, 5, 6, 12, 15, 17, 19, 21, 22, 23, 24, 25, 26, 27, 28, 30, 31, 32, 33, 34, 35, 37] hz hs gx trivial rfl
  have cw : ∀ j, j < 175 → h_272.2.1 q_34 j = P_words j := fun j hj => ((hs.a gq_34 rfl j).1).trans (cw j hj)
  have f_211 := (hs.o gx trivial rfl).2.trans f_211
  have hM := hM.tr (hs.mono ?o17)
  case o17 => decide
  have gx := gx.S hs
  have gq_34 := gq_34.S hs
  refine hx_putrF hx hb hts hC_10 hown hW hT (hx_S.rf (M := [(126, 38)])) gx tt_126 38 ?o18 rfl kw_1181 ⟨rfl, rfl, rfl⟩ rfl hin rfl (x := (some q_273)) ⟨fun _ z => (by cases z), fun q hq => (by cases hq; exact ⟨gq_273.1, by rw [gq_273.2]; decide⟩)⟩ rfl rfl rfl (List.mem_singleton.mpr rfl) dX10_init_1247 (fun H locs h_274 eh_274 hW hT hs => ?_)
  case o18 => decide
  have hcon := hcon.S hs trivial rfl
  have hz := hx_zr [2, 3, 4, 5, 6, 12, 15, 17, 19, 21, 22, 23, 24, 25, 26, 27, 28, 30, 31, 32, 33, 34, 35, 37, 38] hz hs gx trivial rfl
  have cw : ∀ j, j < 175 → h_274.2.1 q_34 j = P_words j := fun j hj => ((hs.a gq_34 rfl j).1).trans (cw j hj)
  have f_211 := (hs.o gx trivial rfl).2.trans f_211
  have hM := hM.tr (hs.mono ?o19)
  case o19 => decide
  have gx := gx.S hs
  have gq_34 := gq_34.S hs
  have gq_273 := gq_273.S hs
  have f_275 : h_274.2.2 x 38 = (some q_273) := ?o20
  case o20 =>
    rw [eh_274]
    exact hx_pr_at _ _ _ _
  have hcon := hx_con.add (tb := T_tb) hcon false f_275 gq_273 (fun z => by cases z)
  refine lv_aload_n hx hb dX10_init_1250 rfl (lv_at hl 0 rfl) ?_
  refine lv_bipush (v := 100) hx hb dX10_init_1251 ?o21 ?_
  case o21 => decide
  refine hk_newa hx hb hts hW 74 tt_74 (atype := .int) rfl kw_186 (tys := P_ty dA) (t0 := 0) rfl (fun _ => Iff.rfl) rfl (i := (100 : Int32)) ?o22 (Nat.le_of_ble_eq_true rfl) (Nat.le_of_ble_eq_true rfl) (Nat.le_of_ble_eq_true rfl) dX10_init_1253 (fun q_277 H h_276 eh_276 hqq_277 hW hs gq_277 => ?_)
  case o22 => decide
  have hT : hx_T T_tb ((((L1 ++ [q_265]) ++ [q_269]) ++ [q_273]) ++ [q_277]) h_276 := ?o23
  case o23 =>
    rw [eh_276]
    exact hx_T_nw hT hqq_277 tt_74 rfl
  have hcon := hcon.S hs trivial rfl
  have hz := hx_zr [2, 3, 4, 5, 6, 12, 15, 17, 19, 21, 22, 23, 24, 25, 26, 27, 28, 30, 31, 32, 33, 34, 35, 37, 38] hz hs gx trivial rfl
  have cw : ∀ j, j < 175 → h_276.2.1 q_34 j = P_words j := fun j hj => ((hs.a gq_34 rfl j).1).trans (cw j hj)
  have f_211 := (hs.o gx trivial rfl).2.trans f_211
  have hM := hM.tr (hs.mono ?o24)
  case o24 => decide
  have gx := gx.S hs
  have gq_34 := gq_34.S hs
  have cz : (∀ j, h_276.2.1 q_277 j = 0) ∧ ∀ j, h_276.2.2 q_277 j = none := ?o25
  case o25 =>
    rw [eh_276]
    exact ⟨fun _ => hx_nw_i, fun _ => hx_nw_r⟩
  refine hx_putrF hx hb hts hC_10 hown hW hT (hx_S.rf (M := [(126, 39)])) gx tt_126 39 ?o26 rfl kw_1182 ⟨rfl, rfl, rfl⟩ rfl hin rfl (x := (some q_277)) ⟨fun _ z => (by cases z), fun q hq => (by cases hq; exact ⟨gq_277.1, by rw [gq_277.2]; decide⟩)⟩ rfl rfl rfl (List.mem_singleton.mpr rfl) dX10_init_1255 (fun H locs h_278 eh_278 hW hT hs => ?_)
  case o26 => decide
  have hcon := hcon.S hs trivial rfl
  have hz := hx_zr [2, 3, 4, 5, 6, 12, 15, 17, 19, 21, 22, 23, 24, 25, 26, 27, 28, 30, 31, 32, 33, 34, 35, 37, 38, 39] hz hs gx trivial rfl
  have cw : ∀ j, j < 175 → h_278.2.1 q_34 j = P_words j := fun j hj => ((hs.a gq_34 rfl j).1).trans (cw j hj)
  have cz : (∀ j, h_278.2.1 q_277 j = 0) ∧ ∀ j, h_278.2.2 q_277 j = none := ⟨fun j => ((hs.a gq_277 rfl j).1).trans (cz.1 j), fun j => ((hs.a gq_277 rfl j).2).trans (cz.2 j)⟩
  have f_211 := (hs.o gx trivial rfl).2.trans f_211
  have hM := hM.tr (hs.mono ?o27)
  case o27 => decide
  have gx := gx.S hs
  have gq_34 := gq_34.S hs
  have gq_277 := gq_277.S hs
  have f_279 : h_278.2.2 x 39 = (some q_277) := ?o28
  case o28 =>
    rw [eh_278]
    exact hx_pr_at _ _ _ _
  have hcon := hx_con.add (tb := T_tb) hcon true f_279 gq_277 (fun _ => cz)
  refine lv_aload_n hx hb dX10_init_1258 rfl (lv_at hl 0 rfl) ?_
  refine lv_bipush (v := 100) hx hb dX10_init_1259 ?o29 ?_
  case o29 => decide
  refine hk_newa hx hb hts hW 75 tt_75 (atype := .int) rfl kw_186 (tys := P_ty dA) (t0 := 0) rfl (fun _ => Iff.rfl) rfl (i := (100 : Int32)) ?o30 (Nat.le_of_ble_eq_true rfl) (Nat.le_of_ble_eq_true rfl) (Nat.le_of_ble_eq_true rfl) dX10_init_1261 (fun q_281 H h_280 eh_280 hqq_281 hW hs gq_281 => ?_)
  case o30 => decide
  have hT : hx_T T_tb (((((L1 ++ [q_265]) ++ [q_269]) ++ [q_273]) ++ [q_277]) ++ [q_281]) h_280 := ?o31
  case o31 =>
    rw [eh_280]
    exact hx_T_nw hT hqq_281 tt_75 rfl
  have hcon := hcon.S hs trivial rfl
  have hz := hx_zr [2, 3, 4, 5, 6, 12, 15, 17, 19, 21, 22, 23, 24, 25, 26, 27, 28, 30, 31, 32, 33, 34, 35, 37, 38, 39] hz hs gx trivial rfl
  have cw : ∀ j, j < 175 → h_280.2.1 q_34 j = P_words j := fun j hj => ((hs.a gq_34 rfl j).1).trans (cw j hj)
  have f_211 := (hs.o gx trivial rfl).2.trans f_211
  have hM := hM.tr (hs.mono ?o32)
  case o32 => decide
  have gx := gx.S hs
  have gq_34 := gq_34.S hs
  have cz : (∀ j, h_280.2.1 q_281 j = 0) ∧ ∀ j, h_280.2.2 q_281 j = none := ?o33
  case o33 =>
    rw [eh_280]
    exact ⟨fun _ => hx_nw_i, fun _ => hx_nw_r⟩
  refine hx_putrF hx hb hts hC_10 hown hW hT (hx_S.rf (M := [(126, 40)])) gx tt_126 40 ?o34 rfl kw_1183 ⟨rfl, rfl, rfl⟩ rfl hin rfl (x := (some q_281)) ⟨fun _ z => (by cases z), fun q hq => (by cases hq; exact ⟨gq_281.1, by rw [gq_281.2]; decide⟩)⟩ rfl rfl rfl (List.mem_singleton.mpr rfl) dX10_init_1263 (fun H locs h_282 eh_282 hW hT hs => ?_)
  case o34 => decide
  have hcon := hcon.S hs trivial rfl
  have hz := hx_zr [2, 3, 4, 5, 6, 12, 15, 17, 19, 21, 22, 23, 24, 25, 26, 27, 28, 30, 31, 32, 33, 34, 35, 37, 38, 39, 40] hz hs gx trivial rfl
  have cw : ∀ j, j < 175 → h_282.2.1 q_34 j = P_words j := fun j hj => ((hs.a gq_34 rfl j).1).trans (cw j hj)
  have cz : (∀ j, h_282.2.1 q_281 j = 0) ∧ ∀ j, h_282.2.2 q_281 j = none := ⟨fun j => ((hs.a gq_281 rfl j).1).trans (cz.1 j), fun j => ((hs.a gq_281 rfl j).2).trans (cz.2 j)⟩
  have f_211 := (hs.o gx trivial rfl).2.trans f_211
  have hM := hM.tr (hs.mono ?o35)
  case o35 => decide
  have gx := gx.S hs
  have gq_34 := gq_34.S hs
  have gq_281 := gq_281.S hs
  have f_283 : h_282.2.2 x 40 = (some q_281) := ?o36
  case o36 =>
    rw [eh_282]
    exact hx_pr_at _ _ _ _
  have hcon := hx_con.add (tb := T_tb) hcon true f_283 gq_281 (fun _ => cz)
  refine lv_aload_n hx hb dX10_init_1266 rfl (lv_at hl 0 rfl) ?_
  refine lv_bipush (v := 100) hx hb dX10_init_1267 ?o37 ?_
  case o37 => decide
  refine hk_newa hx hb hts hW 76 tt_76 (atype := .boolean) rfl kw_222 (tys := P_ty dA) (t0 := 2) rfl (fun _ => Iff.rfl) rfl (i := (100 : Int32)) ?o38 (Nat.le_of_ble_eq_true rfl) (Nat.le_of_ble_eq_true rfl) (Nat.le_of_ble_eq_true rfl) dX10_init_1269 (fun q_285 H h_284 eh_284 hqq_285 hW hs gq_285 => ?_)
  case o38 => decide
  have hT : hx_T T_tb ((((((L1 ++ [q_265]) ++ [q_269]) ++ [q_273]) ++ [q_277]) ++ [q_281]) ++ [q_285]) h_284 := ?o39
  case o39 =>
    rw [eh_284]
    exact hx_T_nw hT hqq_285 tt_76 rfl
  have hcon := hcon.S hs trivial rfl
  have hz := hx_zr [2, 3, 4, 5, 6, 12, 15, 17, 19, 21, 22, 23, 24, 25, 26, 27, 28, 30, 31, 32, 33, 34, 35, 37, 38, 39, 40] hz hs gx trivial rfl
  have cw : ∀ j, j < 175 → h_284.2.1 q_34 j = P_words j := fun j hj => ((hs.a gq_34 rfl j).1).trans (cw j hj)
  have f_211 := (hs.o gx trivial rfl).2.trans f_211
  have hM := hM.tr (hs.mono ?o40)
  case o40 => decide
  have gx := gx.S hs
  have gq_34 := gq_34.S hs
  refine hx_putrF hx hb hts hC_10 hown hW hT (hx_S.rf (M := [(126, 41)])) gx tt_126 41 ?o41 rfl kw_1184 ⟨rfl, rfl, rfl⟩ rfl hin rfl (x := (some q_285)) ⟨fun _ z => (by cases z), fun q hq => (by cases hq; exact ⟨gq_285.1, by rw [gq_285.2]; decide⟩)⟩ rfl rfl rfl (List.mem_singleton.mpr rfl) dX10_init_1271 (fun H locs h_286 eh_286 hW hT hs => ?_)
  case o41 => decide
  have hcon := hcon.S hs trivial rfl
  have hz := hx_zr [2, 3, 4, 5, 6, 12, 15, 17, 19, 21, 22, 23, 24, 25, 26, 27, 28, 30, 31, 32, 33, 34, 35, 37, 38, 39, 40, 41] hz hs gx trivial rfl
  have cw : ∀ j, j < 175 → h_286.2.1 q_34 j = P_words j := fun j hj => ((hs.a gq_34 rfl j).1).trans (cw j hj)
  have f_211 := (hs.o gx trivial rfl).2.trans f_211
  have hM := hM.tr (hs.mono ?o42)
  case o42 => decide
  have gx := gx.S hs
  have gq_34 := gq_34.S hs
  have gq_285 := gq_285.S hs
  have f_287 : h_286.2.2 x 41 = (some q_285) := ?o43
  case o43 =>
    rw [eh_286]
    exact hx_pr_at _ _ _ _
  have hcon := hx_con.add (tb := T_tb) hcon false f_287 gq_285 (fun z => by cases z)
  refine lv_aload_n hx hb dX10_init_1274 rfl (lv_at hl 0 rfl) ?_
  refine lv_bipush (v := 100) hx hb dX10_init_1275 ?o44 ?_
  case o44 => decide
  refine hk_newa hx hb hts hW 77 tt_77 (atype := .int) rfl kw_186 (tys := P_ty dA) (t0 := 0) rfl (fun _ => Iff.rfl) rfl (i := (100 : Int32)) ?o45 (Nat.le_of_ble_eq_true rfl) (Nat.le_of_ble_eq_true rfl) (Nat.le_of_ble_eq_true rfl) dX10_init_1277 (fun q_289 H h_288 eh_288 hqq_289 hW hs gq_289 => ?_)
  case o45 => decide
  have hT : hx_T T_tb (((((((L1 ++ [q_265]) ++ [q_269]) ++ [q_273]) ++ [q_277]) ++ [q_281]) ++ [q_285]) ++ [q_289]) h_288 := ?o46
  case o46 =>
    rw [eh_288]
    exact hx_T_nw hT hqq_289 tt_77 rfl
  have hcon := hcon.S hs trivial rfl
  have hz := hx_zr [2, 3, 4, 5, 6, 12, 15, 17, 19, 21, 22, 23, 24, 25, 26, 27, 28, 30, 31, 32, 33, 34, 35, 37, 38, 39, 40, 41] hz hs gx trivial rfl
  have cw : ∀ j, j < 175 → h_288.2.1 q_34 j = P_words j := fun j hj => ((hs.a gq_34 rfl j).1).trans (cw j hj)
  have f_211 := (hs.o gx trivial rfl).2.trans f_211
  have hM := hM.tr (hs.mono ?o47)
  case o47 => decide
  have gx := gx.S hs
  have gq_34 := gq_34.S hs
  refine hx_putrF hx hb hts hC_10 hown hW hT (hx_S.rf (M := [(126, 42)])) gx tt_126 42 ?o48 rfl kw_1185 ⟨rfl, rfl, rfl⟩ rfl hin rfl (x := (some q_289)) ⟨fun _ z => (by cases z), fun q hq => (by cases hq; exact ⟨gq_289.1, by rw [gq_289.2]; decide⟩)⟩ rfl rfl rfl (List.mem_singleton.mpr rfl) dX10_init_1279 (fun H locs h_290 eh_290 hW hT hs => ?_)
  case o48 => decide
  have hcon := hcon.S hs trivial rfl
  have hz := hx_zr [2, 3, 4, 5, 6, 12, 15, 17, 19, 21, 22, 23, 24, 25, 26, 27, 28, 30, 31, 32, 33, 34, 35, 37, 38, 39, 40, 41, 42] hz hs gx trivial rfl
  have cw : ∀ j, j < 175 → h_290.2.1 q_34 j = P_words j := fun j hj => ((hs.a gq_34 rfl j).1).trans (cw j hj)
  have f_211 := (hs.o gx trivial rfl).2.trans f_211
  have hM := hM.tr (hs.mono ?o49)
  case o49 => decide
  have gx := gx.S hs
  have gq_34 := gq_34.S hs
  have gq_289 := gq_289.S hs
  have f_291 : h_290.2.2 x 42 = (some q_289) := ?o50
  case o50 =>
    rw [eh_290]
    exact hx_pr_at _ _ _ _
  have hcon := hx_con.add (tb := T_tb) hcon false f_291 gq_289 (fun z => by cases z)
  refine lv_aload_n hx hb dX10_init_1282 rfl (lv_at hl 0 rfl) ?_
  refine lv_bipush (v := 100) hx hb dX10_init_1283 ?o51 ?_
  case o51 => decide
  refine hk_newa hx hb hts hW 78 tt_78 (atype := .int) rfl kw_186 (tys := P_ty dA) (t0 := 0) rfl (fun _ => Iff.rfl) rfl (i := (100 : Int32)) ?o52 (Nat.le_of_ble_eq_true rfl) (Nat.le_of_ble_eq_true rfl) (Nat.le_of_ble_eq_true rfl) dX10_init_1285 (fun q_293 H h_292 eh_292 hqq_293 hW hs gq_293 => ?_)
  case o52 => decide
  have hT : hx_T T_tb ((((((((L1 ++ [q_265]) ++ [q_269]) ++ [q_273]) ++ [q_277]) ++ [q_281]) ++ [q_285]) ++ [q_289]) ++ [q_293]) h_292 := ?o53
  case o53 =>
    rw [eh_292]
    exact hx_T_nw hT hqq_293 tt_78 rfl
  have hcon := hcon.S hs trivial rfl
  have hz := hx_zr [2, 3, 4, 5, 6, 12, 15, 17, 19, 21, 22, 23, 24, 25, 26, 27, 28, 30, 31, 32, 33, 34, 35, 37, 38, 39, 40, 41, 42] hz hs gx trivial rfl
  have cw : ∀ j, j < 175 → h_292.2.1 q_34 j = P_words j := fun j hj => ((hs.a gq_34 rfl j).1).trans (cw j hj)
  have f_211 := (hs.o gx trivial rfl).2.trans f_211
  have hM := hM.tr (hs.mono ?o54)
  case o54 => decide
  have gx := gx.S hs
  have gq_34 := gq_34.S hs
  have cz : (∀ j, h_292.2.1 q_293 j = 0) ∧ ∀ j, h_292.2.2 q_293 j = none := ?o55
  case o55 =>
    rw [eh_292]
    exact ⟨fun _ => hx_nw_i, fun _ => hx_nw_r⟩
  refine hx_putrF hx hb hts hC_10 hown hW hT (hx_S.rf (M := [(126, 43)])) gx tt_126 43 ?o56 rfl kw_1186 ⟨rfl, rfl, rfl⟩ rfl hin rfl (x := (some q_293)) ⟨fun _ z => (by cases z), fun q hq => (by cases hq; exact ⟨gq_293.1, by rw [gq_293.2]; decide⟩)⟩ rfl rfl rfl (List.mem_singleton.mpr rfl) dX10_init_1287 (fun H locs h_294 eh_294 hW hT hs => ?_)
  case o56 => decide
  have hcon := hcon.S hs trivial rfl
  have hz := hx_zr [2, 3, 4, 5, 6, 12, 15, 17, 19, 21, 22, 23, 24, 25, 26, 27, 28, 30, 31, 32, 33, 34, 35, 37, 38, 39, 40, 41, 42, 43] hz hs gx trivial rfl
  have cw : ∀ j, j < 175 → h_294.2.1 q_34 j = P_words j := fun j hj => ((hs.a gq_34 rfl j).1).trans (cw j hj)
  have cz : (∀ j, h_294.2.1 q_293 j = 0) ∧ ∀ j, h_294.2.2 q_293 j = none := ⟨fun j => ((hs.a gq_293 rfl j).1).trans (cz.1 j), fun j => ((hs.a gq_293 rfl j).2).trans (cz.2 j)⟩
  have f_211 := (hs.o gx trivial rfl).2.trans f_211
  have hM := hM.tr (hs.mono ?o57)
  case o57 => decide
  have gx := gx.S hs
  have gq_34 := gq_34.S hs
  have gq_293 := gq_293.S hs
  have f_295 : h_294.2.2 x 43 = (some q_293) := ?o58
  case o58 =>
    rw [eh_294]
    exact hx_pr_at _ _ _ _
  have hcon := hx_con.add (tb := T_tb) hcon true f_295 gq_293 (fun _ => cz)
  refine lv_aload_n hx hb dX10_init_1290 rfl (lv_at hl 0 rfl) ?_
  refine lv_bipush (v := 100) hx hb dX10_init_1291 ?o59 ?_
  case o59 => decide
  refine hk_newa hx hb hts hW 79 tt_79 (atype := .int) rfl kw_186 (tys := P_ty dA) (t0 := 0) rfl (fun _ => Iff.rfl) rfl (i := (100 : Int32)) ?o60 (Nat.le_of_ble_eq_true rfl) (Nat.le_of_ble_eq_true rfl) (Nat.le_of_ble_eq_true rfl) dX10_init_1293 (fun q_297 H h_296 eh_296 hqq_297 hW hs gq_297 => ?_)
  case o60 => decide
  have hT : hx_T T_tb (((((((((L1 ++ [q_265]) ++ [q_269]) ++ [q_273]) ++ [q_277]) ++ [q_281]) ++ [q_285]) ++ [q_289]) ++ [q_293]) ++ [q_297]) h_296 := ?o61
  case o61 =>
    rw [eh_296]
    exact hx_T_nw hT hqq_297 tt_79 rfl
  have hcon := hcon.S hs trivial rfl
  have hz := hx_zr [2, 3, 4, 5, 6, 12, 15, 17, 19, 21, 22, 23, 24, 25, 26, 27, 28, 30, 31, 32, 33, 34, 35, 37, 38, 39, 40, 41, 42, 43] hz hs gx trivial rfl
  have cw : ∀ j, j < 175 → h_296.2.1 q_34 j = P_words j := fun j hj => ((hs.a gq_34 rfl j).1).trans (cw j hj)
  have f_211 := (hs.o gx trivial rfl).2.trans f_211
  have hM := hM.tr (hs.mono ?o62)
  case o62 => decide
  have gx := gx.S hs
  have gq_34 := gq_34.S hs
  refine hx_putrF hx hb hts hC_10 hown hW hT (hx_S.rf (M := [(126, 44)])) gx tt_126 44 ?o63 rfl kw_1187 ⟨rfl, rfl, rfl⟩ rfl hin rfl (x := (some q_297)) ⟨fun _ z => (by cases z), fun q hq => (by cases hq; exact ⟨gq_297.1, by rw [gq_297.2]; decide⟩)⟩ rfl rfl rfl (List.mem_singleton.mpr rfl) dX10_init_1295 (fun H locs h_298 eh_298 hW hT hs => ?_)
  case o63 => decide
  have hcon := hcon.S hs trivial rfl
  have hz := hx_zr [2, 3, 4, 5, 6, 12, 15, 17, 19, 21, 22, 23, 24, 25, 26, 27, 28, 30, 31, 32, 33, 34, 35, 37, 38, 39, 40, 41, 42, 43, 44] hz hs gx trivial rfl
  have cw : ∀ j, j < 175 → h_298.2.1 q_34 j = P_words j := fun j hj => ((hs.a gq_34 rfl j).1).trans (cw j hj)
  have f_211 := (hs.o gx trivial rfl).2.trans f_211
  have hM := hM.tr (hs.mono ?o64)
  case o64 => decide
  have gx := gx.S hs
  have gq_34 := gq_34.S hs
  have gq_297 := gq_297.S hs
  have f_299 : h_298.2.2 x 44 = (some q_297) := ?o65
  case o65 =>
    rw [eh_298]
    exact hx_pr_at _ _ _ _
  have hcon := hx_con.add (tb := T_tb) hcon false f_299 gq_297 (fun z => by cases z)
  exact si_11 l dC dI dA L h sz b0 x q_34 hx hb hml hr hlk hts hown hin hsz hZ (((((((((L1 ++ [q_265]) ++ [q_269]) ++ [q_273]) ++ [q_277]) ++ [q_281]) ++ [q_285]) ++ [q_289]) ++ [q_293]) ++ [q_297]) h_298 _ _ ls hW hT hM gx hcon hz gq_34 f_211 cw hl

set_option maxHeartbeats 4000000 in
set_option maxRecDepth 100000 in
theorem si_9 (l : Launch) (dC : Nat → ClassId) (dI : Nat → Nat → Nat) (dA : Nat → ClassId) (L : List Nat) (h : hx_h) (sz : Nat) (b0 : hx_z) (x : Nat) (q_34 : Nat) {p : Program} {e : Env} {s : State} {m : MethodId} {below : List Frame} {meth : Method} {c : Code} (hx : p.tables.exec = Jvm.exec) (hb : c.code = cX10_init) (hml : c.maxLocals = 2) (hr : meth.sig.returnType = none) (hlk : meth.locks = false) (hts : ∀ w ∈ hx_all, w.before ([.ref x] : List Value).toArray s = true) (hown : s.vm.findClass "SmallCourtModel" = some m.cls) (hin : meth.name = "<init>") (hsz : s.heap.size = sz) (hZ : hx_Xt (hx_A L sz) b0 s) (L1 : List Nat) (hl1 : hx_h) (H : Heap) (locs : List Loc) (ls : Array Slot) (hW : hx_W T_tb (P_ty dA) (dC, dI) vwCl (hx_A L sz) s.heap L1 hl1 s H locs) (hT : hx_T T_tb L1 hl1) (hM : hx_S T_tb [(10, 14), (10, 16), (10, 18), (50, 0), (51, 0), (52, 0), (55, 0), (57, 0), (126, 2), (126, 3), (126, 4), (126, 5), (126, 6), (126, 12), (126, 15), (126, 17), (126, 19), (126, 21), (126, 22), (126, 23), (126, 24), (126, 25), (126, 26), (126, 27), (126, 28), (126, 30), (126, 31), (126, 32), (126, 33), (126, 34), (126, 35), (126, 37), (126, 38), (126, 39), (126, 40), (126, 41), (126, 42), (126, 43), (126, 44), (126, 45), (126, 46), (126, 47), (126, 48), (126, 49), (126, 50), (126, 51), (126, 52), (126, 53), (126, 54), (126, 55), (126, 56), (126, 58), (126, 60), (126, 61), (126, 62), (126, 63), (126, 64), (126, 65), (126, 66), (126, 73), (126, 74), (126, 76), (126, 77), (126, 78), (126, 79), (126, 80), (126, 81), (126, 82), (126, 85), (126, 88), (126, 89), (126, 91), (126, 93), (126, 94), (126, 97)] (hx_X L x) h L1 hl1) (gx : hx_g L1 hl1 x 126) (hcon : hx_con L1 hl1 x 126 [(24, 61, true), (23, 60, true), (22, 59, true), (21, 58, true), (17, 56, false), (15, 55, false), (12, 54, false), (6, 53, true), (5, 52, false), (4, 51, false), (3, 50, false), (2, 49, false)] []) (hz : ∀ j, [2, 3, 4, 5, 6, 12, 15, 17, 19, 21, 22, 23, 24].contains j = false → hl1.2.1 x j = 0 ∧ hl1.2.2 x j = none) (gq_34 : hx_g L1 hl1 q_34 57) (f_211 : hl1.2.2 x 19 = some q_34) (cw : ∀ j, j < 175 → hl1.2.1 q_34 j = P_words j) (hl : lv_has ls 2 [(0, .ref x)]) : W p l e ({ frames := 2, cells := 67, slots := 15340, locals := 42 }) s m ([.ref x] : List Value).toArray below meth c H locs 13 2291 (MQ below (va_Qv (fun (u : List Nat × hx_h) => hx_T T_tb u.1 u.2 ∧ hx_S T_tb [(10, 14), (10, 16), (10, 18), (50, 0), (51, 0), (52, 0), (55, 0), (57, 0), (126, 2), (126, 3), (126, 4), (126, 5), (126, 6), (126, 12), (126, 15), (126, 17), (126, 19), (126, 21), (126, 22), (126, 23), (126, 24), (126, 25), (126, 26), (126, 27), (126, 28), (126, 30), (126, 31), (126, 32), (126, 33), (126, 34), (126, 35), (126, 37), (126, 38), (126, 39), (126, 40), (126, 41), (126, 42), (126, 43), (126, 44), (126, 45), (126, 46), (126, 47), (126, 48), (126, 49), (126, 50), (126, 51), (126, 52), (126, 53), (126, 54), (126, 55), (126, 56), (126, 58), (126, 60), (126, 61), (126, 62), (126, 63), (126, 64), (126, 65), (126, 66), (126, 73), (126, 74), (126, 76), (126, 77), (126, 78), (126, 79), (126, 80), (126, 81), (126, 82), (126, 85), (126, 88), (126, 89), (126, 91), (126, 93), (126, 94), (126, 97)] (hx_X L x) h u.1 u.2 ∧ hx_g u.1 u.2 x 10 ∧ u.2.2.1 x 0 = 0 ∧ u.2.2.1 x 1 = 0 ∧ u.2.2.1 x 36 = 0 ∧ u.2.2.1 x 57 = 0 ∧ u.2.2.1 x 7 = 0 ∧ u.2.2.1 x 20 = 0 ∧ u.2.2.1 x 29 = 0 ∧ u.2.2.1 x 59 = 0 ∧ u.2.2.1 x 72 = 0 ∧ u.2.2.1 x 83 = 0 ∧ u.2.2.1 x 84 = 0 ∧ u.2.2.1 x 90 = 0 ∧ u.2.2.1 x 92 = 0 ∧ ∃ q_words q_rule q_proofSteps q_proof q_tries q_isDead q_isJudge q_found q_list q_judged q_weekly q_owed q_doorX q_doorY q_tape q_born q_kin q_sum q_filed q_owedFrom q_heard q_ordered q_goods q_seized q_served q_earns q_heads q_payOf q_payDay q_paySum q_payKnown q_payStruck q_actDay : Nat, u.2.2.2 x 19 = some q_words ∧ hx_g u.1 u.2 q_words 57 ∧ u.2.2.2 x 3 = some q_rule ∧ hx_g u.1 u.2 q_rule 50 ∧ u.2.2.2 x 4 = some q_proofSteps ∧ hx_g u.1 u.2 q_proofSteps 51 ∧ u.2.2.2 x 5 = some q_proof ∧ hx_g u.1 u.2 q_proof 52 ∧ u.2.2.2 x 45 = some q_tries ∧ hx_g u.1 u.2 q_tries 80 ∧ u.2.2.2 x 27 = some q_isDead ∧ hx_g u.1 u.2 q_isDead 64 ∧ u.2.2.2 x 28 = some q_isJudge ∧ hx_g u.1 u.2 q_isJudge 65 ∧ u.2.2.2 x 46 = some q_found ∧ hx_g u.1 u.2 q_found 81 ∧ u.2.2.2 x 91 = some q_list ∧ hx_g u.1 u.2 q_list 112 ∧ u.2.2.2 x 51 = some q_judged ∧ hx_g u.1 u.2 q_judged 86 ∧ u.2.2.2 x 54 = some q_weekly ∧ hx_g u.1 u.2 q_weekly 89 ∧ u.2.2.2 x 55 = some q_owed ∧ hx_g u.1 u.2 q_owed 90 ∧ u.2.2.2 x 24 = some q_doorX ∧ hx_g u.1 u.2 q_doorX 61 ∧ u.2.2.2 x 25 = some q_doorY ∧ hx_g u.1 u.2 q_doorY 62 ∧ u.2.2.2 x 6 = some q_tape ∧ hx_g u.1 u.2 q_tape 53 ∧ u.2.2.2 x 21 = some q_born ∧ hx_g u.1 u.2 q_born 58 ∧ u.2.2.2 x 26 = some q_kin ∧ hx_g u.1 u.2 q_kin 63 ∧ u.2.2.2 x 39 = some q_sum ∧ hx_g u.1 u.2 q_sum 74 ∧ u.2.2.2 x 43 = some q_filed ∧ hx_g u.1 u.2 q_filed 78 ∧ u.2.2.2 x 40 = some q_owedFrom ∧ hx_g u.1 u.2 q_owedFrom 75 ∧ u.2.2.2 x 47 = some q_heard ∧ hx_g u.1 u.2 q_heard 82 ∧ u.2.2.2 x 48 = some q_ordered ∧ hx_g u.1 u.2 q_ordered 83 ∧ u.2.2.2 x 56 = some q_goods ∧ hx_g u.1 u.2 q_goods 91 ∧ u.2.2.2 x 49 = some q_seized ∧ hx_g u.1 u.2 q_seized 84 ∧ u.2.2.2 x 50 = some q_served ∧ hx_g u.1 u.2 q_served 85 ∧ u.2.2.2 x 22 = some q_earns ∧ hx_g u.1 u.2 q_earns 59 ∧ u.2.2.2 x 23 = some q_heads ∧ hx_g u.1 u.2 q_heads 60 ∧ u.2.2.2 x 60 = some q_payOf ∧ hx_g u.1 u.2 q_payOf 93 ∧ u.2.2.2 x 61 = some q_payDay ∧ hx_g u.1 u.2 q_payDay 94 ∧ u.2.2.2 x 62 = some q_paySum ∧ hx_g u.1 u.2 q_paySum 95 ∧ u.2.2.2 x 63 = some q_payKnown ∧ hx_g u.1 u.2 q_payKnown 96 ∧ u.2.2.2 x 64 = some q_payStruck ∧ hx_g u.1 u.2 q_payStruck 97 ∧ u.2.2.2 x 2 = some q_actDay ∧ hx_g u.1 u.2 q_actDay 49 ∧ hx_wd (u.2.2.1 q_words) ∧ hx_WK (u.2.2.1 q_rule) 0 ∧ hx_RP (u.2.2.1 q_proof) (u.2.2.1 q_proofSteps) 0 ∧ (∀ j, u.2.2.1 q_tries j = 0) ∧ (∀ j, u.2.2.1 q_isDead j = 0) ∧ (∀ j, u.2.2.1 q_isJudge j = 0) ∧ (∀ j, u.2.2.1 q_found j = 0) ∧ (∀ j, u.2.2.1 q_list j = 0) ∧ (∀ j, u.2.2.1 q_judged j = 0) ∧ (∀ j, u.2.2.1 q_weekly j = 0) ∧ (∀ j, u.2.2.1 q_owed j = 0) ∧ (∀ j, u.2.2.1 q_doorX j = 0) ∧ (∀ j, u.2.2.1 q_doorY j = 0) ∧ (∀ j, u.2.2.1 q_tape j = 0) ∧ (∀ j, u.2.2.1 q_born j = 0) ∧ (∀ j, u.2.2.1 q_kin j = 0) ∧ (∀ j, u.2.2.1 q_sum j = 0) ∧ (∀ j, u.2.2.1 q_filed j = 0) ∧ (∀ j, u.2.2.1 q_owedFrom j = 0) ∧ (∀ j, u.2.2.1 q_heard j = 0) ∧ (∀ j, u.2.2.1 q_ordered j = 0) ∧ (∀ j, u.2.2.1 q_goods j = 0) ∧ (∀ j, u.2.2.1 q_seized j = 0) ∧ (∀ j, u.2.2.1 q_served j = 0) ∧ (∀ j, u.2.2.1 q_earns j = 0) ∧ (∀ j, u.2.2.1 q_heads j = 0) ∧ (∀ j, u.2.2.1 q_payOf j = 0) ∧ (∀ j, u.2.2.1 q_payDay j = 0) ∧ (∀ j, u.2.2.1 q_paySum j = 0) ∧ (∀ j, u.2.2.1 q_payKnown j = 0) ∧ (∀ j, u.2.2.1 q_payStruck j = 0) ∧ hv_CA (u.2.2.1 q_actDay) (u.2.2.1 q_rule) (u.2.2.1 q_proofSteps) (u.2.2.1 q_proof) 0 (fun _ => hv_A0)) (hx_E T_tb (P_ty dA) (dC, dI) vwCl (hx_A L sz)) (hx_A L sz)) ([.ref x] : List Value).toArray s 67 15340 (hx_A L sz)) (F0 m 1148 ls []) := by
  refine lv_aload_n hx hb dX10_init_1148 rfl (lv_at hl 0 rfl) ?_
  refine lv_bipush (v := 40) hx hb dX10_init_1149 ?o0 ?_
  case o0 => decide
  refine hk_newa hx hb hts hW 62 tt_62 (atype := .int) rfl kw_186 (tys := P_ty dA) (t0 := 0) rfl (fun _ => Iff.rfl) rfl (i := (40 : Int32)) ?o1 (Nat.le_of_ble_eq_true rfl) (Nat.le_of_ble_eq_true rfl) (Nat.le_of_ble_eq_true rfl) dX10_init_1151 (fun q_229 H h_228 eh_228 hqq_229 hW hs gq_229 => ?_)
  case o1 => decide
  have hT : hx_T T_tb (L1 ++ [q_229]) h_228 := ?o2
  case o2 =>
    rw [eh_228]
    exact hx_T_nw hT hqq_229 tt_62 rfl
  have hcon := hcon.S hs trivial rfl
  have hz := hx_zr [2, 3, 4, 5, 6, 12, 15, 17, 19, 21, 22, 23, 24] hz hs gx trivial rfl
  have cw : ∀ j, j < 175 → h_228.2.1 q_34 j = P_words j := fun j hj => ((hs.a gq_34 rfl j).1).trans (cw j hj)
  have f_211 := (hs.o gx trivial rfl).2.trans f_211
  have hM := hM.tr (hs.mono ?o3)
  case o3 => decide
  have gx := gx.S hs
  have gq_34 := gq_34.S hs
  have cz : (∀ j, h_228.2.1 q_229 j = 0) ∧ ∀ j, h_228.2.2 q_229 j = none := ?o4
  case o4 =>
    rw [eh_228]
    exact ⟨fun _ => hx_nw_i, fun _ => hx_nw_r⟩
  refine hx_putrF hx hb hts hC_10 hown hW hT (hx_S.rf (M := [(126, 25)])) gx tt_126 25 ?o5 rfl kw_1168 ⟨rfl, rfl, rfl⟩ rfl hin rfl (x := (some q_229)) ⟨fun _ z => (by cases z), fun q hq => (by cases hq; exact ⟨gq_229.1, by rw [gq_229.2]; decide⟩)⟩ rfl rfl rfl (List.mem_singleton.mpr rfl) dX10_init_1153 (fun H locs h_230 eh_230 hW hT hs => ?_)
  case o5 => decide
  have hcon := hcon.S hs trivial rfl
  have hz := hx_zr [2, 3, 4, 5, 6, 12, 15, 17, 19, 21, 22, 23, 24, 25] hz hs gx trivial rfl
  have cw : ∀ j, j < 175 → h_230.2.1 q_34 j = P_words j := fun j hj => ((hs.a gq_34 rfl j).1).trans (cw j hj)
  have cz : (∀ j, h_230.2.1 q_229 j = 0) ∧ ∀ j, h_230.2.2 q_229 j = none := ⟨fun j => ((hs.a gq_229 rfl j).1).trans (cz.1 j), fun j => ((hs.a gq_229 rfl j).2).trans (cz.2 j)⟩
  have f_211 := (hs.o gx trivial rfl).2.trans f_211
  have hM := hM.tr (hs.mono ?o6)
  case o6 => decide
  have gx := gx.S hs
  have gq_34 := gq_34.S hs
  have gq_229 := gq_229.S hs
  have f_231 : h_230.2.2 x 25 = (some q_229) := ?o7
  case o7 =>
    rw [eh_230]
    exact hx_pr_at _ _ _ _
  have hcon := hx_con.add (tb := T_tb) hcon true f_231 gq_229 (fun _ => cz)
  refine lv_aload_n hx hb dX10_init_1156 rfl (lv_at hl 0 rfl) ?_
  refine lv_bipush (v := 40) hx hb dX10_init_1157 ?o8 ?_
  case o8 => decide
  refine hk_newa hx hb hts hW 63 tt_63 (atype := .int) rfl kw_186 (tys := P_ty dA) (t0 := 0) rfl (fun _ => Iff.rfl) rfl (i := (40 : Int32)) ?o9 (Nat.le_of_ble_eq_true rfl) (Nat.le_of_ble_eq_true rfl) (Nat.le_of_ble_eq_true rfl) dX10_init_1159 (fun q_233 H h_232 eh_232 hqq_233 hW hs gq_233 => ?_)
  case o9 => decide
  have hT : hx_T T_tb ((L1 ++ [q_229]) ++ [q_233]) h_232 := ?o10
  case o10 =>
    rw [eh_232]
    exact hx_T_nw hT hqq_233 tt_63 rfl
  have hcon := hcon.S hs trivial rfl
  have hz := hx_zr [2, 3, 4, 5, 6, 12, 15, 17, 19, 21, 22, 23, 24, 25] hz hs gx trivial rfl
  have cw : ∀ j, j < 175 → h_232.2.1 q_34 j = P_words j := fun j hj => ((hs.a gq_34 rfl j).1).trans (cw j hj)
  have f_211 := (hs.o gx trivial rfl).2.trans f_211
  have hM := hM.tr (hs.mono ?o11)
  case o11 => decide
  have gx := gx.S hs
  have gq_34 := gq_34.S hs
  have cz : (∀ j, h_232.2.1 q_233 j = 0) ∧ ∀ j, h_232.2.2 q_233 j = none := ?o12
  case o12 =>
    rw [eh_232]
    exact ⟨fun _ => hx_nw_i, fun _ => hx_nw_r⟩
  refine hx_putrF hx hb hts hC_10 hown hW hT (hx_S.rf (M := [(126, 26)])) gx tt_126 26 ?o13 rfl kw_1169 ⟨rfl, rfl, rfl⟩ rfl hin rfl (x := (some q_233)) ⟨fun _ z => (by cases z), fun q hq => (by cases hq; exact ⟨gq_233.1, by rw [gq_233.2]; decide⟩)⟩ rfl rfl rfl (List.mem_singleton.mpr rfl) dX10_init_1161 (fun H locs h_234 eh_234 hW hT hs => ?_)
  case o13 => decide
  have hcon := hcon.S hs trivial rfl
  have hz := hx_zr [2, 3, 4, 5, 6, 12, 15, 17, 19, 21, 22, 23, 24, 25, 26] hz hs gx trivial rfl
  have cw : ∀ j, j < 175 → h_234.2.1 q_34 j = P_words j := fun j hj => ((hs.a gq_34 rfl j).1).trans (cw j hj)
  have cz : (∀ j, h_234.2.1 q_233 j = 0) ∧ ∀ j, h_234.2.2 q_233 j = none := ⟨fun j => ((hs.a gq_233 rfl j).1).trans (cz.1 j), fun j => ((hs.a gq_233 rfl j).2).trans (cz.2 j)⟩
  have f_211 := (hs.o gx trivial rfl).2.trans f_211
  have hM := hM.tr (hs.mono ?o14)
  case o14 => decide
  have gx := gx.S hs
  have gq_34 := gq_34.S hs
  have gq_233 := gq_233.S hs
  have f_235 : h_234.2.2 x 26 = (some q_233) := ?o15
  case o15 =>
    rw [eh_234]
    exact hx_pr_at _ _ _ _
  have hcon := hx_con.add (tb := T_tb) hcon true f_235 gq_233 (fun _ => cz)
  refine lv_aload_n hx hb dX10_init_1164 rfl (lv_at hl 0 rfl) ?_
  refine lv_bipush (v := 40) hx hb dX10_init_1165 ?o16 ?_
  case o16 => decide
  refine hk_newa hx hb hts hW 64 tt_64 (atype := .boolean) rfl kw_222 (tys := P_ty dA) (t0 := 2) rfl (fun _ => Iff.rfl) rfl (i := (40 : Int32)) ?o17 (Nat.le_of_ble_eq_true rfl) (Nat.le_of_ble_eq_true rfl) (Nat.le_of_ble_eq_true rfl) dX10_init_1167 (fun q_237 H h_236 eh_236 hqq_237 hW hs gq_237 => ?_)
  case o17 => decide
  have hT : hx_T T_tb (((L1 ++ [q_229]) ++ [q_233]) ++ [q_237]) h_236 := ?o18
  case o18 =>
    rw [eh_236]
    exact hx_T_nw hT hqq_237 tt_64 rfl
  have hcon := hcon.S hs trivial rfl
  have hz := hx_zr [2, 3, 4, 5, 6, 12, 15, 17, 19, 21, 22, 23, 24, 25, 26] hz hs gx trivial rfl
  have cw : ∀ j, j < 175 → h_236.2.1 q_34 j = P_words j := fun j hj => ((hs.a gq_34 rfl j).1).trans (cw j hj)
  have f_211 := (hs.o gx trivial rfl).2.trans f_211
  have hM := hM.tr (hs.mono ?o19)
  case o19 => decide
  have gx := gx.S hs
  have gq_34 := gq_34.S hs
  have cz : (∀ j, h_236.2.1 q_237 j = 0) ∧ ∀ j, h_236.2.2 q_237 j = none := ?o20
  case o20 =>
    rw [eh_236]
    exact ⟨fun _ => hx_nw_i, fun _ => hx_nw_r⟩
  refine hx_putrF hx hb hts hC_10 hown hW hT (hx_S.rf (M := [(126, 27)])) gx tt_126 27 ?o21 rfl kw_1170 ⟨rfl, rfl, rfl⟩ rfl hin rfl (x := (some q_237)) ⟨fun _ z => (by cases z), fun q hq => (by cases hq; exact ⟨gq_237.1, by rw [gq_237.2]; decide⟩)⟩ rfl rfl rfl (List.mem_singleton.mpr rfl) dX10_init_1169 (fun H locs h_238 eh_238 hW hT hs => ?_)
  case o21 => decide
  have hcon := hcon.S hs trivial rfl
  have hz := hx_zr [2, 3, 4, 5, 6, 12, 15, 17, 19, 21, 22, 23, 24, 25, 26, 27] hz hs gx trivial rfl
  have cw : ∀ j, j < 175 → h_238.2.1 q_34 j = P_words j := fun j hj => ((hs.a gq_34 rfl j).1).trans (cw j hj)
  have cz : (∀ j, h_238.2.1 q_237 j = 0) ∧ ∀ j, h_238.2.2 q_237 j = none := ⟨fun j => ((hs.a gq_237 rfl j).1).trans (cz.1 j), fun j => ((hs.a gq_237 rfl j).2).trans (cz.2 j)⟩
  have f_211 := (hs.o gx trivial rfl).2.trans f_211
  have hM := hM.tr (hs.mono ?o22)
  case o22 => decide
  have gx := gx.S hs
  have gq_34 := gq_34.S hs
  have gq_237 := gq_237.S hs
  have f_239 : h_238.2.2 x 27 = (some q_237) := ?o23
  case o23 =>
    rw [eh_238]
    exact hx_pr_at _ _ _ _
  have hcon := hx_con.add (tb := T_tb) hcon true f_239 gq_237 (fun _ => cz)
  refine lv_aload_n hx hb dX10_init_1172 rfl (lv_at hl 0 rfl) ?_
  refine lv_bipush (v := 40) hx hb dX10_init_1173 ?o24 ?_
  case o24 => decide
  refine hk_newa hx hb hts hW 65 tt_65 (atype := .boolean) rfl kw_222 (tys := P_ty dA) (t0 := 2) rfl (fun _ => Iff.rfl) rfl (i := (40 : Int32)) ?o25 (Nat.le_of_ble_eq_true rfl) (Nat.le_of_ble_eq_true rfl) (Nat.le_of_ble_eq_true rfl) dX10_init_1175 (fun q_241 H h_240 eh_240 hqq_241 hW hs gq_241 => ?_)
  case o25 => decide
  have hT : hx_T T_tb ((((L1 ++ [q_229]) ++ [q_233]) ++ [q_237]) ++ [q_241]) h_240 := ?o26
  case o26 =>
    rw [eh_240]
    exact hx_T_nw hT hqq_241 tt_65 rfl
  have hcon := hcon.S hs trivial rfl
  have hz := hx_zr [2, 3, 4, 5, 6, 12, 15, 17, 19, 21, 22, 23, 24, 25, 26, 27] hz hs gx trivial rfl
  have cw : ∀ j, j < 175 → h_240.2.1 q_34 j = P_words j := fun j hj => ((hs.a gq_34 rfl j).1).trans (cw j hj)
  have f_211 := (hs.o gx trivial rfl).2.trans f_211
  have hM := hM.tr (hs.mono ?o27)
  case o27 => decide
  have gx := gx.S hs
  have gq_34 := gq_34.S hs
  have cz : (∀ j, h_240.2.1 q_241 j = 0) ∧ ∀ j, h_240.2.2 q_241 j = none := ?o28
  case o28 =>
    rw [eh_240]
    exact ⟨fun _ => hx_nw_i, fun _ => hx_nw_r⟩
  refine hx_putrF hx hb hts hC_10 hown hW hT (hx_S.rf (M := [(126, 28)])) gx tt_126 28 ?o29 rfl kw_1171 ⟨rfl, rfl, rfl⟩ rfl hin rfl (x := (some q_241)) ⟨fun _ z => (by cases z), fun q hq => (by cases hq; exact ⟨gq_241.1, by rw [gq_241.2]; decide⟩)⟩ rfl rfl rfl (List.mem_singleton.mpr rfl) dX10_init_1177 (fun H locs h_242 eh_242 hW hT hs => ?_)
  case o29 => decide
  have hcon := hcon.S hs trivial rfl
  have hz := hx_zr [2, 3, 4, 5, 6, 12, 15, 17, 19, 21, 22, 23, 24, 25, 26, 27, 28] hz hs gx trivial rfl
  have cw : ∀ j, j < 175 → h_242.2.1 q_34 j = P_words j := fun j hj => ((hs.a gq_34 rfl j).1).trans (cw j hj)
  have cz : (∀ j, h_242.2.1 q_241 j = 0) ∧ ∀ j, h_242.2.2 q_241 j = none := ⟨fun j => ((hs.a gq_241 rfl j).1).trans (cz.1 j), fun j => ((hs.a gq_241 rfl j).2).trans (cz.2 j)⟩
  have f_211 := (hs.o gx trivial rfl).2.trans f_211
  have hM := hM.tr (hs.mono ?o30)
  case o30 => decide
  have gx := gx.S hs
  have gq_34 := gq_34.S hs
  have gq_241 := gq_241.S hs
  have f_243 : h_242.2.2 x 28 = (some q_241) := ?o31
  case o31 =>
    rw [eh_242]
    exact hx_pr_at _ _ _ _
  have hcon := hx_con.add (tb := T_tb) hcon true f_243 gq_241 (fun _ => cz)
  refine lv_aload_n hx hb dX10_init_1180 rfl (lv_at hl 0 rfl) ?_
  refine lv_sipush (v := 400) hx hb dX10_init_1181 ?o32 ?_
  case o32 => decide
  refine hk_newa hx hb hts hW 66 tt_66 (atype := .int) rfl kw_186 (tys := P_ty dA) (t0 := 0) rfl (fun _ => Iff.rfl) rfl (i := (400 : Int32)) ?o33 (Nat.le_of_ble_eq_true rfl) (Nat.le_of_ble_eq_true rfl) (Nat.le_of_ble_eq_true rfl) dX10_init_1184 (fun q_245 H h_244 eh_244 hqq_245 hW hs gq_245 => ?_)
  case o33 => decide
  have hT : hx_T T_tb (((((L1 ++ [q_229]) ++ [q_233]) ++ [q_237]) ++ [q_241]) ++ [q_245]) h_244 := ?o34
  case o34 =>
    rw [eh_244]
    exact hx_T_nw hT hqq_245 tt_66 rfl
  have hcon := hcon.S hs trivial rfl
  have hz := hx_zr [2, 3, 4, 5, 6, 12, 15, 17, 19, 21, 22, 23, 24, 25, 26, 27, 28] hz hs gx trivial rfl
  have cw : ∀ j, j < 175 → h_244.2.1 q_34 j = P_words j := fun j hj => ((hs.a gq_34 rfl j).1).trans (cw j hj)
  have f_211 := (hs.o gx trivial rfl).2.trans f_211
  have hM := hM.tr (hs.mono ?o35)
  case o35 => decide
  have gx := gx.S hs
  have gq_34 := gq_34.S hs
  refine hx_putrF hx hb hts hC_10 hown hW hT (hx_S.rf (M := [(126, 30)])) gx tt_126 30 ?o36 rfl kw_1173 ⟨rfl, rfl, rfl⟩ rfl hin rfl (x := (some q_245)) ⟨fun _ z => (by cases z), fun q hq => (by cases hq; exact ⟨gq_245.1, by rw [gq_245.2]; decide⟩)⟩ rfl rfl rfl (List.mem_singleton.mpr rfl) dX10_init_1186 (fun H locs h_246 eh_246 hW hT hs => ?_)
  case o36 => decide
  have hcon := hcon.S hs trivial rfl
  have hz := hx_zr [2, 3, 4, 5, 6, 12, 15, 17, 19, 21, 22, 23, 24, 25, 26, 27, 28, 30] hz hs gx trivial rfl
  have cw : ∀ j, j < 175 → h_246.2.1 q_34 j = P_words j := fun j hj => ((hs.a gq_34 rfl j).1).trans (cw j hj)
  have f_211 := (hs.o gx trivial rfl).2.trans f_211
  have hM := hM.tr (hs.mono ?o37)
  case o37 => decide
  have gx := gx.S hs
  have gq_34 := gq_34.S hs
  have gq_245 := gq_245.S hs
  have f_247 : h_246.2.2 x 30 = (some q_245) := ?o38
  case o38 =>
    rw [eh_246]
    exact hx_pr_at _ _ _ _
  have hcon := hx_con.add (tb := T_tb) hcon false f_247 gq_245 (fun z => by cases z)
  refine lv_aload_n hx hb dX10_init_1189 rfl (lv_at hl 0 rfl) ?_
  refine lv_sipush (v := 400) hx hb dX10_init_1190 ?o39 ?_
  case o39 => decide
  refine hk_newa hx hb hts hW 67 tt_67 (atype := .int) rfl kw_186 (tys := P_ty dA) (t0 := 0) rfl (fun _ => Iff.rfl) rfl (i := (400 : Int32)) ?o40 (Nat.le_of_ble_eq_true rfl) (Nat.le_of_ble_eq_true rfl) (Nat.le_of_ble_eq_true rfl) dX10_init_1193 (fun q_249 H h_248 eh_248 hqq_249 hW hs gq_249 => ?_)
  case o40 => decide
  have hT : hx_T T_tb ((((((L1 ++ [q_229]) ++ [q_233]) ++ [q_237]) ++ [q_241]) ++ [q_245]) ++ [q_249]) h_248 := ?o41
  case o41 =>
    rw [eh_248]
    exact hx_T_nw hT hqq_249 tt_67 rfl
  have hcon := hcon.S hs trivial rfl
  have hz := hx_zr [2, 3, 4, 5, 6, 12, 15, 17, 19, 21, 22, 23, 24, 25, 26, 27, 28, 30] hz hs gx trivial rfl
  have cw : ∀ j, j < 175 → h_248.2.1 q_34 j = P_words j := fun j hj => ((hs.a gq_34 rfl j).1).trans (cw j hj)
  have f_211 := (hs.o gx trivial rfl).2.trans f_211
  have hM := hM.tr (hs.mono ?o42)
  case o42 => decide
  have gx := gx.S hs
  have gq_34 := gq_34.S hs
  refine hx_putrF hx hb hts hC_10 hown hW hT (hx_S.rf (M := [(126, 31)])) gx tt_126 31 ?o43 rfl kw_1174 ⟨rfl, rfl, rfl⟩ rfl hin rfl (x := (some q_249)) ⟨fun _ z => (by cases z), fun q hq => (by cases hq; exact ⟨gq_249.1, by rw [gq_249.2]; decide⟩)⟩ rfl rfl rfl (List.mem_singleton.mpr rfl) dX10_init_1195 (fun H locs h_250 eh_250 hW hT hs => ?_)
  case o43 => decide
  have hcon := hcon.S hs trivial rfl
  have hz := hx_zr [2, 3, 4, 5, 6, 12, 15, 17, 19, 21, 22, 23, 24, 25, 26, 27, 28, 30, 31] hz hs gx trivial rfl
  have cw : ∀ j, j < 175 → h_250.2.1 q_34 j = P_words j := fun j hj => ((hs.a gq_34 rfl j).1).trans (cw j hj)
  have f_211 := (hs.o gx trivial rfl).2.trans f_211
  have hM := hM.tr (hs.mono ?o44)
  case o44 => decide
  have gx := gx.S hs
  have gq_34 := gq_34.S hs
  have gq_249 := gq_249.S hs
  have f_251 : h_250.2.2 x 31 = (some q_249) := ?o45
  case o45 =>
    rw [eh_250]
    exact hx_pr_at _ _ _ _
  have hcon := hx_con.add (tb := T_tb) hcon false f_251 gq_249 (fun z => by cases z)
  refine lv_aload_n hx hb dX10_init_1198 rfl (lv_at hl 0 rfl) ?_
  refine lv_sipush (v := 400) hx hb dX10_init_1199 ?o46 ?_
  case o46 => decide
  refine hk_newa hx hb hts hW 68 tt_68 (atype := .int) rfl kw_186 (tys := P_ty dA) (t0 := 0) rfl (fun _ => Iff.rfl) rfl (i := (400 : Int32)) ?o47 (Nat.le_of_ble_eq_true rfl) (Nat.le_of_ble_eq_true rfl) (Nat.le_of_ble_eq_true rfl) dX10_init_1202 (fun q_253 H h_252 eh_252 hqq_253 hW hs gq_253 => ?_)
  case o47 => decide
  have hT : hx_T T_tb (((((((L1 ++ [q_229]) ++ [q_233]) ++ [q_237]) ++ [q_241]) ++ [q_245]) ++ [q_249]) ++ [q_253]) h_252 := ?o48
  case o48 =>
    rw [eh_252]
    exact hx_T_nw hT hqq_253 tt_68 rfl
  have hcon := hcon.S hs trivial rfl
  have hz := hx_zr [2, 3, 4, 5, 6, 12, 15, 17, 19, 21, 22, 23, 24, 25, 26, 27, 28, 30, 31] hz hs gx trivial rfl
  have cw : ∀ j, j < 175 → h_252.2.1 q_34 j = P_words j := fun j hj => ((hs.a gq_34 rfl j).1).trans (cw j hj)
  have f_211 := (hs.o gx trivial rfl).2.trans f_211
  have hM := hM.tr (hs.mono ?o49)
  case o49 => decide
  have gx := gx.S hs
  have gq_34 := gq_34.S hs
  refine hx_putrF hx hb hts hC_10 hown hW hT (hx_S.rf (M := [(126, 32)])) gx tt_126 32 ?o50 rfl kw_1175 ⟨rfl, rfl, rfl⟩ rfl hin rfl (x := (some q_253)) ⟨fun _ z => (by cases z), fun q hq => (by cases hq; exact ⟨gq_253.1, by rw [gq_253.2]; decide⟩)⟩ rfl rfl rfl (List.mem_singleton.mpr rfl) dX10_init_1204 (fun H locs h_254 eh_254 hW hT hs => ?_)
  case o50 => decide
  have hcon := hcon.S hs trivial rfl
  have hz := hx_zr [2, 3, 4, 5, 6, 12, 15, 17, 19, 21, 22, 23, 24, 25, 26, 27, 28, 30, 31, 32] hz hs gx trivial rfl
  have cw : ∀ j, j < 175 → h_254.2.1 q_34 j = P_words j := fun j hj => ((hs.a gq_34 rfl j).1).trans (cw j hj)
  have f_211 := (hs.o gx trivial rfl).2.trans f_211
  have hM := hM.tr (hs.mono ?o51)
  case o51 => decide
  have gx := gx.S hs
  have gq_34 := gq_34.S hs
  have gq_253 := gq_253.S hs
  have f_255 : h_254.2.2 x 32 = (some q_253) := ?o52
  case o52 =>
    rw [eh_254]
    exact hx_pr_at _ _ _ _
  have hcon := hx_con.add (tb := T_tb) hcon false f_255 gq_253 (fun z => by cases z)
  refine lv_aload_n hx hb dX10_init_1207 rfl (lv_at hl 0 rfl) ?_
  refine lv_sipush (v := 400) hx hb dX10_init_1208 ?o53 ?_
  case o53 => decide
  refine hk_newa hx hb hts hW 69 tt_69 (atype := .int) rfl kw_186 (tys := P_ty dA) (t0 := 0) rfl (fun _ => Iff.rfl) rfl (i := (400 : Int32)) ?o54 (Nat.le_of_ble_eq_true rfl) (Nat.le_of_ble_eq_true rfl) (Nat.le_of_ble_eq_true rfl) dX10_init_1211 (fun q_257 H h_256 eh_256 hqq_257 hW hs gq_257 => ?_)
  case o54 => decide
  have hT : hx_T T_tb ((((((((L1 ++ [q_229]) ++ [q_233]) ++ [q_237]) ++ [q_241]) ++ [q_245]) ++ [q_249]) ++ [q_253]) ++ [q_257]) h_256 := ?o55
  case o55 =>
    rw [eh_256]
    exact hx_T_nw hT hqq_257 tt_69 rfl
  have hcon := hcon.S hs trivial rfl
  have hz := hx_zr [2, 3, 4, 5, 6, 12, 15, 17, 19, 21, 22, 23, 24, 25, 26, 27, 28, 30, 31, 32] hz hs gx trivial rfl
  have cw : ∀ j, j < 175 → h_256.2.1 q_34 j = P_words j := fun j hj => ((hs.a gq_34 rfl j).1).trans (cw j hj)
  have f_211 := (hs.o gx trivial rfl).2.trans f_211
  have hM := hM.tr (hs.mono ?o56)
  case o56 => decide
  have gx := gx.S hs
  have gq_34 := gq_34.S hs
  refine hx_putrF hx hb hts hC_10 hown hW hT (hx_S.rf (M := [(126, 33)])) gx tt_126 33 ?o57 rfl kw_1176 ⟨rfl, rfl, rfl⟩ rfl hin rfl (x := (some q_257)) ⟨fun _ z => (by cases z), fun q hq => (by cases hq; exact ⟨gq_257.1, by rw [gq_257.2]; decide⟩)⟩ rfl rfl rfl (List.mem_singleton.mpr rfl) dX10_init_1213 (fun H locs h_258 eh_258 hW hT hs => ?_)
  case o57 => decide
  have hcon := hcon.S hs trivial rfl
  have hz := hx_zr [2, 3, 4, 5, 6, 12, 15, 17, 19, 21, 22, 23, 24, 25, 26, 27, 28, 30, 31, 32, 33] hz hs gx trivial rfl
  have cw : ∀ j, j < 175 → h_258.2.1 q_34 j = P_words j := fun j hj => ((hs.a gq_34 rfl j).1).trans (cw j hj)
  have f_211 := (hs.o gx trivial rfl).2.trans f_211
  have hM := hM.tr (hs.mono ?o58)
  case o58 => decide
  have gx := gx.S hs
  have gq_34 := gq_34.S hs
  have gq_257 := gq_257.S hs
  have f_259 : h_258.2.2 x 33 = (some q_257) := ?o59
  case o59 =>
    rw [eh_258]
    exact hx_pr_at _ _ _ _
  have hcon := hx_con.add (tb := T_tb) hcon false f_259 gq_257 (fun z => by cases z)
  refine lv_aload_n hx hb dX10_init_1216 rfl (lv_at hl 0 rfl) ?_
  refine lv_sipush (v := 400) hx hb dX10_init_1217 ?o60 ?_
  case o60 => decide
  refine hk_newa hx hb hts hW 70 tt_70 (atype := .int) rfl kw_186 (tys := P_ty dA) (t0 := 0) rfl (fun _ => Iff.rfl) rfl (i := (400 : Int32)) ?o61 (Nat.le_of_ble_eq_true rfl) (Nat.le_of_ble_eq_true rfl) (Nat.le_of_ble_eq_true rfl) dX10_init_1220 (fun q_261 H h_260 eh_260 hqq_261 hW hs gq_261 => ?_)
  case o61 => decide
  have hT : hx_T T_tb (((((((((L1 ++ [q_229]) ++ [q_233]) ++ [q_237]) ++ [q_241]) ++ [q_245]) ++ [q_249]) ++ [q_253]) ++ [q_257]) ++ [q_261]) h_260 := ?o62
  case o62 =>
    rw [eh_260]
    exact hx_T_nw hT hqq_261 tt_70 rfl
  have hcon := hcon.S hs trivial rfl
  have hz := hx_zr [2, 3, 4, 5, 6, 12, 15, 17, 19, 21, 22, 23, 24, 25, 26, 27, 28, 30, 31, 32, 33] hz hs gx trivial rfl
  have cw : ∀ j, j < 175 → h_260.2.1 q_34 j = P_words j := fun j hj => ((hs.a gq_34 rfl j).1).trans (cw j hj)
  have f_211 := (hs.o gx trivial rfl).2.trans f_211
  have hM := hM.tr (hs.mono ?o63)
  case o63 => decide
  have gx := gx.S hs
  have gq_34 := gq_34.S hs
  refine hx_putrF hx hb hts hC_10 hown hW hT (hx_S.rf (M := [(126, 34)])) gx tt_126 34 ?o64 rfl kw_1177 ⟨rfl, rfl, rfl⟩ rfl hin rfl (x := (some q_261)) ⟨fun _ z => (by cases z), fun q hq => (by cases hq; exact ⟨gq_261.1, by rw [gq_261.2]; decide⟩)⟩ rfl rfl rfl (List.mem_singleton.mpr rfl) dX10_init_1222 (fun H locs h_262 eh_262 hW hT hs => ?_)
  case o64 => decide
  have hcon := hcon.S hs trivial rfl
  have hz := hx_zr [2, 3, 4, 5, 6, 12, 15, 17, 19, 21, 22, 23, 24, 25, 26, 27, 28, 30, 31, 32, 33, 34] hz hs gx trivial rfl
  have cw : ∀ j, j < 175 → h_262.2.1 q_34 j = P_words j := fun j hj => ((hs.a gq_34 rfl j).1).trans (cw j hj)
  have f_211 := (hs.o gx trivial rfl).2.trans f_211
  have hM := hM.tr (hs.mono ?o65)
  case o65 => decide
  have gx := gx.S hs
  have gq_34 := gq_34.S hs
  have gq_261 := gq_261.S hs
  have f_263 : h_262.2.2 x 34 = (some q_261) := ?o66
  case o66 =>
    rw [eh_262]
    exact hx_pr_at _ _ _ _
  have hcon := hx_con.add (tb := T_tb) hcon false f_263 gq_261 (fun z => by cases z)
  exact si_10 l dC dI dA L h sz b0 x q_34 hx hb hml hr hlk hts hown hin hsz hZ (((((((((L1 ++ [q_229]) ++ [q_233]) ++ [q_237]) ++ [q_241]) ++ [q_245]) ++ [q_249]) ++ [q_253]) ++ [q_257]) ++ [q_261]) h_262 _ _ ls hW hT hM gx hcon hz gq_34 f_211 cw hl

set_option maxHeartbeats 4000000 in
set_option maxRecDepth 100000 in
theorem si_8 (l : Launch) (dC : Nat → ClassId) (dI : Nat → Nat → Nat) (dA : Nat → ClassId) (L : List Nat) (h : hx_h) (sz : Nat) (b0 : hx_z) (x : Nat) (q_34 : Nat) {p : Program} {e : Env} {s : State} {m : MethodId} {below : List Frame} {meth : Method} {c : Code} (hx : p.tables.exec = Jvm.exec) (hb : c.code = cX10_init) (hml : c.maxLocals = 2) (hr : meth.sig.returnType = none) (hlk : meth.locks = false) (hts : ∀ w ∈ hx_all, w.before ([.ref x] : List Value).toArray s = true) (hown : s.vm.findClass "SmallCourtModel" = some m.cls) (hin : meth.name = "<init>") (hsz : s.heap.size = sz) (hZ : hx_Xt (hx_A L sz) b0 s) (L1 : List Nat) (hl1 : hx_h) (H : Heap) (locs : List Loc) (ls : Array Slot) (hW : hx_W T_tb (P_ty dA) (dC, dI) vwCl (hx_A L sz) s.heap L1 hl1 s H locs) (hT : hx_T T_tb L1 hl1) (hM : hx_S T_tb [(10, 14), (10, 16), (10, 18), (50, 0), (51, 0), (52, 0), (55, 0), (57, 0), (126, 2), (126, 3), (126, 4), (126, 5), (126, 6), (126, 12), (126, 15), (126, 17), (126, 19), (126, 21), (126, 22), (126, 23), (126, 24), (126, 25), (126, 26), (126, 27), (126, 28), (126, 30), (126, 31), (126, 32), (126, 33), (126, 34), (126, 35), (126, 37), (126, 38), (126, 39), (126, 40), (126, 41), (126, 42), (126, 43), (126, 44), (126, 45), (126, 46), (126, 47), (126, 48), (126, 49), (126, 50), (126, 51), (126, 52), (126, 53), (126, 54), (126, 55), (126, 56), (126, 58), (126, 60), (126, 61), (126, 62), (126, 63), (126, 64), (126, 65), (126, 66), (126, 73), (126, 74), (126, 76), (126, 77), (126, 78), (126, 79), (126, 80), (126, 81), (126, 82), (126, 85), (126, 88), (126, 89), (126, 91), (126, 93), (126, 94), (126, 97)] (hx_X L x) h L1 hl1) (gx : hx_g L1 hl1 x 126) (hcon : hx_con L1 hl1 x 126 [(17, 56, false), (15, 55, false), (12, 54, false), (6, 53, true), (5, 52, false), (4, 51, false), (3, 50, false), (2, 49, false)] []) (hz : ∀ j, [2, 3, 4, 5, 6, 12, 15, 17].contains j = false → hl1.2.1 x j = 0 ∧ hl1.2.2 x j = none) (gq_34 : hx_g L1 hl1 q_34 57)  (cw : ∀ j, j < 165 → hl1.2.1 q_34 j = P_words j) (hl : lv_has ls 2 [(0, .ref x)]) : W p l e ({ frames := 2, cells := 67, slots := 15340, locals := 42 }) s m ([.ref x] : List Value).toArray below meth c H locs 9 2131 (MQ below (va_Qv (fun (u : List Nat × hx_h) => hx_T T_tb u.1 u.2 ∧ hx_S T_tb [(10, 14), (10, 16), (10, 18), (50, 0), (51, 0), (52, 0), (55, 0), (57, 0), (126, 2), (126, 3), (126, 4), (126, 5), (126, 6), (126, 12), (126, 15), (126, 17), (126, 19), (126, 21), (126, 22), (126, 23), (126, 24), (126, 25), (126, 26), (126, 27), (126, 28), (126, 30), (126, 31), (126, 32), (126, 33), (126, 34), (126, 35), (126, 37), (126, 38), (126, 39), (126, 40), (126, 41), (126, 42), (126, 43), (126, 44), (126, 45), (126, 46), (126, 47), (126, 48), (126, 49), (126, 50), (126, 51), (126, 52), (126, 53), (126, 54), (126, 55), (126, 56), (126, 58), (126, 60), (126, 61), (126, 62), (126, 63), (126, 64), (126, 65), (126, 66), (126, 73), (126, 74), (126, 76), (126, 77), (126, 78), (126, 79), (126, 80), (126, 81), (126, 82), (126, 85), (126, 88), (126, 89), (126, 91), (126, 93), (126, 94), (126, 97)] (hx_X L x) h u.1 u.2 ∧ hx_g u.1 u.2 x 10 ∧ u.2.2.1 x 0 = 0 ∧ u.2.2.1 x 1 = 0 ∧ u.2.2.1 x 36 = 0 ∧ u.2.2.1 x 57 = 0 ∧ u.2.2.1 x 7 = 0 ∧ u.2.2.1 x 20 = 0 ∧ u.2.2.1 x 29 = 0 ∧ u.2.2.1 x 59 = 0 ∧ u.2.2.1 x 72 = 0 ∧ u.2.2.1 x 83 = 0 ∧ u.2.2.1 x 84 = 0 ∧ u.2.2.1 x 90 = 0 ∧ u.2.2.1 x 92 = 0 ∧ ∃ q_words q_rule q_proofSteps q_proof q_tries q_isDead q_isJudge q_found q_list q_judged q_weekly q_owed q_doorX q_doorY q_tape q_born q_kin q_sum q_filed q_owedFrom q_heard q_ordered q_goods q_seized q_served q_earns q_heads q_payOf q_payDay q_paySum q_payKnown q_payStruck q_actDay : Nat, u.2.2.2 x 19 = some q_words ∧ hx_g u.1 u.2 q_words 57 ∧ u.2.2.2 x 3 = some q_rule ∧ hx_g u.1 u.2 q_rule 50 ∧ u.2.2.2 x 4 = some q_proofSteps ∧ hx_g u.1 u.2 q_proofSteps 51 ∧ u.2.2.2 x 5 = some q_proof ∧ hx_g u.1 u.2 q_proof 52 ∧ u.2.2.2 x 45 = some q_tries ∧ hx_g u.1 u.2 q_tries 80 ∧ u.2.2.2 x 27 = some q_isDead ∧ hx_g u.1 u.2 q_isDead 64 ∧ u.2.2.2 x 28 = some q_isJudge ∧ hx_g u.1 u.2 q_isJudge 65 ∧ u.2.2.2 x 46 = some q_found ∧ hx_g u.1 u.2 q_found 81 ∧ u.2.2.2 x 91 = some q_list ∧ hx_g u.1 u.2 q_list 112 ∧ u.2.2.2 x 51 = some q_judged ∧ hx_g u.1 u.2 q_judged 86 ∧ u.2.2.2 x 54 = some q_weekly ∧ hx_g u.1 u.2 q_weekly 89 ∧ u.2.2.2 x 55 = some q_owed ∧ hx_g u.1 u.2 q_owed 90 ∧ u.2.2.2 x 24 = some q_doorX ∧ hx_g u.1 u.2 q_doorX 61 ∧ u.2.2.2 x 25 = some q_doorY ∧ hx_g u.1 u.2 q_doorY 62 ∧ u.2.2.2 x 6 = some q_tape ∧ hx_g u.1 u.2 q_tape 53 ∧ u.2.2.2 x 21 = some q_born ∧ hx_g u.1 u.2 q_born 58 ∧ u.2.2.2 x 26 = some q_kin ∧ hx_g u.1 u.2 q_kin 63 ∧ u.2.2.2 x 39 = some q_sum ∧ hx_g u.1 u.2 q_sum 74 ∧ u.2.2.2 x 43 = some q_filed ∧ hx_g u.1 u.2 q_filed 78 ∧ u.2.2.2 x 40 = some q_owedFrom ∧ hx_g u.1 u.2 q_owedFrom 75 ∧ u.2.2.2 x 47 = some q_heard ∧ hx_g u.1 u.2 q_heard 82 ∧ u.2.2.2 x 48 = some q_ordered ∧ hx_g u.1 u.2 q_ordered 83 ∧ u.2.2.2 x 56 = some q_goods ∧ hx_g u.1 u.2 q_goods 91 ∧ u.2.2.2 x 49 = some q_seized ∧ hx_g u.1 u.2 q_seized 84 ∧ u.2.2.2 x 50 = some q_served ∧ hx_g u.1 u.2 q_served 85 ∧ u.2.2.2 x 22 = some q_earns ∧ hx_g u.1 u.2 q_earns 59 ∧ u.2.2.2 x 23 = some q_heads ∧ hx_g u.1 u.2 q_heads 60 ∧ u.2.2.2 x 60 = some q_payOf ∧ hx_g u.1 u.2 q_payOf 93 ∧ u.2.2.2 x 61 = some q_payDay ∧ hx_g u.1 u.2 q_payDay 94 ∧ u.2.2.2 x 62 = some q_paySum ∧ hx_g u.1 u.2 q_paySum 95 ∧ u.2.2.2 x 63 = some q_payKnown ∧ hx_g u.1 u.2 q_payKnown 96 ∧ u.2.2.2 x 64 = some q_payStruck ∧ hx_g u.1 u.2 q_payStruck 97 ∧ u.2.2.2 x 2 = some q_actDay ∧ hx_g u.1 u.2 q_actDay 49 ∧ hx_wd (u.2.2.1 q_words) ∧ hx_WK (u.2.2.1 q_rule) 0 ∧ hx_RP (u.2.2.1 q_proof) (u.2.2.1 q_proofSteps) 0 ∧ (∀ j, u.2.2.1 q_tries j = 0) ∧ (∀ j, u.2.2.1 q_isDead j = 0) ∧ (∀ j, u.2.2.1 q_isJudge j = 0) ∧ (∀ j, u.2.2.1 q_found j = 0) ∧ (∀ j, u.2.2.1 q_list j = 0) ∧ (∀ j, u.2.2.1 q_judged j = 0) ∧ (∀ j, u.2.2.1 q_weekly j = 0) ∧ (∀ j, u.2.2.1 q_owed j = 0) ∧ (∀ j, u.2.2.1 q_doorX j = 0) ∧ (∀ j, u.2.2.1 q_doorY j = 0) ∧ (∀ j, u.2.2.1 q_tape j = 0) ∧ (∀ j, u.2.2.1 q_born j = 0) ∧ (∀ j, u.2.2.1 q_kin j = 0) ∧ (∀ j, u.2.2.1 q_sum j = 0) ∧ (∀ j, u.2.2.1 q_filed j = 0) ∧ (∀ j, u.2.2.1 q_owedFrom j = 0) ∧ (∀ j, u.2.2.1 q_heard j = 0) ∧ (∀ j, u.2.2.1 q_ordered j = 0) ∧ (∀ j, u.2.2.1 q_goods j = 0) ∧ (∀ j, u.2.2.1 q_seized j = 0) ∧ (∀ j, u.2.2.1 q_served j = 0) ∧ (∀ j, u.2.2.1 q_earns j = 0) ∧ (∀ j, u.2.2.1 q_heads j = 0) ∧ (∀ j, u.2.2.1 q_payOf j = 0) ∧ (∀ j, u.2.2.1 q_payDay j = 0) ∧ (∀ j, u.2.2.1 q_paySum j = 0) ∧ (∀ j, u.2.2.1 q_payKnown j = 0) ∧ (∀ j, u.2.2.1 q_payStruck j = 0) ∧ hv_CA (u.2.2.1 q_actDay) (u.2.2.1 q_rule) (u.2.2.1 q_proofSteps) (u.2.2.1 q_proof) 0 (fun _ => hv_A0)) (hx_E T_tb (P_ty dA) (dC, dI) vwCl (hx_A L sz)) (hx_A L sz)) ([.ref x] : List Value).toArray s 67 15340 (hx_A L sz)) (F0 m 1045 ls [.ref q_34, .ref x]) := by
  refine lv_dup hx hb dX10_init_1045 rfl ?_
  refine lv_sipush (v := 165) hx hb dX10_init_1046 ?o0 ?_
  case o0 => decide
  refine lv_bipush (v := 114) hx hb dX10_init_1049 ?o1 ?_
  case o1 => decide
  refine hx_bast hx hb hW hT (hx_S.rf (M := [(57, 0)])) gq_34 tt_57 rfl ?o2 (y := 114) ?o3 ?o4 (List.mem_singleton.mpr rfl) dX10_init_1051 (fun H locs h_200 eh_200 hW hT hs => ?_)
  case o2 => decide
  case o3 => decide
  case o4 => decide
  have hcon := hcon.S hs trivial rfl
  have hz := hx_zr [2, 3, 4, 5, 6, 12, 15, 17] hz hs gx trivial rfl
  have hM := hM.tr (hs.mono ?o5)
  case o5 => decide
  have gx := gx.S hs
  have gq_34 := gq_34.S hs
  have cw : ∀ j, j < 166 → h_200.2.1 q_34 j = P_words j := hx_cw cw eh_200 ?o6 ?o7
  case o6 => decide
  case o7 => decide
  refine lv_dup hx hb dX10_init_1052 rfl ?_
  refine lv_sipush (v := 166) hx hb dX10_init_1053 ?o8 ?_
  case o8 => decide
  refine lv_iconst (v := 0) hx hb dX10_init_1056 ?o9 ?_
  case o9 => decide
  refine hx_bast hx hb hW hT (hx_S.rf (M := [(57, 0)])) gq_34 tt_57 rfl ?o10 (y := 0) ?o11 ?o12 (List.mem_singleton.mpr rfl) dX10_init_1057 (fun H locs h_201 eh_201 hW hT hs => ?_)
  case o10 => decide
  case o11 => decide
  case o12 => decide
  have hcon := hcon.S hs trivial rfl
  have hz := hx_zr [2, 3, 4, 5, 6, 12, 15, 17] hz hs gx trivial rfl
  have hM := hM.tr (hs.mono ?o13)
  case o13 => decide
  have gx := gx.S hs
  have gq_34 := gq_34.S hs
  have cw : ∀ j, j < 167 → h_201.2.1 q_34 j = P_words j := hx_cw cw eh_201 ?o14 ?o15
  case o14 => decide
  case o15 => decide
  refine lv_dup hx hb dX10_init_1058 rfl ?_
  refine lv_sipush (v := 167) hx hb dX10_init_1059 ?o16 ?_
  case o16 => decide
  refine lv_iconst (v := 0) hx hb dX10_init_1062 ?o17 ?_
  case o17 => decide
  refine hx_bast hx hb hW hT (hx_S.rf (M := [(57, 0)])) gq_34 tt_57 rfl ?o18 (y := 0) ?o19 ?o20 (List.mem_singleton.mpr rfl) dX10_init_1063 (fun H locs h_202 eh_202 hW hT hs => ?_)
  case o18 => decide
  case o19 => decide
  case o20 => decide
  have hcon := hcon.S hs trivial rfl
  have hz := hx_zr [2, 3, 4, 5, 6, 12, 15, 17] hz hs gx trivial rfl
  have hM := hM.tr (hs.mono ?o21)
  case o21 => decide
  have gx := gx.S hs
  have gq_34 := gq_34.S hs
  have cw : ∀ j, j < 168 → h_202.2.1 q_34 j = P_words j := hx_cw cw eh_202 ?o22 ?o23
  case o22 => decide
  case o23 => decide
  refine lv_dup hx hb dX10_init_1064 rfl ?_
  refine lv_sipush (v := 168) hx hb dX10_init_1065 ?o24 ?_
  case o24 => decide
  refine lv_bipush (v := 115) hx hb dX10_init_1068 ?o25 ?_
  case o25 => decide
  refine hx_bast hx hb hW hT (hx_S.rf (M := [(57, 0)])) gq_34 tt_57 rfl ?o26 (y := 115) ?o27 ?o28 (List.mem_singleton.mpr rfl) dX10_init_1070 (fun H locs h_203 eh_203 hW hT hs => ?_)
  case o26 => decide
  case o27 => decide
  case o28 => decide
  have hcon := hcon.S hs trivial rfl
  have hz := hx_zr [2, 3, 4, 5, 6, 12, 15, 17] hz hs gx trivial rfl
  have hM := hM.tr (hs.mono ?o29)
  case o29 => decide
  have gx := gx.S hs
  have gq_34 := gq_34.S hs
  have cw : ∀ j, j < 169 → h_203.2.1 q_34 j = P_words j := hx_cw cw eh_203 ?o30 ?o31
  case o30 => decide
  case o31 => decide
  refine lv_dup hx hb dX10_init_1071 rfl ?_
  refine lv_sipush (v := 169) hx hb dX10_init_1072 ?o32 ?_
  case o32 => decide
  refine lv_bipush (v := 101) hx hb dX10_init_1075 ?o33 ?_
  case o33 => decide
  refine hx_bast hx hb hW hT (hx_S.rf (M := [(57, 0)])) gq_34 tt_57 rfl ?o34 (y := 101) ?o35 ?o36 (List.mem_singleton.mpr rfl) dX10_init_1077 (fun H locs h_204 eh_204 hW hT hs => ?_)
  case o34 => decide
  case o35 => decide
  case o36 => decide
  have hcon := hcon.S hs trivial rfl
  have hz := hx_zr [2, 3, 4, 5, 6, 12, 15, 17] hz hs gx trivial rfl
  have hM := hM.tr (hs.mono ?o37)
  case o37 => decide
  have gx := gx.S hs
  have gq_34 := gq_34.S hs
  have cw : ∀ j, j < 170 → h_204.2.1 q_34 j = P_words j := hx_cw cw eh_204 ?o38 ?o39
  case o38 => decide
  case o39 => decide
  refine lv_dup hx hb dX10_init_1078 rfl ?_
  refine lv_sipush (v := 170) hx hb dX10_init_1079 ?o40 ?_
  case o40 => decide
  refine lv_bipush (v := 105) hx hb dX10_init_1082 ?o41 ?_
  case o41 => decide
  refine hx_bast hx hb hW hT (hx_S.rf (M := [(57, 0)])) gq_34 tt_57 rfl ?o42 (y := 105) ?o43 ?o44 (List.mem_singleton.mpr rfl) dX10_init_1084 (fun H locs h_205 eh_205 hW hT hs => ?_)
  case o42 => decide
  case o43 => decide
  case o44 => decide
  have hcon := hcon.S hs trivial rfl
  have hz := hx_zr [2, 3, 4, 5, 6, 12, 15, 17] hz hs gx trivial rfl
  have hM := hM.tr (hs.mono ?o45)
  case o45 => decide
  have gx := gx.S hs
  have gq_34 := gq_34.S hs
  have cw : ∀ j, j < 171 → h_205.2.1 q_34 j = P_words j := hx_cw cw eh_205 ?o46 ?o47
  case o46 => decide
  case o47 => decide
  refine lv_dup hx hb dX10_init_1085 rfl ?_
  refine lv_sipush (v := 171) hx hb dX10_init_1086 ?o48 ?_
  case o48 => decide
  refine lv_bipush (v := 122) hx hb dX10_init_1089 ?o49 ?_
  case o49 => decide
  refine hx_bast hx hb hW hT (hx_S.rf (M := [(57, 0)])) gq_34 tt_57 rfl ?o50 (y := 122) ?o51 ?o52 (List.mem_singleton.mpr rfl) dX10_init_1091 (fun H locs h_206 eh_206 hW hT hs => ?_)
  case o50 => decide
  case o51 => decide
  case o52 => decide
  have hcon := hcon.S hs trivial rfl
  have hz := hx_zr [2, 3, 4, 5, 6, 12, 15, 17] hz hs gx trivial rfl
  have hM := hM.tr (hs.mono ?o53)
  case o53 => decide
  have gx := gx.S hs
  have gq_34 := gq_34.S hs
  have cw : ∀ j, j < 172 → h_206.2.1 q_34 j = P_words j := hx_cw cw eh_206 ?o54 ?o55
  case o54 => decide
  case o55 => decide
  refine lv_dup hx hb dX10_init_1092 rfl ?_
  refine lv_sipush (v := 172) hx hb dX10_init_1093 ?o56 ?_
  case o56 => decide
  refine lv_bipush (v := 117) hx hb dX10_init_1096 ?o57 ?_
  case o57 => decide
  refine hx_bast hx hb hW hT (hx_S.rf (M := [(57, 0)])) gq_34 tt_57 rfl ?o58 (y := 117) ?o59 ?o60 (List.mem_singleton.mpr rfl) dX10_init_1098 (fun H locs h_207 eh_207 hW hT hs => ?_)
  case o58 => decide
  case o59 => decide
  case o60 => decide
  have hcon := hcon.S hs trivial rfl
  have hz := hx_zr [2, 3, 4, 5, 6, 12, 15, 17] hz hs gx trivial rfl
  have hM := hM.tr (hs.mono ?o61)
  case o61 => decide
  have gx := gx.S hs
  have gq_34 := gq_34.S hs
  have cw : ∀ j, j < 173 → h_207.2.1 q_34 j = P_words j := hx_cw cw eh_207 ?o62 ?o63
  case o62 => decide
  case o63 => decide
  refine lv_dup hx hb dX10_init_1099 rfl ?_
  refine lv_sipush (v := 173) hx hb dX10_init_1100 ?o64 ?_
  case o64 => decide
  refine lv_bipush (v := 114) hx hb dX10_init_1103 ?o65 ?_
  case o65 => decide
  refine hx_bast hx hb hW hT (hx_S.rf (M := [(57, 0)])) gq_34 tt_57 rfl ?o66 (y := 114) ?o67 ?o68 (List.mem_singleton.mpr rfl) dX10_init_1105 (fun H locs h_208 eh_208 hW hT hs => ?_)
  case o66 => decide
  case o67 => decide
  case o68 => decide
  have hcon := hcon.S hs trivial rfl
  have hz := hx_zr [2, 3, 4, 5, 6, 12, 15, 17] hz hs gx trivial rfl
  have hM := hM.tr (hs.mono ?o69)
  case o69 => decide
  have gx := gx.S hs
  have gq_34 := gq_34.S hs
  have cw : ∀ j, j < 174 → h_208.2.1 q_34 j = P_words j := hx_cw cw eh_208 ?o70 ?o71
  case o70 => decide
  case o71 => decide
  refine lv_dup hx hb dX10_init_1106 rfl ?_
  refine lv_sipush (v := 174) hx hb dX10_init_1107 ?o72 ?_
  case o72 => decide
  refine lv_bipush (v := 101) hx hb dX10_init_1110 ?o73 ?_
  case o73 => decide
  refine hx_bast hx hb hW hT (hx_S.rf (M := [(57, 0)])) gq_34 tt_57 rfl ?o74 (y := 101) ?o75 ?o76 (List.mem_singleton.mpr rfl) dX10_init_1112 (fun H locs h_209 eh_209 hW hT hs => ?_)
  case o74 => decide
  case o75 => decide
  case o76 => decide
  have hcon := hcon.S hs trivial rfl
  have hz := hx_zr [2, 3, 4, 5, 6, 12, 15, 17] hz hs gx trivial rfl
  have hM := hM.tr (hs.mono ?o77)
  case o77 => decide
  have gx := gx.S hs
  have gq_34 := gq_34.S hs
  have cw : ∀ j, j < 175 → h_209.2.1 q_34 j = P_words j := hx_cw cw eh_209 ?o78 ?o79
  case o78 => decide
  case o79 => decide
  refine hx_putrF hx hb hts hC_10 hown hW hT (hx_S.rf (M := [(126, 19)])) gx tt_126 19 ?o80 rfl kw_1162 ⟨rfl, rfl, rfl⟩ rfl hin rfl (x := (some q_34)) ⟨fun _ z => (by cases z), fun q hq => (by cases hq; exact ⟨gq_34.1, by rw [gq_34.2]; decide⟩)⟩ rfl rfl rfl (List.mem_singleton.mpr rfl) dX10_init_1113 (fun H locs h_210 eh_210 hW hT hs => ?_)
  case o80 => decide
  have hcon := hcon.S hs trivial rfl
  have hz := hx_zr [2, 3, 4, 5, 6, 12, 15, 17, 19] hz hs gx trivial rfl
  have cw : ∀ j, j < 175 → h_210.2.1 q_34 j = P_words j := fun j hj => ((hs.a gq_34 rfl j).1).trans (cw j hj)
  have hM := hM.tr (hs.mono ?o81)
  case o81 => decide
  have gx := gx.S hs
  have gq_34 := gq_34.S hs
  have f_211 : h_210.2.2 x 19 = (some q_34) := ?o82
  case o82 =>
    rw [eh_210]
    exact hx_pr_at _ _ _ _
  refine lv_aload_n hx hb dX10_init_1116 rfl (lv_at hl 0 rfl) ?_
  refine lv_bipush (v := 40) hx hb dX10_init_1117 ?o83 ?_
  case o83 => decide
  refine hk_newa hx hb hts hW 58 tt_58 (atype := .int) rfl kw_186 (tys := P_ty dA) (t0 := 0) rfl (fun _ => Iff.rfl) rfl (i := (40 : Int32)) ?o84 (Nat.le_of_ble_eq_true rfl) (Nat.le_of_ble_eq_true rfl) (Nat.le_of_ble_eq_true rfl) dX10_init_1119 (fun q_213 H h_212 eh_212 hqq_213 hW hs gq_213 => ?_)
  case o84 => decide
  have hT : hx_T T_tb (L1 ++ [q_213]) h_212 := ?o85
  case o85 =>
    rw [eh_212]
    exact hx_T_nw hT hqq_213 tt_58 rfl
  have hcon := hcon.S hs trivial rfl
  have hz := hx_zr [2, 3, 4, 5, 6, 12, 15, 17, 19] hz hs gx trivial rfl
  have cw : ∀ j, j < 175 → h_212.2.1 q_34 j = P_words j := fun j hj => ((hs.a gq_34 rfl j).1).trans (cw j hj)
  have f_211 := (hs.o gx trivial rfl).2.trans f_211
  have hM := hM.tr (hs.mono ?o86)
  case o86 => decide
  have gx := gx.S hs
  have gq_34 := gq_34.S hs
  have cz : (∀ j, h_212.2.1 q_213 j = 0) ∧ ∀ j, h_212.2.2 q_213 j = none := ?o87
  case o87 =>
    rw [eh_212]
    exact ⟨fun _ => hx_nw_i, fun _ => hx_nw_r⟩
  refine hx_putrF hx hb hts hC_10 hown hW hT (hx_S.rf (M := [(126, 21)])) gx tt_126 21 ?o88 rfl kw_1164 ⟨rfl, rfl, rfl⟩ rfl hin rfl (x := (some q_213)) ⟨fun _ z => (by cases z), fun q hq => (by cases hq; exact ⟨gq_213.1, by rw [gq_213.2]; decide⟩)⟩ rfl rfl rfl (List.mem_singleton.mpr rfl) dX10_init_1121 (fun H locs h_214 eh_214 hW hT hs => ?_)
  case o88 => decide
  have hcon := hcon.S hs trivial rfl
  have hz := hx_zr [2, 3, 4, 5, 6, 12, 15, 17, 19, 21] hz hs gx trivial rfl
  have cw : ∀ j, j < 175 → h_214.2.1 q_34 j = P_words j := fun j hj => ((hs.a gq_34 rfl j).1).trans (cw j hj)
  have cz : (∀ j, h_214.2.1 q_213 j = 0) ∧ ∀ j, h_214.2.2 q_213 j = none := ⟨fun j => ((hs.a gq_213 rfl j).1).trans (cz.1 j), fun j => ((hs.a gq_213 rfl j).2).trans (cz.2 j)⟩
  have f_211 := (hs.o gx trivial rfl).2.trans f_211
  have hM := hM.tr (hs.mono ?o89)
  case o89 => decide
  have gx := gx.S hs
  have gq_34 := gq_34.S hs
  have gq_213 := gq_213.S hs
  have f_215 : h_214.2.2 x 21 = (some q_213) := ?o90
  case o90 =>
    rw [eh_214]
    exact hx_pr_at _ _ _ _
  have hcon := hx_con.add (tb := T_tb) hcon true f_215 gq_213 (fun _ => cz)
  refine lv_aload_n hx hb dX10_init_1124 rfl (lv_at hl 0 rfl) ?_
  refine lv_bipush (v := 40) hx hb dX10_init_1125 ?o91 ?_
  case o91 => decide
  refine hk_newa hx hb hts hW 59 tt_59 (atype := .int) rfl kw_186 (tys := P_ty dA) (t0 := 0) rfl (fun _ => Iff.rfl) rfl (i := (40 : Int32)) ?o92 (Nat.le_of_ble_eq_true rfl) (Nat.le_of_ble_eq_true rfl) (Nat.le_of_ble_eq_true rfl) dX10_init_1127 (fun q_217 H h_216 eh_216 hqq_217 hW hs gq_217 => ?_)
  case o92 => decide
  have hT : hx_T T_tb ((L1 ++ [q_213]) ++ [q_217]) h_216 := ?o93
  case o93 =>
    rw [eh_216]
    exact hx_T_nw hT hqq_217 tt_59 rfl
  have hcon := hcon.S hs trivial rfl
  have hz := hx_zr [2, 3, 4, 5, 6, 12, 15, 17, 19, 21] hz hs gx trivial rfl
  have cw : ∀ j, j < 175 → h_216.2.1 q_34 j = P_words j := fun j hj => ((hs.a gq_34 rfl j).1).trans (cw j hj)
  have f_211 := (hs.o gx trivial rfl).2.trans f_211
  have hM := hM.tr (hs.mono ?o94)
  case o94 => decide
  have gx := gx.S hs
  have gq_34 := gq_34.S hs
  have cz : (∀ j, h_216.2.1 q_217 j = 0) ∧ ∀ j, h_216.2.2 q_217 j = none := ?o95
  case o95 =>
    rw [eh_216]
    exact ⟨fun _ => hx_nw_i, fun _ => hx_nw_r⟩
  refine hx_putrF hx hb hts hC_10 hown hW hT (hx_S.rf (M := [(126, 22)])) gx tt_126 22 ?o96 rfl kw_1165 ⟨rfl, rfl, rfl⟩ rfl hin rfl (x := (some q_217)) ⟨fun _ z => (by cases z), fun q hq => (by cases hq; exact ⟨gq_217.1, by rw [gq_217.2]; decide⟩)⟩ rfl rfl rfl (List.mem_singleton.mpr rfl) dX10_init_1129 (fun H locs h_218 eh_218 hW hT hs => ?_)
  case o96 => decide
  have hcon := hcon.S hs trivial rfl
  have hz := hx_zr [2, 3, 4, 5, 6, 12, 15, 17, 19, 21, 22] hz hs gx trivial rfl
  have cw : ∀ j, j < 175 → h_218.2.1 q_34 j = P_words j := fun j hj => ((hs.a gq_34 rfl j).1).trans (cw j hj)
  have cz : (∀ j, h_218.2.1 q_217 j = 0) ∧ ∀ j, h_218.2.2 q_217 j = none := ⟨fun j => ((hs.a gq_217 rfl j).1).trans (cz.1 j), fun j => ((hs.a gq_217 rfl j).2).trans (cz.2 j)⟩
  have f_211 := (hs.o gx trivial rfl).2.trans f_211
  have hM := hM.tr (hs.mono ?o97)
  case o97 => decide
  have gx := gx.S hs
  have gq_34 := gq_34.S hs
  have gq_217 := gq_217.S hs
  have f_219 : h_218.2.2 x 22 = (some q_217) := ?o98
  case o98 =>
    rw [eh_218]
    exact hx_pr_at _ _ _ _
  have hcon := hx_con.add (tb := T_tb) hcon true f_219 gq_217 (fun _ => cz)
  refine lv_aload_n hx hb dX10_init_1132 rfl (lv_at hl 0 rfl) ?_
  refine lv_bipush (v := 40) hx hb dX10_init_1133 ?o99 ?_
  case o99 => decide
  refine hk_newa hx hb hts hW 60 tt_60 (atype := .int) rfl kw_186 (tys := P_ty dA) (t0 := 0) rfl (fun _ => Iff.rfl) rfl (i := (40 : Int32)) ?o100 (Nat.le_of_ble_eq_true rfl) (Nat.le_of_ble_eq_true rfl) (Nat.le_of_ble_eq_true rfl) dX10_init_1135 (fun q_221 H h_220 eh_220 hqq_221 hW hs gq_221 => ?_)
  case o100 => decide
  have hT : hx_T T_tb (((L1 ++ [q_213]) ++ [q_217]) ++ [q_221]) h_220 := ?o101
  case o101 =>
    rw [eh_220]
    exact hx_T_nw hT hqq_221 tt_60 rfl
  have hcon := hcon.S hs trivial rfl
  have hz := hx_zr [2, 3, 4, 5, 6, 12, 15, 17, 19, 21, 22] hz hs gx trivial rfl
  have cw : ∀ j, j < 175 → h_220.2.1 q_34 j = P_words j := fun j hj => ((hs.a gq_34 rfl j).1).trans (cw j hj)
  have f_211 := (hs.o gx trivial rfl).2.trans f_211
  have hM := hM.tr (hs.mono ?o102)
  case o102 => decide
  have gx := gx.S hs
  have gq_34 := gq_34.S hs
  have cz : (∀ j, h_220.2.1 q_221 j = 0) ∧ ∀ j, h_220.2.2 q_221 j = none := ?o103
  case o103 =>
    rw [eh_220]
    exact ⟨fun _ => hx_nw_i, fun _ => hx_nw_r⟩
  refine hx_putrF hx hb hts hC_10 hown hW hT (hx_S.rf (M := [(126, 23)])) gx tt_126 23 ?o104 rfl kw_1166 ⟨rfl, rfl, rfl⟩ rfl hin rfl (x := (some q_221)) ⟨fun _ z => (by cases z), fun q hq => (by cases hq; exact ⟨gq_221.1, by rw [gq_221.2]; decide⟩)⟩ rfl rfl rfl (List.mem_singleton.mpr rfl) dX10_init_1137 (fun H locs h_222 eh_222 hW hT hs => ?_)
  case o104 => decide
  have hcon := hcon.S hs trivial rfl
  have hz := hx_zr [2, 3, 4, 5, 6, 12, 15, 17, 19, 21, 22, 23] hz hs gx trivial rfl
  have cw : ∀ j, j < 175 → h_222.2.1 q_34 j = P_words j := fun j hj => ((hs.a gq_34 rfl j).1).trans (cw j hj)
  have cz : (∀ j, h_222.2.1 q_221 j = 0) ∧ ∀ j, h_222.2.2 q_221 j = none := ⟨fun j => ((hs.a gq_221 rfl j).1).trans (cz.1 j), fun j => ((hs.a gq_221 rfl j).2).trans (cz.2 j)⟩
  have f_211 := (hs.o gx trivial rfl).2.trans f_211
  have hM := hM.tr (hs.mono ?o105)
  case o105 => decide
  have gx := gx.S hs
  have gq_34 := gq_34.S hs
  have gq_221 := gq_221.S hs
  have f_223 : h_222.2.2 x 23 = (some q_221) := ?o106
  case o106 =>
    rw [eh_222]
    exact hx_pr_at _ _ _ _
  have hcon := hx_con.add (tb := T_tb) hcon true f_223 gq_221 (fun _ => cz)
  refine lv_aload_n hx hb dX10_init_1140 rfl (lv_at hl 0 rfl) ?_
  refine lv_bipush (v := 40) hx hb dX10_init_1141 ?o107 ?_
  case o107 => decide
  refine hk_newa hx hb hts hW 61 tt_61 (atype := .int) rfl kw_186 (tys := P_ty dA) (t0 := 0) rfl (fun _ => Iff.rfl) rfl (i := (40 : Int32)) ?o108 (Nat.le_of_ble_eq_true rfl) (Nat.le_of_ble_eq_true rfl) (Nat.le_of_ble_eq_true rfl) dX10_init_1143 (fun q_225 H h_224 eh_224 hqq_225 hW hs gq_225 => ?_)
  case o108 => decide
  have hT : hx_T T_tb ((((L1 ++ [q_213]) ++ [q_217]) ++ [q_221]) ++ [q_225]) h_224 := ?o109
  case o109 =>
    rw [eh_224]
    exact hx_T_nw hT hqq_225 tt_61 rfl
  have hcon := hcon.S hs trivial rfl
  have hz := hx_zr [2, 3, 4, 5, 6, 12, 15, 17, 19, 21, 22, 23] hz hs gx trivial rfl
  have cw : ∀ j, j < 175 → h_224.2.1 q_34 j = P_words j := fun j hj => ((hs.a gq_34 rfl j).1).trans (cw j hj)
  have f_211 := (hs.o gx trivial rfl).2.trans f_211
  have hM := hM.tr (hs.mono ?o110)
  case o110 => decide
  have gx := gx.S hs
  have gq_34 := gq_34.S hs
  have cz : (∀ j, h_224.2.1 q_225 j = 0) ∧ ∀ j, h_224.2.2 q_225 j = none := ?o111
  case o111 =>
    rw [eh_224]
    exact ⟨fun _ => hx_nw_i, fun _ => hx_nw_r⟩
  refine hx_putrF hx hb hts hC_10 hown hW hT (hx_S.rf (M := [(126, 24)])) gx tt_126 24 ?o112 rfl kw_1167 ⟨rfl, rfl, rfl⟩ rfl hin rfl (x := (some q_225)) ⟨fun _ z => (by cases z), fun q hq => (by cases hq; exact ⟨gq_225.1, by rw [gq_225.2]; decide⟩)⟩ rfl rfl rfl (List.mem_singleton.mpr rfl) dX10_init_1145 (fun H locs h_226 eh_226 hW hT hs => ?_)
  case o112 => decide
  have hcon := hcon.S hs trivial rfl
  have hz := hx_zr [2, 3, 4, 5, 6, 12, 15, 17, 19, 21, 22, 23, 24] hz hs gx trivial rfl
  have cw : ∀ j, j < 175 → h_226.2.1 q_34 j = P_words j := fun j hj => ((hs.a gq_34 rfl j).1).trans (cw j hj)
  have cz : (∀ j, h_226.2.1 q_225 j = 0) ∧ ∀ j, h_226.2.2 q_225 j = none := ⟨fun j => ((hs.a gq_225 rfl j).1).trans (cz.1 j), fun j => ((hs.a gq_225 rfl j).2).trans (cz.2 j)⟩
  have f_211 := (hs.o gx trivial rfl).2.trans f_211
  have hM := hM.tr (hs.mono ?o113)
  case o113 => decide
  have gx := gx.S hs
  have gq_34 := gq_34.S hs
  have gq_225 := gq_225.S hs
  have f_227 : h_226.2.2 x 24 = (some q_225) := ?o114
  case o114 =>
    rw [eh_226]
    exact hx_pr_at _ _ _ _
  have hcon := hx_con.add (tb := T_tb) hcon true f_227 gq_225 (fun _ => cz)
  exact si_9 l dC dI dA L h sz b0 x q_34 hx hb hml hr hlk hts hown hin hsz hZ ((((L1 ++ [q_213]) ++ [q_217]) ++ [q_221]) ++ [q_225]) h_226 _ _ ls hW hT hM gx hcon hz gq_34 f_211 cw hl

set_option maxHeartbeats 4000000 in
set_option maxRecDepth 100000 in
theorem si_7 (l : Launch) (dC : Nat → ClassId) (dI : Nat → Nat → Nat) (dA : Nat → ClassId) (L : List Nat) (h : hx_h) (sz : Nat) (b0 : hx_z) (x : Nat) (q_34 : Nat) {p : Program} {e : Env} {s : State} {m : MethodId} {below : List Frame} {meth : Method} {c : Code} (hx : p.tables.exec = Jvm.exec) (hb : c.code = cX10_init) (hml : c.maxLocals = 2) (hr : meth.sig.returnType = none) (hlk : meth.locks = false) (hts : ∀ w ∈ hx_all, w.before ([.ref x] : List Value).toArray s = true) (hown : s.vm.findClass "SmallCourtModel" = some m.cls) (hin : meth.name = "<init>") (hsz : s.heap.size = sz) (hZ : hx_Xt (hx_A L sz) b0 s) (L1 : List Nat) (hl1 : hx_h) (H : Heap) (locs : List Loc) (ls : Array Slot) (hW : hx_W T_tb (P_ty dA) (dC, dI) vwCl (hx_A L sz) s.heap L1 hl1 s H locs) (hT : hx_T T_tb L1 hl1) (hM : hx_S T_tb [(10, 14), (10, 16), (10, 18), (50, 0), (51, 0), (52, 0), (55, 0), (57, 0), (126, 2), (126, 3), (126, 4), (126, 5), (126, 6), (126, 12), (126, 15), (126, 17), (126, 19), (126, 21), (126, 22), (126, 23), (126, 24), (126, 25), (126, 26), (126, 27), (126, 28), (126, 30), (126, 31), (126, 32), (126, 33), (126, 34), (126, 35), (126, 37), (126, 38), (126, 39), (126, 40), (126, 41), (126, 42), (126, 43), (126, 44), (126, 45), (126, 46), (126, 47), (126, 48), (126, 49), (126, 50), (126, 51), (126, 52), (126, 53), (126, 54), (126, 55), (126, 56), (126, 58), (126, 60), (126, 61), (126, 62), (126, 63), (126, 64), (126, 65), (126, 66), (126, 73), (126, 74), (126, 76), (126, 77), (126, 78), (126, 79), (126, 80), (126, 81), (126, 82), (126, 85), (126, 88), (126, 89), (126, 91), (126, 93), (126, 94), (126, 97)] (hx_X L x) h L1 hl1) (gx : hx_g L1 hl1 x 126) (hcon : hx_con L1 hl1 x 126 [(17, 56, false), (15, 55, false), (12, 54, false), (6, 53, true), (5, 52, false), (4, 51, false), (3, 50, false), (2, 49, false)] []) (hz : ∀ j, [2, 3, 4, 5, 6, 12, 15, 17].contains j = false → hl1.2.1 x j = 0 ∧ hl1.2.2 x j = none) (gq_34 : hx_g L1 hl1 q_34 57)  (cw : ∀ j, j < 145 → hl1.2.1 q_34 j = P_words j) (hl : lv_has ls 2 [(0, .ref x)]) : W p l e ({ frames := 2, cells := 67, slots := 15340, locals := 42 }) s m ([.ref x] : List Value).toArray below meth c H locs 9 2131 (MQ below (va_Qv (fun (u : List Nat × hx_h) => hx_T T_tb u.1 u.2 ∧ hx_S T_tb [(10, 14), (10, 16), (10, 18), (50, 0), (51, 0), (52, 0), (55, 0), (57, 0), (126, 2), (126, 3), (126, 4), (126, 5), (126, 6), (126, 12), (126, 15), (126, 17), (126, 19), (126, 21), (126, 22), (126, 23), (126, 24), (126, 25), (126, 26), (126, 27), (126, 28), (126, 30), (126, 31), (126, 32), (126, 33), (126, 34), (126, 35), (126, 37), (126, 38), (126, 39), (126, 40), (126, 41), (126, 42), (126, 43), (126, 44), (126, 45), (126, 46), (126, 47), (126, 48), (126, 49), (126, 50), (126, 51), (126, 52), (126, 53), (126, 54), (126, 55), (126, 56), (126, 58), (126, 60), (126, 61), (126, 62), (126, 63), (126, 64), (126, 65), (126, 66), (126, 73), (126, 74), (126, 76), (126, 77), (126, 78), (126, 79), (126, 80), (126, 81), (126, 82), (126, 85), (126, 88), (126, 89), (126, 91), (126, 93), (126, 94), (126, 97)] (hx_X L x) h u.1 u.2 ∧ hx_g u.1 u.2 x 10 ∧ u.2.2.1 x 0 = 0 ∧ u.2.2.1 x 1 = 0 ∧ u.2.2.1 x 36 = 0 ∧ u.2.2.1 x 57 = 0 ∧ u.2.2.1 x 7 = 0 ∧ u.2.2.1 x 20 = 0 ∧ u.2.2.1 x 29 = 0 ∧ u.2.2.1 x 59 = 0 ∧ u.2.2.1 x 72 = 0 ∧ u.2.2.1 x 83 = 0 ∧ u.2.2.1 x 84 = 0 ∧ u.2.2.1 x 90 = 0 ∧ u.2.2.1 x 92 = 0 ∧ ∃ q_words q_rule q_proofSteps q_proof q_tries q_isDead q_isJudge q_found q_list q_judged q_weekly q_owed q_doorX q_doorY q_tape q_born q_kin q_sum q_filed q_owedFrom q_heard q_ordered q_goods q_seized q_served q_earns q_heads q_payOf q_payDay q_paySum q_payKnown q_payStruck q_actDay : Nat, u.2.2.2 x 19 = some q_words ∧ hx_g u.1 u.2 q_words 57 ∧ u.2.2.2 x 3 = some q_rule ∧ hx_g u.1 u.2 q_rule 50 ∧ u.2.2.2 x 4 = some q_proofSteps ∧ hx_g u.1 u.2 q_proofSteps 51 ∧ u.2.2.2 x 5 = some q_proof ∧ hx_g u.1 u.2 q_proof 52 ∧ u.2.2.2 x 45 = some q_tries ∧ hx_g u.1 u.2 q_tries 80 ∧ u.2.2.2 x 27 = some q_isDead ∧ hx_g u.1 u.2 q_isDead 64 ∧ u.2.2.2 x 28 = some q_isJudge ∧ hx_g u.1 u.2 q_isJudge 65 ∧ u.2.2.2 x 46 = some q_found ∧ hx_g u.1 u.2 q_found 81 ∧ u.2.2.2 x 91 = some q_list ∧ hx_g u.1 u.2 q_list 112 ∧ u.2.2.2 x 51 = some q_judged ∧ hx_g u.1 u.2 q_judged 86 ∧ u.2.2.2 x 54 = some q_weekly ∧ hx_g u.1 u.2 q_weekly 89 ∧ u.2.2.2 x 55 = some q_owed ∧ hx_g u.1 u.2 q_owed 90 ∧ u.2.2.2 x 24 = some q_doorX ∧ hx_g u.1 u.2 q_doorX 61 ∧ u.2.2.2 x 25 = some q_doorY ∧ hx_g u.1 u.2 q_doorY 62 ∧ u.2.2.2 x 6 = some q_tape ∧ hx_g u.1 u.2 q_tape 53 ∧ u.2.2.2 x 21 = some q_born ∧ hx_g u.1 u.2 q_born 58 ∧ u.2.2.2 x 26 = some q_kin ∧ hx_g u.1 u.2 q_kin 63 ∧ u.2.2.2 x 39 = some q_sum ∧ hx_g u.1 u.2 q_sum 74 ∧ u.2.2.2 x 43 = some q_filed ∧ hx_g u.1 u.2 q_filed 78 ∧ u.2.2.2 x 40 = some q_owedFrom ∧ hx_g u.1 u.2 q_owedFrom 75 ∧ u.2.2.2 x 47 = some q_heard ∧ hx_g u.1 u.2 q_heard 82 ∧ u.2.2.2 x 48 = some q_ordered ∧ hx_g u.1 u.2 q_ordered 83 ∧ u.2.2.2 x 56 = some q_goods ∧ hx_g u.1 u.2 q_goods 91 ∧ u.2.2.2 x 49 = some q_seized ∧ hx_g u.1 u.2 q_seized 84 ∧ u.2.2.2 x 50 = some q_served ∧ hx_g u.1 u.2 q_served 85 ∧ u.2.2.2 x 22 = some q_earns ∧ hx_g u.1 u.2 q_earns 59 ∧ u.2.2.2 x 23 = some q_heads ∧ hx_g u.1 u.2 q_heads 60 ∧ u.2.2.2 x 60 = some q_payOf ∧ hx_g u.1 u.2 q_payOf 93 ∧ u.2.2.2 x 61 = some q_payDay ∧ hx_g u.1 u.2 q_payDay 94 ∧ u.2.2.2 x 62 = some q_paySum ∧ hx_g u.1 u.2 q_paySum 95 ∧ u.2.2.2 x 63 = some q_payKnown ∧ hx_g u.1 u.2 q_payKnown 96 ∧ u.2.2.2 x 64 = some q_payStruck ∧ hx_g u.1 u.2 q_payStruck 97 ∧ u.2.2.2 x 2 = some q_actDay ∧ hx_g u.1 u.2 q_actDay 49 ∧ hx_wd (u.2.2.1 q_words) ∧ hx_WK (u.2.2.1 q_rule) 0 ∧ hx_RP (u.2.2.1 q_proof) (u.2.2.1 q_proofSteps) 0 ∧ (∀ j, u.2.2.1 q_tries j = 0) ∧ (∀ j, u.2.2.1 q_isDead j = 0) ∧ (∀ j, u.2.2.1 q_isJudge j = 0) ∧ (∀ j, u.2.2.1 q_found j = 0) ∧ (∀ j, u.2.2.1 q_list j = 0) ∧ (∀ j, u.2.2.1 q_judged j = 0) ∧ (∀ j, u.2.2.1 q_weekly j = 0) ∧ (∀ j, u.2.2.1 q_owed j = 0) ∧ (∀ j, u.2.2.1 q_doorX j = 0) ∧ (∀ j, u.2.2.1 q_doorY j = 0) ∧ (∀ j, u.2.2.1 q_tape j = 0) ∧ (∀ j, u.2.2.1 q_born j = 0) ∧ (∀ j, u.2.2.1 q_kin j = 0) ∧ (∀ j, u.2.2.1 q_sum j = 0) ∧ (∀ j, u.2.2.1 q_filed j = 0) ∧ (∀ j, u.2.2.1 q_owedFrom j = 0) ∧ (∀ j, u.2.2.1 q_heard j = 0) ∧ (∀ j, u.2.2.1 q_ordered j = 0) ∧ (∀ j, u.2.2.1 q_goods j = 0) ∧ (∀ j, u.2.2.1 q_seized j = 0) ∧ (∀ j, u.2.2.1 q_served j = 0) ∧ (∀ j, u.2.2.1 q_earns j = 0) ∧ (∀ j, u.2.2.1 q_heads j = 0) ∧ (∀ j, u.2.2.1 q_payOf j = 0) ∧ (∀ j, u.2.2.1 q_payDay j = 0) ∧ (∀ j, u.2.2.1 q_paySum j = 0) ∧ (∀ j, u.2.2.1 q_payKnown j = 0) ∧ (∀ j, u.2.2.1 q_payStruck j = 0) ∧ hv_CA (u.2.2.1 q_actDay) (u.2.2.1 q_rule) (u.2.2.1 q_proofSteps) (u.2.2.1 q_proof) 0 (fun _ => hv_A0)) (hx_E T_tb (P_ty dA) (dC, dI) vwCl (hx_A L sz)) (hx_A L sz)) ([.ref x] : List Value).toArray s 67 15340 (hx_A L sz)) (F0 m 907 ls [.ref q_34, .ref x]) := by
  refine lv_dup hx hb dX10_init_907 rfl ?_
  refine lv_sipush (v := 145) hx hb dX10_init_908 ?o0 ?_
  case o0 => decide
  refine lv_iconst (v := 0) hx hb dX10_init_911 ?o1 ?_
  case o1 => decide
  refine hx_bast hx hb hW hT (hx_S.rf (M := [(57, 0)])) gq_34 tt_57 rfl ?o2 (y := 0) ?o3 ?o4 (List.mem_singleton.mpr rfl) dX10_init_912 (fun H locs h_180 eh_180 hW hT hs => ?_)
  case o2 => decide
  case o3 => decide
  case o4 => decide
  have hcon := hcon.S hs trivial rfl
  have hz := hx_zr [2, 3, 4, 5, 6, 12, 15, 17] hz hs gx trivial rfl
  have hM := hM.tr (hs.mono ?o5)
  case o5 => decide
  have gx := gx.S hs
  have gq_34 := gq_34.S hs
  have cw : ∀ j, j < 146 → h_180.2.1 q_34 j = P_words j := hx_cw cw eh_180 ?o6 ?o7
  case o6 => decide
  case o7 => decide
  refine lv_dup hx hb dX10_init_913 rfl ?_
  refine lv_sipush (v := 146) hx hb dX10_init_914 ?o8 ?_
  case o8 => decide
  refine lv_iconst (v := 0) hx hb dX10_init_917 ?o9 ?_
  case o9 => decide
  refine hx_bast hx hb hW hT (hx_S.rf (M := [(57, 0)])) gq_34 tt_57 rfl ?o10 (y := 0) ?o11 ?o12 (List.mem_singleton.mpr rfl) dX10_init_918 (fun H locs h_181 eh_181 hW hT hs => ?_)
  case o10 => decide
  case o11 => decide
  case o12 => decide
  have hcon := hcon.S hs trivial rfl
  have hz := hx_zr [2, 3, 4, 5, 6, 12, 15, 17] hz hs gx trivial rfl
  have hM := hM.tr (hs.mono ?o13)
  case o13 => decide
  have gx := gx.S hs
  have gq_34 := gq_34.S hs
  have cw : ∀ j, j < 147 → h_181.2.1 q_34 j = P_words j := hx_cw cw eh_181 ?o14 ?o15
  case o14 => decide
  case o15 => decide
  refine lv_dup hx hb dX10_init_919 rfl ?_
  refine lv_sipush (v := 147) hx hb dX10_init_920 ?o16 ?_
  case o16 => decide
  refine lv_bipush (v := 115) hx hb dX10_init_923 ?o17 ?_
  case o17 => decide
  refine hx_bast hx hb hW hT (hx_S.rf (M := [(57, 0)])) gq_34 tt_57 rfl ?o18 (y := 115) ?o19 ?o20 (List.mem_singleton.mpr rfl) dX10_init_925 (fun H locs h_182 eh_182 hW hT hs => ?_)
  case o18 => decide
  case o19 => decide
  case o20 => decide
  have hcon := hcon.S hs trivial rfl
  have hz := hx_zr [2, 3, 4, 5, 6, 12, 15, 17] hz hs gx trivial rfl
  have hM := hM.tr (hs.mono ?o21)
  case o21 => decide
  have gx := gx.S hs
  have gq_34 := gq_34.S hs
  have cw : ∀ j, j < 148 → h_182.2.1 q_34 j = P_words j := hx_cw cw eh_182 ?o22 ?o23
  case o22 => decide
  case o23 => decide
  refine lv_dup hx hb dX10_init_926 rfl ?_
  refine lv_sipush (v := 148) hx hb dX10_init_927 ?o24 ?_
  case o24 => decide
  refine lv_bipush (v := 117) hx hb dX10_init_930 ?o25 ?_
  case o25 => decide
  refine hx_bast hx hb hW hT (hx_S.rf (M := [(57, 0)])) gq_34 tt_57 rfl ?o26 (y := 117) ?o27 ?o28 (List.mem_singleton.mpr rfl) dX10_init_932 (fun H locs h_183 eh_183 hW hT hs => ?_)
  case o26 => decide
  case o27 => decide
  case o28 => decide
  have hcon := hcon.S hs trivial rfl
  have hz := hx_zr [2, 3, 4, 5, 6, 12, 15, 17] hz hs gx trivial rfl
  have hM := hM.tr (hs.mono ?o29)
  case o29 => decide
  have gx := gx.S hs
  have gq_34 := gq_34.S hs
  have cw : ∀ j, j < 149 → h_183.2.1 q_34 j = P_words j := hx_cw cw eh_183 ?o30 ?o31
  case o30 => decide
  case o31 => decide
  refine lv_dup hx hb dX10_init_933 rfl ?_
  refine lv_sipush (v := 149) hx hb dX10_init_934 ?o32 ?_
  case o32 => decide
  refine lv_bipush (v := 109) hx hb dX10_init_937 ?o33 ?_
  case o33 => decide
  refine hx_bast hx hb hW hT (hx_S.rf (M := [(57, 0)])) gq_34 tt_57 rfl ?o34 (y := 109) ?o35 ?o36 (List.mem_singleton.mpr rfl) dX10_init_939 (fun H locs h_184 eh_184 hW hT hs => ?_)
  case o34 => decide
  case o35 => decide
  case o36 => decide
  have hcon := hcon.S hs trivial rfl
  have hz := hx_zr [2, 3, 4, 5, 6, 12, 15, 17] hz hs gx trivial rfl
  have hM := hM.tr (hs.mono ?o37)
  case o37 => decide
  have gx := gx.S hs
  have gq_34 := gq_34.S hs
  have cw : ∀ j, j < 150 → h_184.2.1 q_34 j = P_words j := hx_cw cw eh_184 ?o38 ?o39
  case o38 => decide
  case o39 => decide
  refine lv_dup hx hb dX10_init_940 rfl ?_
  refine lv_sipush (v := 150) hx hb dX10_init_941 ?o40 ?_
  case o40 => decide
  refine lv_bipush (v := 109) hx hb dX10_init_944 ?o41 ?_
  case o41 => decide
  refine hx_bast hx hb hW hT (hx_S.rf (M := [(57, 0)])) gq_34 tt_57 rfl ?o42 (y := 109) ?o43 ?o44 (List.mem_singleton.mpr rfl) dX10_init_946 (fun H locs h_185 eh_185 hW hT hs => ?_)
  case o42 => decide
  case o43 => decide
  case o44 => decide
  have hcon := hcon.S hs trivial rfl
  have hz := hx_zr [2, 3, 4, 5, 6, 12, 15, 17] hz hs gx trivial rfl
  have hM := hM.tr (hs.mono ?o45)
  case o45 => decide
  have gx := gx.S hs
  have gq_34 := gq_34.S hs
  have cw : ∀ j, j < 151 → h_185.2.1 q_34 j = P_words j := hx_cw cw eh_185 ?o46 ?o47
  case o46 => decide
  case o47 => decide
  refine lv_dup hx hb dX10_init_947 rfl ?_
  refine lv_sipush (v := 151) hx hb dX10_init_948 ?o48 ?_
  case o48 => decide
  refine lv_bipush (v := 111) hx hb dX10_init_951 ?o49 ?_
  case o49 => decide
  refine hx_bast hx hb hW hT (hx_S.rf (M := [(57, 0)])) gq_34 tt_57 rfl ?o50 (y := 111) ?o51 ?o52 (List.mem_singleton.mpr rfl) dX10_init_953 (fun H locs h_186 eh_186 hW hT hs => ?_)
  case o50 => decide
  case o51 => decide
  case o52 => decide
  have hcon := hcon.S hs trivial rfl
  have hz := hx_zr [2, 3, 4, 5, 6, 12, 15, 17] hz hs gx trivial rfl
  have hM := hM.tr (hs.mono ?o53)
  case o53 => decide
  have gx := gx.S hs
  have gq_34 := gq_34.S hs
  have cw : ∀ j, j < 152 → h_186.2.1 q_34 j = P_words j := hx_cw cw eh_186 ?o54 ?o55
  case o54 => decide
  case o55 => decide
  refine lv_dup hx hb dX10_init_954 rfl ?_
  refine lv_sipush (v := 152) hx hb dX10_init_955 ?o56 ?_
  case o56 => decide
  refine lv_bipush (v := 110) hx hb dX10_init_958 ?o57 ?_
  case o57 => decide
  refine hx_bast hx hb hW hT (hx_S.rf (M := [(57, 0)])) gq_34 tt_57 rfl ?o58 (y := 110) ?o59 ?o60 (List.mem_singleton.mpr rfl) dX10_init_960 (fun H locs h_187 eh_187 hW hT hs => ?_)
  case o58 => decide
  case o59 => decide
  case o60 => decide
  have hcon := hcon.S hs trivial rfl
  have hz := hx_zr [2, 3, 4, 5, 6, 12, 15, 17] hz hs gx trivial rfl
  have hM := hM.tr (hs.mono ?o61)
  case o61 => decide
  have gx := gx.S hs
  have gq_34 := gq_34.S hs
  have cw : ∀ j, j < 153 → h_187.2.1 q_34 j = P_words j := hx_cw cw eh_187 ?o62 ?o63
  case o62 => decide
  case o63 => decide
  refine lv_dup hx hb dX10_init_961 rfl ?_
  refine lv_sipush (v := 153) hx hb dX10_init_962 ?o64 ?_
  case o64 => decide
  refine lv_bipush (v := 115) hx hb dX10_init_965 ?o65 ?_
  case o65 => decide
  refine hx_bast hx hb hW hT (hx_S.rf (M := [(57, 0)])) gq_34 tt_57 rfl ?o66 (y := 115) ?o67 ?o68 (List.mem_singleton.mpr rfl) dX10_init_967 (fun H locs h_188 eh_188 hW hT hs => ?_)
  case o66 => decide
  case o67 => decide
  case o68 => decide
  have hcon := hcon.S hs trivial rfl
  have hz := hx_zr [2, 3, 4, 5, 6, 12, 15, 17] hz hs gx trivial rfl
  have hM := hM.tr (hs.mono ?o69)
  case o69 => decide
  have gx := gx.S hs
  have gq_34 := gq_34.S hs
  have cw : ∀ j, j < 154 → h_188.2.1 q_34 j = P_words j := hx_cw cw eh_188 ?o70 ?o71
  case o70 => decide
  case o71 => decide
  refine lv_dup hx hb dX10_init_968 rfl ?_
  refine lv_sipush (v := 154) hx hb dX10_init_969 ?o72 ?_
  case o72 => decide
  refine lv_bipush (v := 104) hx hb dX10_init_972 ?o73 ?_
  case o73 => decide
  refine hx_bast hx hb hW hT (hx_S.rf (M := [(57, 0)])) gq_34 tt_57 rfl ?o74 (y := 104) ?o75 ?o76 (List.mem_singleton.mpr rfl) dX10_init_974 (fun H locs h_189 eh_189 hW hT hs => ?_)
  case o74 => decide
  case o75 => decide
  case o76 => decide
  have hcon := hcon.S hs trivial rfl
  have hz := hx_zr [2, 3, 4, 5, 6, 12, 15, 17] hz hs gx trivial rfl
  have hM := hM.tr (hs.mono ?o77)
  case o77 => decide
  have gx := gx.S hs
  have gq_34 := gq_34.S hs
  have cw : ∀ j, j < 155 → h_189.2.1 q_34 j = P_words j := hx_cw cw eh_189 ?o78 ?o79
  case o78 => decide
  case o79 => decide
  refine lv_dup hx hb dX10_init_975 rfl ?_
  refine lv_sipush (v := 155) hx hb dX10_init_976 ?o80 ?_
  case o80 => decide
  refine lv_bipush (v := 101) hx hb dX10_init_979 ?o81 ?_
  case o81 => decide
  refine hx_bast hx hb hW hT (hx_S.rf (M := [(57, 0)])) gq_34 tt_57 rfl ?o82 (y := 101) ?o83 ?o84 (List.mem_singleton.mpr rfl) dX10_init_981 (fun H locs h_190 eh_190 hW hT hs => ?_)
  case o82 => decide
  case o83 => decide
  case o84 => decide
  have hcon := hcon.S hs trivial rfl
  have hz := hx_zr [2, 3, 4, 5, 6, 12, 15, 17] hz hs gx trivial rfl
  have hM := hM.tr (hs.mono ?o85)
  case o85 => decide
  have gx := gx.S hs
  have gq_34 := gq_34.S hs
  have cw : ∀ j, j < 156 → h_190.2.1 q_34 j = P_words j := hx_cw cw eh_190 ?o86 ?o87
  case o86 => decide
  case o87 => decide
  refine lv_dup hx hb dX10_init_982 rfl ?_
  refine lv_sipush (v := 156) hx hb dX10_init_983 ?o88 ?_
  case o88 => decide
  refine lv_bipush (v := 97) hx hb dX10_init_986 ?o89 ?_
  case o89 => decide
  refine hx_bast hx hb hW hT (hx_S.rf (M := [(57, 0)])) gq_34 tt_57 rfl ?o90 (y := 97) ?o91 ?o92 (List.mem_singleton.mpr rfl) dX10_init_988 (fun H locs h_191 eh_191 hW hT hs => ?_)
  case o90 => decide
  case o91 => decide
  case o92 => decide
  have hcon := hcon.S hs trivial rfl
  have hz := hx_zr [2, 3, 4, 5, 6, 12, 15, 17] hz hs gx trivial rfl
  have hM := hM.tr (hs.mono ?o93)
  case o93 => decide
  have gx := gx.S hs
  have gq_34 := gq_34.S hs
  have cw : ∀ j, j < 157 → h_191.2.1 q_34 j = P_words j := hx_cw cw eh_191 ?o94 ?o95
  case o94 => decide
  case o95 => decide
  refine lv_dup hx hb dX10_init_989 rfl ?_
  refine lv_sipush (v := 157) hx hb dX10_init_990 ?o96 ?_
  case o96 => decide
  refine lv_bipush (v := 114) hx hb dX10_init_993 ?o97 ?_
  case o97 => decide
  refine hx_bast hx hb hW hT (hx_S.rf (M := [(57, 0)])) gq_34 tt_57 rfl ?o98 (y := 114) ?o99 ?o100 (List.mem_singleton.mpr rfl) dX10_init_995 (fun H locs h_192 eh_192 hW hT hs => ?_)
  case o98 => decide
  case o99 => decide
  case o100 => decide
  have hcon := hcon.S hs trivial rfl
  have hz := hx_zr [2, 3, 4, 5, 6, 12, 15, 17] hz hs gx trivial rfl
  have hM := hM.tr (hs.mono ?o101)
  case o101 => decide
  have gx := gx.S hs
  have gq_34 := gq_34.S hs
  have cw : ∀ j, j < 158 → h_192.2.1 q_34 j = P_words j := hx_cw cw eh_192 ?o102 ?o103
  case o102 => decide
  case o103 => decide
  refine lv_dup hx hb dX10_init_996 rfl ?_
  refine lv_sipush (v := 158) hx hb dX10_init_997 ?o104 ?_
  case o104 => decide
  refine lv_bipush (v := 105) hx hb dX10_init_1000 ?o105 ?_
  case o105 => decide
  refine hx_bast hx hb hW hT (hx_S.rf (M := [(57, 0)])) gq_34 tt_57 rfl ?o106 (y := 105) ?o107 ?o108 (List.mem_singleton.mpr rfl) dX10_init_1002 (fun H locs h_193 eh_193 hW hT hs => ?_)
  case o106 => decide
  case o107 => decide
  case o108 => decide
  have hcon := hcon.S hs trivial rfl
  have hz := hx_zr [2, 3, 4, 5, 6, 12, 15, 17] hz hs gx trivial rfl
  have hM := hM.tr (hs.mono ?o109)
  case o109 => decide
  have gx := gx.S hs
  have gq_34 := gq_34.S hs
  have cw : ∀ j, j < 159 → h_193.2.1 q_34 j = P_words j := hx_cw cw eh_193 ?o110 ?o111
  case o110 => decide
  case o111 => decide
  refine lv_dup hx hb dX10_init_1003 rfl ?_
  refine lv_sipush (v := 159) hx hb dX10_init_1004 ?o112 ?_
  case o112 => decide
  refine lv_bipush (v := 110) hx hb dX10_init_1007 ?o113 ?_
  case o113 => decide
  refine hx_bast hx hb hW hT (hx_S.rf (M := [(57, 0)])) gq_34 tt_57 rfl ?o114 (y := 110) ?o115 ?o116 (List.mem_singleton.mpr rfl) dX10_init_1009 (fun H locs h_194 eh_194 hW hT hs => ?_)
  case o114 => decide
  case o115 => decide
  case o116 => decide
  have hcon := hcon.S hs trivial rfl
  have hz := hx_zr [2, 3, 4, 5, 6, 12, 15, 17] hz hs gx trivial rfl
  have hM := hM.tr (hs.mono ?o117)
  case o117 => decide
  have gx := gx.S hs
  have gq_34 := gq_34.S hs
  have cw : ∀ j, j < 160 → h_194.2.1 q_34 j = P_words j := hx_cw cw eh_194 ?o118 ?o119
  case o118 => decide
  case o119 => decide
  refine lv_dup hx hb dX10_init_1010 rfl ?_
  refine lv_sipush (v := 160) hx hb dX10_init_1011 ?o120 ?_
  case o120 => decide
  refine lv_bipush (v := 103) hx hb dX10_init_1014 ?o121 ?_
  case o121 => decide
  refine hx_bast hx hb hW hT (hx_S.rf (M := [(57, 0)])) gq_34 tt_57 rfl ?o122 (y := 103) ?o123 ?o124 (List.mem_singleton.mpr rfl) dX10_init_1016 (fun H locs h_195 eh_195 hW hT hs => ?_)
  case o122 => decide
  case o123 => decide
  case o124 => decide
  have hcon := hcon.S hs trivial rfl
  have hz := hx_zr [2, 3, 4, 5, 6, 12, 15, 17] hz hs gx trivial rfl
  have hM := hM.tr (hs.mono ?o125)
  case o125 => decide
  have gx := gx.S hs
  have gq_34 := gq_34.S hs
  have cw : ∀ j, j < 161 → h_195.2.1 q_34 j = P_words j := hx_cw cw eh_195 ?o126 ?o127
  case o126 => decide
  case o127 => decide
  refine lv_dup hx hb dX10_init_1017 rfl ?_
  refine lv_sipush (v := 161) hx hb dX10_init_1018 ?o128 ?_
  case o128 => decide
  refine lv_bipush (v := 111) hx hb dX10_init_1021 ?o129 ?_
  case o129 => decide
  refine hx_bast hx hb hW hT (hx_S.rf (M := [(57, 0)])) gq_34 tt_57 rfl ?o130 (y := 111) ?o131 ?o132 (List.mem_singleton.mpr rfl) dX10_init_1023 (fun H locs h_196 eh_196 hW hT hs => ?_)
  case o130 => decide
  case o131 => decide
  case o132 => decide
  have hcon := hcon.S hs trivial rfl
  have hz := hx_zr [2, 3, 4, 5, 6, 12, 15, 17] hz hs gx trivial rfl
  have hM := hM.tr (hs.mono ?o133)
  case o133 => decide
  have gx := gx.S hs
  have gq_34 := gq_34.S hs
  have cw : ∀ j, j < 162 → h_196.2.1 q_34 j = P_words j := hx_cw cw eh_196 ?o134 ?o135
  case o134 => decide
  case o135 => decide
  refine lv_dup hx hb dX10_init_1024 rfl ?_
  refine lv_sipush (v := 162) hx hb dX10_init_1025 ?o136 ?_
  case o136 => decide
  refine lv_bipush (v := 114) hx hb dX10_init_1028 ?o137 ?_
  case o137 => decide
  refine hx_bast hx hb hW hT (hx_S.rf (M := [(57, 0)])) gq_34 tt_57 rfl ?o138 (y := 114) ?o139 ?o140 (List.mem_singleton.mpr rfl) dX10_init_1030 (fun H locs h_197 eh_197 hW hT hs => ?_)
  case o138 => decide
  case o139 => decide
  case o140 => decide
  have hcon := hcon.S hs trivial rfl
  have hz := hx_zr [2, 3, 4, 5, 6, 12, 15, 17] hz hs gx trivial rfl
  have hM := hM.tr (hs.mono ?o141)
  case o141 => decide
  have gx := gx.S hs
  have gq_34 := gq_34.S hs
  have cw : ∀ j, j < 163 → h_197.2.1 q_34 j = P_words j := hx_cw cw eh_197 ?o142 ?o143
  case o142 => decide
  case o143 => decide
  refine lv_dup hx hb dX10_init_1031 rfl ?_
  refine lv_sipush (v := 163) hx hb dX10_init_1032 ?o144 ?_
  case o144 => decide
  refine lv_bipush (v := 100) hx hb dX10_init_1035 ?o145 ?_
  case o145 => decide
  refine hx_bast hx hb hW hT (hx_S.rf (M := [(57, 0)])) gq_34 tt_57 rfl ?o146 (y := 100) ?o147 ?o148 (List.mem_singleton.mpr rfl) dX10_init_1037 (fun H locs h_198 eh_198 hW hT hs => ?_)
  case o146 => decide
  case o147 => decide
  case o148 => decide
  have hcon := hcon.S hs trivial rfl
  have hz := hx_zr [2, 3, 4, 5, 6, 12, 15, 17] hz hs gx trivial rfl
  have hM := hM.tr (hs.mono ?o149)
  case o149 => decide
  have gx := gx.S hs
  have gq_34 := gq_34.S hs
  have cw : ∀ j, j < 164 → h_198.2.1 q_34 j = P_words j := hx_cw cw eh_198 ?o150 ?o151
  case o150 => decide
  case o151 => decide
  refine lv_dup hx hb dX10_init_1038 rfl ?_
  refine lv_sipush (v := 164) hx hb dX10_init_1039 ?o152 ?_
  case o152 => decide
  refine lv_bipush (v := 101) hx hb dX10_init_1042 ?o153 ?_
  case o153 => decide
  refine hx_bast hx hb hW hT (hx_S.rf (M := [(57, 0)])) gq_34 tt_57 rfl ?o154 (y := 101) ?o155 ?o156 (List.mem_singleton.mpr rfl) dX10_init_1044 (fun H locs h_199 eh_199 hW hT hs => ?_)
  case o154 => decide
  case o155 => decide
  case o156 => decide
  have hcon := hcon.S hs trivial rfl
  have hz := hx_zr [2, 3, 4, 5, 6, 12, 15, 17] hz hs gx trivial rfl
  have hM := hM.tr (hs.mono ?o157)
  case o157 => decide
  have gx := gx.S hs
  have gq_34 := gq_34.S hs
  have cw : ∀ j, j < 165 → h_199.2.1 q_34 j = P_words j := hx_cw cw eh_199 ?o158 ?o159
  case o158 => decide
  case o159 => decide
  exact si_8 l dC dI dA L h sz b0 x q_34 hx hb hml hr hlk hts hown hin hsz hZ L1 h_199 _ _ ls hW hT hM gx hcon hz gq_34  cw hl

set_option maxHeartbeats 4000000 in
set_option maxRecDepth 100000 in
theorem si_6 (l : Launch) (dC : Nat → ClassId) (dI : Nat → Nat → Nat) (dA : Nat → ClassId) (L : List Nat) (h : hx_h) (sz : Nat) (b0 : hx_z) (x : Nat) (q_34 : Nat) {p : Program} {e : Env} {s : State} {m : MethodId} {below : List Frame} {meth : Method} {c : Code} (hx : p.tables.exec = Jvm.exec) (hb : c.code = cX10_init) (hml : c.maxLocals = 2) (hr : meth.sig.returnType = none) (hlk : meth.locks = false) (hts : ∀ w ∈ hx_all, w.before ([.ref x] : List Value).toArray s = true) (hown : s.vm.findClass "SmallCourtModel" = some m.cls) (hin : meth.name = "<init>") (hsz : s.heap.size = sz) (hZ : hx_Xt (hx_A L sz) b0 s) (L1 : List Nat) (hl1 : hx_h) (H : Heap) (locs : List Loc) (ls : Array Slot) (hW : hx_W T_tb (P_ty dA) (dC, dI) vwCl (hx_A L sz) s.heap L1 hl1 s H locs) (hT : hx_T T_tb L1 hl1) (hM : hx_S T_tb [(10, 14), (10, 16), (10, 18), (50, 0), (51, 0), (52, 0), (55, 0), (57, 0), (126, 2), (126, 3), (126, 4), (126, 5), (126, 6), (126, 12), (126, 15), (126, 17), (126, 19), (126, 21), (126, 22), (126, 23), (126, 24), (126, 25), (126, 26), (126, 27), (126, 28), (126, 30), (126, 31), (126, 32), (126, 33), (126, 34), (126, 35), (126, 37), (126, 38), (126, 39), (126, 40), (126, 41), (126, 42), (126, 43), (126, 44), (126, 45), (126, 46), (126, 47), (126, 48), (126, 49), (126, 50), (126, 51), (126, 52), (126, 53), (126, 54), (126, 55), (126, 56), (126, 58), (126, 60), (126, 61), (126, 62), (126, 63), (126, 64), (126, 65), (126, 66), (126, 73), (126, 74), (126, 76), (126, 77), (126, 78), (126, 79), (126, 80), (126, 81), (126, 82), (126, 85), (126, 88), (126, 89), (126, 91), (126, 93), (126, 94), (126, 97)] (hx_X L x) h L1 hl1) (gx : hx_g L1 hl1 x 126) (hcon : hx_con L1 hl1 x 126 [(17, 56, false), (15, 55, false), (12, 54, false), (6, 53, true), (5, 52, false), (4, 51, false), (3, 50, false), (2, 49, false)] []) (hz : ∀ j, [2, 3, 4, 5, 6, 12, 15, 17].contains j = false → hl1.2.1 x j = 0 ∧ hl1.2.2 x j = none) (gq_34 : hx_g L1 hl1 q_34 57)  (cw : ∀ j, j < 125 → hl1.2.1 q_34 j = P_words j) (hl : lv_has ls 2 [(0, .ref x)]) : W p l e ({ frames := 2, cells := 67, slots := 15340, locals := 42 }) s m ([.ref x] : List Value).toArray below meth c H locs 9 2131 (MQ below (va_Qv (fun (u : List Nat × hx_h) => hx_T T_tb u.1 u.2 ∧ hx_S T_tb [(10, 14), (10, 16), (10, 18), (50, 0), (51, 0), (52, 0), (55, 0), (57, 0), (126, 2), (126, 3), (126, 4), (126, 5), (126, 6), (126, 12), (126, 15), (126, 17), (126, 19), (126, 21), (126, 22), (126, 23), (126, 24), (126, 25), (126, 26), (126, 27), (126, 28), (126, 30), (126, 31), (126, 32), (126, 33), (126, 34), (126, 35), (126, 37), (126, 38), (126, 39), (126, 40), (126, 41), (126, 42), (126, 43), (126, 44), (126, 45), (126, 46), (126, 47), (126, 48), (126, 49), (126, 50), (126, 51), (126, 52), (126, 53), (126, 54), (126, 55), (126, 56), (126, 58), (126, 60), (126, 61), (126, 62), (126, 63), (126, 64), (126, 65), (126, 66), (126, 73), (126, 74), (126, 76), (126, 77), (126, 78), (126, 79), (126, 80), (126, 81), (126, 82), (126, 85), (126, 88), (126, 89), (126, 91), (126, 93), (126, 94), (126, 97)] (hx_X L x) h u.1 u.2 ∧ hx_g u.1 u.2 x 10 ∧ u.2.2.1 x 0 = 0 ∧ u.2.2.1 x 1 = 0 ∧ u.2.2.1 x 36 = 0 ∧ u.2.2.1 x 57 = 0 ∧ u.2.2.1 x 7 = 0 ∧ u.2.2.1 x 20 = 0 ∧ u.2.2.1 x 29 = 0 ∧ u.2.2.1 x 59 = 0 ∧ u.2.2.1 x 72 = 0 ∧ u.2.2.1 x 83 = 0 ∧ u.2.2.1 x 84 = 0 ∧ u.2.2.1 x 90 = 0 ∧ u.2.2.1 x 92 = 0 ∧ ∃ q_words q_rule q_proofSteps q_proof q_tries q_isDead q_isJudge q_found q_list q_judged q_weekly q_owed q_doorX q_doorY q_tape q_born q_kin q_sum q_filed q_owedFrom q_heard q_ordered q_goods q_seized q_served q_earns q_heads q_payOf q_payDay q_paySum q_payKnown q_payStruck q_actDay : Nat, u.2.2.2 x 19 = some q_words ∧ hx_g u.1 u.2 q_words 57 ∧ u.2.2.2 x 3 = some q_rule ∧ hx_g u.1 u.2 q_rule 50 ∧ u.2.2.2 x 4 = some q_proofSteps ∧ hx_g u.1 u.2 q_proofSteps 51 ∧ u.2.2.2 x 5 = some q_proof ∧ hx_g u.1 u.2 q_proof 52 ∧ u.2.2.2 x 45 = some q_tries ∧ hx_g u.1 u.2 q_tries 80 ∧ u.2.2.2 x 27 = some q_isDead ∧ hx_g u.1 u.2 q_isDead 64 ∧ u.2.2.2 x 28 = some q_isJudge ∧ hx_g u.1 u.2 q_isJudge 65 ∧ u.2.2.2 x 46 = some q_found ∧ hx_g u.1 u.2 q_found 81 ∧ u.2.2.2 x 91 = some q_list ∧ hx_g u.1 u.2 q_list 112 ∧ u.2.2.2 x 51 = some q_judged ∧ hx_g u.1 u.2 q_judged 86 ∧ u.2.2.2 x 54 = some q_weekly ∧ hx_g u.1 u.2 q_weekly 89 ∧ u.2.2.2 x 55 = some q_owed ∧ hx_g u.1 u.2 q_owed 90 ∧ u.2.2.2 x 24 = some q_doorX ∧ hx_g u.1 u.2 q_doorX 61 ∧ u.2.2.2 x 25 = some q_doorY ∧ hx_g u.1 u.2 q_doorY 62 ∧ u.2.2.2 x 6 = some q_tape ∧ hx_g u.1 u.2 q_tape 53 ∧ u.2.2.2 x 21 = some q_born ∧ hx_g u.1 u.2 q_born 58 ∧ u.2.2.2 x 26 = some q_kin ∧ hx_g u.1 u.2 q_kin 63 ∧ u.2.2.2 x 39 = some q_sum ∧ hx_g u.1 u.2 q_sum 74 ∧ u.2.2.2 x 43 = some q_filed ∧ hx_g u.1 u.2 q_filed 78 ∧ u.2.2.2 x 40 = some q_owedFrom ∧ hx_g u.1 u.2 q_owedFrom 75 ∧ u.2.2.2 x 47 = some q_heard ∧ hx_g u.1 u.2 q_heard 82 ∧ u.2.2.2 x 48 = some q_ordered ∧ hx_g u.1 u.2 q_ordered 83 ∧ u.2.2.2 x 56 = some q_goods ∧ hx_g u.1 u.2 q_goods 91 ∧ u.2.2.2 x 49 = some q_seized ∧ hx_g u.1 u.2 q_seized 84 ∧ u.2.2.2 x 50 = some q_served ∧ hx_g u.1 u.2 q_served 85 ∧ u.2.2.2 x 22 = some q_earns ∧ hx_g u.1 u.2 q_earns 59 ∧ u.2.2.2 x 23 = some q_heads ∧ hx_g u.1 u.2 q_heads 60 ∧ u.2.2.2 x 60 = some q_payOf ∧ hx_g u.1 u.2 q_payOf 93 ∧ u.2.2.2 x 61 = some q_payDay ∧ hx_g u.1 u.2 q_payDay 94 ∧ u.2.2.2 x 62 = some q_paySum ∧ hx_g u.1 u.2 q_paySum 95 ∧ u.2.2.2 x 63 = some q_payKnown ∧ hx_g u.1 u.2 q_payKnown 96 ∧ u.2.2.2 x 64 = some q_payStruck ∧ hx_g u.1 u.2 q_payStruck 97 ∧ u.2.2.2 x 2 = some q_actDay ∧ hx_g u.1 u.2 q_actDay 49 ∧ hx_wd (u.2.2.1 q_words) ∧ hx_WK (u.2.2.1 q_rule) 0 ∧ hx_RP (u.2.2.1 q_proof) (u.2.2.1 q_proofSteps) 0 ∧ (∀ j, u.2.2.1 q_tries j = 0) ∧ (∀ j, u.2.2.1 q_isDead j = 0) ∧ (∀ j, u.2.2.1 q_isJudge j = 0) ∧ (∀ j, u.2.2.1 q_found j = 0) ∧ (∀ j, u.2.2.1 q_list j = 0) ∧ (∀ j, u.2.2.1 q_judged j = 0) ∧ (∀ j, u.2.2.1 q_weekly j = 0) ∧ (∀ j, u.2.2.1 q_owed j = 0) ∧ (∀ j, u.2.2.1 q_doorX j = 0) ∧ (∀ j, u.2.2.1 q_doorY j = 0) ∧ (∀ j, u.2.2.1 q_tape j = 0) ∧ (∀ j, u.2.2.1 q_born j = 0) ∧ (∀ j, u.2.2.1 q_kin j = 0) ∧ (∀ j, u.2.2.1 q_sum j = 0) ∧ (∀ j, u.2.2.1 q_filed j = 0) ∧ (∀ j, u.2.2.1 q_owedFrom j = 0) ∧ (∀ j, u.2.2.1 q_heard j = 0) ∧ (∀ j, u.2.2.1 q_ordered j = 0) ∧ (∀ j, u.2.2.1 q_goods j = 0) ∧ (∀ j, u.2.2.1 q_seized j = 0) ∧ (∀ j, u.2.2.1 q_served j = 0) ∧ (∀ j, u.2.2.1 q_earns j = 0) ∧ (∀ j, u.2.2.1 q_heads j = 0) ∧ (∀ j, u.2.2.1 q_payOf j = 0) ∧ (∀ j, u.2.2.1 q_payDay j = 0) ∧ (∀ j, u.2.2.1 q_paySum j = 0) ∧ (∀ j, u.2.2.1 q_payKnown j = 0) ∧ (∀ j, u.2.2.1 q_payStruck j = 0) ∧ hv_CA (u.2.2.1 q_actDay) (u.2.2.1 q_rule) (u.2.2.1 q_proofSteps) (u.2.2.1 q_proof) 0 (fun _ => hv_A0)) (hx_E T_tb (P_ty dA) (dC, dI) vwCl (hx_A L sz)) (hx_A L sz)) ([.ref x] : List Value).toArray s 67 15340 (hx_A L sz)) (F0 m 777 ls [.ref q_34, .ref x]) := by
  refine lv_dup hx hb dX10_init_777 rfl ?_
  refine lv_bipush (v := 125) hx hb dX10_init_778 ?o0 ?_
  case o0 => decide
  refine lv_bipush (v := 116) hx hb dX10_init_780 ?o1 ?_
  case o1 => decide
  refine hx_bast hx hb hW hT (hx_S.rf (M := [(57, 0)])) gq_34 tt_57 rfl ?o2 (y := 116) ?o3 ?o4 (List.mem_singleton.mpr rfl) dX10_init_782 (fun H locs h_160 eh_160 hW hT hs => ?_)
  case o2 => decide
  case o3 => decide
  case o4 => decide
  have hcon := hcon.S hs trivial rfl
  have hz := hx_zr [2, 3, 4, 5, 6, 12, 15, 17] hz hs gx trivial rfl
  have hM := hM.tr (hs.mono ?o5)
  case o5 => decide
  have gx := gx.S hs
  have gq_34 := gq_34.S hs
  have cw : ∀ j, j < 126 → h_160.2.1 q_34 j = P_words j := hx_cw cw eh_160 ?o6 ?o7
  case o6 => decide
  case o7 => decide
  refine lv_dup hx hb dX10_init_783 rfl ?_
  refine lv_bipush (v := 126) hx hb dX10_init_784 ?o8 ?_
  case o8 => decide
  refine lv_bipush (v := 97) hx hb dX10_init_786 ?o9 ?_
  case o9 => decide
  refine hx_bast hx hb hW hT (hx_S.rf (M := [(57, 0)])) gq_34 tt_57 rfl ?o10 (y := 97) ?o11 ?o12 (List.mem_singleton.mpr rfl) dX10_init_788 (fun H locs h_161 eh_161 hW hT hs => ?_)
  case o10 => decide
  case o11 => decide
  case o12 => decide
  have hcon := hcon.S hs trivial rfl
  have hz := hx_zr [2, 3, 4, 5, 6, 12, 15, 17] hz hs gx trivial rfl
  have hM := hM.tr (hs.mono ?o13)
  case o13 => decide
  have gx := gx.S hs
  have gq_34 := gq_34.S hs
  have cw : ∀ j, j < 127 → h_161.2.1 q_34 j = P_words j := hx_cw cw eh_161 ?o14 ?o15
  case o14 => decide
  case o15 => decide
  refine lv_dup hx hb dX10_init_789 rfl ?_
  refine lv_bipush (v := 127) hx hb dX10_init_790 ?o16 ?_
  case o16 => decide
  refine lv_bipush (v := 103) hx hb dX10_init_792 ?o17 ?_
  case o17 => decide
  refine hx_bast hx hb hW hT (hx_S.rf (M := [(57, 0)])) gq_34 tt_57 rfl ?o18 (y := 103) ?o19 ?o20 (List.mem_singleton.mpr rfl) dX10_init_794 (fun H locs h_162 eh_162 hW hT hs => ?_)
  case o18 => decide
  case o19 => decide
  case o20 => decide
  have hcon := hcon.S hs trivial rfl
  have hz := hx_zr [2, 3, 4, 5, 6, 12, 15, 17] hz hs gx trivial rfl
  have hM := hM.tr (hs.mono ?o21)
  case o21 => decide
  have gx := gx.S hs
  have gq_34 := gq_34.S hs
  have cw : ∀ j, j < 128 → h_162.2.1 q_34 j = P_words j := hx_cw cw eh_162 ?o22 ?o23
  case o22 => decide
  case o23 => decide
  refine lv_dup hx hb dX10_init_795 rfl ?_
  refine lv_sipush (v := 128) hx hb dX10_init_796 ?o24 ?_
  case o24 => decide
  refine lv_bipush (v := 101) hx hb dX10_init_799 ?o25 ?_
  case o25 => decide
  refine hx_bast hx hb hW hT (hx_S.rf (M := [(57, 0)])) gq_34 tt_57 rfl ?o26 (y := 101) ?o27 ?o28 (List.mem_singleton.mpr rfl) dX10_init_801 (fun H locs h_163 eh_163 hW hT hs => ?_)
  case o26 => decide
  case o27 => decide
  case o28 => decide
  have hcon := hcon.S hs trivial rfl
  have hz := hx_zr [2, 3, 4, 5, 6, 12, 15, 17] hz hs gx trivial rfl
  have hM := hM.tr (hs.mono ?o29)
  case o29 => decide
  have gx := gx.S hs
  have gq_34 := gq_34.S hs
  have cw : ∀ j, j < 129 → h_163.2.1 q_34 j = P_words j := hx_cw cw eh_163 ?o30 ?o31
  case o30 => decide
  case o31 => decide
  refine lv_dup hx hb dX10_init_802 rfl ?_
  refine lv_sipush (v := 129) hx hb dX10_init_803 ?o32 ?_
  case o32 => decide
  refine lv_iconst (v := 0) hx hb dX10_init_806 ?o33 ?_
  case o33 => decide
  refine hx_bast hx hb hW hT (hx_S.rf (M := [(57, 0)])) gq_34 tt_57 rfl ?o34 (y := 0) ?o35 ?o36 (List.mem_singleton.mpr rfl) dX10_init_807 (fun H locs h_164 eh_164 hW hT hs => ?_)
  case o34 => decide
  case o35 => decide
  case o36 => decide
  have hcon := hcon.S hs trivial rfl
  have hz := hx_zr [2, 3, 4, 5, 6, 12, 15, 17] hz hs gx trivial rfl
  have hM := hM.tr (hs.mono ?o37)
  case o37 => decide
  have gx := gx.S hs
  have gq_34 := gq_34.S hs
  have cw : ∀ j, j < 130 → h_164.2.1 q_34 j = P_words j := hx_cw cw eh_164 ?o38 ?o39
  case o38 => decide
  case o39 => decide
  refine lv_dup hx hb dX10_init_808 rfl ?_
  refine lv_sipush (v := 130) hx hb dX10_init_809 ?o40 ?_
  case o40 => decide
  refine lv_iconst (v := 0) hx hb dX10_init_812 ?o41 ?_
  case o41 => decide
  refine hx_bast hx hb hW hT (hx_S.rf (M := [(57, 0)])) gq_34 tt_57 rfl ?o42 (y := 0) ?o43 ?o44 (List.mem_singleton.mpr rfl) dX10_init_813 (fun H locs h_165 eh_165 hW hT hs => ?_)
  case o42 => decide
  case o43 => decide
  case o44 => decide
  have hcon := hcon.S hs trivial rfl
  have hz := hx_zr [2, 3, 4, 5, 6, 12, 15, 17] hz hs gx trivial rfl
  have hM := hM.tr (hs.mono ?o45)
  case o45 => decide
  have gx := gx.S hs
  have gq_34 := gq_34.S hs
  have cw : ∀ j, j < 131 → h_165.2.1 q_34 j = P_words j := hx_cw cw eh_165 ?o46 ?o47
  case o46 => decide
  case o47 => decide
  refine lv_dup hx hb dX10_init_814 rfl ?_
  refine lv_sipush (v := 131) hx hb dX10_init_815 ?o48 ?_
  case o48 => decide
  refine lv_iconst (v := 0) hx hb dX10_init_818 ?o49 ?_
  case o49 => decide
  refine hx_bast hx hb hW hT (hx_S.rf (M := [(57, 0)])) gq_34 tt_57 rfl ?o50 (y := 0) ?o51 ?o52 (List.mem_singleton.mpr rfl) dX10_init_819 (fun H locs h_166 eh_166 hW hT hs => ?_)
  case o50 => decide
  case o51 => decide
  case o52 => decide
  have hcon := hcon.S hs trivial rfl
  have hz := hx_zr [2, 3, 4, 5, 6, 12, 15, 17] hz hs gx trivial rfl
  have hM := hM.tr (hs.mono ?o53)
  case o53 => decide
  have gx := gx.S hs
  have gq_34 := gq_34.S hs
  have cw : ∀ j, j < 132 → h_166.2.1 q_34 j = P_words j := hx_cw cw eh_166 ?o54 ?o55
  case o54 => decide
  case o55 => decide
  refine lv_dup hx hb dX10_init_820 rfl ?_
  refine lv_sipush (v := 132) hx hb dX10_init_821 ?o56 ?_
  case o56 => decide
  refine lv_iconst (v := 0) hx hb dX10_init_824 ?o57 ?_
  case o57 => decide
  refine hx_bast hx hb hW hT (hx_S.rf (M := [(57, 0)])) gq_34 tt_57 rfl ?o58 (y := 0) ?o59 ?o60 (List.mem_singleton.mpr rfl) dX10_init_825 (fun H locs h_167 eh_167 hW hT hs => ?_)
  case o58 => decide
  case o59 => decide
  case o60 => decide
  have hcon := hcon.S hs trivial rfl
  have hz := hx_zr [2, 3, 4, 5, 6, 12, 15, 17] hz hs gx trivial rfl
  have hM := hM.tr (hs.mono ?o61)
  case o61 => decide
  have gx := gx.S hs
  have gq_34 := gq_34.S hs
  have cw : ∀ j, j < 133 → h_167.2.1 q_34 j = P_words j := hx_cw cw eh_167 ?o62 ?o63
  case o62 => decide
  case o63 => decide
  refine lv_dup hx hb dX10_init_826 rfl ?_
  refine lv_sipush (v := 133) hx hb dX10_init_827 ?o64 ?_
  case o64 => decide
  refine lv_bipush (v := 99) hx hb dX10_init_830 ?o65 ?_
  case o65 => decide
  refine hx_bast hx hb hW hT (hx_S.rf (M := [(57, 0)])) gq_34 tt_57 rfl ?o66 (y := 99) ?o67 ?o68 (List.mem_singleton.mpr rfl) dX10_init_832 (fun H locs h_168 eh_168 hW hT hs => ?_)
  case o66 => decide
  case o67 => decide
  case o68 => decide
  have hcon := hcon.S hs trivial rfl
  have hz := hx_zr [2, 3, 4, 5, 6, 12, 15, 17] hz hs gx trivial rfl
  have hM := hM.tr (hs.mono ?o69)
  case o69 => decide
  have gx := gx.S hs
  have gq_34 := gq_34.S hs
  have cw : ∀ j, j < 134 → h_168.2.1 q_34 j = P_words j := hx_cw cw eh_168 ?o70 ?o71
  case o70 => decide
  case o71 => decide
  refine lv_dup hx hb dX10_init_833 rfl ?_
  refine lv_sipush (v := 134) hx hb dX10_init_834 ?o72 ?_
  case o72 => decide
  refine lv_bipush (v := 111) hx hb dX10_init_837 ?o73 ?_
  case o73 => decide
  refine hx_bast hx hb hW hT (hx_S.rf (M := [(57, 0)])) gq_34 tt_57 rfl ?o74 (y := 111) ?o75 ?o76 (List.mem_singleton.mpr rfl) dX10_init_839 (fun H locs h_169 eh_169 hW hT hs => ?_)
  case o74 => decide
  case o75 => decide
  case o76 => decide
  have hcon := hcon.S hs trivial rfl
  have hz := hx_zr [2, 3, 4, 5, 6, 12, 15, 17] hz hs gx trivial rfl
  have hM := hM.tr (hs.mono ?o77)
  case o77 => decide
  have gx := gx.S hs
  have gq_34 := gq_34.S hs
  have cw : ∀ j, j < 135 → h_169.2.1 q_34 j = P_words j := hx_cw cw eh_169 ?o78 ?o79
  case o78 => decide
  case o79 => decide
  refine lv_dup hx hb dX10_init_840 rfl ?_
  refine lv_sipush (v := 135) hx hb dX10_init_841 ?o80 ?_
  case o80 => decide
  refine lv_bipush (v := 115) hx hb dX10_init_844 ?o81 ?_
  case o81 => decide
  refine hx_bast hx hb hW hT (hx_S.rf (M := [(57, 0)])) gq_34 tt_57 rfl ?o82 (y := 115) ?o83 ?o84 (List.mem_singleton.mpr rfl) dX10_init_846 (fun H locs h_170 eh_170 hW hT hs => ?_)
  case o82 => decide
  case o83 => decide
  case o84 => decide
  have hcon := hcon.S hs trivial rfl
  have hz := hx_zr [2, 3, 4, 5, 6, 12, 15, 17] hz hs gx trivial rfl
  have hM := hM.tr (hs.mono ?o85)
  case o85 => decide
  have gx := gx.S hs
  have gq_34 := gq_34.S hs
  have cw : ∀ j, j < 136 → h_170.2.1 q_34 j = P_words j := hx_cw cw eh_170 ?o86 ?o87
  case o86 => decide
  case o87 => decide
  refine lv_dup hx hb dX10_init_847 rfl ?_
  refine lv_sipush (v := 136) hx hb dX10_init_848 ?o88 ?_
  case o88 => decide
  refine lv_bipush (v := 116) hx hb dX10_init_851 ?o89 ?_
  case o89 => decide
  refine hx_bast hx hb hW hT (hx_S.rf (M := [(57, 0)])) gq_34 tt_57 rfl ?o90 (y := 116) ?o91 ?o92 (List.mem_singleton.mpr rfl) dX10_init_853 (fun H locs h_171 eh_171 hW hT hs => ?_)
  case o90 => decide
  case o91 => decide
  case o92 => decide
  have hcon := hcon.S hs trivial rfl
  have hz := hx_zr [2, 3, 4, 5, 6, 12, 15, 17] hz hs gx trivial rfl
  have hM := hM.tr (hs.mono ?o93)
  case o93 => decide
  have gx := gx.S hs
  have gq_34 := gq_34.S hs
  have cw : ∀ j, j < 137 → h_171.2.1 q_34 j = P_words j := hx_cw cw eh_171 ?o94 ?o95
  case o94 => decide
  case o95 => decide
  refine lv_dup hx hb dX10_init_854 rfl ?_
  refine lv_sipush (v := 137) hx hb dX10_init_855 ?o96 ?_
  case o96 => decide
  refine lv_iconst (v := 0) hx hb dX10_init_858 ?o97 ?_
  case o97 => decide
  refine hx_bast hx hb hW hT (hx_S.rf (M := [(57, 0)])) gq_34 tt_57 rfl ?o98 (y := 0) ?o99 ?o100 (List.mem_singleton.mpr rfl) dX10_init_859 (fun H locs h_172 eh_172 hW hT hs => ?_)
  case o98 => decide
  case o99 => decide
  case o100 => decide
  have hcon := hcon.S hs trivial rfl
  have hz := hx_zr [2, 3, 4, 5, 6, 12, 15, 17] hz hs gx trivial rfl
  have hM := hM.tr (hs.mono ?o101)
  case o101 => decide
  have gx := gx.S hs
  have gq_34 := gq_34.S hs
  have cw : ∀ j, j < 138 → h_172.2.1 q_34 j = P_words j := hx_cw cw eh_172 ?o102 ?o103
  case o102 => decide
  case o103 => decide
  refine lv_dup hx hb dX10_init_860 rfl ?_
  refine lv_sipush (v := 138) hx hb dX10_init_861 ?o104 ?_
  case o104 => decide
  refine lv_iconst (v := 0) hx hb dX10_init_864 ?o105 ?_
  case o105 => decide
  refine hx_bast hx hb hW hT (hx_S.rf (M := [(57, 0)])) gq_34 tt_57 rfl ?o106 (y := 0) ?o107 ?o108 (List.mem_singleton.mpr rfl) dX10_init_865 (fun H locs h_173 eh_173 hW hT hs => ?_)
  case o106 => decide
  case o107 => decide
  case o108 => decide
  have hcon := hcon.S hs trivial rfl
  have hz := hx_zr [2, 3, 4, 5, 6, 12, 15, 17] hz hs gx trivial rfl
  have hM := hM.tr (hs.mono ?o109)
  case o109 => decide
  have gx := gx.S hs
  have gq_34 := gq_34.S hs
  have cw : ∀ j, j < 139 → h_173.2.1 q_34 j = P_words j := hx_cw cw eh_173 ?o110 ?o111
  case o110 => decide
  case o111 => decide
  refine lv_dup hx hb dX10_init_866 rfl ?_
  refine lv_sipush (v := 139) hx hb dX10_init_867 ?o112 ?_
  case o112 => decide
  refine lv_iconst (v := 0) hx hb dX10_init_870 ?o113 ?_
  case o113 => decide
  refine hx_bast hx hb hW hT (hx_S.rf (M := [(57, 0)])) gq_34 tt_57 rfl ?o114 (y := 0) ?o115 ?o116 (List.mem_singleton.mpr rfl) dX10_init_871 (fun H locs h_174 eh_174 hW hT hs => ?_)
  case o114 => decide
  case o115 => decide
  case o116 => decide
  have hcon := hcon.S hs trivial rfl
  have hz := hx_zr [2, 3, 4, 5, 6, 12, 15, 17] hz hs gx trivial rfl
  have hM := hM.tr (hs.mono ?o117)
  case o117 => decide
  have gx := gx.S hs
  have gq_34 := gq_34.S hs
  have cw : ∀ j, j < 140 → h_174.2.1 q_34 j = P_words j := hx_cw cw eh_174 ?o118 ?o119
  case o118 => decide
  case o119 => decide
  refine lv_dup hx hb dX10_init_872 rfl ?_
  refine lv_sipush (v := 140) hx hb dX10_init_873 ?o120 ?_
  case o120 => decide
  refine lv_bipush (v := 112) hx hb dX10_init_876 ?o121 ?_
  case o121 => decide
  refine hx_bast hx hb hW hT (hx_S.rf (M := [(57, 0)])) gq_34 tt_57 rfl ?o122 (y := 112) ?o123 ?o124 (List.mem_singleton.mpr rfl) dX10_init_878 (fun H locs h_175 eh_175 hW hT hs => ?_)
  case o122 => decide
  case o123 => decide
  case o124 => decide
  have hcon := hcon.S hs trivial rfl
  have hz := hx_zr [2, 3, 4, 5, 6, 12, 15, 17] hz hs gx trivial rfl
  have hM := hM.tr (hs.mono ?o125)
  case o125 => decide
  have gx := gx.S hs
  have gq_34 := gq_34.S hs
  have cw : ∀ j, j < 141 → h_175.2.1 q_34 j = P_words j := hx_cw cw eh_175 ?o126 ?o127
  case o126 => decide
  case o127 => decide
  refine lv_dup hx hb dX10_init_879 rfl ?_
  refine lv_sipush (v := 141) hx hb dX10_init_880 ?o128 ?_
  case o128 => decide
  refine lv_bipush (v := 114) hx hb dX10_init_883 ?o129 ?_
  case o129 => decide
  refine hx_bast hx hb hW hT (hx_S.rf (M := [(57, 0)])) gq_34 tt_57 rfl ?o130 (y := 114) ?o131 ?o132 (List.mem_singleton.mpr rfl) dX10_init_885 (fun H locs h_176 eh_176 hW hT hs => ?_)
  case o130 => decide
  case o131 => decide
  case o132 => decide
  have hcon := hcon.S hs trivial rfl
  have hz := hx_zr [2, 3, 4, 5, 6, 12, 15, 17] hz hs gx trivial rfl
  have hM := hM.tr (hs.mono ?o133)
  case o133 => decide
  have gx := gx.S hs
  have gq_34 := gq_34.S hs
  have cw : ∀ j, j < 142 → h_176.2.1 q_34 j = P_words j := hx_cw cw eh_176 ?o134 ?o135
  case o134 => decide
  case o135 => decide
  refine lv_dup hx hb dX10_init_886 rfl ?_
  refine lv_sipush (v := 142) hx hb dX10_init_887 ?o136 ?_
  case o136 => decide
  refine lv_bipush (v := 111) hx hb dX10_init_890 ?o137 ?_
  case o137 => decide
  refine hx_bast hx hb hW hT (hx_S.rf (M := [(57, 0)])) gq_34 tt_57 rfl ?o138 (y := 111) ?o139 ?o140 (List.mem_singleton.mpr rfl) dX10_init_892 (fun H locs h_177 eh_177 hW hT hs => ?_)
  case o138 => decide
  case o139 => decide
  case o140 => decide
  have hcon := hcon.S hs trivial rfl
  have hz := hx_zr [2, 3, 4, 5, 6, 12, 15, 17] hz hs gx trivial rfl
  have hM := hM.tr (hs.mono ?o141)
  case o141 => decide
  have gx := gx.S hs
  have gq_34 := gq_34.S hs
  have cw : ∀ j, j < 143 → h_177.2.1 q_34 j = P_words j := hx_cw cw eh_177 ?o142 ?o143
  case o142 => decide
  case o143 => decide
  refine lv_dup hx hb dX10_init_893 rfl ?_
  refine lv_sipush (v := 143) hx hb dX10_init_894 ?o144 ?_
  case o144 => decide
  refine lv_bipush (v := 118) hx hb dX10_init_897 ?o145 ?_
  case o145 => decide
  refine hx_bast hx hb hW hT (hx_S.rf (M := [(57, 0)])) gq_34 tt_57 rfl ?o146 (y := 118) ?o147 ?o148 (List.mem_singleton.mpr rfl) dX10_init_899 (fun H locs h_178 eh_178 hW hT hs => ?_)
  case o146 => decide
  case o147 => decide
  case o148 => decide
  have hcon := hcon.S hs trivial rfl
  have hz := hx_zr [2, 3, 4, 5, 6, 12, 15, 17] hz hs gx trivial rfl
  have hM := hM.tr (hs.mono ?o149)
  case o149 => decide
  have gx := gx.S hs
  have gq_34 := gq_34.S hs
  have cw : ∀ j, j < 144 → h_178.2.1 q_34 j = P_words j := hx_cw cw eh_178 ?o150 ?o151
  case o150 => decide
  case o151 => decide
  refine lv_dup hx hb dX10_init_900 rfl ?_
  refine lv_sipush (v := 144) hx hb dX10_init_901 ?o152 ?_
  case o152 => decide
  refine lv_bipush (v := 101) hx hb dX10_init_904 ?o153 ?_
  case o153 => decide
  refine hx_bast hx hb hW hT (hx_S.rf (M := [(57, 0)])) gq_34 tt_57 rfl ?o154 (y := 101) ?o155 ?o156 (List.mem_singleton.mpr rfl) dX10_init_906 (fun H locs h_179 eh_179 hW hT hs => ?_)
  case o154 => decide
  case o155 => decide
  case o156 => decide
  have hcon := hcon.S hs trivial rfl
  have hz := hx_zr [2, 3, 4, 5, 6, 12, 15, 17] hz hs gx trivial rfl
  have hM := hM.tr (hs.mono ?o157)
  case o157 => decide
  have gx := gx.S hs
  have gq_34 := gq_34.S hs
  have cw : ∀ j, j < 145 → h_179.2.1 q_34 j = P_words j := hx_cw cw eh_179 ?o158 ?o159
  case o158 => decide
  case o159 => decide
  exact si_7 l dC dI dA L h sz b0 x q_34 hx hb hml hr hlk hts hown hin hsz hZ L1 h_179 _ _ ls hW hT hM gx hcon hz gq_34  cw hl

set_option maxHeartbeats 4000000 in
set_option maxRecDepth 100000 in
theorem si_5 (l : Launch) (dC : Nat → ClassId) (dI : Nat → Nat → Nat) (dA : Nat → ClassId) (L : List Nat) (h : hx_h) (sz : Nat) (b0 : hx_z) (x : Nat) (q_34 : Nat) {p : Program} {e : Env} {s : State} {m : MethodId} {below : List Frame} {meth : Method} {c : Code} (hx : p.tables.exec = Jvm.exec) (hb : c.code = cX10_init) (hml : c.maxLocals = 2) (hr : meth.sig.returnType = none) (hlk : meth.locks = false) (hts : ∀ w ∈ hx_all, w.before ([.ref x] : List Value).toArray s = true) (hown : s.vm.findClass "SmallCourtModel" = some m.cls) (hin : meth.name = "<init>") (hsz : s.heap.size = sz) (hZ : hx_Xt (hx_A L sz) b0 s) (L1 : List Nat) (hl1 : hx_h) (H : Heap) (locs : List Loc) (ls : Array Slot) (hW : hx_W T_tb (P_ty dA) (dC, dI) vwCl (hx_A L sz) s.heap L1 hl1 s H locs) (hT : hx_T T_tb L1 hl1) (hM : hx_S T_tb [(10, 14), (10, 16), (10, 18), (50, 0), (51, 0), (52, 0), (55, 0), (57, 0), (126, 2), (126, 3), (126, 4), (126, 5), (126, 6), (126, 12), (126, 15), (126, 17), (126, 19), (126, 21), (126, 22), (126, 23), (126, 24), (126, 25), (126, 26), (126, 27), (126, 28), (126, 30), (126, 31), (126, 32), (126, 33), (126, 34), (126, 35), (126, 37), (126, 38), (126, 39), (126, 40), (126, 41), (126, 42), (126, 43), (126, 44), (126, 45), (126, 46), (126, 47), (126, 48), (126, 49), (126, 50), (126, 51), (126, 52), (126, 53), (126, 54), (126, 55), (126, 56), (126, 58), (126, 60), (126, 61), (126, 62), (126, 63), (126, 64), (126, 65), (126, 66), (126, 73), (126, 74), (126, 76), (126, 77), (126, 78), (126, 79), (126, 80), (126, 81), (126, 82), (126, 85), (126, 88), (126, 89), (126, 91), (126, 93), (126, 94), (126, 97)] (hx_X L x) h L1 hl1) (gx : hx_g L1 hl1 x 126) (hcon : hx_con L1 hl1 x 126 [(17, 56, false), (15, 55, false), (12, 54, false), (6, 53, true), (5, 52, false), (4, 51, false), (3, 50, false), (2, 49, false)] []) (hz : ∀ j, [2, 3, 4, 5, 6, 12, 15, 17].contains j = false → hl1.2.1 x j = 0 ∧ hl1.2.2 x j = none) (gq_34 : hx_g L1 hl1 q_34 57)  (cw : ∀ j, j < 105 → hl1.2.1 q_34 j = P_words j) (hl : lv_has ls 2 [(0, .ref x)]) : W p l e ({ frames := 2, cells := 67, slots := 15340, locals := 42 }) s m ([.ref x] : List Value).toArray below meth c H locs 9 2131 (MQ below (va_Qv (fun (u : List Nat × hx_h) => hx_T T_tb u.1 u.2 ∧ hx_S T_tb [(10, 14), (10, 16), (10, 18), (50, 0), (51, 0), (52, 0), (55, 0), (57, 0), (126, 2), (126, 3), (126, 4), (126, 5), (126, 6), (126, 12), (126, 15), (126, 17), (126, 19), (126, 21), (126, 22), (126, 23), (126, 24), (126, 25), (126, 26), (126, 27), (126, 28), (126, 30), (126, 31), (126, 32), (126, 33), (126, 34), (126, 35), (126, 37), (126, 38), (126, 39), (126, 40), (126, 41), (126, 42), (126, 43), (126, 44), (126, 45), (126, 46), (126, 47), (126, 48), (126, 49), (126, 50), (126, 51), (126, 52), (126, 53), (126, 54), (126, 55), (126, 56), (126, 58), (126, 60), (126, 61), (126, 62), (126, 63), (126, 64), (126, 65), (126, 66), (126, 73), (126, 74), (126, 76), (126, 77), (126, 78), (126, 79), (126, 80), (126, 81), (126, 82), (126, 85), (126, 88), (126, 89), (126, 91), (126, 93), (126, 94), (126, 97)] (hx_X L x) h u.1 u.2 ∧ hx_g u.1 u.2 x 10 ∧ u.2.2.1 x 0 = 0 ∧ u.2.2.1 x 1 = 0 ∧ u.2.2.1 x 36 = 0 ∧ u.2.2.1 x 57 = 0 ∧ u.2.2.1 x 7 = 0 ∧ u.2.2.1 x 20 = 0 ∧ u.2.2.1 x 29 = 0 ∧ u.2.2.1 x 59 = 0 ∧ u.2.2.1 x 72 = 0 ∧ u.2.2.1 x 83 = 0 ∧ u.2.2.1 x 84 = 0 ∧ u.2.2.1 x 90 = 0 ∧ u.2.2.1 x 92 = 0 ∧ ∃ q_words q_rule q_proofSteps q_proof q_tries q_isDead q_isJudge q_found q_list q_judged q_weekly q_owed q_doorX q_doorY q_tape q_born q_kin q_sum q_filed q_owedFrom q_heard q_ordered q_goods q_seized q_served q_earns q_heads q_payOf q_payDay q_paySum q_payKnown q_payStruck q_actDay : Nat, u.2.2.2 x 19 = some q_words ∧ hx_g u.1 u.2 q_words 57 ∧ u.2.2.2 x 3 = some q_rule ∧ hx_g u.1 u.2 q_rule 50 ∧ u.2.2.2 x 4 = some q_proofSteps ∧ hx_g u.1 u.2 q_proofSteps 51 ∧ u.2.2.2 x 5 = some q_proof ∧ hx_g u.1 u.2 q_proof 52 ∧ u.2.2.2 x 45 = some q_tries ∧ hx_g u.1 u.2 q_tries 80 ∧ u.2.2.2 x 27 = some q_isDead ∧ hx_g u.1 u.2 q_isDead 64 ∧ u.2.2.2 x 28 = some q_isJudge ∧ hx_g u.1 u.2 q_isJudge 65 ∧ u.2.2.2 x 46 = some q_found ∧ hx_g u.1 u.2 q_found 81 ∧ u.2.2.2 x 91 = some q_list ∧ hx_g u.1 u.2 q_list 112 ∧ u.2.2.2 x 51 = some q_judged ∧ hx_g u.1 u.2 q_judged 86 ∧ u.2.2.2 x 54 = some q_weekly ∧ hx_g u.1 u.2 q_weekly 89 ∧ u.2.2.2 x 55 = some q_owed ∧ hx_g u.1 u.2 q_owed 90 ∧ u.2.2.2 x 24 = some q_doorX ∧ hx_g u.1 u.2 q_doorX 61 ∧ u.2.2.2 x 25 = some q_doorY ∧ hx_g u.1 u.2 q_doorY 62 ∧ u.2.2.2 x 6 = some q_tape ∧ hx_g u.1 u.2 q_tape 53 ∧ u.2.2.2 x 21 = some q_born ∧ hx_g u.1 u.2 q_born 58 ∧ u.2.2.2 x 26 = some q_kin ∧ hx_g u.1 u.2 q_kin 63 ∧ u.2.2.2 x 39 = some q_sum ∧ hx_g u.1 u.2 q_sum 74 ∧ u.2.2.2 x 43 = some q_filed ∧ hx_g u.1 u.2 q_filed 78 ∧ u.2.2.2 x 40 = some q_owedFrom ∧ hx_g u.1 u.2 q_owedFrom 75 ∧ u.2.2.2 x 47 = some q_heard ∧ hx_g u.1 u.2 q_heard 82 ∧ u.2.2.2 x 48 = some q_ordered ∧ hx_g u.1 u.2 q_ordered 83 ∧ u.2.2.2 x 56 = some q_goods ∧ hx_g u.1 u.2 q_goods 91 ∧ u.2.2.2 x 49 = some q_seized ∧ hx_g u.1 u.2 q_seized 84 ∧ u.2.2.2 x 50 = some q_served ∧ hx_g u.1 u.2 q_served 85 ∧ u.2.2.2 x 22 = some q_earns ∧ hx_g u.1 u.2 q_earns 59 ∧ u.2.2.2 x 23 = some q_heads ∧ hx_g u.1 u.2 q_heads 60 ∧ u.2.2.2 x 60 = some q_payOf ∧ hx_g u.1 u.2 q_payOf 93 ∧ u.2.2.2 x 61 = some q_payDay ∧ hx_g u.1 u.2 q_payDay 94 ∧ u.2.2.2 x 62 = some q_paySum ∧ hx_g u.1 u.2 q_paySum 95 ∧ u.2.2.2 x 63 = some q_payKnown ∧ hx_g u.1 u.2 q_payKnown 96 ∧ u.2.2.2 x 64 = some q_payStruck ∧ hx_g u.1 u.2 q_payStruck 97 ∧ u.2.2.2 x 2 = some q_actDay ∧ hx_g u.1 u.2 q_actDay 49 ∧ hx_wd (u.2.2.1 q_words) ∧ hx_WK (u.2.2.1 q_rule) 0 ∧ hx_RP (u.2.2.1 q_proof) (u.2.2.1 q_proofSteps) 0 ∧ (∀ j, u.2.2.1 q_tries j = 0) ∧ (∀ j, u.2.2.1 q_isDead j = 0) ∧ (∀ j, u.2.2.1 q_isJudge j = 0) ∧ (∀ j, u.2.2.1 q_found j = 0) ∧ (∀ j, u.2.2.1 q_list j = 0) ∧ (∀ j, u.2.2.1 q_judged j = 0) ∧ (∀ j, u.2.2.1 q_weekly j = 0) ∧ (∀ j, u.2.2.1 q_owed j = 0) ∧ (∀ j, u.2.2.1 q_doorX j = 0) ∧ (∀ j, u.2.2.1 q_doorY j = 0) ∧ (∀ j, u.2.2.1 q_tape j = 0) ∧ (∀ j, u.2.2.1 q_born j = 0) ∧ (∀ j, u.2.2.1 q_kin j = 0) ∧ (∀ j, u.2.2.1 q_sum j = 0) ∧ (∀ j, u.2.2.1 q_filed j = 0) ∧ (∀ j, u.2.2.1 q_owedFrom j = 0) ∧ (∀ j, u.2.2.1 q_heard j = 0) ∧ (∀ j, u.2.2.1 q_ordered j = 0) ∧ (∀ j, u.2.2.1 q_goods j = 0) ∧ (∀ j, u.2.2.1 q_seized j = 0) ∧ (∀ j, u.2.2.1 q_served j = 0) ∧ (∀ j, u.2.2.1 q_earns j = 0) ∧ (∀ j, u.2.2.1 q_heads j = 0) ∧ (∀ j, u.2.2.1 q_payOf j = 0) ∧ (∀ j, u.2.2.1 q_payDay j = 0) ∧ (∀ j, u.2.2.1 q_paySum j = 0) ∧ (∀ j, u.2.2.1 q_payKnown j = 0) ∧ (∀ j, u.2.2.1 q_payStruck j = 0) ∧ hv_CA (u.2.2.1 q_actDay) (u.2.2.1 q_rule) (u.2.2.1 q_proofSteps) (u.2.2.1 q_proof) 0 (fun _ => hv_A0)) (hx_E T_tb (P_ty dA) (dC, dI) vwCl (hx_A L sz)) (hx_A L sz)) ([.ref x] : List Value).toArray s 67 15340 (hx_A L sz)) (F0 m 663 ls [.ref q_34, .ref x]) := by
  refine lv_dup hx hb dX10_init_663 rfl ?_
  refine lv_bipush (v := 105) hx hb dX10_init_664 ?o0 ?_
  case o0 => decide
  refine lv_bipush (v := 108) hx hb dX10_init_666 ?o1 ?_
  case o1 => decide
  refine hx_bast hx hb hW hT (hx_S.rf (M := [(57, 0)])) gq_34 tt_57 rfl ?o2 (y := 108) ?o3 ?o4 (List.mem_singleton.mpr rfl) dX10_init_668 (fun H locs h_140 eh_140 hW hT hs => ?_)
  case o2 => decide
  case o3 => decide
  case o4 => decide
  have hcon := hcon.S hs trivial rfl
  have hz := hx_zr [2, 3, 4, 5, 6, 12, 15, 17] hz hs gx trivial rfl
  have hM := hM.tr (hs.mono ?o5)
  case o5 => decide
  have gx := gx.S hs
  have gq_34 := gq_34.S hs
  have cw : ∀ j, j < 106 → h_140.2.1 q_34 j = P_words j := hx_cw cw eh_140 ?o6 ?o7
  case o6 => decide
  case o7 => decide
  refine lv_dup hx hb dX10_init_669 rfl ?_
  refine lv_bipush (v := 106) hx hb dX10_init_670 ?o8 ?_
  case o8 => decide
  refine lv_bipush (v := 97) hx hb dX10_init_672 ?o9 ?_
  case o9 => decide
  refine hx_bast hx hb hW hT (hx_S.rf (M := [(57, 0)])) gq_34 tt_57 rfl ?o10 (y := 97) ?o11 ?o12 (List.mem_singleton.mpr rfl) dX10_init_674 (fun H locs h_141 eh_141 hW hT hs => ?_)
  case o10 => decide
  case o11 => decide
  case o12 => decide
  have hcon := hcon.S hs trivial rfl
  have hz := hx_zr [2, 3, 4, 5, 6, 12, 15, 17] hz hs gx trivial rfl
  have hM := hM.tr (hs.mono ?o13)
  case o13 => decide
  have gx := gx.S hs
  have gq_34 := gq_34.S hs
  have cw : ∀ j, j < 107 → h_141.2.1 q_34 j = P_words j := hx_cw cw eh_141 ?o14 ?o15
  case o14 => decide
  case o15 => decide
  refine lv_dup hx hb dX10_init_675 rfl ?_
  refine lv_bipush (v := 107) hx hb dX10_init_676 ?o16 ?_
  case o16 => decide
  refine lv_bipush (v := 116) hx hb dX10_init_678 ?o17 ?_
  case o17 => decide
  refine hx_bast hx hb hW hT (hx_S.rf (M := [(57, 0)])) gq_34 tt_57 rfl ?o18 (y := 116) ?o19 ?o20 (List.mem_singleton.mpr rfl) dX10_init_680 (fun H locs h_142 eh_142 hW hT hs => ?_)
  case o18 => decide
  case o19 => decide
  case o20 => decide
  have hcon := hcon.S hs trivial rfl
  have hz := hx_zr [2, 3, 4, 5, 6, 12, 15, 17] hz hs gx trivial rfl
  have hM := hM.tr (hs.mono ?o21)
  case o21 => decide
  have gx := gx.S hs
  have gq_34 := gq_34.S hs
  have cw : ∀ j, j < 108 → h_142.2.1 q_34 j = P_words j := hx_cw cw eh_142 ?o22 ?o23
  case o22 => decide
  case o23 => decide
  refine lv_dup hx hb dX10_init_681 rfl ?_
  refine lv_bipush (v := 108) hx hb dX10_init_682 ?o24 ?_
  case o24 => decide
  refine lv_bipush (v := 101) hx hb dX10_init_684 ?o25 ?_
  case o25 => decide
  refine hx_bast hx hb hW hT (hx_S.rf (M := [(57, 0)])) gq_34 tt_57 rfl ?o26 (y := 101) ?o27 ?o28 (List.mem_singleton.mpr rfl) dX10_init_686 (fun H locs h_143 eh_143 hW hT hs => ?_)
  case o26 => decide
  case o27 => decide
  case o28 => decide
  have hcon := hcon.S hs trivial rfl
  have hz := hx_zr [2, 3, 4, 5, 6, 12, 15, 17] hz hs gx trivial rfl
  have hM := hM.tr (hs.mono ?o29)
  case o29 => decide
  have gx := gx.S hs
  have gq_34 := gq_34.S hs
  have cw : ∀ j, j < 109 → h_143.2.1 q_34 j = P_words j := hx_cw cw eh_143 ?o30 ?o31
  case o30 => decide
  case o31 => decide
  refine lv_dup hx hb dX10_init_687 rfl ?_
  refine lv_bipush (v := 109) hx hb dX10_init_688 ?o32 ?_
  case o32 => decide
  refine lv_iconst (v := 0) hx hb dX10_init_690 ?o33 ?_
  case o33 => decide
  refine hx_bast hx hb hW hT (hx_S.rf (M := [(57, 0)])) gq_34 tt_57 rfl ?o34 (y := 0) ?o35 ?o36 (List.mem_singleton.mpr rfl) dX10_init_691 (fun H locs h_144 eh_144 hW hT hs => ?_)
  case o34 => decide
  case o35 => decide
  case o36 => decide
  have hcon := hcon.S hs trivial rfl
  have hz := hx_zr [2, 3, 4, 5, 6, 12, 15, 17] hz hs gx trivial rfl
  have hM := hM.tr (hs.mono ?o37)
  case o37 => decide
  have gx := gx.S hs
  have gq_34 := gq_34.S hs
  have cw : ∀ j, j < 110 → h_144.2.1 q_34 j = P_words j := hx_cw cw eh_144 ?o38 ?o39
  case o38 => decide
  case o39 => decide
  refine lv_dup hx hb dX10_init_692 rfl ?_
  refine lv_bipush (v := 110) hx hb dX10_init_693 ?o40 ?_
  case o40 => decide
  refine lv_iconst (v := 0) hx hb dX10_init_695 ?o41 ?_
  case o41 => decide
  refine hx_bast hx hb hW hT (hx_S.rf (M := [(57, 0)])) gq_34 tt_57 rfl ?o42 (y := 0) ?o43 ?o44 (List.mem_singleton.mpr rfl) dX10_init_696 (fun H locs h_145 eh_145 hW hT hs => ?_)
  case o42 => decide
  case o43 => decide
  case o44 => decide
  have hcon := hcon.S hs trivial rfl
  have hz := hx_zr [2, 3, 4, 5, 6, 12, 15, 17] hz hs gx trivial rfl
  have hM := hM.tr (hs.mono ?o45)
  case o45 => decide
  have gx := gx.S hs
  have gq_34 := gq_34.S hs
  have cw : ∀ j, j < 111 → h_145.2.1 q_34 j = P_words j := hx_cw cw eh_145 ?o46 ?o47
  case o46 => decide
  case o47 => decide
  refine lv_dup hx hb dX10_init_697 rfl ?_
  refine lv_bipush (v := 111) hx hb dX10_init_698 ?o48 ?_
  case o48 => decide
  refine lv_iconst (v := 0) hx hb dX10_init_700 ?o49 ?_
  case o49 => decide
  refine hx_bast hx hb hW hT (hx_S.rf (M := [(57, 0)])) gq_34 tt_57 rfl ?o50 (y := 0) ?o51 ?o52 (List.mem_singleton.mpr rfl) dX10_init_701 (fun H locs h_146 eh_146 hW hT hs => ?_)
  case o50 => decide
  case o51 => decide
  case o52 => decide
  have hcon := hcon.S hs trivial rfl
  have hz := hx_zr [2, 3, 4, 5, 6, 12, 15, 17] hz hs gx trivial rfl
  have hM := hM.tr (hs.mono ?o53)
  case o53 => decide
  have gx := gx.S hs
  have gq_34 := gq_34.S hs
  have cw : ∀ j, j < 112 → h_146.2.1 q_34 j = P_words j := hx_cw cw eh_146 ?o54 ?o55
  case o54 => decide
  case o55 => decide
  refine lv_dup hx hb dX10_init_702 rfl ?_
  refine lv_bipush (v := 112) hx hb dX10_init_703 ?o56 ?_
  case o56 => decide
  refine lv_bipush (v := 103) hx hb dX10_init_705 ?o57 ?_
  case o57 => decide
  refine hx_bast hx hb hW hT (hx_S.rf (M := [(57, 0)])) gq_34 tt_57 rfl ?o58 (y := 103) ?o59 ?o60 (List.mem_singleton.mpr rfl) dX10_init_707 (fun H locs h_147 eh_147 hW hT hs => ?_)
  case o58 => decide
  case o59 => decide
  case o60 => decide
  have hcon := hcon.S hs trivial rfl
  have hz := hx_zr [2, 3, 4, 5, 6, 12, 15, 17] hz hs gx trivial rfl
  have hM := hM.tr (hs.mono ?o61)
  case o61 => decide
  have gx := gx.S hs
  have gq_34 := gq_34.S hs
  have cw : ∀ j, j < 113 → h_147.2.1 q_34 j = P_words j := hx_cw cw eh_147 ?o62 ?o63
  case o62 => decide
  case o63 => decide
  refine lv_dup hx hb dX10_init_708 rfl ?_
  refine lv_bipush (v := 113) hx hb dX10_init_709 ?o64 ?_
  case o64 => decide
  refine lv_bipush (v := 97) hx hb dX10_init_711 ?o65 ?_
  case o65 => decide
  refine hx_bast hx hb hW hT (hx_S.rf (M := [(57, 0)])) gq_34 tt_57 rfl ?o66 (y := 97) ?o67 ?o68 (List.mem_singleton.mpr rfl) dX10_init_713 (fun H locs h_148 eh_148 hW hT hs => ?_)
  case o66 => decide
  case o67 => decide
  case o68 => decide
  have hcon := hcon.S hs trivial rfl
  have hz := hx_zr [2, 3, 4, 5, 6, 12, 15, 17] hz hs gx trivial rfl
  have hM := hM.tr (hs.mono ?o69)
  case o69 => decide
  have gx := gx.S hs
  have gq_34 := gq_34.S hs
  have cw : ∀ j, j < 114 → h_148.2.1 q_34 j = P_words j := hx_cw cw eh_148 ?o70 ?o71
  case o70 => decide
  case o71 => decide
  refine lv_dup hx hb dX10_init_714 rfl ?_
  refine lv_bipush (v := 114) hx hb dX10_init_715 ?o72 ?_
  case o72 => decide
  refine lv_bipush (v := 111) hx hb dX10_init_717 ?o73 ?_
  case o73 => decide
  refine hx_bast hx hb hW hT (hx_S.rf (M := [(57, 0)])) gq_34 tt_57 rfl ?o74 (y := 111) ?o75 ?o76 (List.mem_singleton.mpr rfl) dX10_init_719 (fun H locs h_149 eh_149 hW hT hs => ?_)
  case o74 => decide
  case o75 => decide
  case o76 => decide
  have hcon := hcon.S hs trivial rfl
  have hz := hx_zr [2, 3, 4, 5, 6, 12, 15, 17] hz hs gx trivial rfl
  have hM := hM.tr (hs.mono ?o77)
  case o77 => decide
  have gx := gx.S hs
  have gq_34 := gq_34.S hs
  have cw : ∀ j, j < 115 → h_149.2.1 q_34 j = P_words j := hx_cw cw eh_149 ?o78 ?o79
  case o78 => decide
  case o79 => decide
  refine lv_dup hx hb dX10_init_720 rfl ?_
  refine lv_bipush (v := 115) hx hb dX10_init_721 ?o80 ?_
  case o80 => decide
  refine lv_bipush (v := 108) hx hb dX10_init_723 ?o81 ?_
  case o81 => decide
  refine hx_bast hx hb hW hT (hx_S.rf (M := [(57, 0)])) gq_34 tt_57 rfl ?o82 (y := 108) ?o83 ?o84 (List.mem_singleton.mpr rfl) dX10_init_725 (fun H locs h_150 eh_150 hW hT hs => ?_)
  case o82 => decide
  case o83 => decide
  case o84 => decide
  have hcon := hcon.S hs trivial rfl
  have hz := hx_zr [2, 3, 4, 5, 6, 12, 15, 17] hz hs gx trivial rfl
  have hM := hM.tr (hs.mono ?o85)
  case o85 => decide
  have gx := gx.S hs
  have gq_34 := gq_34.S hs
  have cw : ∀ j, j < 116 → h_150.2.1 q_34 j = P_words j := hx_cw cw eh_150 ?o86 ?o87
  case o86 => decide
  case o87 => decide
  refine lv_dup hx hb dX10_init_726 rfl ?_
  refine lv_bipush (v := 116) hx hb dX10_init_727 ?o88 ?_
  case o88 => decide
  refine lv_iconst (v := 0) hx hb dX10_init_729 ?o89 ?_
  case o89 => decide
  refine hx_bast hx hb hW hT (hx_S.rf (M := [(57, 0)])) gq_34 tt_57 rfl ?o90 (y := 0) ?o91 ?o92 (List.mem_singleton.mpr rfl) dX10_init_730 (fun H locs h_151 eh_151 hW hT hs => ?_)
  case o90 => decide
  case o91 => decide
  case o92 => decide
  have hcon := hcon.S hs trivial rfl
  have hz := hx_zr [2, 3, 4, 5, 6, 12, 15, 17] hz hs gx trivial rfl
  have hM := hM.tr (hs.mono ?o93)
  case o93 => decide
  have gx := gx.S hs
  have gq_34 := gq_34.S hs
  have cw : ∀ j, j < 117 → h_151.2.1 q_34 j = P_words j := hx_cw cw eh_151 ?o94 ?o95
  case o94 => decide
  case o95 => decide
  refine lv_dup hx hb dX10_init_731 rfl ?_
  refine lv_bipush (v := 117) hx hb dX10_init_732 ?o96 ?_
  case o96 => decide
  refine lv_iconst (v := 0) hx hb dX10_init_734 ?o97 ?_
  case o97 => decide
  refine hx_bast hx hb hW hT (hx_S.rf (M := [(57, 0)])) gq_34 tt_57 rfl ?o98 (y := 0) ?o99 ?o100 (List.mem_singleton.mpr rfl) dX10_init_735 (fun H locs h_152 eh_152 hW hT hs => ?_)
  case o98 => decide
  case o99 => decide
  case o100 => decide
  have hcon := hcon.S hs trivial rfl
  have hz := hx_zr [2, 3, 4, 5, 6, 12, 15, 17] hz hs gx trivial rfl
  have hM := hM.tr (hs.mono ?o101)
  case o101 => decide
  have gx := gx.S hs
  have gq_34 := gq_34.S hs
  have cw : ∀ j, j < 118 → h_152.2.1 q_34 j = P_words j := hx_cw cw eh_152 ?o102 ?o103
  case o102 => decide
  case o103 => decide
  refine lv_dup hx hb dX10_init_736 rfl ?_
  refine lv_bipush (v := 118) hx hb dX10_init_737 ?o104 ?_
  case o104 => decide
  refine lv_iconst (v := 0) hx hb dX10_init_739 ?o105 ?_
  case o105 => decide
  refine hx_bast hx hb hW hT (hx_S.rf (M := [(57, 0)])) gq_34 tt_57 rfl ?o106 (y := 0) ?o107 ?o108 (List.mem_singleton.mpr rfl) dX10_init_740 (fun H locs h_153 eh_153 hW hT hs => ?_)
  case o106 => decide
  case o107 => decide
  case o108 => decide
  have hcon := hcon.S hs trivial rfl
  have hz := hx_zr [2, 3, 4, 5, 6, 12, 15, 17] hz hs gx trivial rfl
  have hM := hM.tr (hs.mono ?o109)
  case o109 => decide
  have gx := gx.S hs
  have gq_34 := gq_34.S hs
  have cw : ∀ j, j < 119 → h_153.2.1 q_34 j = P_words j := hx_cw cw eh_153 ?o110 ?o111
  case o110 => decide
  case o111 => decide
  refine lv_dup hx hb dX10_init_741 rfl ?_
  refine lv_bipush (v := 119) hx hb dX10_init_742 ?o112 ?_
  case o112 => decide
  refine lv_bipush (v := 108) hx hb dX10_init_744 ?o113 ?_
  case o113 => decide
  refine hx_bast hx hb hW hT (hx_S.rf (M := [(57, 0)])) gq_34 tt_57 rfl ?o114 (y := 108) ?o115 ?o116 (List.mem_singleton.mpr rfl) dX10_init_746 (fun H locs h_154 eh_154 hW hT hs => ?_)
  case o114 => decide
  case o115 => decide
  case o116 => decide
  have hcon := hcon.S hs trivial rfl
  have hz := hx_zr [2, 3, 4, 5, 6, 12, 15, 17] hz hs gx trivial rfl
  have hM := hM.tr (hs.mono ?o117)
  case o117 => decide
  have gx := gx.S hs
  have gq_34 := gq_34.S hs
  have cw : ∀ j, j < 120 → h_154.2.1 q_34 j = P_words j := hx_cw cw eh_154 ?o118 ?o119
  case o118 => decide
  case o119 => decide
  refine lv_dup hx hb dX10_init_747 rfl ?_
  refine lv_bipush (v := 120) hx hb dX10_init_748 ?o120 ?_
  case o120 => decide
  refine lv_bipush (v := 111) hx hb dX10_init_750 ?o121 ?_
  case o121 => decide
  refine hx_bast hx hb hW hT (hx_S.rf (M := [(57, 0)])) gq_34 tt_57 rfl ?o122 (y := 111) ?o123 ?o124 (List.mem_singleton.mpr rfl) dX10_init_752 (fun H locs h_155 eh_155 hW hT hs => ?_)
  case o122 => decide
  case o123 => decide
  case o124 => decide
  have hcon := hcon.S hs trivial rfl
  have hz := hx_zr [2, 3, 4, 5, 6, 12, 15, 17] hz hs gx trivial rfl
  have hM := hM.tr (hs.mono ?o125)
  case o125 => decide
  have gx := gx.S hs
  have gq_34 := gq_34.S hs
  have cw : ∀ j, j < 121 → h_155.2.1 q_34 j = P_words j := hx_cw cw eh_155 ?o126 ?o127
  case o126 => decide
  case o127 => decide
  refine lv_dup hx hb dX10_init_753 rfl ?_
  refine lv_bipush (v := 121) hx hb dX10_init_754 ?o128 ?_
  case o128 => decide
  refine lv_bipush (v := 110) hx hb dX10_init_756 ?o129 ?_
  case o129 => decide
  refine hx_bast hx hb hW hT (hx_S.rf (M := [(57, 0)])) gq_34 tt_57 rfl ?o130 (y := 110) ?o131 ?o132 (List.mem_singleton.mpr rfl) dX10_init_758 (fun H locs h_156 eh_156 hW hT hs => ?_)
  case o130 => decide
  case o131 => decide
  case o132 => decide
  have hcon := hcon.S hs trivial rfl
  have hz := hx_zr [2, 3, 4, 5, 6, 12, 15, 17] hz hs gx trivial rfl
  have hM := hM.tr (hs.mono ?o133)
  case o133 => decide
  have gx := gx.S hs
  have gq_34 := gq_34.S hs
  have cw : ∀ j, j < 122 → h_156.2.1 q_34 j = P_words j := hx_cw cw eh_156 ?o134 ?o135
  case o134 => decide
  case o135 => decide
  refine lv_dup hx hb dX10_init_759 rfl ?_
  refine lv_bipush (v := 122) hx hb dX10_init_760 ?o136 ?_
  case o136 => decide
  refine lv_bipush (v := 103) hx hb dX10_init_762 ?o137 ?_
  case o137 => decide
  refine hx_bast hx hb hW hT (hx_S.rf (M := [(57, 0)])) gq_34 tt_57 rfl ?o138 (y := 103) ?o139 ?o140 (List.mem_singleton.mpr rfl) dX10_init_764 (fun H locs h_157 eh_157 hW hT hs => ?_)
  case o138 => decide
  case o139 => decide
  case o140 => decide
  have hcon := hcon.S hs trivial rfl
  have hz := hx_zr [2, 3, 4, 5, 6, 12, 15, 17] hz hs gx trivial rfl
  have hM := hM.tr (hs.mono ?o141)
  case o141 => decide
  have gx := gx.S hs
  have gq_34 := gq_34.S hs
  have cw : ∀ j, j < 123 → h_157.2.1 q_34 j = P_words j := hx_cw cw eh_157 ?o142 ?o143
  case o142 => decide
  case o143 => decide
  refine lv_dup hx hb dX10_init_765 rfl ?_
  refine lv_bipush (v := 123) hx hb dX10_init_766 ?o144 ?_
  case o144 => decide
  refine lv_bipush (v := 101) hx hb dX10_init_768 ?o145 ?_
  case o145 => decide
  refine hx_bast hx hb hW hT (hx_S.rf (M := [(57, 0)])) gq_34 tt_57 rfl ?o146 (y := 101) ?o147 ?o148 (List.mem_singleton.mpr rfl) dX10_init_770 (fun H locs h_158 eh_158 hW hT hs => ?_)
  case o146 => decide
  case o147 => decide
  case o148 => decide
  have hcon := hcon.S hs trivial rfl
  have hz := hx_zr [2, 3, 4, 5, 6, 12, 15, 17] hz hs gx trivial rfl
  have hM := hM.tr (hs.mono ?o149)
  case o149 => decide
  have gx := gx.S hs
  have gq_34 := gq_34.S hs
  have cw : ∀ j, j < 124 → h_158.2.1 q_34 j = P_words j := hx_cw cw eh_158 ?o150 ?o151
  case o150 => decide
  case o151 => decide
  refine lv_dup hx hb dX10_init_771 rfl ?_
  refine lv_bipush (v := 124) hx hb dX10_init_772 ?o152 ?_
  case o152 => decide
  refine lv_bipush (v := 115) hx hb dX10_init_774 ?o153 ?_
  case o153 => decide
  refine hx_bast hx hb hW hT (hx_S.rf (M := [(57, 0)])) gq_34 tt_57 rfl ?o154 (y := 115) ?o155 ?o156 (List.mem_singleton.mpr rfl) dX10_init_776 (fun H locs h_159 eh_159 hW hT hs => ?_)
  case o154 => decide
  case o155 => decide
  case o156 => decide
  have hcon := hcon.S hs trivial rfl
  have hz := hx_zr [2, 3, 4, 5, 6, 12, 15, 17] hz hs gx trivial rfl
  have hM := hM.tr (hs.mono ?o157)
  case o157 => decide
  have gx := gx.S hs
  have gq_34 := gq_34.S hs
  have cw : ∀ j, j < 125 → h_159.2.1 q_34 j = P_words j := hx_cw cw eh_159 ?o158 ?o159
  case o158 => decide
  case o159 => decide
  exact si_6 l dC dI dA L h sz b0 x q_34 hx hb hml hr hlk hts hown hin hsz hZ L1 h_159 _ _ ls hW hT hM gx hcon hz gq_34  cw hl

set_option maxHeartbeats 4000000 in
set_option maxRecDepth 100000 in
theorem si_4 (l : Launch) (dC : Nat → ClassId) (dI : Nat → Nat → Nat) (dA : Nat → ClassId) (L : List Nat) (h : hx_h) (sz : Nat) (b0 : hx_z) (x : Nat) (q_34 : Nat) {p : Program} {e : Env} {s : State} {m : MethodId} {below : List Frame} {meth : Method} {c : Code} (hx : p.tables.exec = Jvm.exec) (hb : c.code = cX10_init) (hml : c.maxLocals = 2) (hr : meth.sig.returnType = none) (hlk : meth.locks = false) (hts : ∀ w ∈ hx_all, w.before ([.ref x] : List Value).toArray s = true) (hown : s.vm.findClass "SmallCourtModel" = some m.cls) (hin : meth.name = "<init>") (hsz : s.heap.size = sz) (hZ : hx_Xt (hx_A L sz) b0 s) (L1 : List Nat) (hl1 : hx_h) (H : Heap) (locs : List Loc) (ls : Array Slot) (hW : hx_W T_tb (P_ty dA) (dC, dI) vwCl (hx_A L sz) s.heap L1 hl1 s H locs) (hT : hx_T T_tb L1 hl1) (hM : hx_S T_tb [(10, 14), (10, 16), (10, 18), (50, 0), (51, 0), (52, 0), (55, 0), (57, 0), (126, 2), (126, 3), (126, 4), (126, 5), (126, 6), (126, 12), (126, 15), (126, 17), (126, 19), (126, 21), (126, 22), (126, 23), (126, 24), (126, 25), (126, 26), (126, 27), (126, 28), (126, 30), (126, 31), (126, 32), (126, 33), (126, 34), (126, 35), (126, 37), (126, 38), (126, 39), (126, 40), (126, 41), (126, 42), (126, 43), (126, 44), (126, 45), (126, 46), (126, 47), (126, 48), (126, 49), (126, 50), (126, 51), (126, 52), (126, 53), (126, 54), (126, 55), (126, 56), (126, 58), (126, 60), (126, 61), (126, 62), (126, 63), (126, 64), (126, 65), (126, 66), (126, 73), (126, 74), (126, 76), (126, 77), (126, 78), (126, 79), (126, 80), (126, 81), (126, 82), (126, 85), (126, 88), (126, 89), (126, 91), (126, 93), (126, 94), (126, 97)] (hx_X L x) h L1 hl1) (gx : hx_g L1 hl1 x 126) (hcon : hx_con L1 hl1 x 126 [(17, 56, false), (15, 55, false), (12, 54, false), (6, 53, true), (5, 52, false), (4, 51, false), (3, 50, false), (2, 49, false)] []) (hz : ∀ j, [2, 3, 4, 5, 6, 12, 15, 17].contains j = false → hl1.2.1 x j = 0 ∧ hl1.2.2 x j = none) (gq_34 : hx_g L1 hl1 q_34 57)  (cw : ∀ j, j < 85 → hl1.2.1 q_34 j = P_words j) (hl : lv_has ls 2 [(0, .ref x)]) : W p l e ({ frames := 2, cells := 67, slots := 15340, locals := 42 }) s m ([.ref x] : List Value).toArray below meth c H locs 9 2131 (MQ below (va_Qv (fun (u : List Nat × hx_h) => hx_T T_tb u.1 u.2 ∧ hx_S T_tb [(10, 14), (10, 16), (10, 18), (50, 0), (51, 0), (52, 0), (55, 0), (57, 0), (126, 2), (126, 3), (126, 4), (126, 5), (126, 6), (126, 12), (126, 15), (126, 17), (126, 19), (126, 21), (126, 22), (126, 23), (126, 24), (126, 25), (126, 26), (126, 27), (126, 28), (126, 30), (126, 31), (126, 32), (126, 33), (126, 34), (126, 35), (126, 37), (126, 38), (126, 39), (126, 40), (126, 41), (126, 42), (126, 43), (126, 44), (126, 45), (126, 46), (126, 47), (126, 48), (126, 49), (126, 50), (126, 51), (126, 52), (126, 53), (126, 54), (126, 55), (126, 56), (126, 58), (126, 60), (126, 61), (126, 62), (126, 63), (126, 64), (126, 65), (126, 66), (126, 73), (126, 74), (126, 76), (126, 77), (126, 78), (126, 79), (126, 80), (126, 81), (126, 82), (126, 85), (126, 88), (126, 89), (126, 91), (126, 93), (126, 94), (126, 97)] (hx_X L x) h u.1 u.2 ∧ hx_g u.1 u.2 x 10 ∧ u.2.2.1 x 0 = 0 ∧ u.2.2.1 x 1 = 0 ∧ u.2.2.1 x 36 = 0 ∧ u.2.2.1 x 57 = 0 ∧ u.2.2.1 x 7 = 0 ∧ u.2.2.1 x 20 = 0 ∧ u.2.2.1 x 29 = 0 ∧ u.2.2.1 x 59 = 0 ∧ u.2.2.1 x 72 = 0 ∧ u.2.2.1 x 83 = 0 ∧ u.2.2.1 x 84 = 0 ∧ u.2.2.1 x 90 = 0 ∧ u.2.2.1 x 92 = 0 ∧ ∃ q_words q_rule q_proofSteps q_proof q_tries q_isDead q_isJudge q_found q_list q_judged q_weekly q_owed q_doorX q_doorY q_tape q_born q_kin q_sum q_filed q_owedFrom q_heard q_ordered q_goods q_seized q_served q_earns q_heads q_payOf q_payDay q_paySum q_payKnown q_payStruck q_actDay : Nat, u.2.2.2 x 19 = some q_words ∧ hx_g u.1 u.2 q_words 57 ∧ u.2.2.2 x 3 = some q_rule ∧ hx_g u.1 u.2 q_rule 50 ∧ u.2.2.2 x 4 = some q_proofSteps ∧ hx_g u.1 u.2 q_proofSteps 51 ∧ u.2.2.2 x 5 = some q_proof ∧ hx_g u.1 u.2 q_proof 52 ∧ u.2.2.2 x 45 = some q_tries ∧ hx_g u.1 u.2 q_tries 80 ∧ u.2.2.2 x 27 = some q_isDead ∧ hx_g u.1 u.2 q_isDead 64 ∧ u.2.2.2 x 28 = some q_isJudge ∧ hx_g u.1 u.2 q_isJudge 65 ∧ u.2.2.2 x 46 = some q_found ∧ hx_g u.1 u.2 q_found 81 ∧ u.2.2.2 x 91 = some q_list ∧ hx_g u.1 u.2 q_list 112 ∧ u.2.2.2 x 51 = some q_judged ∧ hx_g u.1 u.2 q_judged 86 ∧ u.2.2.2 x 54 = some q_weekly ∧ hx_g u.1 u.2 q_weekly 89 ∧ u.2.2.2 x 55 = some q_owed ∧ hx_g u.1 u.2 q_owed 90 ∧ u.2.2.2 x 24 = some q_doorX ∧ hx_g u.1 u.2 q_doorX 61 ∧ u.2.2.2 x 25 = some q_doorY ∧ hx_g u.1 u.2 q_doorY 62 ∧ u.2.2.2 x 6 = some q_tape ∧ hx_g u.1 u.2 q_tape 53 ∧ u.2.2.2 x 21 = some q_born ∧ hx_g u.1 u.2 q_born 58 ∧ u.2.2.2 x 26 = some q_kin ∧ hx_g u.1 u.2 q_kin 63 ∧ u.2.2.2 x 39 = some q_sum ∧ hx_g u.1 u.2 q_sum 74 ∧ u.2.2.2 x 43 = some q_filed ∧ hx_g u.1 u.2 q_filed 78 ∧ u.2.2.2 x 40 = some q_owedFrom ∧ hx_g u.1 u.2 q_owedFrom 75 ∧ u.2.2.2 x 47 = some q_heard ∧ hx_g u.1 u.2 q_heard 82 ∧ u.2.2.2 x 48 = some q_ordered ∧ hx_g u.1 u.2 q_ordered 83 ∧ u.2.2.2 x 56 = some q_goods ∧ hx_g u.1 u.2 q_goods 91 ∧ u.2.2.2 x 49 = some q_seized ∧ hx_g u.1 u.2 q_seized 84 ∧ u.2.2.2 x 50 = some q_served ∧ hx_g u.1 u.2 q_served 85 ∧ u.2.2.2 x 22 = some q_earns ∧ hx_g u.1 u.2 q_earns 59 ∧ u.2.2.2 x 23 = some q_heads ∧ hx_g u.1 u.2 q_heads 60 ∧ u.2.2.2 x 60 = some q_payOf ∧ hx_g u.1 u.2 q_payOf 93 ∧ u.2.2.2 x 61 = some q_payDay ∧ hx_g u.1 u.2 q_payDay 94 ∧ u.2.2.2 x 62 = some q_paySum ∧ hx_g u.1 u.2 q_paySum 95 ∧ u.2.2.2 x 63 = some q_payKnown ∧ hx_g u.1 u.2 q_payKnown 96 ∧ u.2.2.2 x 64 = some q_payStruck ∧ hx_g u.1 u.2 q_payStruck 97 ∧ u.2.2.2 x 2 = some q_actDay ∧ hx_g u.1 u.2 q_actDay 49 ∧ hx_wd (u.2.2.1 q_words) ∧ hx_WK (u.2.2.1 q_rule) 0 ∧ hx_RP (u.2.2.1 q_proof) (u.2.2.1 q_proofSteps) 0 ∧ (∀ j, u.2.2.1 q_tries j = 0) ∧ (∀ j, u.2.2.1 q_isDead j = 0) ∧ (∀ j, u.2.2.1 q_isJudge j = 0) ∧ (∀ j, u.2.2.1 q_found j = 0) ∧ (∀ j, u.2.2.1 q_list j = 0) ∧ (∀ j, u.2.2.1 q_judged j = 0) ∧ (∀ j, u.2.2.1 q_weekly j = 0) ∧ (∀ j, u.2.2.1 q_owed j = 0) ∧ (∀ j, u.2.2.1 q_doorX j = 0) ∧ (∀ j, u.2.2.1 q_doorY j = 0) ∧ (∀ j, u.2.2.1 q_tape j = 0) ∧ (∀ j, u.2.2.1 q_born j = 0) ∧ (∀ j, u.2.2.1 q_kin j = 0) ∧ (∀ j, u.2.2.1 q_sum j = 0) ∧ (∀ j, u.2.2.1 q_filed j = 0) ∧ (∀ j, u.2.2.1 q_owedFrom j = 0) ∧ (∀ j, u.2.2.1 q_heard j = 0) ∧ (∀ j, u.2.2.1 q_ordered j = 0) ∧ (∀ j, u.2.2.1 q_goods j = 0) ∧ (∀ j, u.2.2.1 q_seized j = 0) ∧ (∀ j, u.2.2.1 q_served j = 0) ∧ (∀ j, u.2.2.1 q_earns j = 0) ∧ (∀ j, u.2.2.1 q_heads j = 0) ∧ (∀ j, u.2.2.1 q_payOf j = 0) ∧ (∀ j, u.2.2.1 q_payDay j = 0) ∧ (∀ j, u.2.2.1 q_paySum j = 0) ∧ (∀ j, u.2.2.1 q_payKnown j = 0) ∧ (∀ j, u.2.2.1 q_payStruck j = 0) ∧ hv_CA (u.2.2.1 q_actDay) (u.2.2.1 q_rule) (u.2.2.1 q_proofSteps) (u.2.2.1 q_proof) 0 (fun _ => hv_A0)) (hx_E T_tb (P_ty dA) (dC, dI) vwCl (hx_A L sz)) (hx_A L sz)) ([.ref x] : List Value).toArray s 67 15340 (hx_A L sz)) (F0 m 551 ls [.ref q_34, .ref x]) := by
  refine lv_dup hx hb dX10_init_551 rfl ?_
  refine lv_bipush (v := 85) hx hb dX10_init_552 ?o0 ?_
  case o0 => decide
  refine lv_bipush (v := 112) hx hb dX10_init_554 ?o1 ?_
  case o1 => decide
  refine hx_bast hx hb hW hT (hx_S.rf (M := [(57, 0)])) gq_34 tt_57 rfl ?o2 (y := 112) ?o3 ?o4 (List.mem_singleton.mpr rfl) dX10_init_556 (fun H locs h_120 eh_120 hW hT hs => ?_)
  case o2 => decide
  case o3 => decide
  case o4 => decide
  have hcon := hcon.S hs trivial rfl
  have hz := hx_zr [2, 3, 4, 5, 6, 12, 15, 17] hz hs gx trivial rfl
  have hM := hM.tr (hs.mono ?o5)
  case o5 => decide
  have gx := gx.S hs
  have gq_34 := gq_34.S hs
  have cw : ∀ j, j < 86 → h_120.2.1 q_34 j = P_words j := hx_cw cw eh_120 ?o6 ?o7
  case o6 => decide
  case o7 => decide
  refine lv_dup hx hb dX10_init_557 rfl ?_
  refine lv_bipush (v := 86) hx hb dX10_init_558 ?o8 ?_
  case o8 => decide
  refine lv_bipush (v := 108) hx hb dX10_init_560 ?o9 ?_
  case o9 => decide
  refine hx_bast hx hb hW hT (hx_S.rf (M := [(57, 0)])) gq_34 tt_57 rfl ?o10 (y := 108) ?o11 ?o12 (List.mem_singleton.mpr rfl) dX10_init_562 (fun H locs h_121 eh_121 hW hT hs => ?_)
  case o10 => decide
  case o11 => decide
  case o12 => decide
  have hcon := hcon.S hs trivial rfl
  have hz := hx_zr [2, 3, 4, 5, 6, 12, 15, 17] hz hs gx trivial rfl
  have hM := hM.tr (hs.mono ?o13)
  case o13 => decide
  have gx := gx.S hs
  have gq_34 := gq_34.S hs
  have cw : ∀ j, j < 87 → h_121.2.1 q_34 j = P_words j := hx_cw cw eh_121 ?o14 ?o15
  case o14 => decide
  case o15 => decide
  refine lv_dup hx hb dX10_init_563 rfl ?_
  refine lv_bipush (v := 87) hx hb dX10_init_564 ?o16 ?_
  case o16 => decide
  refine lv_bipush (v := 105) hx hb dX10_init_566 ?o17 ?_
  case o17 => decide
  refine hx_bast hx hb hW hT (hx_S.rf (M := [(57, 0)])) gq_34 tt_57 rfl ?o18 (y := 105) ?o19 ?o20 (List.mem_singleton.mpr rfl) dX10_init_568 (fun H locs h_122 eh_122 hW hT hs => ?_)
  case o18 => decide
  case o19 => decide
  case o20 => decide
  have hcon := hcon.S hs trivial rfl
  have hz := hx_zr [2, 3, 4, 5, 6, 12, 15, 17] hz hs gx trivial rfl
  have hM := hM.tr (hs.mono ?o21)
  case o21 => decide
  have gx := gx.S hs
  have gq_34 := gq_34.S hs
  have cw : ∀ j, j < 88 → h_122.2.1 q_34 j = P_words j := hx_cw cw eh_122 ?o22 ?o23
  case o22 => decide
  case o23 => decide
  refine lv_dup hx hb dX10_init_569 rfl ?_
  refine lv_bipush (v := 88) hx hb dX10_init_570 ?o24 ?_
  case o24 => decide
  refine lv_bipush (v := 116) hx hb dX10_init_572 ?o25 ?_
  case o25 => decide
  refine hx_bast hx hb hW hT (hx_S.rf (M := [(57, 0)])) gq_34 tt_57 rfl ?o26 (y := 116) ?o27 ?o28 (List.mem_singleton.mpr rfl) dX10_init_574 (fun H locs h_123 eh_123 hW hT hs => ?_)
  case o26 => decide
  case o27 => decide
  case o28 => decide
  have hcon := hcon.S hs trivial rfl
  have hz := hx_zr [2, 3, 4, 5, 6, 12, 15, 17] hz hs gx trivial rfl
  have hM := hM.tr (hs.mono ?o29)
  case o29 => decide
  have gx := gx.S hs
  have gq_34 := gq_34.S hs
  have cw : ∀ j, j < 89 → h_123.2.1 q_34 j = P_words j := hx_cw cw eh_123 ?o30 ?o31
  case o30 => decide
  case o31 => decide
  refine lv_dup hx hb dX10_init_575 rfl ?_
  refine lv_bipush (v := 89) hx hb dX10_init_576 ?o32 ?_
  case o32 => decide
  refine lv_iconst (v := 0) hx hb dX10_init_578 ?o33 ?_
  case o33 => decide
  refine hx_bast hx hb hW hT (hx_S.rf (M := [(57, 0)])) gq_34 tt_57 rfl ?o34 (y := 0) ?o35 ?o36 (List.mem_singleton.mpr rfl) dX10_init_579 (fun H locs h_124 eh_124 hW hT hs => ?_)
  case o34 => decide
  case o35 => decide
  case o36 => decide
  have hcon := hcon.S hs trivial rfl
  have hz := hx_zr [2, 3, 4, 5, 6, 12, 15, 17] hz hs gx trivial rfl
  have hM := hM.tr (hs.mono ?o37)
  case o37 => decide
  have gx := gx.S hs
  have gq_34 := gq_34.S hs
  have cw : ∀ j, j < 90 → h_124.2.1 q_34 j = P_words j := hx_cw cw eh_124 ?o38 ?o39
  case o38 => decide
  case o39 => decide
  refine lv_dup hx hb dX10_init_580 rfl ?_
  refine lv_bipush (v := 90) hx hb dX10_init_581 ?o40 ?_
  case o40 => decide
  refine lv_iconst (v := 0) hx hb dX10_init_583 ?o41 ?_
  case o41 => decide
  refine hx_bast hx hb hW hT (hx_S.rf (M := [(57, 0)])) gq_34 tt_57 rfl ?o42 (y := 0) ?o43 ?o44 (List.mem_singleton.mpr rfl) dX10_init_584 (fun H locs h_125 eh_125 hW hT hs => ?_)
  case o42 => decide
  case o43 => decide
  case o44 => decide
  have hcon := hcon.S hs trivial rfl
  have hz := hx_zr [2, 3, 4, 5, 6, 12, 15, 17] hz hs gx trivial rfl
  have hM := hM.tr (hs.mono ?o45)
  case o45 => decide
  have gx := gx.S hs
  have gq_34 := gq_34.S hs
  have cw : ∀ j, j < 91 → h_125.2.1 q_34 j = P_words j := hx_cw cw eh_125 ?o46 ?o47
  case o46 => decide
  case o47 => decide
  refine lv_dup hx hb dX10_init_585 rfl ?_
  refine lv_bipush (v := 91) hx hb dX10_init_586 ?o48 ?_
  case o48 => decide
  refine lv_bipush (v := 119) hx hb dX10_init_588 ?o49 ?_
  case o49 => decide
  refine hx_bast hx hb hW hT (hx_S.rf (M := [(57, 0)])) gq_34 tt_57 rfl ?o50 (y := 119) ?o51 ?o52 (List.mem_singleton.mpr rfl) dX10_init_590 (fun H locs h_126 eh_126 hW hT hs => ?_)
  case o50 => decide
  case o51 => decide
  case o52 => decide
  have hcon := hcon.S hs trivial rfl
  have hz := hx_zr [2, 3, 4, 5, 6, 12, 15, 17] hz hs gx trivial rfl
  have hM := hM.tr (hs.mono ?o53)
  case o53 => decide
  have gx := gx.S hs
  have gq_34 := gq_34.S hs
  have cw : ∀ j, j < 92 → h_126.2.1 q_34 j = P_words j := hx_cw cw eh_126 ?o54 ?o55
  case o54 => decide
  case o55 => decide
  refine lv_dup hx hb dX10_init_591 rfl ?_
  refine lv_bipush (v := 92) hx hb dX10_init_592 ?o56 ?_
  case o56 => decide
  refine lv_bipush (v := 101) hx hb dX10_init_594 ?o57 ?_
  case o57 => decide
  refine hx_bast hx hb hW hT (hx_S.rf (M := [(57, 0)])) gq_34 tt_57 rfl ?o58 (y := 101) ?o59 ?o60 (List.mem_singleton.mpr rfl) dX10_init_596 (fun H locs h_127 eh_127 hW hT hs => ?_)
  case o58 => decide
  case o59 => decide
  case o60 => decide
  have hcon := hcon.S hs trivial rfl
  have hz := hx_zr [2, 3, 4, 5, 6, 12, 15, 17] hz hs gx trivial rfl
  have hM := hM.tr (hs.mono ?o61)
  case o61 => decide
  have gx := gx.S hs
  have gq_34 := gq_34.S hs
  have cw : ∀ j, j < 93 → h_127.2.1 q_34 j = P_words j := hx_cw cw eh_127 ?o62 ?o63
  case o62 => decide
  case o63 => decide
  refine lv_dup hx hb dX10_init_597 rfl ?_
  refine lv_bipush (v := 93) hx hb dX10_init_598 ?o64 ?_
  case o64 => decide
  refine lv_bipush (v := 101) hx hb dX10_init_600 ?o65 ?_
  case o65 => decide
  refine hx_bast hx hb hW hT (hx_S.rf (M := [(57, 0)])) gq_34 tt_57 rfl ?o66 (y := 101) ?o67 ?o68 (List.mem_singleton.mpr rfl) dX10_init_602 (fun H locs h_128 eh_128 hW hT hs => ?_)
  case o66 => decide
  case o67 => decide
  case o68 => decide
  have hcon := hcon.S hs trivial rfl
  have hz := hx_zr [2, 3, 4, 5, 6, 12, 15, 17] hz hs gx trivial rfl
  have hM := hM.tr (hs.mono ?o69)
  case o69 => decide
  have gx := gx.S hs
  have gq_34 := gq_34.S hs
  have cw : ∀ j, j < 94 → h_128.2.1 q_34 j = P_words j := hx_cw cw eh_128 ?o70 ?o71
  case o70 => decide
  case o71 => decide
  refine lv_dup hx hb dX10_init_603 rfl ?_
  refine lv_bipush (v := 94) hx hb dX10_init_604 ?o72 ?_
  case o72 => decide
  refine lv_bipush (v := 107) hx hb dX10_init_606 ?o73 ?_
  case o73 => decide
  refine hx_bast hx hb hW hT (hx_S.rf (M := [(57, 0)])) gq_34 tt_57 rfl ?o74 (y := 107) ?o75 ?o76 (List.mem_singleton.mpr rfl) dX10_init_608 (fun H locs h_129 eh_129 hW hT hs => ?_)
  case o74 => decide
  case o75 => decide
  case o76 => decide
  have hcon := hcon.S hs trivial rfl
  have hz := hx_zr [2, 3, 4, 5, 6, 12, 15, 17] hz hs gx trivial rfl
  have hM := hM.tr (hs.mono ?o77)
  case o77 => decide
  have gx := gx.S hs
  have gq_34 := gq_34.S hs
  have cw : ∀ j, j < 95 → h_129.2.1 q_34 j = P_words j := hx_cw cw eh_129 ?o78 ?o79
  case o78 => decide
  case o79 => decide
  refine lv_dup hx hb dX10_init_609 rfl ?_
  refine lv_bipush (v := 95) hx hb dX10_init_610 ?o80 ?_
  case o80 => decide
  refine lv_iconst (v := 0) hx hb dX10_init_612 ?o81 ?_
  case o81 => decide
  refine hx_bast hx hb hW hT (hx_S.rf (M := [(57, 0)])) gq_34 tt_57 rfl ?o82 (y := 0) ?o83 ?o84 (List.mem_singleton.mpr rfl) dX10_init_613 (fun H locs h_130 eh_130 hW hT hs => ?_)
  case o82 => decide
  case o83 => decide
  case o84 => decide
  have hcon := hcon.S hs trivial rfl
  have hz := hx_zr [2, 3, 4, 5, 6, 12, 15, 17] hz hs gx trivial rfl
  have hM := hM.tr (hs.mono ?o85)
  case o85 => decide
  have gx := gx.S hs
  have gq_34 := gq_34.S hs
  have cw : ∀ j, j < 96 → h_130.2.1 q_34 j = P_words j := hx_cw cw eh_130 ?o86 ?o87
  case o86 => decide
  case o87 => decide
  refine lv_dup hx hb dX10_init_614 rfl ?_
  refine lv_bipush (v := 96) hx hb dX10_init_615 ?o88 ?_
  case o88 => decide
  refine lv_iconst (v := 0) hx hb dX10_init_617 ?o89 ?_
  case o89 => decide
  refine hx_bast hx hb hW hT (hx_S.rf (M := [(57, 0)])) gq_34 tt_57 rfl ?o90 (y := 0) ?o91 ?o92 (List.mem_singleton.mpr rfl) dX10_init_618 (fun H locs h_131 eh_131 hW hT hs => ?_)
  case o90 => decide
  case o91 => decide
  case o92 => decide
  have hcon := hcon.S hs trivial rfl
  have hz := hx_zr [2, 3, 4, 5, 6, 12, 15, 17] hz hs gx trivial rfl
  have hM := hM.tr (hs.mono ?o93)
  case o93 => decide
  have gx := gx.S hs
  have gq_34 := gq_34.S hs
  have cw : ∀ j, j < 97 → h_131.2.1 q_34 j = P_words j := hx_cw cw eh_131 ?o94 ?o95
  case o94 => decide
  case o95 => decide
  refine lv_dup hx hb dX10_init_619 rfl ?_
  refine lv_bipush (v := 97) hx hb dX10_init_620 ?o96 ?_
  case o96 => decide
  refine lv_iconst (v := 0) hx hb dX10_init_622 ?o97 ?_
  case o97 => decide
  refine hx_bast hx hb hW hT (hx_S.rf (M := [(57, 0)])) gq_34 tt_57 rfl ?o98 (y := 0) ?o99 ?o100 (List.mem_singleton.mpr rfl) dX10_init_623 (fun H locs h_132 eh_132 hW hT hs => ?_)
  case o98 => decide
  case o99 => decide
  case o100 => decide
  have hcon := hcon.S hs trivial rfl
  have hz := hx_zr [2, 3, 4, 5, 6, 12, 15, 17] hz hs gx trivial rfl
  have hM := hM.tr (hs.mono ?o101)
  case o101 => decide
  have gx := gx.S hs
  have gq_34 := gq_34.S hs
  have cw : ∀ j, j < 98 → h_132.2.1 q_34 j = P_words j := hx_cw cw eh_132 ?o102 ?o103
  case o102 => decide
  case o103 => decide
  refine lv_dup hx hb dX10_init_624 rfl ?_
  refine lv_bipush (v := 98) hx hb dX10_init_625 ?o104 ?_
  case o104 => decide
  refine lv_bipush (v := 107) hx hb dX10_init_627 ?o105 ?_
  case o105 => decide
  refine hx_bast hx hb hW hT (hx_S.rf (M := [(57, 0)])) gq_34 tt_57 rfl ?o106 (y := 107) ?o107 ?o108 (List.mem_singleton.mpr rfl) dX10_init_629 (fun H locs h_133 eh_133 hW hT hs => ?_)
  case o106 => decide
  case o107 => decide
  case o108 => decide
  have hcon := hcon.S hs trivial rfl
  have hz := hx_zr [2, 3, 4, 5, 6, 12, 15, 17] hz hs gx trivial rfl
  have hM := hM.tr (hs.mono ?o109)
  case o109 => decide
  have gx := gx.S hs
  have gq_34 := gq_34.S hs
  have cw : ∀ j, j < 99 → h_133.2.1 q_34 j = P_words j := hx_cw cw eh_133 ?o110 ?o111
  case o110 => decide
  case o111 => decide
  refine lv_dup hx hb dX10_init_630 rfl ?_
  refine lv_bipush (v := 99) hx hb dX10_init_631 ?o112 ?_
  case o112 => decide
  refine lv_bipush (v := 101) hx hb dX10_init_633 ?o113 ?_
  case o113 => decide
  refine hx_bast hx hb hW hT (hx_S.rf (M := [(57, 0)])) gq_34 tt_57 rfl ?o114 (y := 101) ?o115 ?o116 (List.mem_singleton.mpr rfl) dX10_init_635 (fun H locs h_134 eh_134 hW hT hs => ?_)
  case o114 => decide
  case o115 => decide
  case o116 => decide
  have hcon := hcon.S hs trivial rfl
  have hz := hx_zr [2, 3, 4, 5, 6, 12, 15, 17] hz hs gx trivial rfl
  have hM := hM.tr (hs.mono ?o117)
  case o117 => decide
  have gx := gx.S hs
  have gq_34 := gq_34.S hs
  have cw : ∀ j, j < 100 → h_134.2.1 q_34 j = P_words j := hx_cw cw eh_134 ?o118 ?o119
  case o118 => decide
  case o119 => decide
  refine lv_dup hx hb dX10_init_636 rfl ?_
  refine lv_bipush (v := 100) hx hb dX10_init_637 ?o120 ?_
  case o120 => decide
  refine lv_bipush (v := 101) hx hb dX10_init_639 ?o121 ?_
  case o121 => decide
  refine hx_bast hx hb hW hT (hx_S.rf (M := [(57, 0)])) gq_34 tt_57 rfl ?o122 (y := 101) ?o123 ?o124 (List.mem_singleton.mpr rfl) dX10_init_641 (fun H locs h_135 eh_135 hW hT hs => ?_)
  case o122 => decide
  case o123 => decide
  case o124 => decide
  have hcon := hcon.S hs trivial rfl
  have hz := hx_zr [2, 3, 4, 5, 6, 12, 15, 17] hz hs gx trivial rfl
  have hM := hM.tr (hs.mono ?o125)
  case o125 => decide
  have gx := gx.S hs
  have gq_34 := gq_34.S hs
  have cw : ∀ j, j < 101 → h_135.2.1 q_34 j = P_words j := hx_cw cw eh_135 ?o126 ?o127
  case o126 => decide
  case o127 => decide
  refine lv_dup hx hb dX10_init_642 rfl ?_
  refine lv_bipush (v := 101) hx hb dX10_init_643 ?o128 ?_
  case o128 => decide
  refine lv_bipush (v := 112) hx hb dX10_init_645 ?o129 ?_
  case o129 => decide
  refine hx_bast hx hb hW hT (hx_S.rf (M := [(57, 0)])) gq_34 tt_57 rfl ?o130 (y := 112) ?o131 ?o132 (List.mem_singleton.mpr rfl) dX10_init_647 (fun H locs h_136 eh_136 hW hT hs => ?_)
  case o130 => decide
  case o131 => decide
  case o132 => decide
  have hcon := hcon.S hs trivial rfl
  have hz := hx_zr [2, 3, 4, 5, 6, 12, 15, 17] hz hs gx trivial rfl
  have hM := hM.tr (hs.mono ?o133)
  case o133 => decide
  have gx := gx.S hs
  have gq_34 := gq_34.S hs
  have cw : ∀ j, j < 102 → h_136.2.1 q_34 j = P_words j := hx_cw cw eh_136 ?o134 ?o135
  case o134 => decide
  case o135 => decide
  refine lv_dup hx hb dX10_init_648 rfl ?_
  refine lv_bipush (v := 102) hx hb dX10_init_649 ?o136 ?_
  case o136 => decide
  refine lv_iconst (v := 0) hx hb dX10_init_651 ?o137 ?_
  case o137 => decide
  refine hx_bast hx hb hW hT (hx_S.rf (M := [(57, 0)])) gq_34 tt_57 rfl ?o138 (y := 0) ?o139 ?o140 (List.mem_singleton.mpr rfl) dX10_init_652 (fun H locs h_137 eh_137 hW hT hs => ?_)
  case o138 => decide
  case o139 => decide
  case o140 => decide
  have hcon := hcon.S hs trivial rfl
  have hz := hx_zr [2, 3, 4, 5, 6, 12, 15, 17] hz hs gx trivial rfl
  have hM := hM.tr (hs.mono ?o141)
  case o141 => decide
  have gx := gx.S hs
  have gq_34 := gq_34.S hs
  have cw : ∀ j, j < 103 → h_137.2.1 q_34 j = P_words j := hx_cw cw eh_137 ?o142 ?o143
  case o142 => decide
  case o143 => decide
  refine lv_dup hx hb dX10_init_653 rfl ?_
  refine lv_bipush (v := 103) hx hb dX10_init_654 ?o144 ?_
  case o144 => decide
  refine lv_iconst (v := 0) hx hb dX10_init_656 ?o145 ?_
  case o145 => decide
  refine hx_bast hx hb hW hT (hx_S.rf (M := [(57, 0)])) gq_34 tt_57 rfl ?o146 (y := 0) ?o147 ?o148 (List.mem_singleton.mpr rfl) dX10_init_657 (fun H locs h_138 eh_138 hW hT hs => ?_)
  case o146 => decide
  case o147 => decide
  case o148 => decide
  have hcon := hcon.S hs trivial rfl
  have hz := hx_zr [2, 3, 4, 5, 6, 12, 15, 17] hz hs gx trivial rfl
  have hM := hM.tr (hs.mono ?o149)
  case o149 => decide
  have gx := gx.S hs
  have gq_34 := gq_34.S hs
  have cw : ∀ j, j < 104 → h_138.2.1 q_34 j = P_words j := hx_cw cw eh_138 ?o150 ?o151
  case o150 => decide
  case o151 => decide
  refine lv_dup hx hb dX10_init_658 rfl ?_
  refine lv_bipush (v := 104) hx hb dX10_init_659 ?o152 ?_
  case o152 => decide
  refine lv_iconst (v := 0) hx hb dX10_init_661 ?o153 ?_
  case o153 => decide
  refine hx_bast hx hb hW hT (hx_S.rf (M := [(57, 0)])) gq_34 tt_57 rfl ?o154 (y := 0) ?o155 ?o156 (List.mem_singleton.mpr rfl) dX10_init_662 (fun H locs h_139 eh_139 hW hT hs => ?_)
  case o154 => decide
  case o155 => decide
  case o156 => decide
  have hcon := hcon.S hs trivial rfl
  have hz := hx_zr [2, 3, 4, 5, 6, 12, 15, 17] hz hs gx trivial rfl
  have hM := hM.tr (hs.mono ?o157)
  case o157 => decide
  have gx := gx.S hs
  have gq_34 := gq_34.S hs
  have cw : ∀ j, j < 105 → h_139.2.1 q_34 j = P_words j := hx_cw cw eh_139 ?o158 ?o159
  case o158 => decide
  case o159 => decide
  exact si_5 l dC dI dA L h sz b0 x q_34 hx hb hml hr hlk hts hown hin hsz hZ L1 h_139 _ _ ls hW hT hM gx hcon hz gq_34  cw hl

set_option maxHeartbeats 4000000 in
set_option maxRecDepth 100000 in
theorem si_3 (l : Launch) (dC : Nat → ClassId) (dI : Nat → Nat → Nat) (dA : Nat → ClassId) (L : List Nat) (h : hx_h) (sz : Nat) (b0 : hx_z) (x : Nat) (q_34 : Nat) {p : Program} {e : Env} {s : State} {m : MethodId} {below : List Frame} {meth : Method} {c : Code} (hx : p.tables.exec = Jvm.exec) (hb : c.code = cX10_init) (hml : c.maxLocals = 2) (hr : meth.sig.returnType = none) (hlk : meth.locks = false) (hts : ∀ w ∈ hx_all, w.before ([.ref x] : List Value).toArray s = true) (hown : s.vm.findClass "SmallCourtModel" = some m.cls) (hin : meth.name = "<init>") (hsz : s.heap.size = sz) (hZ : hx_Xt (hx_A L sz) b0 s) (L1 : List Nat) (hl1 : hx_h) (H : Heap) (locs : List Loc) (ls : Array Slot) (hW : hx_W T_tb (P_ty dA) (dC, dI) vwCl (hx_A L sz) s.heap L1 hl1 s H locs) (hT : hx_T T_tb L1 hl1) (hM : hx_S T_tb [(10, 14), (10, 16), (10, 18), (50, 0), (51, 0), (52, 0), (55, 0), (57, 0), (126, 2), (126, 3), (126, 4), (126, 5), (126, 6), (126, 12), (126, 15), (126, 17), (126, 19), (126, 21), (126, 22), (126, 23), (126, 24), (126, 25), (126, 26), (126, 27), (126, 28), (126, 30), (126, 31), (126, 32), (126, 33), (126, 34), (126, 35), (126, 37), (126, 38), (126, 39), (126, 40), (126, 41), (126, 42), (126, 43), (126, 44), (126, 45), (126, 46), (126, 47), (126, 48), (126, 49), (126, 50), (126, 51), (126, 52), (126, 53), (126, 54), (126, 55), (126, 56), (126, 58), (126, 60), (126, 61), (126, 62), (126, 63), (126, 64), (126, 65), (126, 66), (126, 73), (126, 74), (126, 76), (126, 77), (126, 78), (126, 79), (126, 80), (126, 81), (126, 82), (126, 85), (126, 88), (126, 89), (126, 91), (126, 93), (126, 94), (126, 97)] (hx_X L x) h L1 hl1) (gx : hx_g L1 hl1 x 126) (hcon : hx_con L1 hl1 x 126 [(17, 56, false), (15, 55, false), (12, 54, false), (6, 53, true), (5, 52, false), (4, 51, false), (3, 50, false), (2, 49, false)] []) (hz : ∀ j, [2, 3, 4, 5, 6, 12, 15, 17].contains j = false → hl1.2.1 x j = 0 ∧ hl1.2.2 x j = none) (gq_34 : hx_g L1 hl1 q_34 57)  (cw : ∀ j, j < 65 → hl1.2.1 q_34 j = P_words j) (hl : lv_has ls 2 [(0, .ref x)]) : W p l e ({ frames := 2, cells := 67, slots := 15340, locals := 42 }) s m ([.ref x] : List Value).toArray below meth c H locs 9 2131 (MQ below (va_Qv (fun (u : List Nat × hx_h) => hx_T T_tb u.1 u.2 ∧ hx_S T_tb [(10, 14), (10, 16), (10, 18), (50, 0), (51, 0), (52, 0), (55, 0), (57, 0), (126, 2), (126, 3), (126, 4), (126, 5), (126, 6), (126, 12), (126, 15), (126, 17), (126, 19), (126, 21), (126, 22), (126, 23), (126, 24), (126, 25), (126, 26), (126, 27), (126, 28), (126, 30), (126, 31), (126, 32), (126, 33), (126, 34), (126, 35), (126, 37), (126, 38), (126, 39), (126, 40), (126, 41), (126, 42), (126, 43), (126, 44), (126, 45), (126, 46), (126, 47), (126, 48), (126, 49), (126, 50), (126, 51), (126, 52), (126, 53), (126, 54), (126, 55), (126, 56), (126, 58), (126, 60), (126, 61), (126, 62), (126, 63), (126, 64), (126, 65), (126, 66), (126, 73), (126, 74), (126, 76), (126, 77), (126, 78), (126, 79), (126, 80), (126, 81), (126, 82), (126, 85), (126, 88), (126, 89), (126, 91), (126, 93), (126, 94), (126, 97)] (hx_X L x) h u.1 u.2 ∧ hx_g u.1 u.2 x 10 ∧ u.2.2.1 x 0 = 0 ∧ u.2.2.1 x 1 = 0 ∧ u.2.2.1 x 36 = 0 ∧ u.2.2.1 x 57 = 0 ∧ u.2.2.1 x 7 = 0 ∧ u.2.2.1 x 20 = 0 ∧ u.2.2.1 x 29 = 0 ∧ u.2.2.1 x 59 = 0 ∧ u.2.2.1 x 72 = 0 ∧ u.2.2.1 x 83 = 0 ∧ u.2.2.1 x 84 = 0 ∧ u.2.2.1 x 90 = 0 ∧ u.2.2.1 x 92 = 0 ∧ ∃ q_words q_rule q_proofSteps q_proof q_tries q_isDead q_isJudge q_found q_list q_judged q_weekly q_owed q_doorX q_doorY q_tape q_born q_kin q_sum q_filed q_owedFrom q_heard q_ordered q_goods q_seized q_served q_earns q_heads q_payOf q_payDay q_paySum q_payKnown q_payStruck q_actDay : Nat, u.2.2.2 x 19 = some q_words ∧ hx_g u.1 u.2 q_words 57 ∧ u.2.2.2 x 3 = some q_rule ∧ hx_g u.1 u.2 q_rule 50 ∧ u.2.2.2 x 4 = some q_proofSteps ∧ hx_g u.1 u.2 q_proofSteps 51 ∧ u.2.2.2 x 5 = some q_proof ∧ hx_g u.1 u.2 q_proof 52 ∧ u.2.2.2 x 45 = some q_tries ∧ hx_g u.1 u.2 q_tries 80 ∧ u.2.2.2 x 27 = some q_isDead ∧ hx_g u.1 u.2 q_isDead 64 ∧ u.2.2.2 x 28 = some q_isJudge ∧ hx_g u.1 u.2 q_isJudge 65 ∧ u.2.2.2 x 46 = some q_found ∧ hx_g u.1 u.2 q_found 81 ∧ u.2.2.2 x 91 = some q_list ∧ hx_g u.1 u.2 q_list 112 ∧ u.2.2.2 x 51 = some q_judged ∧ hx_g u.1 u.2 q_judged 86 ∧ u.2.2.2 x 54 = some q_weekly ∧ hx_g u.1 u.2 q_weekly 89 ∧ u.2.2.2 x 55 = some q_owed ∧ hx_g u.1 u.2 q_owed 90 ∧ u.2.2.2 x 24 = some q_doorX ∧ hx_g u.1 u.2 q_doorX 61 ∧ u.2.2.2 x 25 = some q_doorY ∧ hx_g u.1 u.2 q_doorY 62 ∧ u.2.2.2 x 6 = some q_tape ∧ hx_g u.1 u.2 q_tape 53 ∧ u.2.2.2 x 21 = some q_born ∧ hx_g u.1 u.2 q_born 58 ∧ u.2.2.2 x 26 = some q_kin ∧ hx_g u.1 u.2 q_kin 63 ∧ u.2.2.2 x 39 = some q_sum ∧ hx_g u.1 u.2 q_sum 74 ∧ u.2.2.2 x 43 = some q_filed ∧ hx_g u.1 u.2 q_filed 78 ∧ u.2.2.2 x 40 = some q_owedFrom ∧ hx_g u.1 u.2 q_owedFrom 75 ∧ u.2.2.2 x 47 = some q_heard ∧ hx_g u.1 u.2 q_heard 82 ∧ u.2.2.2 x 48 = some q_ordered ∧ hx_g u.1 u.2 q_ordered 83 ∧ u.2.2.2 x 56 = some q_goods ∧ hx_g u.1 u.2 q_goods 91 ∧ u.2.2.2 x 49 = some q_seized ∧ hx_g u.1 u.2 q_seized 84 ∧ u.2.2.2 x 50 = some q_served ∧ hx_g u.1 u.2 q_served 85 ∧ u.2.2.2 x 22 = some q_earns ∧ hx_g u.1 u.2 q_earns 59 ∧ u.2.2.2 x 23 = some q_heads ∧ hx_g u.1 u.2 q_heads 60 ∧ u.2.2.2 x 60 = some q_payOf ∧ hx_g u.1 u.2 q_payOf 93 ∧ u.2.2.2 x 61 = some q_payDay ∧ hx_g u.1 u.2 q_payDay 94 ∧ u.2.2.2 x 62 = some q_paySum ∧ hx_g u.1 u.2 q_paySum 95 ∧ u.2.2.2 x 63 = some q_payKnown ∧ hx_g u.1 u.2 q_payKnown 96 ∧ u.2.2.2 x 64 = some q_payStruck ∧ hx_g u.1 u.2 q_payStruck 97 ∧ u.2.2.2 x 2 = some q_actDay ∧ hx_g u.1 u.2 q_actDay 49 ∧ hx_wd (u.2.2.1 q_words) ∧ hx_WK (u.2.2.1 q_rule) 0 ∧ hx_RP (u.2.2.1 q_proof) (u.2.2.1 q_proofSteps) 0 ∧ (∀ j, u.2.2.1 q_tries j = 0) ∧ (∀ j, u.2.2.1 q_isDead j = 0) ∧ (∀ j, u.2.2.1 q_isJudge j = 0) ∧ (∀ j, u.2.2.1 q_found j = 0) ∧ (∀ j, u.2.2.1 q_list j = 0) ∧ (∀ j, u.2.2.1 q_judged j = 0) ∧ (∀ j, u.2.2.1 q_weekly j = 0) ∧ (∀ j, u.2.2.1 q_owed j = 0) ∧ (∀ j, u.2.2.1 q_doorX j = 0) ∧ (∀ j, u.2.2.1 q_doorY j = 0) ∧ (∀ j, u.2.2.1 q_tape j = 0) ∧ (∀ j, u.2.2.1 q_born j = 0) ∧ (∀ j, u.2.2.1 q_kin j = 0) ∧ (∀ j, u.2.2.1 q_sum j = 0) ∧ (∀ j, u.2.2.1 q_filed j = 0) ∧ (∀ j, u.2.2.1 q_owedFrom j = 0) ∧ (∀ j, u.2.2.1 q_heard j = 0) ∧ (∀ j, u.2.2.1 q_ordered j = 0) ∧ (∀ j, u.2.2.1 q_goods j = 0) ∧ (∀ j, u.2.2.1 q_seized j = 0) ∧ (∀ j, u.2.2.1 q_served j = 0) ∧ (∀ j, u.2.2.1 q_earns j = 0) ∧ (∀ j, u.2.2.1 q_heads j = 0) ∧ (∀ j, u.2.2.1 q_payOf j = 0) ∧ (∀ j, u.2.2.1 q_payDay j = 0) ∧ (∀ j, u.2.2.1 q_paySum j = 0) ∧ (∀ j, u.2.2.1 q_payKnown j = 0) ∧ (∀ j, u.2.2.1 q_payStruck j = 0) ∧ hv_CA (u.2.2.1 q_actDay) (u.2.2.1 q_rule) (u.2.2.1 q_proofSteps) (u.2.2.1 q_proof) 0 (fun _ => hv_A0)) (hx_E T_tb (P_ty dA) (dC, dI) vwCl (hx_A L sz)) (hx_A L sz)) ([.ref x] : List Value).toArray s 67 15340 (hx_A L sz)) (F0 m 436 ls [.ref q_34, .ref x]) := by
  refine lv_dup hx hb dX10_init_436 rfl ?_
  refine lv_bipush (v := 65) hx hb dX10_init_437 ?o0 ?_
  case o0 => decide
  refine lv_bipush (v := 105) hx hb dX10_init_439 ?o1 ?_
  case o1 => decide
  refine hx_bast hx hb hW hT (hx_S.rf (M := [(57, 0)])) gq_34 tt_57 rfl ?o2 (y := 105) ?o3 ?o4 (List.mem_singleton.mpr rfl) dX10_init_441 (fun H locs h_100 eh_100 hW hT hs => ?_)
  case o2 => decide
  case o3 => decide
  case o4 => decide
  have hcon := hcon.S hs trivial rfl
  have hz := hx_zr [2, 3, 4, 5, 6, 12, 15, 17] hz hs gx trivial rfl
  have hM := hM.tr (hs.mono ?o5)
  case o5 => decide
  have gx := gx.S hs
  have gq_34 := gq_34.S hs
  have cw : ∀ j, j < 66 → h_100.2.1 q_34 j = P_words j := hx_cw cw eh_100 ?o6 ?o7
  case o6 => decide
  case o7 => decide
  refine lv_dup hx hb dX10_init_442 rfl ?_
  refine lv_bipush (v := 66) hx hb dX10_init_443 ?o8 ?_
  case o8 => decide
  refine lv_bipush (v := 107) hx hb dX10_init_445 ?o9 ?_
  case o9 => decide
  refine hx_bast hx hb hW hT (hx_S.rf (M := [(57, 0)])) gq_34 tt_57 rfl ?o10 (y := 107) ?o11 ?o12 (List.mem_singleton.mpr rfl) dX10_init_447 (fun H locs h_101 eh_101 hW hT hs => ?_)
  case o10 => decide
  case o11 => decide
  case o12 => decide
  have hcon := hcon.S hs trivial rfl
  have hz := hx_zr [2, 3, 4, 5, 6, 12, 15, 17] hz hs gx trivial rfl
  have hM := hM.tr (hs.mono ?o13)
  case o13 => decide
  have gx := gx.S hs
  have gq_34 := gq_34.S hs
  have cw : ∀ j, j < 67 → h_101.2.1 q_34 j = P_words j := hx_cw cw eh_101 ?o14 ?o15
  case o14 => decide
  case o15 => decide
  refine lv_dup hx hb dX10_init_448 rfl ?_
  refine lv_bipush (v := 67) hx hb dX10_init_449 ?o16 ?_
  case o16 => decide
  refine lv_bipush (v := 101) hx hb dX10_init_451 ?o17 ?_
  case o17 => decide
  refine hx_bast hx hb hW hT (hx_S.rf (M := [(57, 0)])) gq_34 tt_57 rfl ?o18 (y := 101) ?o19 ?o20 (List.mem_singleton.mpr rfl) dX10_init_453 (fun H locs h_102 eh_102 hW hT hs => ?_)
  case o18 => decide
  case o19 => decide
  case o20 => decide
  have hcon := hcon.S hs trivial rfl
  have hz := hx_zr [2, 3, 4, 5, 6, 12, 15, 17] hz hs gx trivial rfl
  have hM := hM.tr (hs.mono ?o21)
  case o21 => decide
  have gx := gx.S hs
  have gq_34 := gq_34.S hs
  have cw : ∀ j, j < 68 → h_102.2.1 q_34 j = P_words j := hx_cw cw eh_102 ?o22 ?o23
  case o22 => decide
  case o23 => decide
  refine lv_dup hx hb dX10_init_454 rfl ?_
  refine lv_bipush (v := 68) hx hb dX10_init_455 ?o24 ?_
  case o24 => decide
  refine lv_iconst (v := 0) hx hb dX10_init_457 ?o25 ?_
  case o25 => decide
  refine hx_bast hx hb hW hT (hx_S.rf (M := [(57, 0)])) gq_34 tt_57 rfl ?o26 (y := 0) ?o27 ?o28 (List.mem_singleton.mpr rfl) dX10_init_458 (fun H locs h_103 eh_103 hW hT hs => ?_)
  case o26 => decide
  case o27 => decide
  case o28 => decide
  have hcon := hcon.S hs trivial rfl
  have hz := hx_zr [2, 3, 4, 5, 6, 12, 15, 17] hz hs gx trivial rfl
  have hM := hM.tr (hs.mono ?o29)
  case o29 => decide
  have gx := gx.S hs
  have gq_34 := gq_34.S hs
  have cw : ∀ j, j < 69 → h_103.2.1 q_34 j = P_words j := hx_cw cw eh_103 ?o30 ?o31
  case o30 => decide
  case o31 => decide
  refine lv_dup hx hb dX10_init_459 rfl ?_
  refine lv_bipush (v := 69) hx hb dX10_init_460 ?o32 ?_
  case o32 => decide
  refine lv_iconst (v := 0) hx hb dX10_init_462 ?o33 ?_
  case o33 => decide
  refine hx_bast hx hb hW hT (hx_S.rf (M := [(57, 0)])) gq_34 tt_57 rfl ?o34 (y := 0) ?o35 ?o36 (List.mem_singleton.mpr rfl) dX10_init_463 (fun H locs h_104 eh_104 hW hT hs => ?_)
  case o34 => decide
  case o35 => decide
  case o36 => decide
  have hcon := hcon.S hs trivial rfl
  have hz := hx_zr [2, 3, 4, 5, 6, 12, 15, 17] hz hs gx trivial rfl
  have hM := hM.tr (hs.mono ?o37)
  case o37 => decide
  have gx := gx.S hs
  have gq_34 := gq_34.S hs
  have cw : ∀ j, j < 70 → h_104.2.1 q_34 j = P_words j := hx_cw cw eh_104 ?o38 ?o39
  case o38 => decide
  case o39 => decide
  refine lv_dup hx hb dX10_init_464 rfl ?_
  refine lv_bipush (v := 70) hx hb dX10_init_465 ?o40 ?_
  case o40 => decide
  refine lv_bipush (v := 99) hx hb dX10_init_467 ?o41 ?_
  case o41 => decide
  refine hx_bast hx hb hW hT (hx_S.rf (M := [(57, 0)])) gq_34 tt_57 rfl ?o42 (y := 99) ?o43 ?o44 (List.mem_singleton.mpr rfl) dX10_init_469 (fun H locs h_105 eh_105 hW hT hs => ?_)
  case o42 => decide
  case o43 => decide
  case o44 => decide
  have hcon := hcon.S hs trivial rfl
  have hz := hx_zr [2, 3, 4, 5, 6, 12, 15, 17] hz hs gx trivial rfl
  have hM := hM.tr (hs.mono ?o45)
  case o45 => decide
  have gx := gx.S hs
  have gq_34 := gq_34.S hs
  have cw : ∀ j, j < 71 → h_105.2.1 q_34 j = P_words j := hx_cw cw eh_105 ?o46 ?o47
  case o46 => decide
  case o47 => decide
  refine lv_dup hx hb dX10_init_470 rfl ?_
  refine lv_bipush (v := 71) hx hb dX10_init_471 ?o48 ?_
  case o48 => decide
  refine lv_bipush (v := 108) hx hb dX10_init_473 ?o49 ?_
  case o49 => decide
  refine hx_bast hx hb hW hT (hx_S.rf (M := [(57, 0)])) gq_34 tt_57 rfl ?o50 (y := 108) ?o51 ?o52 (List.mem_singleton.mpr rfl) dX10_init_475 (fun H locs h_106 eh_106 hW hT hs => ?_)
  case o50 => decide
  case o51 => decide
  case o52 => decide
  have hcon := hcon.S hs trivial rfl
  have hz := hx_zr [2, 3, 4, 5, 6, 12, 15, 17] hz hs gx trivial rfl
  have hM := hM.tr (hs.mono ?o53)
  case o53 => decide
  have gx := gx.S hs
  have gq_34 := gq_34.S hs
  have cw : ∀ j, j < 72 → h_106.2.1 q_34 j = P_words j := hx_cw cw eh_106 ?o54 ?o55
  case o54 => decide
  case o55 => decide
  refine lv_dup hx hb dX10_init_476 rfl ?_
  refine lv_bipush (v := 72) hx hb dX10_init_477 ?o56 ?_
  case o56 => decide
  refine lv_bipush (v := 97) hx hb dX10_init_479 ?o57 ?_
  case o57 => decide
  refine hx_bast hx hb hW hT (hx_S.rf (M := [(57, 0)])) gq_34 tt_57 rfl ?o58 (y := 97) ?o59 ?o60 (List.mem_singleton.mpr rfl) dX10_init_481 (fun H locs h_107 eh_107 hW hT hs => ?_)
  case o58 => decide
  case o59 => decide
  case o60 => decide
  have hcon := hcon.S hs trivial rfl
  have hz := hx_zr [2, 3, 4, 5, 6, 12, 15, 17] hz hs gx trivial rfl
  have hM := hM.tr (hs.mono ?o61)
  case o61 => decide
  have gx := gx.S hs
  have gq_34 := gq_34.S hs
  have cw : ∀ j, j < 73 → h_107.2.1 q_34 j = P_words j := hx_cw cw eh_107 ?o62 ?o63
  case o62 => decide
  case o63 => decide
  refine lv_dup hx hb dX10_init_482 rfl ?_
  refine lv_bipush (v := 73) hx hb dX10_init_483 ?o64 ?_
  case o64 => decide
  refine lv_bipush (v := 105) hx hb dX10_init_485 ?o65 ?_
  case o65 => decide
  refine hx_bast hx hb hW hT (hx_S.rf (M := [(57, 0)])) gq_34 tt_57 rfl ?o66 (y := 105) ?o67 ?o68 (List.mem_singleton.mpr rfl) dX10_init_487 (fun H locs h_108 eh_108 hW hT hs => ?_)
  case o66 => decide
  case o67 => decide
  case o68 => decide
  have hcon := hcon.S hs trivial rfl
  have hz := hx_zr [2, 3, 4, 5, 6, 12, 15, 17] hz hs gx trivial rfl
  have hM := hM.tr (hs.mono ?o69)
  case o69 => decide
  have gx := gx.S hs
  have gq_34 := gq_34.S hs
  have cw : ∀ j, j < 74 → h_108.2.1 q_34 j = P_words j := hx_cw cw eh_108 ?o70 ?o71
  case o70 => decide
  case o71 => decide
  refine lv_dup hx hb dX10_init_488 rfl ?_
  refine lv_bipush (v := 74) hx hb dX10_init_489 ?o72 ?_
  case o72 => decide
  refine lv_bipush (v := 109) hx hb dX10_init_491 ?o73 ?_
  case o73 => decide
  refine hx_bast hx hb hW hT (hx_S.rf (M := [(57, 0)])) gq_34 tt_57 rfl ?o74 (y := 109) ?o75 ?o76 (List.mem_singleton.mpr rfl) dX10_init_493 (fun H locs h_109 eh_109 hW hT hs => ?_)
  case o74 => decide
  case o75 => decide
  case o76 => decide
  have hcon := hcon.S hs trivial rfl
  have hz := hx_zr [2, 3, 4, 5, 6, 12, 15, 17] hz hs gx trivial rfl
  have hM := hM.tr (hs.mono ?o77)
  case o77 => decide
  have gx := gx.S hs
  have gq_34 := gq_34.S hs
  have cw : ∀ j, j < 75 → h_109.2.1 q_34 j = P_words j := hx_cw cw eh_109 ?o78 ?o79
  case o78 => decide
  case o79 => decide
  refine lv_dup hx hb dX10_init_494 rfl ?_
  refine lv_bipush (v := 75) hx hb dX10_init_495 ?o80 ?_
  case o80 => decide
  refine lv_bipush (v := 101) hx hb dX10_init_497 ?o81 ?_
  case o81 => decide
  refine hx_bast hx hb hW hT (hx_S.rf (M := [(57, 0)])) gq_34 tt_57 rfl ?o82 (y := 101) ?o83 ?o84 (List.mem_singleton.mpr rfl) dX10_init_499 (fun H locs h_110 eh_110 hW hT hs => ?_)
  case o82 => decide
  case o83 => decide
  case o84 => decide
  have hcon := hcon.S hs trivial rfl
  have hz := hx_zr [2, 3, 4, 5, 6, 12, 15, 17] hz hs gx trivial rfl
  have hM := hM.tr (hs.mono ?o85)
  case o85 => decide
  have gx := gx.S hs
  have gq_34 := gq_34.S hs
  have cw : ∀ j, j < 76 → h_110.2.1 q_34 j = P_words j := hx_cw cw eh_110 ?o86 ?o87
  case o86 => decide
  case o87 => decide
  refine lv_dup hx hb dX10_init_500 rfl ?_
  refine lv_bipush (v := 76) hx hb dX10_init_501 ?o88 ?_
  case o88 => decide
  refine lv_bipush (v := 100) hx hb dX10_init_503 ?o89 ?_
  case o89 => decide
  refine hx_bast hx hb hW hT (hx_S.rf (M := [(57, 0)])) gq_34 tt_57 rfl ?o90 (y := 100) ?o91 ?o92 (List.mem_singleton.mpr rfl) dX10_init_505 (fun H locs h_111 eh_111 hW hT hs => ?_)
  case o90 => decide
  case o91 => decide
  case o92 => decide
  have hcon := hcon.S hs trivial rfl
  have hz := hx_zr [2, 3, 4, 5, 6, 12, 15, 17] hz hs gx trivial rfl
  have hM := hM.tr (hs.mono ?o93)
  case o93 => decide
  have gx := gx.S hs
  have gq_34 := gq_34.S hs
  have cw : ∀ j, j < 77 → h_111.2.1 q_34 j = P_words j := hx_cw cw eh_111 ?o94 ?o95
  case o94 => decide
  case o95 => decide
  refine lv_dup hx hb dX10_init_506 rfl ?_
  refine lv_bipush (v := 77) hx hb dX10_init_507 ?o96 ?_
  case o96 => decide
  refine lv_bipush (v := 109) hx hb dX10_init_509 ?o97 ?_
  case o97 => decide
  refine hx_bast hx hb hW hT (hx_S.rf (M := [(57, 0)])) gq_34 tt_57 rfl ?o98 (y := 109) ?o99 ?o100 (List.mem_singleton.mpr rfl) dX10_init_511 (fun H locs h_112 eh_112 hW hT hs => ?_)
  case o98 => decide
  case o99 => decide
  case o100 => decide
  have hcon := hcon.S hs trivial rfl
  have hz := hx_zr [2, 3, 4, 5, 6, 12, 15, 17] hz hs gx trivial rfl
  have hM := hM.tr (hs.mono ?o101)
  case o101 => decide
  have gx := gx.S hs
  have gq_34 := gq_34.S hs
  have cw : ∀ j, j < 78 → h_112.2.1 q_34 j = P_words j := hx_cw cw eh_112 ?o102 ?o103
  case o102 => decide
  case o103 => decide
  refine lv_dup hx hb dX10_init_512 rfl ?_
  refine lv_bipush (v := 78) hx hb dX10_init_513 ?o104 ?_
  case o104 => decide
  refine lv_bipush (v := 111) hx hb dX10_init_515 ?o105 ?_
  case o105 => decide
  refine hx_bast hx hb hW hT (hx_S.rf (M := [(57, 0)])) gq_34 tt_57 rfl ?o106 (y := 111) ?o107 ?o108 (List.mem_singleton.mpr rfl) dX10_init_517 (fun H locs h_113 eh_113 hW hT hs => ?_)
  case o106 => decide
  case o107 => decide
  case o108 => decide
  have hcon := hcon.S hs trivial rfl
  have hz := hx_zr [2, 3, 4, 5, 6, 12, 15, 17] hz hs gx trivial rfl
  have hM := hM.tr (hs.mono ?o109)
  case o109 => decide
  have gx := gx.S hs
  have gq_34 := gq_34.S hs
  have cw : ∀ j, j < 79 → h_113.2.1 q_34 j = P_words j := hx_cw cw eh_113 ?o110 ?o111
  case o110 => decide
  case o111 => decide
  refine lv_dup hx hb dX10_init_518 rfl ?_
  refine lv_bipush (v := 79) hx hb dX10_init_519 ?o112 ?_
  case o112 => decide
  refine lv_bipush (v := 115) hx hb dX10_init_521 ?o113 ?_
  case o113 => decide
  refine hx_bast hx hb hW hT (hx_S.rf (M := [(57, 0)])) gq_34 tt_57 rfl ?o114 (y := 115) ?o115 ?o116 (List.mem_singleton.mpr rfl) dX10_init_523 (fun H locs h_114 eh_114 hW hT hs => ?_)
  case o114 => decide
  case o115 => decide
  case o116 => decide
  have hcon := hcon.S hs trivial rfl
  have hz := hx_zr [2, 3, 4, 5, 6, 12, 15, 17] hz hs gx trivial rfl
  have hM := hM.tr (hs.mono ?o117)
  case o117 => decide
  have gx := gx.S hs
  have gq_34 := gq_34.S hs
  have cw : ∀ j, j < 80 → h_114.2.1 q_34 j = P_words j := hx_cw cw eh_114 ?o118 ?o119
  case o118 => decide
  case o119 => decide
  refine lv_dup hx hb dX10_init_524 rfl ?_
  refine lv_bipush (v := 80) hx hb dX10_init_525 ?o120 ?_
  case o120 => decide
  refine lv_bipush (v := 116) hx hb dX10_init_527 ?o121 ?_
  case o121 => decide
  refine hx_bast hx hb hW hT (hx_S.rf (M := [(57, 0)])) gq_34 tt_57 rfl ?o122 (y := 116) ?o123 ?o124 (List.mem_singleton.mpr rfl) dX10_init_529 (fun H locs h_115 eh_115 hW hT hs => ?_)
  case o122 => decide
  case o123 => decide
  case o124 => decide
  have hcon := hcon.S hs trivial rfl
  have hz := hx_zr [2, 3, 4, 5, 6, 12, 15, 17] hz hs gx trivial rfl
  have hM := hM.tr (hs.mono ?o125)
  case o125 => decide
  have gx := gx.S hs
  have gq_34 := gq_34.S hs
  have cw : ∀ j, j < 81 → h_115.2.1 q_34 j = P_words j := hx_cw cw eh_115 ?o126 ?o127
  case o126 => decide
  case o127 => decide
  refine lv_dup hx hb dX10_init_530 rfl ?_
  refine lv_bipush (v := 81) hx hb dX10_init_531 ?o128 ?_
  case o128 => decide
  refine lv_iconst (v := 0) hx hb dX10_init_533 ?o129 ?_
  case o129 => decide
  refine hx_bast hx hb hW hT (hx_S.rf (M := [(57, 0)])) gq_34 tt_57 rfl ?o130 (y := 0) ?o131 ?o132 (List.mem_singleton.mpr rfl) dX10_init_534 (fun H locs h_116 eh_116 hW hT hs => ?_)
  case o130 => decide
  case o131 => decide
  case o132 => decide
  have hcon := hcon.S hs trivial rfl
  have hz := hx_zr [2, 3, 4, 5, 6, 12, 15, 17] hz hs gx trivial rfl
  have hM := hM.tr (hs.mono ?o133)
  case o133 => decide
  have gx := gx.S hs
  have gq_34 := gq_34.S hs
  have cw : ∀ j, j < 82 → h_116.2.1 q_34 j = P_words j := hx_cw cw eh_116 ?o134 ?o135
  case o134 => decide
  case o135 => decide
  refine lv_dup hx hb dX10_init_535 rfl ?_
  refine lv_bipush (v := 82) hx hb dX10_init_536 ?o136 ?_
  case o136 => decide
  refine lv_iconst (v := 0) hx hb dX10_init_538 ?o137 ?_
  case o137 => decide
  refine hx_bast hx hb hW hT (hx_S.rf (M := [(57, 0)])) gq_34 tt_57 rfl ?o138 (y := 0) ?o139 ?o140 (List.mem_singleton.mpr rfl) dX10_init_539 (fun H locs h_117 eh_117 hW hT hs => ?_)
  case o138 => decide
  case o139 => decide
  case o140 => decide
  have hcon := hcon.S hs trivial rfl
  have hz := hx_zr [2, 3, 4, 5, 6, 12, 15, 17] hz hs gx trivial rfl
  have hM := hM.tr (hs.mono ?o141)
  case o141 => decide
  have gx := gx.S hs
  have gq_34 := gq_34.S hs
  have cw : ∀ j, j < 83 → h_117.2.1 q_34 j = P_words j := hx_cw cw eh_117 ?o142 ?o143
  case o142 => decide
  case o143 => decide
  refine lv_dup hx hb dX10_init_540 rfl ?_
  refine lv_bipush (v := 83) hx hb dX10_init_541 ?o144 ?_
  case o144 => decide
  refine lv_iconst (v := 0) hx hb dX10_init_543 ?o145 ?_
  case o145 => decide
  refine hx_bast hx hb hW hT (hx_S.rf (M := [(57, 0)])) gq_34 tt_57 rfl ?o146 (y := 0) ?o147 ?o148 (List.mem_singleton.mpr rfl) dX10_init_544 (fun H locs h_118 eh_118 hW hT hs => ?_)
  case o146 => decide
  case o147 => decide
  case o148 => decide
  have hcon := hcon.S hs trivial rfl
  have hz := hx_zr [2, 3, 4, 5, 6, 12, 15, 17] hz hs gx trivial rfl
  have hM := hM.tr (hs.mono ?o149)
  case o149 => decide
  have gx := gx.S hs
  have gq_34 := gq_34.S hs
  have cw : ∀ j, j < 84 → h_118.2.1 q_34 j = P_words j := hx_cw cw eh_118 ?o150 ?o151
  case o150 => decide
  case o151 => decide
  refine lv_dup hx hb dX10_init_545 rfl ?_
  refine lv_bipush (v := 84) hx hb dX10_init_546 ?o152 ?_
  case o152 => decide
  refine lv_bipush (v := 115) hx hb dX10_init_548 ?o153 ?_
  case o153 => decide
  refine hx_bast hx hb hW hT (hx_S.rf (M := [(57, 0)])) gq_34 tt_57 rfl ?o154 (y := 115) ?o155 ?o156 (List.mem_singleton.mpr rfl) dX10_init_550 (fun H locs h_119 eh_119 hW hT hs => ?_)
  case o154 => decide
  case o155 => decide
  case o156 => decide
  have hcon := hcon.S hs trivial rfl
  have hz := hx_zr [2, 3, 4, 5, 6, 12, 15, 17] hz hs gx trivial rfl
  have hM := hM.tr (hs.mono ?o157)
  case o157 => decide
  have gx := gx.S hs
  have gq_34 := gq_34.S hs
  have cw : ∀ j, j < 85 → h_119.2.1 q_34 j = P_words j := hx_cw cw eh_119 ?o158 ?o159
  case o158 => decide
  case o159 => decide
  exact si_4 l dC dI dA L h sz b0 x q_34 hx hb hml hr hlk hts hown hin hsz hZ L1 h_119 _ _ ls hW hT hM gx hcon hz gq_34  cw hl

set_option maxHeartbeats 4000000 in
set_option maxRecDepth 100000 in
theorem si_2 (l : Launch) (dC : Nat → ClassId) (dI : Nat → Nat → Nat) (dA : Nat → ClassId) (L : List Nat) (h : hx_h) (sz : Nat) (b0 : hx_z) (x : Nat) (q_34 : Nat) {p : Program} {e : Env} {s : State} {m : MethodId} {below : List Frame} {meth : Method} {c : Code} (hx : p.tables.exec = Jvm.exec) (hb : c.code = cX10_init) (hml : c.maxLocals = 2) (hr : meth.sig.returnType = none) (hlk : meth.locks = false) (hts : ∀ w ∈ hx_all, w.before ([.ref x] : List Value).toArray s = true) (hown : s.vm.findClass "SmallCourtModel" = some m.cls) (hin : meth.name = "<init>") (hsz : s.heap.size = sz) (hZ : hx_Xt (hx_A L sz) b0 s) (L1 : List Nat) (hl1 : hx_h) (H : Heap) (locs : List Loc) (ls : Array Slot) (hW : hx_W T_tb (P_ty dA) (dC, dI) vwCl (hx_A L sz) s.heap L1 hl1 s H locs) (hT : hx_T T_tb L1 hl1) (hM : hx_S T_tb [(10, 14), (10, 16), (10, 18), (50, 0), (51, 0), (52, 0), (55, 0), (57, 0), (126, 2), (126, 3), (126, 4), (126, 5), (126, 6), (126, 12), (126, 15), (126, 17), (126, 19), (126, 21), (126, 22), (126, 23), (126, 24), (126, 25), (126, 26), (126, 27), (126, 28), (126, 30), (126, 31), (126, 32), (126, 33), (126, 34), (126, 35), (126, 37), (126, 38), (126, 39), (126, 40), (126, 41), (126, 42), (126, 43), (126, 44), (126, 45), (126, 46), (126, 47), (126, 48), (126, 49), (126, 50), (126, 51), (126, 52), (126, 53), (126, 54), (126, 55), (126, 56), (126, 58), (126, 60), (126, 61), (126, 62), (126, 63), (126, 64), (126, 65), (126, 66), (126, 73), (126, 74), (126, 76), (126, 77), (126, 78), (126, 79), (126, 80), (126, 81), (126, 82), (126, 85), (126, 88), (126, 89), (126, 91), (126, 93), (126, 94), (126, 97)] (hx_X L x) h L1 hl1) (gx : hx_g L1 hl1 x 126) (hcon : hx_con L1 hl1 x 126 [(17, 56, false), (15, 55, false), (12, 54, false), (6, 53, true), (5, 52, false), (4, 51, false), (3, 50, false), (2, 49, false)] []) (hz : ∀ j, [2, 3, 4, 5, 6, 12, 15, 17].contains j = false → hl1.2.1 x j = 0 ∧ hl1.2.2 x j = none) (gq_34 : hx_g L1 hl1 q_34 57)  (cw : ∀ j, j < 45 → hl1.2.1 q_34 j = P_words j) (hl : lv_has ls 2 [(0, .ref x)]) : W p l e ({ frames := 2, cells := 67, slots := 15340, locals := 42 }) s m ([.ref x] : List Value).toArray below meth c H locs 9 2131 (MQ below (va_Qv (fun (u : List Nat × hx_h) => hx_T T_tb u.1 u.2 ∧ hx_S T_tb [(10, 14), (10, 16), (10, 18), (50, 0), (51, 0), (52, 0), (55, 0), (57, 0), (126, 2), (126, 3), (126, 4), (126, 5), (126, 6), (126, 12), (126, 15), (126, 17), (126, 19), (126, 21), (126, 22), (126, 23), (126, 24), (126, 25), (126, 26), (126, 27), (126, 28), (126, 30), (126, 31), (126, 32), (126, 33), (126, 34), (126, 35), (126, 37), (126, 38), (126, 39), (126, 40), (126, 41), (126, 42), (126, 43), (126, 44), (126, 45), (126, 46), (126, 47), (126, 48), (126, 49), (126, 50), (126, 51), (126, 52), (126, 53), (126, 54), (126, 55), (126, 56), (126, 58), (126, 60), (126, 61), (126, 62), (126, 63), (126, 64), (126, 65), (126, 66), (126, 73), (126, 74), (126, 76), (126, 77), (126, 78), (126, 79), (126, 80), (126, 81), (126, 82), (126, 85), (126, 88), (126, 89), (126, 91), (126, 93), (126, 94), (126, 97)] (hx_X L x) h u.1 u.2 ∧ hx_g u.1 u.2 x 10 ∧ u.2.2.1 x 0 = 0 ∧ u.2.2.1 x 1 = 0 ∧ u.2.2.1 x 36 = 0 ∧ u.2.2.1 x 57 = 0 ∧ u.2.2.1 x 7 = 0 ∧ u.2.2.1 x 20 = 0 ∧ u.2.2.1 x 29 = 0 ∧ u.2.2.1 x 59 = 0 ∧ u.2.2.1 x 72 = 0 ∧ u.2.2.1 x 83 = 0 ∧ u.2.2.1 x 84 = 0 ∧ u.2.2.1 x 90 = 0 ∧ u.2.2.1 x 92 = 0 ∧ ∃ q_words q_rule q_proofSteps q_proof q_tries q_isDead q_isJudge q_found q_list q_judged q_weekly q_owed q_doorX q_doorY q_tape q_born q_kin q_sum q_filed q_owedFrom q_heard q_ordered q_goods q_seized q_served q_earns q_heads q_payOf q_payDay q_paySum q_payKnown q_payStruck q_actDay : Nat, u.2.2.2 x 19 = some q_words ∧ hx_g u.1 u.2 q_words 57 ∧ u.2.2.2 x 3 = some q_rule ∧ hx_g u.1 u.2 q_rule 50 ∧ u.2.2.2 x 4 = some q_proofSteps ∧ hx_g u.1 u.2 q_proofSteps 51 ∧ u.2.2.2 x 5 = some q_proof ∧ hx_g u.1 u.2 q_proof 52 ∧ u.2.2.2 x 45 = some q_tries ∧ hx_g u.1 u.2 q_tries 80 ∧ u.2.2.2 x 27 = some q_isDead ∧ hx_g u.1 u.2 q_isDead 64 ∧ u.2.2.2 x 28 = some q_isJudge ∧ hx_g u.1 u.2 q_isJudge 65 ∧ u.2.2.2 x 46 = some q_found ∧ hx_g u.1 u.2 q_found 81 ∧ u.2.2.2 x 91 = some q_list ∧ hx_g u.1 u.2 q_list 112 ∧ u.2.2.2 x 51 = some q_judged ∧ hx_g u.1 u.2 q_judged 86 ∧ u.2.2.2 x 54 = some q_weekly ∧ hx_g u.1 u.2 q_weekly 89 ∧ u.2.2.2 x 55 = some q_owed ∧ hx_g u.1 u.2 q_owed 90 ∧ u.2.2.2 x 24 = some q_doorX ∧ hx_g u.1 u.2 q_doorX 61 ∧ u.2.2.2 x 25 = some q_doorY ∧ hx_g u.1 u.2 q_doorY 62 ∧ u.2.2.2 x 6 = some q_tape ∧ hx_g u.1 u.2 q_tape 53 ∧ u.2.2.2 x 21 = some q_born ∧ hx_g u.1 u.2 q_born 58 ∧ u.2.2.2 x 26 = some q_kin ∧ hx_g u.1 u.2 q_kin 63 ∧ u.2.2.2 x 39 = some q_sum ∧ hx_g u.1 u.2 q_sum 74 ∧ u.2.2.2 x 43 = some q_filed ∧ hx_g u.1 u.2 q_filed 78 ∧ u.2.2.2 x 40 = some q_owedFrom ∧ hx_g u.1 u.2 q_owedFrom 75 ∧ u.2.2.2 x 47 = some q_heard ∧ hx_g u.1 u.2 q_heard 82 ∧ u.2.2.2 x 48 = some q_ordered ∧ hx_g u.1 u.2 q_ordered 83 ∧ u.2.2.2 x 56 = some q_goods ∧ hx_g u.1 u.2 q_goods 91 ∧ u.2.2.2 x 49 = some q_seized ∧ hx_g u.1 u.2 q_seized 84 ∧ u.2.2.2 x 50 = some q_served ∧ hx_g u.1 u.2 q_served 85 ∧ u.2.2.2 x 22 = some q_earns ∧ hx_g u.1 u.2 q_earns 59 ∧ u.2.2.2 x 23 = some q_heads ∧ hx_g u.1 u.2 q_heads 60 ∧ u.2.2.2 x 60 = some q_payOf ∧ hx_g u.1 u.2 q_payOf 93 ∧ u.2.2.2 x 61 = some q_payDay ∧ hx_g u.1 u.2 q_payDay 94 ∧ u.2.2.2 x 62 = some q_paySum ∧ hx_g u.1 u.2 q_paySum 95 ∧ u.2.2.2 x 63 = some q_payKnown ∧ hx_g u.1 u.2 q_payKnown 96 ∧ u.2.2.2 x 64 = some q_payStruck ∧ hx_g u.1 u.2 q_payStruck 97 ∧ u.2.2.2 x 2 = some q_actDay ∧ hx_g u.1 u.2 q_actDay 49 ∧ hx_wd (u.2.2.1 q_words) ∧ hx_WK (u.2.2.1 q_rule) 0 ∧ hx_RP (u.2.2.1 q_proof) (u.2.2.1 q_proofSteps) 0 ∧ (∀ j, u.2.2.1 q_tries j = 0) ∧ (∀ j, u.2.2.1 q_isDead j = 0) ∧ (∀ j, u.2.2.1 q_isJudge j = 0) ∧ (∀ j, u.2.2.1 q_found j = 0) ∧ (∀ j, u.2.2.1 q_list j = 0) ∧ (∀ j, u.2.2.1 q_judged j = 0) ∧ (∀ j, u.2.2.1 q_weekly j = 0) ∧ (∀ j, u.2.2.1 q_owed j = 0) ∧ (∀ j, u.2.2.1 q_doorX j = 0) ∧ (∀ j, u.2.2.1 q_doorY j = 0) ∧ (∀ j, u.2.2.1 q_tape j = 0) ∧ (∀ j, u.2.2.1 q_born j = 0) ∧ (∀ j, u.2.2.1 q_kin j = 0) ∧ (∀ j, u.2.2.1 q_sum j = 0) ∧ (∀ j, u.2.2.1 q_filed j = 0) ∧ (∀ j, u.2.2.1 q_owedFrom j = 0) ∧ (∀ j, u.2.2.1 q_heard j = 0) ∧ (∀ j, u.2.2.1 q_ordered j = 0) ∧ (∀ j, u.2.2.1 q_goods j = 0) ∧ (∀ j, u.2.2.1 q_seized j = 0) ∧ (∀ j, u.2.2.1 q_served j = 0) ∧ (∀ j, u.2.2.1 q_earns j = 0) ∧ (∀ j, u.2.2.1 q_heads j = 0) ∧ (∀ j, u.2.2.1 q_payOf j = 0) ∧ (∀ j, u.2.2.1 q_payDay j = 0) ∧ (∀ j, u.2.2.1 q_paySum j = 0) ∧ (∀ j, u.2.2.1 q_payKnown j = 0) ∧ (∀ j, u.2.2.1 q_payStruck j = 0) ∧ hv_CA (u.2.2.1 q_actDay) (u.2.2.1 q_rule) (u.2.2.1 q_proofSteps) (u.2.2.1 q_proof) 0 (fun _ => hv_A0)) (hx_E T_tb (P_ty dA) (dC, dI) vwCl (hx_A L sz)) (hx_A L sz)) ([.ref x] : List Value).toArray s 67 15340 (hx_A L sz)) (F0 m 322 ls [.ref q_34, .ref x]) := by
  refine lv_dup hx hb dX10_init_322 rfl ?_
  refine lv_bipush (v := 45) hx hb dX10_init_323 ?o0 ?_
  case o0 => decide
  refine lv_bipush (v := 110) hx hb dX10_init_325 ?o1 ?_
  case o1 => decide
  refine hx_bast hx hb hW hT (hx_S.rf (M := [(57, 0)])) gq_34 tt_57 rfl ?o2 (y := 110) ?o3 ?o4 (List.mem_singleton.mpr rfl) dX10_init_327 (fun H locs h_80 eh_80 hW hT hs => ?_)
  case o2 => decide
  case o3 => decide
  case o4 => decide
  have hcon := hcon.S hs trivial rfl
  have hz := hx_zr [2, 3, 4, 5, 6, 12, 15, 17] hz hs gx trivial rfl
  have hM := hM.tr (hs.mono ?o5)
  case o5 => decide
  have gx := gx.S hs
  have gq_34 := gq_34.S hs
  have cw : ∀ j, j < 46 → h_80.2.1 q_34 j = P_words j := hx_cw cw eh_80 ?o6 ?o7
  case o6 => decide
  case o7 => decide
  refine lv_dup hx hb dX10_init_328 rfl ?_
  refine lv_bipush (v := 46) hx hb dX10_init_329 ?o8 ?_
  case o8 => decide
  refine lv_bipush (v := 101) hx hb dX10_init_331 ?o9 ?_
  case o9 => decide
  refine hx_bast hx hb hW hT (hx_S.rf (M := [(57, 0)])) gq_34 tt_57 rfl ?o10 (y := 101) ?o11 ?o12 (List.mem_singleton.mpr rfl) dX10_init_333 (fun H locs h_81 eh_81 hW hT hs => ?_)
  case o10 => decide
  case o11 => decide
  case o12 => decide
  have hcon := hcon.S hs trivial rfl
  have hz := hx_zr [2, 3, 4, 5, 6, 12, 15, 17] hz hs gx trivial rfl
  have hM := hM.tr (hs.mono ?o13)
  case o13 => decide
  have gx := gx.S hs
  have gq_34 := gq_34.S hs
  have cw : ∀ j, j < 47 → h_81.2.1 q_34 j = P_words j := hx_cw cw eh_81 ?o14 ?o15
  case o14 => decide
  case o15 => decide
  refine lv_dup hx hb dX10_init_334 rfl ?_
  refine lv_bipush (v := 47) hx hb dX10_init_335 ?o16 ?_
  case o16 => decide
  refine lv_bipush (v := 115) hx hb dX10_init_337 ?o17 ?_
  case o17 => decide
  refine hx_bast hx hb hW hT (hx_S.rf (M := [(57, 0)])) gq_34 tt_57 rfl ?o18 (y := 115) ?o19 ?o20 (List.mem_singleton.mpr rfl) dX10_init_339 (fun H locs h_82 eh_82 hW hT hs => ?_)
  case o18 => decide
  case o19 => decide
  case o20 => decide
  have hcon := hcon.S hs trivial rfl
  have hz := hx_zr [2, 3, 4, 5, 6, 12, 15, 17] hz hs gx trivial rfl
  have hM := hM.tr (hs.mono ?o21)
  case o21 => decide
  have gx := gx.S hs
  have gq_34 := gq_34.S hs
  have cw : ∀ j, j < 48 → h_82.2.1 q_34 j = P_words j := hx_cw cw eh_82 ?o22 ?o23
  case o22 => decide
  case o23 => decide
  refine lv_dup hx hb dX10_init_340 rfl ?_
  refine lv_bipush (v := 48) hx hb dX10_init_341 ?o24 ?_
  case o24 => decide
  refine lv_bipush (v := 115) hx hb dX10_init_343 ?o25 ?_
  case o25 => decide
  refine hx_bast hx hb hW hT (hx_S.rf (M := [(57, 0)])) gq_34 tt_57 rfl ?o26 (y := 115) ?o27 ?o28 (List.mem_singleton.mpr rfl) dX10_init_345 (fun H locs h_83 eh_83 hW hT hs => ?_)
  case o26 => decide
  case o27 => decide
  case o28 => decide
  have hcon := hcon.S hs trivial rfl
  have hz := hx_zr [2, 3, 4, 5, 6, 12, 15, 17] hz hs gx trivial rfl
  have hM := hM.tr (hs.mono ?o29)
  case o29 => decide
  have gx := gx.S hs
  have gq_34 := gq_34.S hs
  have cw : ∀ j, j < 49 → h_83.2.1 q_34 j = P_words j := hx_cw cw eh_83 ?o30 ?o31
  case o30 => decide
  case o31 => decide
  refine lv_dup hx hb dX10_init_346 rfl ?_
  refine lv_bipush (v := 49) hx hb dX10_init_347 ?o32 ?_
  case o32 => decide
  refine lv_bipush (v := 111) hx hb dX10_init_349 ?o33 ?_
  case o33 => decide
  refine hx_bast hx hb hW hT (hx_S.rf (M := [(57, 0)])) gq_34 tt_57 rfl ?o34 (y := 111) ?o35 ?o36 (List.mem_singleton.mpr rfl) dX10_init_351 (fun H locs h_84 eh_84 hW hT hs => ?_)
  case o34 => decide
  case o35 => decide
  case o36 => decide
  have hcon := hcon.S hs trivial rfl
  have hz := hx_zr [2, 3, 4, 5, 6, 12, 15, 17] hz hs gx trivial rfl
  have hM := hM.tr (hs.mono ?o37)
  case o37 => decide
  have gx := gx.S hs
  have gq_34 := gq_34.S hs
  have cw : ∀ j, j < 50 → h_84.2.1 q_34 j = P_words j := hx_cw cw eh_84 ?o38 ?o39
  case o38 => decide
  case o39 => decide
  refine lv_dup hx hb dX10_init_352 rfl ?_
  refine lv_bipush (v := 50) hx hb dX10_init_353 ?o40 ?_
  case o40 => decide
  refine lv_bipush (v := 119) hx hb dX10_init_355 ?o41 ?_
  case o41 => decide
  refine hx_bast hx hb hW hT (hx_S.rf (M := [(57, 0)])) gq_34 tt_57 rfl ?o42 (y := 119) ?o43 ?o44 (List.mem_singleton.mpr rfl) dX10_init_357 (fun H locs h_85 eh_85 hW hT hs => ?_)
  case o42 => decide
  case o43 => decide
  case o44 => decide
  have hcon := hcon.S hs trivial rfl
  have hz := hx_zr [2, 3, 4, 5, 6, 12, 15, 17] hz hs gx trivial rfl
  have hM := hM.tr (hs.mono ?o45)
  case o45 => decide
  have gx := gx.S hs
  have gq_34 := gq_34.S hs
  have cw : ∀ j, j < 51 → h_85.2.1 q_34 j = P_words j := hx_cw cw eh_85 ?o46 ?o47
  case o46 => decide
  case o47 => decide
  refine lv_dup hx hb dX10_init_358 rfl ?_
  refine lv_bipush (v := 51) hx hb dX10_init_359 ?o48 ?_
  case o48 => decide
  refine lv_bipush (v := 110) hx hb dX10_init_361 ?o49 ?_
  case o49 => decide
  refine hx_bast hx hb hW hT (hx_S.rf (M := [(57, 0)])) gq_34 tt_57 rfl ?o50 (y := 110) ?o51 ?o52 (List.mem_singleton.mpr rfl) dX10_init_363 (fun H locs h_86 eh_86 hW hT hs => ?_)
  case o50 => decide
  case o51 => decide
  case o52 => decide
  have hcon := hcon.S hs trivial rfl
  have hz := hx_zr [2, 3, 4, 5, 6, 12, 15, 17] hz hs gx trivial rfl
  have hM := hM.tr (hs.mono ?o53)
  case o53 => decide
  have gx := gx.S hs
  have gq_34 := gq_34.S hs
  have cw : ∀ j, j < 52 → h_86.2.1 q_34 j = P_words j := hx_cw cw eh_86 ?o54 ?o55
  case o54 => decide
  case o55 => decide
  refine lv_dup hx hb dX10_init_364 rfl ?_
  refine lv_bipush (v := 52) hx hb dX10_init_365 ?o56 ?_
  case o56 => decide
  refine lv_iconst (v := 0) hx hb dX10_init_367 ?o57 ?_
  case o57 => decide
  refine hx_bast hx hb hW hT (hx_S.rf (M := [(57, 0)])) gq_34 tt_57 rfl ?o58 (y := 0) ?o59 ?o60 (List.mem_singleton.mpr rfl) dX10_init_368 (fun H locs h_87 eh_87 hW hT hs => ?_)
  case o58 => decide
  case o59 => decide
  case o60 => decide
  have hcon := hcon.S hs trivial rfl
  have hz := hx_zr [2, 3, 4, 5, 6, 12, 15, 17] hz hs gx trivial rfl
  have hM := hM.tr (hs.mono ?o61)
  case o61 => decide
  have gx := gx.S hs
  have gq_34 := gq_34.S hs
  have cw : ∀ j, j < 53 → h_87.2.1 q_34 j = P_words j := hx_cw cw eh_87 ?o62 ?o63
  case o62 => decide
  case o63 => decide
  refine lv_dup hx hb dX10_init_369 rfl ?_
  refine lv_bipush (v := 53) hx hb dX10_init_370 ?o64 ?_
  case o64 => decide
  refine lv_iconst (v := 0) hx hb dX10_init_372 ?o65 ?_
  case o65 => decide
  refine hx_bast hx hb hW hT (hx_S.rf (M := [(57, 0)])) gq_34 tt_57 rfl ?o66 (y := 0) ?o67 ?o68 (List.mem_singleton.mpr rfl) dX10_init_373 (fun H locs h_88 eh_88 hW hT hs => ?_)
  case o66 => decide
  case o67 => decide
  case o68 => decide
  have hcon := hcon.S hs trivial rfl
  have hz := hx_zr [2, 3, 4, 5, 6, 12, 15, 17] hz hs gx trivial rfl
  have hM := hM.tr (hs.mono ?o69)
  case o69 => decide
  have gx := gx.S hs
  have gq_34 := gq_34.S hs
  have cw : ∀ j, j < 54 → h_88.2.1 q_34 j = P_words j := hx_cw cw eh_88 ?o70 ?o71
  case o70 => decide
  case o71 => decide
  refine lv_dup hx hb dX10_init_374 rfl ?_
  refine lv_bipush (v := 54) hx hb dX10_init_375 ?o72 ?_
  case o72 => decide
  refine lv_iconst (v := 0) hx hb dX10_init_377 ?o73 ?_
  case o73 => decide
  refine hx_bast hx hb hW hT (hx_S.rf (M := [(57, 0)])) gq_34 tt_57 rfl ?o74 (y := 0) ?o75 ?o76 (List.mem_singleton.mpr rfl) dX10_init_378 (fun H locs h_89 eh_89 hW hT hs => ?_)
  case o74 => decide
  case o75 => decide
  case o76 => decide
  have hcon := hcon.S hs trivial rfl
  have hz := hx_zr [2, 3, 4, 5, 6, 12, 15, 17] hz hs gx trivial rfl
  have hM := hM.tr (hs.mono ?o77)
  case o77 => decide
  have gx := gx.S hs
  have gq_34 := gq_34.S hs
  have cw : ∀ j, j < 55 → h_89.2.1 q_34 j = P_words j := hx_cw cw eh_89 ?o78 ?o79
  case o78 => decide
  case o79 => decide
  refine lv_dup hx hb dX10_init_379 rfl ?_
  refine lv_bipush (v := 55) hx hb dX10_init_380 ?o80 ?_
  case o80 => decide
  refine lv_iconst (v := 0) hx hb dX10_init_382 ?o81 ?_
  case o81 => decide
  refine hx_bast hx hb hW hT (hx_S.rf (M := [(57, 0)])) gq_34 tt_57 rfl ?o82 (y := 0) ?o83 ?o84 (List.mem_singleton.mpr rfl) dX10_init_383 (fun H locs h_90 eh_90 hW hT hs => ?_)
  case o82 => decide
  case o83 => decide
  case o84 => decide
  have hcon := hcon.S hs trivial rfl
  have hz := hx_zr [2, 3, 4, 5, 6, 12, 15, 17] hz hs gx trivial rfl
  have hM := hM.tr (hs.mono ?o85)
  case o85 => decide
  have gx := gx.S hs
  have gq_34 := gq_34.S hs
  have cw : ∀ j, j < 56 → h_90.2.1 q_34 j = P_words j := hx_cw cw eh_90 ?o86 ?o87
  case o86 => decide
  case o87 => decide
  refine lv_dup hx hb dX10_init_384 rfl ?_
  refine lv_bipush (v := 56) hx hb dX10_init_385 ?o88 ?_
  case o88 => decide
  refine lv_bipush (v := 111) hx hb dX10_init_387 ?o89 ?_
  case o89 => decide
  refine hx_bast hx hb hW hT (hx_S.rf (M := [(57, 0)])) gq_34 tt_57 rfl ?o90 (y := 111) ?o91 ?o92 (List.mem_singleton.mpr rfl) dX10_init_389 (fun H locs h_91 eh_91 hW hT hs => ?_)
  case o90 => decide
  case o91 => decide
  case o92 => decide
  have hcon := hcon.S hs trivial rfl
  have hz := hx_zr [2, 3, 4, 5, 6, 12, 15, 17] hz hs gx trivial rfl
  have hM := hM.tr (hs.mono ?o93)
  case o93 => decide
  have gx := gx.S hs
  have gq_34 := gq_34.S hs
  have cw : ∀ j, j < 57 → h_91.2.1 q_34 j = P_words j := hx_cw cw eh_91 ?o94 ?o95
  case o94 => decide
  case o95 => decide
  refine lv_dup hx hb dX10_init_390 rfl ?_
  refine lv_bipush (v := 57) hx hb dX10_init_391 ?o96 ?_
  case o96 => decide
  refine lv_bipush (v := 116) hx hb dX10_init_393 ?o97 ?_
  case o97 => decide
  refine hx_bast hx hb hW hT (hx_S.rf (M := [(57, 0)])) gq_34 tt_57 rfl ?o98 (y := 116) ?o99 ?o100 (List.mem_singleton.mpr rfl) dX10_init_395 (fun H locs h_92 eh_92 hW hT hs => ?_)
  case o98 => decide
  case o99 => decide
  case o100 => decide
  have hcon := hcon.S hs trivial rfl
  have hz := hx_zr [2, 3, 4, 5, 6, 12, 15, 17] hz hs gx trivial rfl
  have hM := hM.tr (hs.mono ?o101)
  case o101 => decide
  have gx := gx.S hs
  have gq_34 := gq_34.S hs
  have cw : ∀ j, j < 58 → h_92.2.1 q_34 j = P_words j := hx_cw cw eh_92 ?o102 ?o103
  case o102 => decide
  case o103 => decide
  refine lv_dup hx hb dX10_init_396 rfl ?_
  refine lv_bipush (v := 58) hx hb dX10_init_397 ?o104 ?_
  case o104 => decide
  refine lv_bipush (v := 104) hx hb dX10_init_399 ?o105 ?_
  case o105 => decide
  refine hx_bast hx hb hW hT (hx_S.rf (M := [(57, 0)])) gq_34 tt_57 rfl ?o106 (y := 104) ?o107 ?o108 (List.mem_singleton.mpr rfl) dX10_init_401 (fun H locs h_93 eh_93 hW hT hs => ?_)
  case o106 => decide
  case o107 => decide
  case o108 => decide
  have hcon := hcon.S hs trivial rfl
  have hz := hx_zr [2, 3, 4, 5, 6, 12, 15, 17] hz hs gx trivial rfl
  have hM := hM.tr (hs.mono ?o109)
  case o109 => decide
  have gx := gx.S hs
  have gq_34 := gq_34.S hs
  have cw : ∀ j, j < 59 → h_93.2.1 q_34 j = P_words j := hx_cw cw eh_93 ?o110 ?o111
  case o110 => decide
  case o111 => decide
  refine lv_dup hx hb dX10_init_402 rfl ?_
  refine lv_bipush (v := 59) hx hb dX10_init_403 ?o112 ?_
  case o112 => decide
  refine lv_bipush (v := 101) hx hb dX10_init_405 ?o113 ?_
  case o113 => decide
  refine hx_bast hx hb hW hT (hx_S.rf (M := [(57, 0)])) gq_34 tt_57 rfl ?o114 (y := 101) ?o115 ?o116 (List.mem_singleton.mpr rfl) dX10_init_407 (fun H locs h_94 eh_94 hW hT hs => ?_)
  case o114 => decide
  case o115 => decide
  case o116 => decide
  have hcon := hcon.S hs trivial rfl
  have hz := hx_zr [2, 3, 4, 5, 6, 12, 15, 17] hz hs gx trivial rfl
  have hM := hM.tr (hs.mono ?o117)
  case o117 => decide
  have gx := gx.S hs
  have gq_34 := gq_34.S hs
  have cw : ∀ j, j < 60 → h_94.2.1 q_34 j = P_words j := hx_cw cw eh_94 ?o118 ?o119
  case o118 => decide
  case o119 => decide
  refine lv_dup hx hb dX10_init_408 rfl ?_
  refine lv_bipush (v := 60) hx hb dX10_init_409 ?o120 ?_
  case o120 => decide
  refine lv_bipush (v := 114) hx hb dX10_init_411 ?o121 ?_
  case o121 => decide
  refine hx_bast hx hb hW hT (hx_S.rf (M := [(57, 0)])) gq_34 tt_57 rfl ?o122 (y := 114) ?o123 ?o124 (List.mem_singleton.mpr rfl) dX10_init_413 (fun H locs h_95 eh_95 hW hT hs => ?_)
  case o122 => decide
  case o123 => decide
  case o124 => decide
  have hcon := hcon.S hs trivial rfl
  have hz := hx_zr [2, 3, 4, 5, 6, 12, 15, 17] hz hs gx trivial rfl
  have hM := hM.tr (hs.mono ?o125)
  case o125 => decide
  have gx := gx.S hs
  have gq_34 := gq_34.S hs
  have cw : ∀ j, j < 61 → h_95.2.1 q_34 j = P_words j := hx_cw cw eh_95 ?o126 ?o127
  case o126 => decide
  case o127 => decide
  refine lv_dup hx hb dX10_init_414 rfl ?_
  refine lv_bipush (v := 61) hx hb dX10_init_415 ?o128 ?_
  case o128 => decide
  refine lv_iconst (v := 0) hx hb dX10_init_417 ?o129 ?_
  case o129 => decide
  refine hx_bast hx hb hW hT (hx_S.rf (M := [(57, 0)])) gq_34 tt_57 rfl ?o130 (y := 0) ?o131 ?o132 (List.mem_singleton.mpr rfl) dX10_init_418 (fun H locs h_96 eh_96 hW hT hs => ?_)
  case o130 => decide
  case o131 => decide
  case o132 => decide
  have hcon := hcon.S hs trivial rfl
  have hz := hx_zr [2, 3, 4, 5, 6, 12, 15, 17] hz hs gx trivial rfl
  have hM := hM.tr (hs.mono ?o133)
  case o133 => decide
  have gx := gx.S hs
  have gq_34 := gq_34.S hs
  have cw : ∀ j, j < 62 → h_96.2.1 q_34 j = P_words j := hx_cw cw eh_96 ?o134 ?o135
  case o134 => decide
  case o135 => decide
  refine lv_dup hx hb dX10_init_419 rfl ?_
  refine lv_bipush (v := 62) hx hb dX10_init_420 ?o136 ?_
  case o136 => decide
  refine lv_iconst (v := 0) hx hb dX10_init_422 ?o137 ?_
  case o137 => decide
  refine hx_bast hx hb hW hT (hx_S.rf (M := [(57, 0)])) gq_34 tt_57 rfl ?o138 (y := 0) ?o139 ?o140 (List.mem_singleton.mpr rfl) dX10_init_423 (fun H locs h_97 eh_97 hW hT hs => ?_)
  case o138 => decide
  case o139 => decide
  case o140 => decide
  have hcon := hcon.S hs trivial rfl
  have hz := hx_zr [2, 3, 4, 5, 6, 12, 15, 17] hz hs gx trivial rfl
  have hM := hM.tr (hs.mono ?o141)
  case o141 => decide
  have gx := gx.S hs
  have gq_34 := gq_34.S hs
  have cw : ∀ j, j < 63 → h_97.2.1 q_34 j = P_words j := hx_cw cw eh_97 ?o142 ?o143
  case o142 => decide
  case o143 => decide
  refine lv_dup hx hb dX10_init_424 rfl ?_
  refine lv_bipush (v := 63) hx hb dX10_init_425 ?o144 ?_
  case o144 => decide
  refine lv_bipush (v := 97) hx hb dX10_init_427 ?o145 ?_
  case o145 => decide
  refine hx_bast hx hb hW hT (hx_S.rf (M := [(57, 0)])) gq_34 tt_57 rfl ?o146 (y := 97) ?o147 ?o148 (List.mem_singleton.mpr rfl) dX10_init_429 (fun H locs h_98 eh_98 hW hT hs => ?_)
  case o146 => decide
  case o147 => decide
  case o148 => decide
  have hcon := hcon.S hs trivial rfl
  have hz := hx_zr [2, 3, 4, 5, 6, 12, 15, 17] hz hs gx trivial rfl
  have hM := hM.tr (hs.mono ?o149)
  case o149 => decide
  have gx := gx.S hs
  have gq_34 := gq_34.S hs
  have cw : ∀ j, j < 64 → h_98.2.1 q_34 j = P_words j := hx_cw cw eh_98 ?o150 ?o151
  case o150 => decide
  case o151 => decide
  refine lv_dup hx hb dX10_init_430 rfl ?_
  refine lv_bipush (v := 64) hx hb dX10_init_431 ?o152 ?_
  case o152 => decide
  refine lv_bipush (v := 108) hx hb dX10_init_433 ?o153 ?_
  case o153 => decide
  refine hx_bast hx hb hW hT (hx_S.rf (M := [(57, 0)])) gq_34 tt_57 rfl ?o154 (y := 108) ?o155 ?o156 (List.mem_singleton.mpr rfl) dX10_init_435 (fun H locs h_99 eh_99 hW hT hs => ?_)
  case o154 => decide
  case o155 => decide
  case o156 => decide
  have hcon := hcon.S hs trivial rfl
  have hz := hx_zr [2, 3, 4, 5, 6, 12, 15, 17] hz hs gx trivial rfl
  have hM := hM.tr (hs.mono ?o157)
  case o157 => decide
  have gx := gx.S hs
  have gq_34 := gq_34.S hs
  have cw : ∀ j, j < 65 → h_99.2.1 q_34 j = P_words j := hx_cw cw eh_99 ?o158 ?o159
  case o158 => decide
  case o159 => decide
  exact si_3 l dC dI dA L h sz b0 x q_34 hx hb hml hr hlk hts hown hin hsz hZ L1 h_99 _ _ ls hW hT hM gx hcon hz gq_34  cw hl

set_option maxHeartbeats 4000000 in
set_option maxRecDepth 100000 in
theorem si_1 (l : Launch) (dC : Nat → ClassId) (dI : Nat → Nat → Nat) (dA : Nat → ClassId) (L : List Nat) (h : hx_h) (sz : Nat) (b0 : hx_z) (x : Nat) (q_34 : Nat) {p : Program} {e : Env} {s : State} {m : MethodId} {below : List Frame} {meth : Method} {c : Code} (hx : p.tables.exec = Jvm.exec) (hb : c.code = cX10_init) (hml : c.maxLocals = 2) (hr : meth.sig.returnType = none) (hlk : meth.locks = false) (hts : ∀ w ∈ hx_all, w.before ([.ref x] : List Value).toArray s = true) (hown : s.vm.findClass "SmallCourtModel" = some m.cls) (hin : meth.name = "<init>") (hsz : s.heap.size = sz) (hZ : hx_Xt (hx_A L sz) b0 s) (L1 : List Nat) (hl1 : hx_h) (H : Heap) (locs : List Loc) (ls : Array Slot) (hW : hx_W T_tb (P_ty dA) (dC, dI) vwCl (hx_A L sz) s.heap L1 hl1 s H locs) (hT : hx_T T_tb L1 hl1) (hM : hx_S T_tb [(10, 14), (10, 16), (10, 18), (50, 0), (51, 0), (52, 0), (55, 0), (57, 0), (126, 2), (126, 3), (126, 4), (126, 5), (126, 6), (126, 12), (126, 15), (126, 17), (126, 19), (126, 21), (126, 22), (126, 23), (126, 24), (126, 25), (126, 26), (126, 27), (126, 28), (126, 30), (126, 31), (126, 32), (126, 33), (126, 34), (126, 35), (126, 37), (126, 38), (126, 39), (126, 40), (126, 41), (126, 42), (126, 43), (126, 44), (126, 45), (126, 46), (126, 47), (126, 48), (126, 49), (126, 50), (126, 51), (126, 52), (126, 53), (126, 54), (126, 55), (126, 56), (126, 58), (126, 60), (126, 61), (126, 62), (126, 63), (126, 64), (126, 65), (126, 66), (126, 73), (126, 74), (126, 76), (126, 77), (126, 78), (126, 79), (126, 80), (126, 81), (126, 82), (126, 85), (126, 88), (126, 89), (126, 91), (126, 93), (126, 94), (126, 97)] (hx_X L x) h L1 hl1) (gx : hx_g L1 hl1 x 126) (hcon : hx_con L1 hl1 x 126 [(17, 56, false), (15, 55, false), (12, 54, false), (6, 53, true), (5, 52, false), (4, 51, false), (3, 50, false), (2, 49, false)] []) (hz : ∀ j, [2, 3, 4, 5, 6, 12, 15, 17].contains j = false → hl1.2.1 x j = 0 ∧ hl1.2.2 x j = none) (gq_34 : hx_g L1 hl1 q_34 57)  (cw : ∀ j, j < 25 → hl1.2.1 q_34 j = P_words j) (hl : lv_has ls 2 [(0, .ref x)]) : W p l e ({ frames := 2, cells := 67, slots := 15340, locals := 42 }) s m ([.ref x] : List Value).toArray below meth c H locs 9 2131 (MQ below (va_Qv (fun (u : List Nat × hx_h) => hx_T T_tb u.1 u.2 ∧ hx_S T_tb [(10, 14), (10, 16), (10, 18), (50, 0), (51, 0), (52, 0), (55, 0), (57, 0), (126, 2), (126, 3), (126, 4), (126, 5), (126, 6), (126, 12), (126, 15), (126, 17), (126, 19), (126, 21), (126, 22), (126, 23), (126, 24), (126, 25), (126, 26), (126, 27), (126, 28), (126, 30), (126, 31), (126, 32), (126, 33), (126, 34), (126, 35), (126, 37), (126, 38), (126, 39), (126, 40), (126, 41), (126, 42), (126, 43), (126, 44), (126, 45), (126, 46), (126, 47), (126, 48), (126, 49), (126, 50), (126, 51), (126, 52), (126, 53), (126, 54), (126, 55), (126, 56), (126, 58), (126, 60), (126, 61), (126, 62), (126, 63), (126, 64), (126, 65), (126, 66), (126, 73), (126, 74), (126, 76), (126, 77), (126, 78), (126, 79), (126, 80), (126, 81), (126, 82), (126, 85), (126, 88), (126, 89), (126, 91), (126, 93), (126, 94), (126, 97)] (hx_X L x) h u.1 u.2 ∧ hx_g u.1 u.2 x 10 ∧ u.2.2.1 x 0 = 0 ∧ u.2.2.1 x 1 = 0 ∧ u.2.2.1 x 36 = 0 ∧ u.2.2.1 x 57 = 0 ∧ u.2.2.1 x 7 = 0 ∧ u.2.2.1 x 20 = 0 ∧ u.2.2.1 x 29 = 0 ∧ u.2.2.1 x 59 = 0 ∧ u.2.2.1 x 72 = 0 ∧ u.2.2.1 x 83 = 0 ∧ u.2.2.1 x 84 = 0 ∧ u.2.2.1 x 90 = 0 ∧ u.2.2.1 x 92 = 0 ∧ ∃ q_words q_rule q_proofSteps q_proof q_tries q_isDead q_isJudge q_found q_list q_judged q_weekly q_owed q_doorX q_doorY q_tape q_born q_kin q_sum q_filed q_owedFrom q_heard q_ordered q_goods q_seized q_served q_earns q_heads q_payOf q_payDay q_paySum q_payKnown q_payStruck q_actDay : Nat, u.2.2.2 x 19 = some q_words ∧ hx_g u.1 u.2 q_words 57 ∧ u.2.2.2 x 3 = some q_rule ∧ hx_g u.1 u.2 q_rule 50 ∧ u.2.2.2 x 4 = some q_proofSteps ∧ hx_g u.1 u.2 q_proofSteps 51 ∧ u.2.2.2 x 5 = some q_proof ∧ hx_g u.1 u.2 q_proof 52 ∧ u.2.2.2 x 45 = some q_tries ∧ hx_g u.1 u.2 q_tries 80 ∧ u.2.2.2 x 27 = some q_isDead ∧ hx_g u.1 u.2 q_isDead 64 ∧ u.2.2.2 x 28 = some q_isJudge ∧ hx_g u.1 u.2 q_isJudge 65 ∧ u.2.2.2 x 46 = some q_found ∧ hx_g u.1 u.2 q_found 81 ∧ u.2.2.2 x 91 = some q_list ∧ hx_g u.1 u.2 q_list 112 ∧ u.2.2.2 x 51 = some q_judged ∧ hx_g u.1 u.2 q_judged 86 ∧ u.2.2.2 x 54 = some q_weekly ∧ hx_g u.1 u.2 q_weekly 89 ∧ u.2.2.2 x 55 = some q_owed ∧ hx_g u.1 u.2 q_owed 90 ∧ u.2.2.2 x 24 = some q_doorX ∧ hx_g u.1 u.2 q_doorX 61 ∧ u.2.2.2 x 25 = some q_doorY ∧ hx_g u.1 u.2 q_doorY 62 ∧ u.2.2.2 x 6 = some q_tape ∧ hx_g u.1 u.2 q_tape 53 ∧ u.2.2.2 x 21 = some q_born ∧ hx_g u.1 u.2 q_born 58 ∧ u.2.2.2 x 26 = some q_kin ∧ hx_g u.1 u.2 q_kin 63 ∧ u.2.2.2 x 39 = some q_sum ∧ hx_g u.1 u.2 q_sum 74 ∧ u.2.2.2 x 43 = some q_filed ∧ hx_g u.1 u.2 q_filed 78 ∧ u.2.2.2 x 40 = some q_owedFrom ∧ hx_g u.1 u.2 q_owedFrom 75 ∧ u.2.2.2 x 47 = some q_heard ∧ hx_g u.1 u.2 q_heard 82 ∧ u.2.2.2 x 48 = some q_ordered ∧ hx_g u.1 u.2 q_ordered 83 ∧ u.2.2.2 x 56 = some q_goods ∧ hx_g u.1 u.2 q_goods 91 ∧ u.2.2.2 x 49 = some q_seized ∧ hx_g u.1 u.2 q_seized 84 ∧ u.2.2.2 x 50 = some q_served ∧ hx_g u.1 u.2 q_served 85 ∧ u.2.2.2 x 22 = some q_earns ∧ hx_g u.1 u.2 q_earns 59 ∧ u.2.2.2 x 23 = some q_heads ∧ hx_g u.1 u.2 q_heads 60 ∧ u.2.2.2 x 60 = some q_payOf ∧ hx_g u.1 u.2 q_payOf 93 ∧ u.2.2.2 x 61 = some q_payDay ∧ hx_g u.1 u.2 q_payDay 94 ∧ u.2.2.2 x 62 = some q_paySum ∧ hx_g u.1 u.2 q_paySum 95 ∧ u.2.2.2 x 63 = some q_payKnown ∧ hx_g u.1 u.2 q_payKnown 96 ∧ u.2.2.2 x 64 = some q_payStruck ∧ hx_g u.1 u.2 q_payStruck 97 ∧ u.2.2.2 x 2 = some q_actDay ∧ hx_g u.1 u.2 q_actDay 49 ∧ hx_wd (u.2.2.1 q_words) ∧ hx_WK (u.2.2.1 q_rule) 0 ∧ hx_RP (u.2.2.1 q_proof) (u.2.2.1 q_proofSteps) 0 ∧ (∀ j, u.2.2.1 q_tries j = 0) ∧ (∀ j, u.2.2.1 q_isDead j = 0) ∧ (∀ j, u.2.2.1 q_isJudge j = 0) ∧ (∀ j, u.2.2.1 q_found j = 0) ∧ (∀ j, u.2.2.1 q_list j = 0) ∧ (∀ j, u.2.2.1 q_judged j = 0) ∧ (∀ j, u.2.2.1 q_weekly j = 0) ∧ (∀ j, u.2.2.1 q_owed j = 0) ∧ (∀ j, u.2.2.1 q_doorX j = 0) ∧ (∀ j, u.2.2.1 q_doorY j = 0) ∧ (∀ j, u.2.2.1 q_tape j = 0) ∧ (∀ j, u.2.2.1 q_born j = 0) ∧ (∀ j, u.2.2.1 q_kin j = 0) ∧ (∀ j, u.2.2.1 q_sum j = 0) ∧ (∀ j, u.2.2.1 q_filed j = 0) ∧ (∀ j, u.2.2.1 q_owedFrom j = 0) ∧ (∀ j, u.2.2.1 q_heard j = 0) ∧ (∀ j, u.2.2.1 q_ordered j = 0) ∧ (∀ j, u.2.2.1 q_goods j = 0) ∧ (∀ j, u.2.2.1 q_seized j = 0) ∧ (∀ j, u.2.2.1 q_served j = 0) ∧ (∀ j, u.2.2.1 q_earns j = 0) ∧ (∀ j, u.2.2.1 q_heads j = 0) ∧ (∀ j, u.2.2.1 q_payOf j = 0) ∧ (∀ j, u.2.2.1 q_payDay j = 0) ∧ (∀ j, u.2.2.1 q_paySum j = 0) ∧ (∀ j, u.2.2.1 q_payKnown j = 0) ∧ (∀ j, u.2.2.1 q_payStruck j = 0) ∧ hv_CA (u.2.2.1 q_actDay) (u.2.2.1 q_rule) (u.2.2.1 q_proofSteps) (u.2.2.1 q_proof) 0 (fun _ => hv_A0)) (hx_E T_tb (P_ty dA) (dC, dI) vwCl (hx_A L sz)) (hx_A L sz)) ([.ref x] : List Value).toArray s 67 15340 (hx_A L sz)) (F0 m 209 ls [.ref q_34, .ref x]) := by
  refine lv_dup hx hb dX10_init_209 rfl ?_
  refine lv_bipush (v := 25) hx hb dX10_init_210 ?o0 ?_
  case o0 => decide
  refine lv_iconst (v := 0) hx hb dX10_init_212 ?o1 ?_
  case o1 => decide
  refine hx_bast hx hb hW hT (hx_S.rf (M := [(57, 0)])) gq_34 tt_57 rfl ?o2 (y := 0) ?o3 ?o4 (List.mem_singleton.mpr rfl) dX10_init_213 (fun H locs h_60 eh_60 hW hT hs => ?_)
  case o2 => decide
  case o3 => decide
  case o4 => decide
  have hcon := hcon.S hs trivial rfl
  have hz := hx_zr [2, 3, 4, 5, 6, 12, 15, 17] hz hs gx trivial rfl
  have hM := hM.tr (hs.mono ?o5)
  case o5 => decide
  have gx := gx.S hs
  have gq_34 := gq_34.S hs
  have cw : ∀ j, j < 26 → h_60.2.1 q_34 j = P_words j := hx_cw cw eh_60 ?o6 ?o7
  case o6 => decide
  case o7 => decide
  refine lv_dup hx hb dX10_init_214 rfl ?_
  refine lv_bipush (v := 26) hx hb dX10_init_215 ?o8 ?_
  case o8 => decide
  refine lv_iconst (v := 0) hx hb dX10_init_217 ?o9 ?_
  case o9 => decide
  refine hx_bast hx hb hW hT (hx_S.rf (M := [(57, 0)])) gq_34 tt_57 rfl ?o10 (y := 0) ?o11 ?o12 (List.mem_singleton.mpr rfl) dX10_init_218 (fun H locs h_61 eh_61 hW hT hs => ?_)
  case o10 => decide
  case o11 => decide
  case o12 => decide
  have hcon := hcon.S hs trivial rfl
  have hz := hx_zr [2, 3, 4, 5, 6, 12, 15, 17] hz hs gx trivial rfl
  have hM := hM.tr (hs.mono ?o13)
  case o13 => decide
  have gx := gx.S hs
  have gq_34 := gq_34.S hs
  have cw : ∀ j, j < 27 → h_61.2.1 q_34 j = P_words j := hx_cw cw eh_61 ?o14 ?o15
  case o14 => decide
  case o15 => decide
  refine lv_dup hx hb dX10_init_219 rfl ?_
  refine lv_bipush (v := 27) hx hb dX10_init_220 ?o16 ?_
  case o16 => decide
  refine lv_iconst (v := 0) hx hb dX10_init_222 ?o17 ?_
  case o17 => decide
  refine hx_bast hx hb hW hT (hx_S.rf (M := [(57, 0)])) gq_34 tt_57 rfl ?o18 (y := 0) ?o19 ?o20 (List.mem_singleton.mpr rfl) dX10_init_223 (fun H locs h_62 eh_62 hW hT hs => ?_)
  case o18 => decide
  case o19 => decide
  case o20 => decide
  have hcon := hcon.S hs trivial rfl
  have hz := hx_zr [2, 3, 4, 5, 6, 12, 15, 17] hz hs gx trivial rfl
  have hM := hM.tr (hs.mono ?o21)
  case o21 => decide
  have gx := gx.S hs
  have gq_34 := gq_34.S hs
  have cw : ∀ j, j < 28 → h_62.2.1 q_34 j = P_words j := hx_cw cw eh_62 ?o22 ?o23
  case o22 => decide
  case o23 => decide
  refine lv_dup hx hb dX10_init_224 rfl ?_
  refine lv_bipush (v := 28) hx hb dX10_init_225 ?o24 ?_
  case o24 => decide
  refine lv_bipush (v := 100) hx hb dX10_init_227 ?o25 ?_
  case o25 => decide
  refine hx_bast hx hb hW hT (hx_S.rf (M := [(57, 0)])) gq_34 tt_57 rfl ?o26 (y := 100) ?o27 ?o28 (List.mem_singleton.mpr rfl) dX10_init_229 (fun H locs h_63 eh_63 hW hT hs => ?_)
  case o26 => decide
  case o27 => decide
  case o28 => decide
  have hcon := hcon.S hs trivial rfl
  have hz := hx_zr [2, 3, 4, 5, 6, 12, 15, 17] hz hs gx trivial rfl
  have hM := hM.tr (hs.mono ?o29)
  case o29 => decide
  have gx := gx.S hs
  have gq_34 := gq_34.S hs
  have cw : ∀ j, j < 29 → h_63.2.1 q_34 j = P_words j := hx_cw cw eh_63 ?o30 ?o31
  case o30 => decide
  case o31 => decide
  refine lv_dup hx hb dX10_init_230 rfl ?_
  refine lv_bipush (v := 29) hx hb dX10_init_231 ?o32 ?_
  case o32 => decide
  refine lv_bipush (v := 101) hx hb dX10_init_233 ?o33 ?_
  case o33 => decide
  refine hx_bast hx hb hW hT (hx_S.rf (M := [(57, 0)])) gq_34 tt_57 rfl ?o34 (y := 101) ?o35 ?o36 (List.mem_singleton.mpr rfl) dX10_init_235 (fun H locs h_64 eh_64 hW hT hs => ?_)
  case o34 => decide
  case o35 => decide
  case o36 => decide
  have hcon := hcon.S hs trivial rfl
  have hz := hx_zr [2, 3, 4, 5, 6, 12, 15, 17] hz hs gx trivial rfl
  have hM := hM.tr (hs.mono ?o37)
  case o37 => decide
  have gx := gx.S hs
  have gq_34 := gq_34.S hs
  have cw : ∀ j, j < 30 → h_64.2.1 q_34 j = P_words j := hx_cw cw eh_64 ?o38 ?o39
  case o38 => decide
  case o39 => decide
  refine lv_dup hx hb dX10_init_236 rfl ?_
  refine lv_bipush (v := 30) hx hb dX10_init_237 ?o40 ?_
  case o40 => decide
  refine lv_bipush (v := 110) hx hb dX10_init_239 ?o41 ?_
  case o41 => decide
  refine hx_bast hx hb hW hT (hx_S.rf (M := [(57, 0)])) gq_34 tt_57 rfl ?o42 (y := 110) ?o43 ?o44 (List.mem_singleton.mpr rfl) dX10_init_241 (fun H locs h_65 eh_65 hW hT hs => ?_)
  case o42 => decide
  case o43 => decide
  case o44 => decide
  have hcon := hcon.S hs trivial rfl
  have hz := hx_zr [2, 3, 4, 5, 6, 12, 15, 17] hz hs gx trivial rfl
  have hM := hM.tr (hs.mono ?o45)
  case o45 => decide
  have gx := gx.S hs
  have gq_34 := gq_34.S hs
  have cw : ∀ j, j < 31 → h_65.2.1 q_34 j = P_words j := hx_cw cw eh_65 ?o46 ?o47
  case o46 => decide
  case o47 => decide
  refine lv_dup hx hb dX10_init_242 rfl ?_
  refine lv_bipush (v := 31) hx hb dX10_init_243 ?o48 ?_
  case o48 => decide
  refine lv_bipush (v := 105) hx hb dX10_init_245 ?o49 ?_
  case o49 => decide
  refine hx_bast hx hb hW hT (hx_S.rf (M := [(57, 0)])) gq_34 tt_57 rfl ?o50 (y := 105) ?o51 ?o52 (List.mem_singleton.mpr rfl) dX10_init_247 (fun H locs h_66 eh_66 hW hT hs => ?_)
  case o50 => decide
  case o51 => decide
  case o52 => decide
  have hcon := hcon.S hs trivial rfl
  have hz := hx_zr [2, 3, 4, 5, 6, 12, 15, 17] hz hs gx trivial rfl
  have hM := hM.tr (hs.mono ?o53)
  case o53 => decide
  have gx := gx.S hs
  have gq_34 := gq_34.S hs
  have cw : ∀ j, j < 32 → h_66.2.1 q_34 j = P_words j := hx_cw cw eh_66 ?o54 ?o55
  case o54 => decide
  case o55 => decide
  refine lv_dup hx hb dX10_init_248 rfl ?_
  refine lv_bipush (v := 32) hx hb dX10_init_249 ?o56 ?_
  case o56 => decide
  refine lv_bipush (v := 101) hx hb dX10_init_251 ?o57 ?_
  case o57 => decide
  refine hx_bast hx hb hW hT (hx_S.rf (M := [(57, 0)])) gq_34 tt_57 rfl ?o58 (y := 101) ?o59 ?o60 (List.mem_singleton.mpr rfl) dX10_init_253 (fun H locs h_67 eh_67 hW hT hs => ?_)
  case o58 => decide
  case o59 => decide
  case o60 => decide
  have hcon := hcon.S hs trivial rfl
  have hz := hx_zr [2, 3, 4, 5, 6, 12, 15, 17] hz hs gx trivial rfl
  have hM := hM.tr (hs.mono ?o61)
  case o61 => decide
  have gx := gx.S hs
  have gq_34 := gq_34.S hs
  have cw : ∀ j, j < 33 → h_67.2.1 q_34 j = P_words j := hx_cw cw eh_67 ?o62 ?o63
  case o62 => decide
  case o63 => decide
  refine lv_dup hx hb dX10_init_254 rfl ?_
  refine lv_bipush (v := 33) hx hb dX10_init_255 ?o64 ?_
  case o64 => decide
  refine lv_bipush (v := 100) hx hb dX10_init_257 ?o65 ?_
  case o65 => decide
  refine hx_bast hx hb hW hT (hx_S.rf (M := [(57, 0)])) gq_34 tt_57 rfl ?o66 (y := 100) ?o67 ?o68 (List.mem_singleton.mpr rfl) dX10_init_259 (fun H locs h_68 eh_68 hW hT hs => ?_)
  case o66 => decide
  case o67 => decide
  case o68 => decide
  have hcon := hcon.S hs trivial rfl
  have hz := hx_zr [2, 3, 4, 5, 6, 12, 15, 17] hz hs gx trivial rfl
  have hM := hM.tr (hs.mono ?o69)
  case o69 => decide
  have gx := gx.S hs
  have gq_34 := gq_34.S hs
  have cw : ∀ j, j < 34 → h_68.2.1 q_34 j = P_words j := hx_cw cw eh_68 ?o70 ?o71
  case o70 => decide
  case o71 => decide
  refine lv_dup hx hb dX10_init_260 rfl ?_
  refine lv_bipush (v := 34) hx hb dX10_init_261 ?o72 ?_
  case o72 => decide
  refine lv_iconst (v := 0) hx hb dX10_init_263 ?o73 ?_
  case o73 => decide
  refine hx_bast hx hb hW hT (hx_S.rf (M := [(57, 0)])) gq_34 tt_57 rfl ?o74 (y := 0) ?o75 ?o76 (List.mem_singleton.mpr rfl) dX10_init_264 (fun H locs h_69 eh_69 hW hT hs => ?_)
  case o74 => decide
  case o75 => decide
  case o76 => decide
  have hcon := hcon.S hs trivial rfl
  have hz := hx_zr [2, 3, 4, 5, 6, 12, 15, 17] hz hs gx trivial rfl
  have hM := hM.tr (hs.mono ?o77)
  case o77 => decide
  have gx := gx.S hs
  have gq_34 := gq_34.S hs
  have cw : ∀ j, j < 35 → h_69.2.1 q_34 j = P_words j := hx_cw cw eh_69 ?o78 ?o79
  case o78 => decide
  case o79 => decide
  refine lv_dup hx hb dX10_init_265 rfl ?_
  refine lv_bipush (v := 35) hx hb dX10_init_266 ?o80 ?_
  case o80 => decide
  refine lv_bipush (v := 110) hx hb dX10_init_268 ?o81 ?_
  case o81 => decide
  refine hx_bast hx hb hW hT (hx_S.rf (M := [(57, 0)])) gq_34 tt_57 rfl ?o82 (y := 110) ?o83 ?o84 (List.mem_singleton.mpr rfl) dX10_init_270 (fun H locs h_70 eh_70 hW hT hs => ?_)
  case o82 => decide
  case o83 => decide
  case o84 => decide
  have hcon := hcon.S hs trivial rfl
  have hz := hx_zr [2, 3, 4, 5, 6, 12, 15, 17] hz hs gx trivial rfl
  have hM := hM.tr (hs.mono ?o85)
  case o85 => decide
  have gx := gx.S hs
  have gq_34 := gq_34.S hs
  have cw : ∀ j, j < 36 → h_70.2.1 q_34 j = P_words j := hx_cw cw eh_70 ?o86 ?o87
  case o86 => decide
  case o87 => decide
  refine lv_dup hx hb dX10_init_271 rfl ?_
  refine lv_bipush (v := 36) hx hb dX10_init_272 ?o88 ?_
  case o88 => decide
  refine lv_bipush (v := 111) hx hb dX10_init_274 ?o89 ?_
  case o89 => decide
  refine hx_bast hx hb hW hT (hx_S.rf (M := [(57, 0)])) gq_34 tt_57 rfl ?o90 (y := 111) ?o91 ?o92 (List.mem_singleton.mpr rfl) dX10_init_276 (fun H locs h_71 eh_71 hW hT hs => ?_)
  case o90 => decide
  case o91 => decide
  case o92 => decide
  have hcon := hcon.S hs trivial rfl
  have hz := hx_zr [2, 3, 4, 5, 6, 12, 15, 17] hz hs gx trivial rfl
  have hM := hM.tr (hs.mono ?o93)
  case o93 => decide
  have gx := gx.S hs
  have gq_34 := gq_34.S hs
  have cw : ∀ j, j < 37 → h_71.2.1 q_34 j = P_words j := hx_cw cw eh_71 ?o94 ?o95
  case o94 => decide
  case o95 => decide
  refine lv_dup hx hb dX10_init_277 rfl ?_
  refine lv_bipush (v := 37) hx hb dX10_init_278 ?o96 ?_
  case o96 => decide
  refine lv_bipush (v := 116) hx hb dX10_init_280 ?o97 ?_
  case o97 => decide
  refine hx_bast hx hb hW hT (hx_S.rf (M := [(57, 0)])) gq_34 tt_57 rfl ?o98 (y := 116) ?o99 ?o100 (List.mem_singleton.mpr rfl) dX10_init_282 (fun H locs h_72 eh_72 hW hT hs => ?_)
  case o98 => decide
  case o99 => decide
  case o100 => decide
  have hcon := hcon.S hs trivial rfl
  have hz := hx_zr [2, 3, 4, 5, 6, 12, 15, 17] hz hs gx trivial rfl
  have hM := hM.tr (hs.mono ?o101)
  case o101 => decide
  have gx := gx.S hs
  have gq_34 := gq_34.S hs
  have cw : ∀ j, j < 38 → h_72.2.1 q_34 j = P_words j := hx_cw cw eh_72 ?o102 ?o103
  case o102 => decide
  case o103 => decide
  refine lv_dup hx hb dX10_init_283 rfl ?_
  refine lv_bipush (v := 38) hx hb dX10_init_284 ?o104 ?_
  case o104 => decide
  refine lv_bipush (v := 101) hx hb dX10_init_286 ?o105 ?_
  case o105 => decide
  refine hx_bast hx hb hW hT (hx_S.rf (M := [(57, 0)])) gq_34 tt_57 rfl ?o106 (y := 101) ?o107 ?o108 (List.mem_singleton.mpr rfl) dX10_init_288 (fun H locs h_73 eh_73 hW hT hs => ?_)
  case o106 => decide
  case o107 => decide
  case o108 => decide
  have hcon := hcon.S hs trivial rfl
  have hz := hx_zr [2, 3, 4, 5, 6, 12, 15, 17] hz hs gx trivial rfl
  have hM := hM.tr (hs.mono ?o109)
  case o109 => decide
  have gx := gx.S hs
  have gq_34 := gq_34.S hs
  have cw : ∀ j, j < 39 → h_73.2.1 q_34 j = P_words j := hx_cw cw eh_73 ?o110 ?o111
  case o110 => decide
  case o111 => decide
  refine lv_dup hx hb dX10_init_289 rfl ?_
  refine lv_bipush (v := 39) hx hb dX10_init_290 ?o112 ?_
  case o112 => decide
  refine lv_iconst (v := 0) hx hb dX10_init_292 ?o113 ?_
  case o113 => decide
  refine hx_bast hx hb hW hT (hx_S.rf (M := [(57, 0)])) gq_34 tt_57 rfl ?o114 (y := 0) ?o115 ?o116 (List.mem_singleton.mpr rfl) dX10_init_293 (fun H locs h_74 eh_74 hW hT hs => ?_)
  case o114 => decide
  case o115 => decide
  case o116 => decide
  have hcon := hcon.S hs trivial rfl
  have hz := hx_zr [2, 3, 4, 5, 6, 12, 15, 17] hz hs gx trivial rfl
  have hM := hM.tr (hs.mono ?o117)
  case o117 => decide
  have gx := gx.S hs
  have gq_34 := gq_34.S hs
  have cw : ∀ j, j < 40 → h_74.2.1 q_34 j = P_words j := hx_cw cw eh_74 ?o118 ?o119
  case o118 => decide
  case o119 => decide
  refine lv_dup hx hb dX10_init_294 rfl ?_
  refine lv_bipush (v := 40) hx hb dX10_init_295 ?o120 ?_
  case o120 => decide
  refine lv_iconst (v := 0) hx hb dX10_init_297 ?o121 ?_
  case o121 => decide
  refine hx_bast hx hb hW hT (hx_S.rf (M := [(57, 0)])) gq_34 tt_57 rfl ?o122 (y := 0) ?o123 ?o124 (List.mem_singleton.mpr rfl) dX10_init_298 (fun H locs h_75 eh_75 hW hT hs => ?_)
  case o122 => decide
  case o123 => decide
  case o124 => decide
  have hcon := hcon.S hs trivial rfl
  have hz := hx_zr [2, 3, 4, 5, 6, 12, 15, 17] hz hs gx trivial rfl
  have hM := hM.tr (hs.mono ?o125)
  case o125 => decide
  have gx := gx.S hs
  have gq_34 := gq_34.S hs
  have cw : ∀ j, j < 41 → h_75.2.1 q_34 j = P_words j := hx_cw cw eh_75 ?o126 ?o127
  case o126 => decide
  case o127 => decide
  refine lv_dup hx hb dX10_init_299 rfl ?_
  refine lv_bipush (v := 41) hx hb dX10_init_300 ?o128 ?_
  case o128 => decide
  refine lv_iconst (v := 0) hx hb dX10_init_302 ?o129 ?_
  case o129 => decide
  refine hx_bast hx hb hW hT (hx_S.rf (M := [(57, 0)])) gq_34 tt_57 rfl ?o130 (y := 0) ?o131 ?o132 (List.mem_singleton.mpr rfl) dX10_init_303 (fun H locs h_76 eh_76 hW hT hs => ?_)
  case o130 => decide
  case o131 => decide
  case o132 => decide
  have hcon := hcon.S hs trivial rfl
  have hz := hx_zr [2, 3, 4, 5, 6, 12, 15, 17] hz hs gx trivial rfl
  have hM := hM.tr (hs.mono ?o133)
  case o133 => decide
  have gx := gx.S hs
  have gq_34 := gq_34.S hs
  have cw : ∀ j, j < 42 → h_76.2.1 q_34 j = P_words j := hx_cw cw eh_76 ?o134 ?o135
  case o134 => decide
  case o135 => decide
  refine lv_dup hx hb dX10_init_304 rfl ?_
  refine lv_bipush (v := 42) hx hb dX10_init_305 ?o136 ?_
  case o136 => decide
  refine lv_bipush (v := 119) hx hb dX10_init_307 ?o137 ?_
  case o137 => decide
  refine hx_bast hx hb hW hT (hx_S.rf (M := [(57, 0)])) gq_34 tt_57 rfl ?o138 (y := 119) ?o139 ?o140 (List.mem_singleton.mpr rfl) dX10_init_309 (fun H locs h_77 eh_77 hW hT hs => ?_)
  case o138 => decide
  case o139 => decide
  case o140 => decide
  have hcon := hcon.S hs trivial rfl
  have hz := hx_zr [2, 3, 4, 5, 6, 12, 15, 17] hz hs gx trivial rfl
  have hM := hM.tr (hs.mono ?o141)
  case o141 => decide
  have gx := gx.S hs
  have gq_34 := gq_34.S hs
  have cw : ∀ j, j < 43 → h_77.2.1 q_34 j = P_words j := hx_cw cw eh_77 ?o142 ?o143
  case o142 => decide
  case o143 => decide
  refine lv_dup hx hb dX10_init_310 rfl ?_
  refine lv_bipush (v := 43) hx hb dX10_init_311 ?o144 ?_
  case o144 => decide
  refine lv_bipush (v := 105) hx hb dX10_init_313 ?o145 ?_
  case o145 => decide
  refine hx_bast hx hb hW hT (hx_S.rf (M := [(57, 0)])) gq_34 tt_57 rfl ?o146 (y := 105) ?o147 ?o148 (List.mem_singleton.mpr rfl) dX10_init_315 (fun H locs h_78 eh_78 hW hT hs => ?_)
  case o146 => decide
  case o147 => decide
  case o148 => decide
  have hcon := hcon.S hs trivial rfl
  have hz := hx_zr [2, 3, 4, 5, 6, 12, 15, 17] hz hs gx trivial rfl
  have hM := hM.tr (hs.mono ?o149)
  case o149 => decide
  have gx := gx.S hs
  have gq_34 := gq_34.S hs
  have cw : ∀ j, j < 44 → h_78.2.1 q_34 j = P_words j := hx_cw cw eh_78 ?o150 ?o151
  case o150 => decide
  case o151 => decide
  refine lv_dup hx hb dX10_init_316 rfl ?_
  refine lv_bipush (v := 44) hx hb dX10_init_317 ?o152 ?_
  case o152 => decide
  refine lv_bipush (v := 116) hx hb dX10_init_319 ?o153 ?_
  case o153 => decide
  refine hx_bast hx hb hW hT (hx_S.rf (M := [(57, 0)])) gq_34 tt_57 rfl ?o154 (y := 116) ?o155 ?o156 (List.mem_singleton.mpr rfl) dX10_init_321 (fun H locs h_79 eh_79 hW hT hs => ?_)
  case o154 => decide
  case o155 => decide
  case o156 => decide
  have hcon := hcon.S hs trivial rfl
  have hz := hx_zr [2, 3, 4, 5, 6, 12, 15, 17] hz hs gx trivial rfl
  have hM := hM.tr (hs.mono ?o157)
  case o157 => decide
  have gx := gx.S hs
  have gq_34 := gq_34.S hs
  have cw : ∀ j, j < 45 → h_79.2.1 q_34 j = P_words j := hx_cw cw eh_79 ?o158 ?o159
  case o158 => decide
  case o159 => decide
  exact si_2 l dC dI dA L h sz b0 x q_34 hx hb hml hr hlk hts hown hin hsz hZ L1 h_79 _ _ ls hW hT hM gx hcon hz gq_34  cw hl

set_option maxHeartbeats 4000000 in
set_option maxRecDepth 100000 in
theorem si_0 (l : Launch) (dC : Nat → ClassId) (dI : Nat → Nat → Nat) (dA : Nat → ClassId) (L : List Nat) (h : hx_h) (sz : Nat) (b0 : hx_z) (x : Nat) (q_34 : Nat) {p : Program} {e : Env} {s : State} {m : MethodId} {below : List Frame} {meth : Method} {c : Code} (hx : p.tables.exec = Jvm.exec) (hb : c.code = cX10_init) (hml : c.maxLocals = 2) (hr : meth.sig.returnType = none) (hlk : meth.locks = false) (hts : ∀ w ∈ hx_all, w.before ([.ref x] : List Value).toArray s = true) (hown : s.vm.findClass "SmallCourtModel" = some m.cls) (hin : meth.name = "<init>") (hsz : s.heap.size = sz) (hZ : hx_Xt (hx_A L sz) b0 s) (L1 : List Nat) (hl1 : hx_h) (H : Heap) (locs : List Loc) (ls : Array Slot) (hW : hx_W T_tb (P_ty dA) (dC, dI) vwCl (hx_A L sz) s.heap L1 hl1 s H locs) (hT : hx_T T_tb L1 hl1) (hM : hx_S T_tb [(10, 14), (10, 16), (10, 18), (50, 0), (51, 0), (52, 0), (55, 0), (57, 0), (126, 2), (126, 3), (126, 4), (126, 5), (126, 6), (126, 12), (126, 15), (126, 17), (126, 19), (126, 21), (126, 22), (126, 23), (126, 24), (126, 25), (126, 26), (126, 27), (126, 28), (126, 30), (126, 31), (126, 32), (126, 33), (126, 34), (126, 35), (126, 37), (126, 38), (126, 39), (126, 40), (126, 41), (126, 42), (126, 43), (126, 44), (126, 45), (126, 46), (126, 47), (126, 48), (126, 49), (126, 50), (126, 51), (126, 52), (126, 53), (126, 54), (126, 55), (126, 56), (126, 58), (126, 60), (126, 61), (126, 62), (126, 63), (126, 64), (126, 65), (126, 66), (126, 73), (126, 74), (126, 76), (126, 77), (126, 78), (126, 79), (126, 80), (126, 81), (126, 82), (126, 85), (126, 88), (126, 89), (126, 91), (126, 93), (126, 94), (126, 97)] (hx_X L x) h L1 hl1) (gx : hx_g L1 hl1 x 126) (hcon : hx_con L1 hl1 x 126 [(17, 56, false), (15, 55, false), (12, 54, false), (6, 53, true), (5, 52, false), (4, 51, false), (3, 50, false), (2, 49, false)] []) (hz : ∀ j, [2, 3, 4, 5, 6, 12, 15, 17].contains j = false → hl1.2.1 x j = 0 ∧ hl1.2.2 x j = none) (gq_34 : hx_g L1 hl1 q_34 57)  (cw : ∀ j, j < 5 → hl1.2.1 q_34 j = P_words j) (hl : lv_has ls 2 [(0, .ref x)]) : W p l e ({ frames := 2, cells := 67, slots := 15340, locals := 42 }) s m ([.ref x] : List Value).toArray below meth c H locs 9 2131 (MQ below (va_Qv (fun (u : List Nat × hx_h) => hx_T T_tb u.1 u.2 ∧ hx_S T_tb [(10, 14), (10, 16), (10, 18), (50, 0), (51, 0), (52, 0), (55, 0), (57, 0), (126, 2), (126, 3), (126, 4), (126, 5), (126, 6), (126, 12), (126, 15), (126, 17), (126, 19), (126, 21), (126, 22), (126, 23), (126, 24), (126, 25), (126, 26), (126, 27), (126, 28), (126, 30), (126, 31), (126, 32), (126, 33), (126, 34), (126, 35), (126, 37), (126, 38), (126, 39), (126, 40), (126, 41), (126, 42), (126, 43), (126, 44), (126, 45), (126, 46), (126, 47), (126, 48), (126, 49), (126, 50), (126, 51), (126, 52), (126, 53), (126, 54), (126, 55), (126, 56), (126, 58), (126, 60), (126, 61), (126, 62), (126, 63), (126, 64), (126, 65), (126, 66), (126, 73), (126, 74), (126, 76), (126, 77), (126, 78), (126, 79), (126, 80), (126, 81), (126, 82), (126, 85), (126, 88), (126, 89), (126, 91), (126, 93), (126, 94), (126, 97)] (hx_X L x) h u.1 u.2 ∧ hx_g u.1 u.2 x 10 ∧ u.2.2.1 x 0 = 0 ∧ u.2.2.1 x 1 = 0 ∧ u.2.2.1 x 36 = 0 ∧ u.2.2.1 x 57 = 0 ∧ u.2.2.1 x 7 = 0 ∧ u.2.2.1 x 20 = 0 ∧ u.2.2.1 x 29 = 0 ∧ u.2.2.1 x 59 = 0 ∧ u.2.2.1 x 72 = 0 ∧ u.2.2.1 x 83 = 0 ∧ u.2.2.1 x 84 = 0 ∧ u.2.2.1 x 90 = 0 ∧ u.2.2.1 x 92 = 0 ∧ ∃ q_words q_rule q_proofSteps q_proof q_tries q_isDead q_isJudge q_found q_list q_judged q_weekly q_owed q_doorX q_doorY q_tape q_born q_kin q_sum q_filed q_owedFrom q_heard q_ordered q_goods q_seized q_served q_earns q_heads q_payOf q_payDay q_paySum q_payKnown q_payStruck q_actDay : Nat, u.2.2.2 x 19 = some q_words ∧ hx_g u.1 u.2 q_words 57 ∧ u.2.2.2 x 3 = some q_rule ∧ hx_g u.1 u.2 q_rule 50 ∧ u.2.2.2 x 4 = some q_proofSteps ∧ hx_g u.1 u.2 q_proofSteps 51 ∧ u.2.2.2 x 5 = some q_proof ∧ hx_g u.1 u.2 q_proof 52 ∧ u.2.2.2 x 45 = some q_tries ∧ hx_g u.1 u.2 q_tries 80 ∧ u.2.2.2 x 27 = some q_isDead ∧ hx_g u.1 u.2 q_isDead 64 ∧ u.2.2.2 x 28 = some q_isJudge ∧ hx_g u.1 u.2 q_isJudge 65 ∧ u.2.2.2 x 46 = some q_found ∧ hx_g u.1 u.2 q_found 81 ∧ u.2.2.2 x 91 = some q_list ∧ hx_g u.1 u.2 q_list 112 ∧ u.2.2.2 x 51 = some q_judged ∧ hx_g u.1 u.2 q_judged 86 ∧ u.2.2.2 x 54 = some q_weekly ∧ hx_g u.1 u.2 q_weekly 89 ∧ u.2.2.2 x 55 = some q_owed ∧ hx_g u.1 u.2 q_owed 90 ∧ u.2.2.2 x 24 = some q_doorX ∧ hx_g u.1 u.2 q_doorX 61 ∧ u.2.2.2 x 25 = some q_doorY ∧ hx_g u.1 u.2 q_doorY 62 ∧ u.2.2.2 x 6 = some q_tape ∧ hx_g u.1 u.2 q_tape 53 ∧ u.2.2.2 x 21 = some q_born ∧ hx_g u.1 u.2 q_born 58 ∧ u.2.2.2 x 26 = some q_kin ∧ hx_g u.1 u.2 q_kin 63 ∧ u.2.2.2 x 39 = some q_sum ∧ hx_g u.1 u.2 q_sum 74 ∧ u.2.2.2 x 43 = some q_filed ∧ hx_g u.1 u.2 q_filed 78 ∧ u.2.2.2 x 40 = some q_owedFrom ∧ hx_g u.1 u.2 q_owedFrom 75 ∧ u.2.2.2 x 47 = some q_heard ∧ hx_g u.1 u.2 q_heard 82 ∧ u.2.2.2 x 48 = some q_ordered ∧ hx_g u.1 u.2 q_ordered 83 ∧ u.2.2.2 x 56 = some q_goods ∧ hx_g u.1 u.2 q_goods 91 ∧ u.2.2.2 x 49 = some q_seized ∧ hx_g u.1 u.2 q_seized 84 ∧ u.2.2.2 x 50 = some q_served ∧ hx_g u.1 u.2 q_served 85 ∧ u.2.2.2 x 22 = some q_earns ∧ hx_g u.1 u.2 q_earns 59 ∧ u.2.2.2 x 23 = some q_heads ∧ hx_g u.1 u.2 q_heads 60 ∧ u.2.2.2 x 60 = some q_payOf ∧ hx_g u.1 u.2 q_payOf 93 ∧ u.2.2.2 x 61 = some q_payDay ∧ hx_g u.1 u.2 q_payDay 94 ∧ u.2.2.2 x 62 = some q_paySum ∧ hx_g u.1 u.2 q_paySum 95 ∧ u.2.2.2 x 63 = some q_payKnown ∧ hx_g u.1 u.2 q_payKnown 96 ∧ u.2.2.2 x 64 = some q_payStruck ∧ hx_g u.1 u.2 q_payStruck 97 ∧ u.2.2.2 x 2 = some q_actDay ∧ hx_g u.1 u.2 q_actDay 49 ∧ hx_wd (u.2.2.1 q_words) ∧ hx_WK (u.2.2.1 q_rule) 0 ∧ hx_RP (u.2.2.1 q_proof) (u.2.2.1 q_proofSteps) 0 ∧ (∀ j, u.2.2.1 q_tries j = 0) ∧ (∀ j, u.2.2.1 q_isDead j = 0) ∧ (∀ j, u.2.2.1 q_isJudge j = 0) ∧ (∀ j, u.2.2.1 q_found j = 0) ∧ (∀ j, u.2.2.1 q_list j = 0) ∧ (∀ j, u.2.2.1 q_judged j = 0) ∧ (∀ j, u.2.2.1 q_weekly j = 0) ∧ (∀ j, u.2.2.1 q_owed j = 0) ∧ (∀ j, u.2.2.1 q_doorX j = 0) ∧ (∀ j, u.2.2.1 q_doorY j = 0) ∧ (∀ j, u.2.2.1 q_tape j = 0) ∧ (∀ j, u.2.2.1 q_born j = 0) ∧ (∀ j, u.2.2.1 q_kin j = 0) ∧ (∀ j, u.2.2.1 q_sum j = 0) ∧ (∀ j, u.2.2.1 q_filed j = 0) ∧ (∀ j, u.2.2.1 q_owedFrom j = 0) ∧ (∀ j, u.2.2.1 q_heard j = 0) ∧ (∀ j, u.2.2.1 q_ordered j = 0) ∧ (∀ j, u.2.2.1 q_goods j = 0) ∧ (∀ j, u.2.2.1 q_seized j = 0) ∧ (∀ j, u.2.2.1 q_served j = 0) ∧ (∀ j, u.2.2.1 q_earns j = 0) ∧ (∀ j, u.2.2.1 q_heads j = 0) ∧ (∀ j, u.2.2.1 q_payOf j = 0) ∧ (∀ j, u.2.2.1 q_payDay j = 0) ∧ (∀ j, u.2.2.1 q_paySum j = 0) ∧ (∀ j, u.2.2.1 q_payKnown j = 0) ∧ (∀ j, u.2.2.1 q_payStruck j = 0) ∧ hv_CA (u.2.2.1 q_actDay) (u.2.2.1 q_rule) (u.2.2.1 q_proofSteps) (u.2.2.1 q_proof) 0 (fun _ => hv_A0)) (hx_E T_tb (P_ty dA) (dC, dI) vwCl (hx_A L sz)) (hx_A L sz)) ([.ref x] : List Value).toArray s 67 15340 (hx_A L sz)) (F0 m 100 ls [.ref q_34, .ref x]) := by
  refine lv_dup hx hb dX10_init_100 rfl ?_
  refine lv_iconst (v := 5) hx hb dX10_init_101 ?o0 ?_
  case o0 => decide
  refine lv_iconst (v := 0) hx hb dX10_init_102 ?o1 ?_
  case o1 => decide
  refine hx_bast hx hb hW hT (hx_S.rf (M := [(57, 0)])) gq_34 tt_57 rfl ?o2 (y := 0) ?o3 ?o4 (List.mem_singleton.mpr rfl) dX10_init_103 (fun H locs h_40 eh_40 hW hT hs => ?_)
  case o2 => decide
  case o3 => decide
  case o4 => decide
  have hcon := hcon.S hs trivial rfl
  have hz := hx_zr [2, 3, 4, 5, 6, 12, 15, 17] hz hs gx trivial rfl
  have hM := hM.tr (hs.mono ?o5)
  case o5 => decide
  have gx := gx.S hs
  have gq_34 := gq_34.S hs
  have cw : ∀ j, j < 6 → h_40.2.1 q_34 j = P_words j := hx_cw cw eh_40 ?o6 ?o7
  case o6 => decide
  case o7 => decide
  refine lv_dup hx hb dX10_init_104 rfl ?_
  refine lv_bipush (v := 6) hx hb dX10_init_105 ?o8 ?_
  case o8 => decide
  refine lv_iconst (v := 0) hx hb dX10_init_107 ?o9 ?_
  case o9 => decide
  refine hx_bast hx hb hW hT (hx_S.rf (M := [(57, 0)])) gq_34 tt_57 rfl ?o10 (y := 0) ?o11 ?o12 (List.mem_singleton.mpr rfl) dX10_init_108 (fun H locs h_41 eh_41 hW hT hs => ?_)
  case o10 => decide
  case o11 => decide
  case o12 => decide
  have hcon := hcon.S hs trivial rfl
  have hz := hx_zr [2, 3, 4, 5, 6, 12, 15, 17] hz hs gx trivial rfl
  have hM := hM.tr (hs.mono ?o13)
  case o13 => decide
  have gx := gx.S hs
  have gq_34 := gq_34.S hs
  have cw : ∀ j, j < 7 → h_41.2.1 q_34 j = P_words j := hx_cw cw eh_41 ?o14 ?o15
  case o14 => decide
  case o15 => decide
  refine lv_dup hx hb dX10_init_109 rfl ?_
  refine lv_bipush (v := 7) hx hb dX10_init_110 ?o16 ?_
  case o16 => decide
  refine lv_bipush (v := 97) hx hb dX10_init_112 ?o17 ?_
  case o17 => decide
  refine hx_bast hx hb hW hT (hx_S.rf (M := [(57, 0)])) gq_34 tt_57 rfl ?o18 (y := 97) ?o19 ?o20 (List.mem_singleton.mpr rfl) dX10_init_114 (fun H locs h_42 eh_42 hW hT hs => ?_)
  case o18 => decide
  case o19 => decide
  case o20 => decide
  have hcon := hcon.S hs trivial rfl
  have hz := hx_zr [2, 3, 4, 5, 6, 12, 15, 17] hz hs gx trivial rfl
  have hM := hM.tr (hs.mono ?o21)
  case o21 => decide
  have gx := gx.S hs
  have gq_34 := gq_34.S hs
  have cw : ∀ j, j < 8 → h_42.2.1 q_34 j = P_words j := hx_cw cw eh_42 ?o22 ?o23
  case o22 => decide
  case o23 => decide
  refine lv_dup hx hb dX10_init_115 rfl ?_
  refine lv_bipush (v := 8) hx hb dX10_init_116 ?o24 ?_
  case o24 => decide
  refine lv_bipush (v := 110) hx hb dX10_init_118 ?o25 ?_
  case o25 => decide
  refine hx_bast hx hb hW hT (hx_S.rf (M := [(57, 0)])) gq_34 tt_57 rfl ?o26 (y := 110) ?o27 ?o28 (List.mem_singleton.mpr rfl) dX10_init_120 (fun H locs h_43 eh_43 hW hT hs => ?_)
  case o26 => decide
  case o27 => decide
  case o28 => decide
  have hcon := hcon.S hs trivial rfl
  have hz := hx_zr [2, 3, 4, 5, 6, 12, 15, 17] hz hs gx trivial rfl
  have hM := hM.tr (hs.mono ?o29)
  case o29 => decide
  have gx := gx.S hs
  have gq_34 := gq_34.S hs
  have cw : ∀ j, j < 9 → h_43.2.1 q_34 j = P_words j := hx_cw cw eh_43 ?o30 ?o31
  case o30 => decide
  case o31 => decide
  refine lv_dup hx hb dX10_init_121 rfl ?_
  refine lv_bipush (v := 9) hx hb dX10_init_122 ?o32 ?_
  case o32 => decide
  refine lv_bipush (v := 100) hx hb dX10_init_124 ?o33 ?_
  case o33 => decide
  refine hx_bast hx hb hW hT (hx_S.rf (M := [(57, 0)])) gq_34 tt_57 rfl ?o34 (y := 100) ?o35 ?o36 (List.mem_singleton.mpr rfl) dX10_init_126 (fun H locs h_44 eh_44 hW hT hs => ?_)
  case o34 => decide
  case o35 => decide
  case o36 => decide
  have hcon := hcon.S hs trivial rfl
  have hz := hx_zr [2, 3, 4, 5, 6, 12, 15, 17] hz hs gx trivial rfl
  have hM := hM.tr (hs.mono ?o37)
  case o37 => decide
  have gx := gx.S hs
  have gq_34 := gq_34.S hs
  have cw : ∀ j, j < 10 → h_44.2.1 q_34 j = P_words j := hx_cw cw eh_44 ?o38 ?o39
  case o38 => decide
  case o39 => decide
  refine lv_dup hx hb dX10_init_127 rfl ?_
  refine lv_bipush (v := 10) hx hb dX10_init_128 ?o40 ?_
  case o40 => decide
  refine lv_iconst (v := 0) hx hb dX10_init_130 ?o41 ?_
  case o41 => decide
  refine hx_bast hx hb hW hT (hx_S.rf (M := [(57, 0)])) gq_34 tt_57 rfl ?o42 (y := 0) ?o43 ?o44 (List.mem_singleton.mpr rfl) dX10_init_131 (fun H locs h_45 eh_45 hW hT hs => ?_)
  case o42 => decide
  case o43 => decide
  case o44 => decide
  have hcon := hcon.S hs trivial rfl
  have hz := hx_zr [2, 3, 4, 5, 6, 12, 15, 17] hz hs gx trivial rfl
  have hM := hM.tr (hs.mono ?o45)
  case o45 => decide
  have gx := gx.S hs
  have gq_34 := gq_34.S hs
  have cw : ∀ j, j < 11 → h_45.2.1 q_34 j = P_words j := hx_cw cw eh_45 ?o46 ?o47
  case o46 => decide
  case o47 => decide
  refine lv_dup hx hb dX10_init_132 rfl ?_
  refine lv_bipush (v := 11) hx hb dX10_init_133 ?o48 ?_
  case o48 => decide
  refine lv_iconst (v := 0) hx hb dX10_init_135 ?o49 ?_
  case o49 => decide
  refine hx_bast hx hb hW hT (hx_S.rf (M := [(57, 0)])) gq_34 tt_57 rfl ?o50 (y := 0) ?o51 ?o52 (List.mem_singleton.mpr rfl) dX10_init_136 (fun H locs h_46 eh_46 hW hT hs => ?_)
  case o50 => decide
  case o51 => decide
  case o52 => decide
  have hcon := hcon.S hs trivial rfl
  have hz := hx_zr [2, 3, 4, 5, 6, 12, 15, 17] hz hs gx trivial rfl
  have hM := hM.tr (hs.mono ?o53)
  case o53 => decide
  have gx := gx.S hs
  have gq_34 := gq_34.S hs
  have cw : ∀ j, j < 12 → h_46.2.1 q_34 j = P_words j := hx_cw cw eh_46 ?o54 ?o55
  case o54 => decide
  case o55 => decide
  refine lv_dup hx hb dX10_init_137 rfl ?_
  refine lv_bipush (v := 12) hx hb dX10_init_138 ?o56 ?_
  case o56 => decide
  refine lv_iconst (v := 0) hx hb dX10_init_140 ?o57 ?_
  case o57 => decide
  refine hx_bast hx hb hW hT (hx_S.rf (M := [(57, 0)])) gq_34 tt_57 rfl ?o58 (y := 0) ?o59 ?o60 (List.mem_singleton.mpr rfl) dX10_init_141 (fun H locs h_47 eh_47 hW hT hs => ?_)
  case o58 => decide
  case o59 => decide
  case o60 => decide
  have hcon := hcon.S hs trivial rfl
  have hz := hx_zr [2, 3, 4, 5, 6, 12, 15, 17] hz hs gx trivial rfl
  have hM := hM.tr (hs.mono ?o61)
  case o61 => decide
  have gx := gx.S hs
  have gq_34 := gq_34.S hs
  have cw : ∀ j, j < 13 → h_47.2.1 q_34 j = P_words j := hx_cw cw eh_47 ?o62 ?o63
  case o62 => decide
  case o63 => decide
  refine lv_dup hx hb dX10_init_142 rfl ?_
  refine lv_bipush (v := 13) hx hb dX10_init_143 ?o64 ?_
  case o64 => decide
  refine lv_iconst (v := 0) hx hb dX10_init_145 ?o65 ?_
  case o65 => decide
  refine hx_bast hx hb hW hT (hx_S.rf (M := [(57, 0)])) gq_34 tt_57 rfl ?o66 (y := 0) ?o67 ?o68 (List.mem_singleton.mpr rfl) dX10_init_146 (fun H locs h_48 eh_48 hW hT hs => ?_)
  case o66 => decide
  case o67 => decide
  case o68 => decide
  have hcon := hcon.S hs trivial rfl
  have hz := hx_zr [2, 3, 4, 5, 6, 12, 15, 17] hz hs gx trivial rfl
  have hM := hM.tr (hs.mono ?o69)
  case o69 => decide
  have gx := gx.S hs
  have gq_34 := gq_34.S hs
  have cw : ∀ j, j < 14 → h_48.2.1 q_34 j = P_words j := hx_cw cw eh_48 ?o70 ?o71
  case o70 => decide
  case o71 => decide
  refine lv_dup hx hb dX10_init_147 rfl ?_
  refine lv_bipush (v := 14) hx hb dX10_init_148 ?o72 ?_
  case o72 => decide
  refine lv_bipush (v := 110) hx hb dX10_init_150 ?o73 ?_
  case o73 => decide
  refine hx_bast hx hb hW hT (hx_S.rf (M := [(57, 0)])) gq_34 tt_57 rfl ?o74 (y := 110) ?o75 ?o76 (List.mem_singleton.mpr rfl) dX10_init_152 (fun H locs h_49 eh_49 hW hT hs => ?_)
  case o74 => decide
  case o75 => decide
  case o76 => decide
  have hcon := hcon.S hs trivial rfl
  have hz := hx_zr [2, 3, 4, 5, 6, 12, 15, 17] hz hs gx trivial rfl
  have hM := hM.tr (hs.mono ?o77)
  case o77 => decide
  have gx := gx.S hs
  have gq_34 := gq_34.S hs
  have cw : ∀ j, j < 15 → h_49.2.1 q_34 j = P_words j := hx_cw cw eh_49 ?o78 ?o79
  case o78 => decide
  case o79 => decide
  refine lv_dup hx hb dX10_init_153 rfl ?_
  refine lv_bipush (v := 15) hx hb dX10_init_154 ?o80 ?_
  case o80 => decide
  refine lv_bipush (v := 111) hx hb dX10_init_156 ?o81 ?_
  case o81 => decide
  refine hx_bast hx hb hW hT (hx_S.rf (M := [(57, 0)])) gq_34 tt_57 rfl ?o82 (y := 111) ?o83 ?o84 (List.mem_singleton.mpr rfl) dX10_init_158 (fun H locs h_50 eh_50 hW hT hs => ?_)
  case o82 => decide
  case o83 => decide
  case o84 => decide
  have hcon := hcon.S hs trivial rfl
  have hz := hx_zr [2, 3, 4, 5, 6, 12, 15, 17] hz hs gx trivial rfl
  have hM := hM.tr (hs.mono ?o85)
  case o85 => decide
  have gx := gx.S hs
  have gq_34 := gq_34.S hs
  have cw : ∀ j, j < 16 → h_50.2.1 q_34 j = P_words j := hx_cw cw eh_50 ?o86 ?o87
  case o86 => decide
  case o87 => decide
  refine lv_dup hx hb dX10_init_159 rfl ?_
  refine lv_bipush (v := 16) hx hb dX10_init_160 ?o88 ?_
  case o88 => decide
  refine lv_bipush (v := 116) hx hb dX10_init_162 ?o89 ?_
  case o89 => decide
  refine hx_bast hx hb hW hT (hx_S.rf (M := [(57, 0)])) gq_34 tt_57 rfl ?o90 (y := 116) ?o91 ?o92 (List.mem_singleton.mpr rfl) dX10_init_164 (fun H locs h_51 eh_51 hW hT hs => ?_)
  case o90 => decide
  case o91 => decide
  case o92 => decide
  have hcon := hcon.S hs trivial rfl
  have hz := hx_zr [2, 3, 4, 5, 6, 12, 15, 17] hz hs gx trivial rfl
  have hM := hM.tr (hs.mono ?o93)
  case o93 => decide
  have gx := gx.S hs
  have gq_34 := gq_34.S hs
  have cw : ∀ j, j < 17 → h_51.2.1 q_34 j = P_words j := hx_cw cw eh_51 ?o94 ?o95
  case o94 => decide
  case o95 => decide
  refine lv_dup hx hb dX10_init_165 rfl ?_
  refine lv_bipush (v := 17) hx hb dX10_init_166 ?o96 ?_
  case o96 => decide
  refine lv_iconst (v := 0) hx hb dX10_init_168 ?o97 ?_
  case o97 => decide
  refine hx_bast hx hb hW hT (hx_S.rf (M := [(57, 0)])) gq_34 tt_57 rfl ?o98 (y := 0) ?o99 ?o100 (List.mem_singleton.mpr rfl) dX10_init_169 (fun H locs h_52 eh_52 hW hT hs => ?_)
  case o98 => decide
  case o99 => decide
  case o100 => decide
  have hcon := hcon.S hs trivial rfl
  have hz := hx_zr [2, 3, 4, 5, 6, 12, 15, 17] hz hs gx trivial rfl
  have hM := hM.tr (hs.mono ?o101)
  case o101 => decide
  have gx := gx.S hs
  have gq_34 := gq_34.S hs
  have cw : ∀ j, j < 18 → h_52.2.1 q_34 j = P_words j := hx_cw cw eh_52 ?o102 ?o103
  case o102 => decide
  case o103 => decide
  refine lv_dup hx hb dX10_init_170 rfl ?_
  refine lv_bipush (v := 18) hx hb dX10_init_171 ?o104 ?_
  case o104 => decide
  refine lv_iconst (v := 0) hx hb dX10_init_173 ?o105 ?_
  case o105 => decide
  refine hx_bast hx hb hW hT (hx_S.rf (M := [(57, 0)])) gq_34 tt_57 rfl ?o106 (y := 0) ?o107 ?o108 (List.mem_singleton.mpr rfl) dX10_init_174 (fun H locs h_53 eh_53 hW hT hs => ?_)
  case o106 => decide
  case o107 => decide
  case o108 => decide
  have hcon := hcon.S hs trivial rfl
  have hz := hx_zr [2, 3, 4, 5, 6, 12, 15, 17] hz hs gx trivial rfl
  have hM := hM.tr (hs.mono ?o109)
  case o109 => decide
  have gx := gx.S hs
  have gq_34 := gq_34.S hs
  have cw : ∀ j, j < 19 → h_53.2.1 q_34 j = P_words j := hx_cw cw eh_53 ?o110 ?o111
  case o110 => decide
  case o111 => decide
  refine lv_dup hx hb dX10_init_175 rfl ?_
  refine lv_bipush (v := 19) hx hb dX10_init_176 ?o112 ?_
  case o112 => decide
  refine lv_iconst (v := 0) hx hb dX10_init_178 ?o113 ?_
  case o113 => decide
  refine hx_bast hx hb hW hT (hx_S.rf (M := [(57, 0)])) gq_34 tt_57 rfl ?o114 (y := 0) ?o115 ?o116 (List.mem_singleton.mpr rfl) dX10_init_179 (fun H locs h_54 eh_54 hW hT hs => ?_)
  case o114 => decide
  case o115 => decide
  case o116 => decide
  have hcon := hcon.S hs trivial rfl
  have hz := hx_zr [2, 3, 4, 5, 6, 12, 15, 17] hz hs gx trivial rfl
  have hM := hM.tr (hs.mono ?o117)
  case o117 => decide
  have gx := gx.S hs
  have gq_34 := gq_34.S hs
  have cw : ∀ j, j < 20 → h_54.2.1 q_34 j = P_words j := hx_cw cw eh_54 ?o118 ?o119
  case o118 => decide
  case o119 => decide
  refine lv_dup hx hb dX10_init_180 rfl ?_
  refine lv_bipush (v := 20) hx hb dX10_init_181 ?o120 ?_
  case o120 => decide
  refine lv_iconst (v := 0) hx hb dX10_init_183 ?o121 ?_
  case o121 => decide
  refine hx_bast hx hb hW hT (hx_S.rf (M := [(57, 0)])) gq_34 tt_57 rfl ?o122 (y := 0) ?o123 ?o124 (List.mem_singleton.mpr rfl) dX10_init_184 (fun H locs h_55 eh_55 hW hT hs => ?_)
  case o122 => decide
  case o123 => decide
  case o124 => decide
  have hcon := hcon.S hs trivial rfl
  have hz := hx_zr [2, 3, 4, 5, 6, 12, 15, 17] hz hs gx trivial rfl
  have hM := hM.tr (hs.mono ?o125)
  case o125 => decide
  have gx := gx.S hs
  have gq_34 := gq_34.S hs
  have cw : ∀ j, j < 21 → h_55.2.1 q_34 j = P_words j := hx_cw cw eh_55 ?o126 ?o127
  case o126 => decide
  case o127 => decide
  refine lv_dup hx hb dX10_init_185 rfl ?_
  refine lv_bipush (v := 21) hx hb dX10_init_186 ?o128 ?_
  case o128 => decide
  refine lv_bipush (v := 111) hx hb dX10_init_188 ?o129 ?_
  case o129 => decide
  refine hx_bast hx hb hW hT (hx_S.rf (M := [(57, 0)])) gq_34 tt_57 rfl ?o130 (y := 111) ?o131 ?o132 (List.mem_singleton.mpr rfl) dX10_init_190 (fun H locs h_56 eh_56 hW hT hs => ?_)
  case o130 => decide
  case o131 => decide
  case o132 => decide
  have hcon := hcon.S hs trivial rfl
  have hz := hx_zr [2, 3, 4, 5, 6, 12, 15, 17] hz hs gx trivial rfl
  have hM := hM.tr (hs.mono ?o133)
  case o133 => decide
  have gx := gx.S hs
  have gq_34 := gq_34.S hs
  have cw : ∀ j, j < 22 → h_56.2.1 q_34 j = P_words j := hx_cw cw eh_56 ?o134 ?o135
  case o134 => decide
  case o135 => decide
  refine lv_dup hx hb dX10_init_191 rfl ?_
  refine lv_bipush (v := 22) hx hb dX10_init_192 ?o136 ?_
  case o136 => decide
  refine lv_bipush (v := 97) hx hb dX10_init_194 ?o137 ?_
  case o137 => decide
  refine hx_bast hx hb hW hT (hx_S.rf (M := [(57, 0)])) gq_34 tt_57 rfl ?o138 (y := 97) ?o139 ?o140 (List.mem_singleton.mpr rfl) dX10_init_196 (fun H locs h_57 eh_57 hW hT hs => ?_)
  case o138 => decide
  case o139 => decide
  case o140 => decide
  have hcon := hcon.S hs trivial rfl
  have hz := hx_zr [2, 3, 4, 5, 6, 12, 15, 17] hz hs gx trivial rfl
  have hM := hM.tr (hs.mono ?o141)
  case o141 => decide
  have gx := gx.S hs
  have gq_34 := gq_34.S hs
  have cw : ∀ j, j < 23 → h_57.2.1 q_34 j = P_words j := hx_cw cw eh_57 ?o142 ?o143
  case o142 => decide
  case o143 => decide
  refine lv_dup hx hb dX10_init_197 rfl ?_
  refine lv_bipush (v := 23) hx hb dX10_init_198 ?o144 ?_
  case o144 => decide
  refine lv_bipush (v := 116) hx hb dX10_init_200 ?o145 ?_
  case o145 => decide
  refine hx_bast hx hb hW hT (hx_S.rf (M := [(57, 0)])) gq_34 tt_57 rfl ?o146 (y := 116) ?o147 ?o148 (List.mem_singleton.mpr rfl) dX10_init_202 (fun H locs h_58 eh_58 hW hT hs => ?_)
  case o146 => decide
  case o147 => decide
  case o148 => decide
  have hcon := hcon.S hs trivial rfl
  have hz := hx_zr [2, 3, 4, 5, 6, 12, 15, 17] hz hs gx trivial rfl
  have hM := hM.tr (hs.mono ?o149)
  case o149 => decide
  have gx := gx.S hs
  have gq_34 := gq_34.S hs
  have cw : ∀ j, j < 24 → h_58.2.1 q_34 j = P_words j := hx_cw cw eh_58 ?o150 ?o151
  case o150 => decide
  case o151 => decide
  refine lv_dup hx hb dX10_init_203 rfl ?_
  refine lv_bipush (v := 24) hx hb dX10_init_204 ?o152 ?_
  case o152 => decide
  refine lv_bipush (v := 104) hx hb dX10_init_206 ?o153 ?_
  case o153 => decide
  refine hx_bast hx hb hW hT (hx_S.rf (M := [(57, 0)])) gq_34 tt_57 rfl ?o154 (y := 104) ?o155 ?o156 (List.mem_singleton.mpr rfl) dX10_init_208 (fun H locs h_59 eh_59 hW hT hs => ?_)
  case o154 => decide
  case o155 => decide
  case o156 => decide
  have hcon := hcon.S hs trivial rfl
  have hz := hx_zr [2, 3, 4, 5, 6, 12, 15, 17] hz hs gx trivial rfl
  have hM := hM.tr (hs.mono ?o157)
  case o157 => decide
  have gx := gx.S hs
  have gq_34 := gq_34.S hs
  have cw : ∀ j, j < 25 → h_59.2.1 q_34 j = P_words j := hx_cw cw eh_59 ?o158 ?o159
  case o158 => decide
  case o159 => decide
  exact si_1 l dC dI dA L h sz b0 x q_34 hx hb hml hr hlk hts hown hin hsz hZ L1 h_59 _ _ ls hW hT hM gx hcon hz gq_34  cw hl

set_option maxHeartbeats 4000000 in
set_option maxRecDepth 100000 in
theorem t_X10_init (l : Launch) (dC : Nat → ClassId) (dI : Nat → Nat → Nat) (dA : Nat → ClassId) (L : List Nat) (h : hx_h) (sz : Nat) (b0 : hx_z) (x : Nat) (hT : hx_T T_tb L h) (gx : hx_g L h x 126) (hz : ∀ j, h.2.1 x j = 0 ∧ h.2.2 x j = none) : Met l yX10_init (Cond.code yX10_init cX10_init 2 none :: hx_all) ({ frames := 2, cells := 67, slots := 15340, locals := 42 }) (va_Pc [.ref x] (hx_BX T_tb (P_ty dA) (dC, dI) vwCl L h sz b0)) (va_Qv (fun (u : List Nat × hx_h) => hx_T T_tb u.1 u.2 ∧ hx_S T_tb [(10, 14), (10, 16), (10, 18), (50, 0), (51, 0), (52, 0), (55, 0), (57, 0), (126, 2), (126, 3), (126, 4), (126, 5), (126, 6), (126, 12), (126, 15), (126, 17), (126, 19), (126, 21), (126, 22), (126, 23), (126, 24), (126, 25), (126, 26), (126, 27), (126, 28), (126, 30), (126, 31), (126, 32), (126, 33), (126, 34), (126, 35), (126, 37), (126, 38), (126, 39), (126, 40), (126, 41), (126, 42), (126, 43), (126, 44), (126, 45), (126, 46), (126, 47), (126, 48), (126, 49), (126, 50), (126, 51), (126, 52), (126, 53), (126, 54), (126, 55), (126, 56), (126, 58), (126, 60), (126, 61), (126, 62), (126, 63), (126, 64), (126, 65), (126, 66), (126, 73), (126, 74), (126, 76), (126, 77), (126, 78), (126, 79), (126, 80), (126, 81), (126, 82), (126, 85), (126, 88), (126, 89), (126, 91), (126, 93), (126, 94), (126, 97)] (hx_X L x) h u.1 u.2 ∧ hx_g u.1 u.2 x 10 ∧ u.2.2.1 x 0 = 0 ∧ u.2.2.1 x 1 = 0 ∧ u.2.2.1 x 36 = 0 ∧ u.2.2.1 x 57 = 0 ∧ u.2.2.1 x 7 = 0 ∧ u.2.2.1 x 20 = 0 ∧ u.2.2.1 x 29 = 0 ∧ u.2.2.1 x 59 = 0 ∧ u.2.2.1 x 72 = 0 ∧ u.2.2.1 x 83 = 0 ∧ u.2.2.1 x 84 = 0 ∧ u.2.2.1 x 90 = 0 ∧ u.2.2.1 x 92 = 0 ∧ ∃ q_words q_rule q_proofSteps q_proof q_tries q_isDead q_isJudge q_found q_list q_judged q_weekly q_owed q_doorX q_doorY q_tape q_born q_kin q_sum q_filed q_owedFrom q_heard q_ordered q_goods q_seized q_served q_earns q_heads q_payOf q_payDay q_paySum q_payKnown q_payStruck q_actDay : Nat, u.2.2.2 x 19 = some q_words ∧ hx_g u.1 u.2 q_words 57 ∧ u.2.2.2 x 3 = some q_rule ∧ hx_g u.1 u.2 q_rule 50 ∧ u.2.2.2 x 4 = some q_proofSteps ∧ hx_g u.1 u.2 q_proofSteps 51 ∧ u.2.2.2 x 5 = some q_proof ∧ hx_g u.1 u.2 q_proof 52 ∧ u.2.2.2 x 45 = some q_tries ∧ hx_g u.1 u.2 q_tries 80 ∧ u.2.2.2 x 27 = some q_isDead ∧ hx_g u.1 u.2 q_isDead 64 ∧ u.2.2.2 x 28 = some q_isJudge ∧ hx_g u.1 u.2 q_isJudge 65 ∧ u.2.2.2 x 46 = some q_found ∧ hx_g u.1 u.2 q_found 81 ∧ u.2.2.2 x 91 = some q_list ∧ hx_g u.1 u.2 q_list 112 ∧ u.2.2.2 x 51 = some q_judged ∧ hx_g u.1 u.2 q_judged 86 ∧ u.2.2.2 x 54 = some q_weekly ∧ hx_g u.1 u.2 q_weekly 89 ∧ u.2.2.2 x 55 = some q_owed ∧ hx_g u.1 u.2 q_owed 90 ∧ u.2.2.2 x 24 = some q_doorX ∧ hx_g u.1 u.2 q_doorX 61 ∧ u.2.2.2 x 25 = some q_doorY ∧ hx_g u.1 u.2 q_doorY 62 ∧ u.2.2.2 x 6 = some q_tape ∧ hx_g u.1 u.2 q_tape 53 ∧ u.2.2.2 x 21 = some q_born ∧ hx_g u.1 u.2 q_born 58 ∧ u.2.2.2 x 26 = some q_kin ∧ hx_g u.1 u.2 q_kin 63 ∧ u.2.2.2 x 39 = some q_sum ∧ hx_g u.1 u.2 q_sum 74 ∧ u.2.2.2 x 43 = some q_filed ∧ hx_g u.1 u.2 q_filed 78 ∧ u.2.2.2 x 40 = some q_owedFrom ∧ hx_g u.1 u.2 q_owedFrom 75 ∧ u.2.2.2 x 47 = some q_heard ∧ hx_g u.1 u.2 q_heard 82 ∧ u.2.2.2 x 48 = some q_ordered ∧ hx_g u.1 u.2 q_ordered 83 ∧ u.2.2.2 x 56 = some q_goods ∧ hx_g u.1 u.2 q_goods 91 ∧ u.2.2.2 x 49 = some q_seized ∧ hx_g u.1 u.2 q_seized 84 ∧ u.2.2.2 x 50 = some q_served ∧ hx_g u.1 u.2 q_served 85 ∧ u.2.2.2 x 22 = some q_earns ∧ hx_g u.1 u.2 q_earns 59 ∧ u.2.2.2 x 23 = some q_heads ∧ hx_g u.1 u.2 q_heads 60 ∧ u.2.2.2 x 60 = some q_payOf ∧ hx_g u.1 u.2 q_payOf 93 ∧ u.2.2.2 x 61 = some q_payDay ∧ hx_g u.1 u.2 q_payDay 94 ∧ u.2.2.2 x 62 = some q_paySum ∧ hx_g u.1 u.2 q_paySum 95 ∧ u.2.2.2 x 63 = some q_payKnown ∧ hx_g u.1 u.2 q_payKnown 96 ∧ u.2.2.2 x 64 = some q_payStruck ∧ hx_g u.1 u.2 q_payStruck 97 ∧ u.2.2.2 x 2 = some q_actDay ∧ hx_g u.1 u.2 q_actDay 49 ∧ hx_wd (u.2.2.1 q_words) ∧ hx_WK (u.2.2.1 q_rule) 0 ∧ hx_RP (u.2.2.1 q_proof) (u.2.2.1 q_proofSteps) 0 ∧ (∀ j, u.2.2.1 q_tries j = 0) ∧ (∀ j, u.2.2.1 q_isDead j = 0) ∧ (∀ j, u.2.2.1 q_isJudge j = 0) ∧ (∀ j, u.2.2.1 q_found j = 0) ∧ (∀ j, u.2.2.1 q_list j = 0) ∧ (∀ j, u.2.2.1 q_judged j = 0) ∧ (∀ j, u.2.2.1 q_weekly j = 0) ∧ (∀ j, u.2.2.1 q_owed j = 0) ∧ (∀ j, u.2.2.1 q_doorX j = 0) ∧ (∀ j, u.2.2.1 q_doorY j = 0) ∧ (∀ j, u.2.2.1 q_tape j = 0) ∧ (∀ j, u.2.2.1 q_born j = 0) ∧ (∀ j, u.2.2.1 q_kin j = 0) ∧ (∀ j, u.2.2.1 q_sum j = 0) ∧ (∀ j, u.2.2.1 q_filed j = 0) ∧ (∀ j, u.2.2.1 q_owedFrom j = 0) ∧ (∀ j, u.2.2.1 q_heard j = 0) ∧ (∀ j, u.2.2.1 q_ordered j = 0) ∧ (∀ j, u.2.2.1 q_goods j = 0) ∧ (∀ j, u.2.2.1 q_seized j = 0) ∧ (∀ j, u.2.2.1 q_served j = 0) ∧ (∀ j, u.2.2.1 q_earns j = 0) ∧ (∀ j, u.2.2.1 q_heads j = 0) ∧ (∀ j, u.2.2.1 q_payOf j = 0) ∧ (∀ j, u.2.2.1 q_payDay j = 0) ∧ (∀ j, u.2.2.1 q_paySum j = 0) ∧ (∀ j, u.2.2.1 q_payKnown j = 0) ∧ (∀ j, u.2.2.1 q_payStruck j = 0) ∧ hv_CA (u.2.2.1 q_actDay) (u.2.2.1 q_rule) (u.2.2.1 q_proofSteps) (u.2.2.1 q_proof) 0 (fun _ => hv_A0)) (hx_E T_tb (P_ty dA) (dC, dI) vwCl (hx_A L sz)) (hx_A L sz)) 67 15340 (hx_A L sz) := by
  refine hx_metX (lv := [(0, .ref x)]) (by decide +kernel) rfl (Nat.le_of_ble_eq_true rfl) rfl ?_
  intro p e s m below meth c hx hb hml hr hlk hts0 hown hin hsz hW hZ ls hl
  have hts : ∀ w ∈ hx_all, w.before _ s = true := fun w hw => hts0 w (List.mem_cons_of_mem _ hw)
  have hown : s.vm.findClass "SmallCourtModel" = some m.cls := hown
  have hin : meth.name = "<init>" := hin
  have hM : hx_S T_tb [(10, 14), (10, 16), (10, 18), (50, 0), (51, 0), (52, 0), (55, 0), (57, 0), (126, 2), (126, 3), (126, 4), (126, 5), (126, 6), (126, 12), (126, 15), (126, 17), (126, 19), (126, 21), (126, 22), (126, 23), (126, 24), (126, 25), (126, 26), (126, 27), (126, 28), (126, 30), (126, 31), (126, 32), (126, 33), (126, 34), (126, 35), (126, 37), (126, 38), (126, 39), (126, 40), (126, 41), (126, 42), (126, 43), (126, 44), (126, 45), (126, 46), (126, 47), (126, 48), (126, 49), (126, 50), (126, 51), (126, 52), (126, 53), (126, 54), (126, 55), (126, 56), (126, 58), (126, 60), (126, 61), (126, 62), (126, 63), (126, 64), (126, 65), (126, 66), (126, 73), (126, 74), (126, 76), (126, 77), (126, 78), (126, 79), (126, 80), (126, 81), (126, 82), (126, 85), (126, 88), (126, 89), (126, 91), (126, 93), (126, 94), (126, 97)] (hx_X L x) h L h := hx_SX_rf
  have hz : ∀ j, ([] : List Nat).contains j = false → h.2.1 x j = 0 ∧ h.2.2 x j = none := fun j _ => hz j
  have hcon : hx_con L h x 126 [] [] := ⟨gx, (fun k t z hk => absurd hk (by simp)), (fun k hk => absurd hk (by simp))⟩
  refine lv_aload_n hx hb dX10_init_0 rfl (lv_at hl 0 rfl) ?_
  refine W.objInit hx hb hown (hts _ kw_1118) (hts _ kw_117) (hts _ kw_118) rfl (by rw [hml]; exact hl.1) rfl dX10_init_1 (Nat.le_of_ble_eq_true rfl) (Nat.le_of_ble_eq_true rfl) ?_
  refine W.eq (g2 := F0 m 4 ls []) rfl ?_
  refine lv_aload_n hx hb dX10_init_4 rfl (lv_at hl 0 rfl) ?_
  refine lv_bipush (v := 9) hx hb dX10_init_5 ?o0 ?_
  case o0 => decide
  refine hk_newa hx hb hts hW 49 tt_49 (atype := .int) rfl kw_186 (tys := P_ty dA) (t0 := 0) rfl (fun _ => Iff.rfl) rfl (i := (9 : Int32)) ?o1 (Nat.le_of_ble_eq_true rfl) (Nat.le_of_ble_eq_true rfl) (Nat.le_of_ble_eq_true rfl) dX10_init_7 (fun q_2 H h_1 eh_1 hqq_2 hW hs gq_2 => ?_)
  case o1 => decide
  have hT : hx_T T_tb (L ++ [q_2]) h_1 := ?o2
  case o2 =>
    rw [eh_1]
    exact hx_T_nw hT hqq_2 tt_49 rfl
  have hcon := hcon.S hs trivial rfl
  have hz := hx_zr [] hz hs gx trivial rfl
  have hM := hM.tr (hs.mono ?o3)
  case o3 => decide
  have gx := gx.S hs
  refine hx_putrF hx hb hts hC_10 hown hW hT (hx_S.rf (M := [(126, 2)])) gx tt_126 2 ?o4 rfl kw_1145 ⟨rfl, rfl, rfl⟩ rfl hin rfl (x := (some q_2)) ⟨fun _ z => (by cases z), fun q hq => (by cases hq; exact ⟨gq_2.1, by rw [gq_2.2]; decide⟩)⟩ rfl rfl rfl (List.mem_singleton.mpr rfl) dX10_init_9 (fun H locs h_3 eh_3 hW hT hs => ?_)
  case o4 => decide
  have hcon := hcon.S hs trivial rfl
  have hz := hx_zr [2] hz hs gx trivial rfl
  have hM := hM.tr (hs.mono ?o5)
  case o5 => decide
  have gx := gx.S hs
  have gq_2 := gq_2.S hs
  have f_4 : h_3.2.2 x 2 = (some q_2) := ?o6
  case o6 =>
    rw [eh_3]
    exact hx_pr_at _ _ _ _
  have hcon := hx_con.add (tb := T_tb) hcon false f_4 gq_2 (fun z => by cases z)
  refine lv_aload_n hx hb dX10_init_12 rfl (lv_at hl 0 rfl) ?_
  refine lv_bipush (v := 117) hx hb dX10_init_13 ?o7 ?_
  case o7 => decide
  refine hk_newa hx hb hts hW 50 tt_50 (atype := .int) rfl kw_186 (tys := P_ty dA) (t0 := 0) rfl (fun _ => Iff.rfl) rfl (i := (117 : Int32)) ?o8 (Nat.le_of_ble_eq_true rfl) (Nat.le_of_ble_eq_true rfl) (Nat.le_of_ble_eq_true rfl) dX10_init_15 (fun q_6 H h_5 eh_5 hqq_6 hW hs gq_6 => ?_)
  case o8 => decide
  have hT : hx_T T_tb ((L ++ [q_2]) ++ [q_6]) h_5 := ?o9
  case o9 =>
    rw [eh_5]
    exact hx_T_nw hT hqq_6 tt_50 rfl
  have hcon := hcon.S hs trivial rfl
  have hz := hx_zr [2] hz hs gx trivial rfl
  have hM := hM.tr (hs.mono ?o10)
  case o10 => decide
  have gx := gx.S hs
  refine hx_putrF hx hb hts hC_10 hown hW hT (hx_S.rf (M := [(126, 3)])) gx tt_126 3 ?o11 rfl kw_1146 ⟨rfl, rfl, rfl⟩ rfl hin rfl (x := (some q_6)) ⟨fun _ z => (by cases z), fun q hq => (by cases hq; exact ⟨gq_6.1, by rw [gq_6.2]; decide⟩)⟩ rfl rfl rfl (List.mem_singleton.mpr rfl) dX10_init_17 (fun H locs h_7 eh_7 hW hT hs => ?_)
  case o11 => decide
  have hcon := hcon.S hs trivial rfl
  have hz := hx_zr [2, 3] hz hs gx trivial rfl
  have hM := hM.tr (hs.mono ?o12)
  case o12 => decide
  have gx := gx.S hs
  have gq_6 := gq_6.S hs
  have f_8 : h_7.2.2 x 3 = (some q_6) := ?o13
  case o13 =>
    rw [eh_7]
    exact hx_pr_at _ _ _ _
  have hcon := hx_con.add (tb := T_tb) hcon false f_8 gq_6 (fun z => by cases z)
  refine lv_aload_n hx hb dX10_init_20 rfl (lv_at hl 0 rfl) ?_
  refine lv_bipush (v := 9) hx hb dX10_init_21 ?o14 ?_
  case o14 => decide
  refine hk_newa hx hb hts hW 51 tt_51 (atype := .int) rfl kw_186 (tys := P_ty dA) (t0 := 0) rfl (fun _ => Iff.rfl) rfl (i := (9 : Int32)) ?o15 (Nat.le_of_ble_eq_true rfl) (Nat.le_of_ble_eq_true rfl) (Nat.le_of_ble_eq_true rfl) dX10_init_23 (fun q_10 H h_9 eh_9 hqq_10 hW hs gq_10 => ?_)
  case o15 => decide
  have hT : hx_T T_tb (((L ++ [q_2]) ++ [q_6]) ++ [q_10]) h_9 := ?o16
  case o16 =>
    rw [eh_9]
    exact hx_T_nw hT hqq_10 tt_51 rfl
  have hcon := hcon.S hs trivial rfl
  have hz := hx_zr [2, 3] hz hs gx trivial rfl
  have hM := hM.tr (hs.mono ?o17)
  case o17 => decide
  have gx := gx.S hs
  refine hx_putrF hx hb hts hC_10 hown hW hT (hx_S.rf (M := [(126, 4)])) gx tt_126 4 ?o18 rfl kw_1147 ⟨rfl, rfl, rfl⟩ rfl hin rfl (x := (some q_10)) ⟨fun _ z => (by cases z), fun q hq => (by cases hq; exact ⟨gq_10.1, by rw [gq_10.2]; decide⟩)⟩ rfl rfl rfl (List.mem_singleton.mpr rfl) dX10_init_25 (fun H locs h_11 eh_11 hW hT hs => ?_)
  case o18 => decide
  have hcon := hcon.S hs trivial rfl
  have hz := hx_zr [2, 3, 4] hz hs gx trivial rfl
  have hM := hM.tr (hs.mono ?o19)
  case o19 => decide
  have gx := gx.S hs
  have gq_10 := gq_10.S hs
  have f_12 : h_11.2.2 x 4 = (some q_10) := ?o20
  case o20 =>
    rw [eh_11]
    exact hx_pr_at _ _ _ _
  have hcon := hx_con.add (tb := T_tb) hcon false f_12 gq_10 (fun z => by cases z)
  refine lv_aload_n hx hb dX10_init_28 rfl (lv_at hl 0 rfl) ?_
  refine lv_sipush (v := 1152) hx hb dX10_init_29 ?o21 ?_
  case o21 => decide
  refine hk_newa hx hb hts hW 52 tt_52 (atype := .int) rfl kw_186 (tys := P_ty dA) (t0 := 0) rfl (fun _ => Iff.rfl) rfl (i := (1152 : Int32)) ?o22 (Nat.le_of_ble_eq_true rfl) (Nat.le_of_ble_eq_true rfl) (Nat.le_of_ble_eq_true rfl) dX10_init_32 (fun q_14 H h_13 eh_13 hqq_14 hW hs gq_14 => ?_)
  case o22 => decide
  have hT : hx_T T_tb ((((L ++ [q_2]) ++ [q_6]) ++ [q_10]) ++ [q_14]) h_13 := ?o23
  case o23 =>
    rw [eh_13]
    exact hx_T_nw hT hqq_14 tt_52 rfl
  have hcon := hcon.S hs trivial rfl
  have hz := hx_zr [2, 3, 4] hz hs gx trivial rfl
  have hM := hM.tr (hs.mono ?o24)
  case o24 => decide
  have gx := gx.S hs
  refine hx_putrF hx hb hts hC_10 hown hW hT (hx_S.rf (M := [(126, 5)])) gx tt_126 5 ?o25 rfl kw_1148 ⟨rfl, rfl, rfl⟩ rfl hin rfl (x := (some q_14)) ⟨fun _ z => (by cases z), fun q hq => (by cases hq; exact ⟨gq_14.1, by rw [gq_14.2]; decide⟩)⟩ rfl rfl rfl (List.mem_singleton.mpr rfl) dX10_init_34 (fun H locs h_15 eh_15 hW hT hs => ?_)
  case o25 => decide
  have hcon := hcon.S hs trivial rfl
  have hz := hx_zr [2, 3, 4, 5] hz hs gx trivial rfl
  have hM := hM.tr (hs.mono ?o26)
  case o26 => decide
  have gx := gx.S hs
  have gq_14 := gq_14.S hs
  have f_16 : h_15.2.2 x 5 = (some q_14) := ?o27
  case o27 =>
    rw [eh_15]
    exact hx_pr_at _ _ _ _
  have hcon := hx_con.add (tb := T_tb) hcon false f_16 gq_14 (fun z => by cases z)
  refine lv_aload_n hx hb dX10_init_37 rfl (lv_at hl 0 rfl) ?_
  refine lv_sipush (v := 400) hx hb dX10_init_38 ?o28 ?_
  case o28 => decide
  refine hk_newa hx hb hts hW 53 tt_53 (atype := .byte) rfl kw_147 (tys := P_ty dA) (t0 := 1) rfl (fun _ => Iff.rfl) rfl (i := (400 : Int32)) ?o29 (Nat.le_of_ble_eq_true rfl) (Nat.le_of_ble_eq_true rfl) (Nat.le_of_ble_eq_true rfl) dX10_init_41 (fun q_18 H h_17 eh_17 hqq_18 hW hs gq_18 => ?_)
  case o29 => decide
  have hT : hx_T T_tb (((((L ++ [q_2]) ++ [q_6]) ++ [q_10]) ++ [q_14]) ++ [q_18]) h_17 := ?o30
  case o30 =>
    rw [eh_17]
    exact hx_T_nw hT hqq_18 tt_53 rfl
  have hcon := hcon.S hs trivial rfl
  have hz := hx_zr [2, 3, 4, 5] hz hs gx trivial rfl
  have hM := hM.tr (hs.mono ?o31)
  case o31 => decide
  have gx := gx.S hs
  have cz : (∀ j, h_17.2.1 q_18 j = 0) ∧ ∀ j, h_17.2.2 q_18 j = none := ?o32
  case o32 =>
    rw [eh_17]
    exact ⟨fun _ => hx_nw_i, fun _ => hx_nw_r⟩
  refine hx_putrF hx hb hts hC_10 hown hW hT (hx_S.rf (M := [(126, 6)])) gx tt_126 6 ?o33 rfl kw_1149 ⟨rfl, rfl, rfl⟩ rfl hin rfl (x := (some q_18)) ⟨fun _ z => (by cases z), fun q hq => (by cases hq; exact ⟨gq_18.1, by rw [gq_18.2]; decide⟩)⟩ rfl rfl rfl (List.mem_singleton.mpr rfl) dX10_init_43 (fun H locs h_19 eh_19 hW hT hs => ?_)
  case o33 => decide
  have hcon := hcon.S hs trivial rfl
  have hz := hx_zr [2, 3, 4, 5, 6] hz hs gx trivial rfl
  have cz : (∀ j, h_19.2.1 q_18 j = 0) ∧ ∀ j, h_19.2.2 q_18 j = none := ⟨fun j => ((hs.a gq_18 rfl j).1).trans (cz.1 j), fun j => ((hs.a gq_18 rfl j).2).trans (cz.2 j)⟩
  have hM := hM.tr (hs.mono ?o34)
  case o34 => decide
  have gx := gx.S hs
  have gq_18 := gq_18.S hs
  have f_20 : h_19.2.2 x 6 = (some q_18) := ?o35
  case o35 =>
    rw [eh_19]
    exact hx_pr_at _ _ _ _
  have hcon := hx_con.add (tb := T_tb) hcon true f_20 gq_18 (fun _ => cz)
  refine lv_aload_n hx hb dX10_init_46 rfl (lv_at hl 0 rfl) ?_
  refine lv_bipush (v := 13) hx hb dX10_init_47 ?o36 ?_
  case o36 => decide
  refine hk_newa hx hb hts hW 54 tt_54 (atype := .int) rfl kw_186 (tys := P_ty dA) (t0 := 0) rfl (fun _ => Iff.rfl) rfl (i := (13 : Int32)) ?o37 (Nat.le_of_ble_eq_true rfl) (Nat.le_of_ble_eq_true rfl) (Nat.le_of_ble_eq_true rfl) dX10_init_49 (fun q_22 H h_21 eh_21 hqq_22 hW hs gq_22 => ?_)
  case o37 => decide
  have hT : hx_T T_tb ((((((L ++ [q_2]) ++ [q_6]) ++ [q_10]) ++ [q_14]) ++ [q_18]) ++ [q_22]) h_21 := ?o38
  case o38 =>
    rw [eh_21]
    exact hx_T_nw hT hqq_22 tt_54 rfl
  have hcon := hcon.S hs trivial rfl
  have hz := hx_zr [2, 3, 4, 5, 6] hz hs gx trivial rfl
  have hM := hM.tr (hs.mono ?o39)
  case o39 => decide
  have gx := gx.S hs
  refine hx_putrF hx hb hts hC_10 hown hW hT (hx_S.rf (M := [(126, 12)])) gx tt_126 12 ?o40 rfl kw_1155 ⟨rfl, rfl, rfl⟩ rfl hin rfl (x := (some q_22)) ⟨fun _ z => (by cases z), fun q hq => (by cases hq; exact ⟨gq_22.1, by rw [gq_22.2]; decide⟩)⟩ rfl rfl rfl (List.mem_singleton.mpr rfl) dX10_init_51 (fun H locs h_23 eh_23 hW hT hs => ?_)
  case o40 => decide
  have hcon := hcon.S hs trivial rfl
  have hz := hx_zr [2, 3, 4, 5, 6, 12] hz hs gx trivial rfl
  have hM := hM.tr (hs.mono ?o41)
  case o41 => decide
  have gx := gx.S hs
  have gq_22 := gq_22.S hs
  have f_24 : h_23.2.2 x 12 = (some q_22) := ?o42
  case o42 =>
    rw [eh_23]
    exact hx_pr_at _ _ _ _
  have hcon := hx_con.add (tb := T_tb) hcon false f_24 gq_22 (fun z => by cases z)
  refine lv_aload_n hx hb dX10_init_54 rfl (lv_at hl 0 rfl) ?_
  refine lv_sipush (v := 128) hx hb dX10_init_55 ?o43 ?_
  case o43 => decide
  refine hk_newa hx hb hts hW 55 tt_55 (atype := .int) rfl kw_186 (tys := P_ty dA) (t0 := 0) rfl (fun _ => Iff.rfl) rfl (i := (128 : Int32)) ?o44 (Nat.le_of_ble_eq_true rfl) (Nat.le_of_ble_eq_true rfl) (Nat.le_of_ble_eq_true rfl) dX10_init_58 (fun q_26 H h_25 eh_25 hqq_26 hW hs gq_26 => ?_)
  case o44 => decide
  have hT : hx_T T_tb (((((((L ++ [q_2]) ++ [q_6]) ++ [q_10]) ++ [q_14]) ++ [q_18]) ++ [q_22]) ++ [q_26]) h_25 := ?o45
  case o45 =>
    rw [eh_25]
    exact hx_T_nw hT hqq_26 tt_55 rfl
  have hcon := hcon.S hs trivial rfl
  have hz := hx_zr [2, 3, 4, 5, 6, 12] hz hs gx trivial rfl
  have hM := hM.tr (hs.mono ?o46)
  case o46 => decide
  have gx := gx.S hs
  refine hx_putrF hx hb hts hC_10 hown hW hT (hx_S.rf (M := [(126, 15)])) gx tt_126 15 ?o47 rfl kw_1158 ⟨rfl, rfl, rfl⟩ rfl hin rfl (x := (some q_26)) ⟨fun _ z => (by cases z), fun q hq => (by cases hq; exact ⟨gq_26.1, by rw [gq_26.2]; decide⟩)⟩ rfl rfl rfl (List.mem_singleton.mpr rfl) dX10_init_60 (fun H locs h_27 eh_27 hW hT hs => ?_)
  case o47 => decide
  have hcon := hcon.S hs trivial rfl
  have hz := hx_zr [2, 3, 4, 5, 6, 12, 15] hz hs gx trivial rfl
  have hM := hM.tr (hs.mono ?o48)
  case o48 => decide
  have gx := gx.S hs
  have gq_26 := gq_26.S hs
  have f_28 : h_27.2.2 x 15 = (some q_26) := ?o49
  case o49 =>
    rw [eh_27]
    exact hx_pr_at _ _ _ _
  have hcon := hx_con.add (tb := T_tb) hcon false f_28 gq_26 (fun z => by cases z)
  refine lv_aload_n hx hb dX10_init_63 rfl (lv_at hl 0 rfl) ?_
  refine lv_sipush (v := 128) hx hb dX10_init_64 ?o50 ?_
  case o50 => decide
  refine hk_newa hx hb hts hW 56 tt_56 (atype := .int) rfl kw_186 (tys := P_ty dA) (t0 := 0) rfl (fun _ => Iff.rfl) rfl (i := (128 : Int32)) ?o51 (Nat.le_of_ble_eq_true rfl) (Nat.le_of_ble_eq_true rfl) (Nat.le_of_ble_eq_true rfl) dX10_init_67 (fun q_30 H h_29 eh_29 hqq_30 hW hs gq_30 => ?_)
  case o51 => decide
  have hT : hx_T T_tb ((((((((L ++ [q_2]) ++ [q_6]) ++ [q_10]) ++ [q_14]) ++ [q_18]) ++ [q_22]) ++ [q_26]) ++ [q_30]) h_29 := ?o52
  case o52 =>
    rw [eh_29]
    exact hx_T_nw hT hqq_30 tt_56 rfl
  have hcon := hcon.S hs trivial rfl
  have hz := hx_zr [2, 3, 4, 5, 6, 12, 15] hz hs gx trivial rfl
  have hM := hM.tr (hs.mono ?o53)
  case o53 => decide
  have gx := gx.S hs
  refine hx_putrF hx hb hts hC_10 hown hW hT (hx_S.rf (M := [(126, 17)])) gx tt_126 17 ?o54 rfl kw_1160 ⟨rfl, rfl, rfl⟩ rfl hin rfl (x := (some q_30)) ⟨fun _ z => (by cases z), fun q hq => (by cases hq; exact ⟨gq_30.1, by rw [gq_30.2]; decide⟩)⟩ rfl rfl rfl (List.mem_singleton.mpr rfl) dX10_init_69 (fun H locs h_31 eh_31 hW hT hs => ?_)
  case o54 => decide
  have hcon := hcon.S hs trivial rfl
  have hz := hx_zr [2, 3, 4, 5, 6, 12, 15, 17] hz hs gx trivial rfl
  have hM := hM.tr (hs.mono ?o55)
  case o55 => decide
  have gx := gx.S hs
  have gq_30 := gq_30.S hs
  have f_32 : h_31.2.2 x 17 = (some q_30) := ?o56
  case o56 =>
    rw [eh_31]
    exact hx_pr_at _ _ _ _
  have hcon := hx_con.add (tb := T_tb) hcon false f_32 gq_30 (fun z => by cases z)
  refine lv_aload_n hx hb dX10_init_72 rfl (lv_at hl 0 rfl) ?_
  refine lv_sipush (v := 175) hx hb dX10_init_73 ?o57 ?_
  case o57 => decide
  refine hk_newa hx hb hts hW 57 tt_57 (atype := .byte) rfl kw_147 (tys := P_ty dA) (t0 := 1) rfl (fun _ => Iff.rfl) rfl (i := (175 : Int32)) ?o58 (Nat.le_of_ble_eq_true rfl) (Nat.le_of_ble_eq_true rfl) (Nat.le_of_ble_eq_true rfl) dX10_init_76 (fun q_34 H h_33 eh_33 hqq_34 hW hs gq_34 => ?_)
  case o58 => decide
  have hT : hx_T T_tb (((((((((L ++ [q_2]) ++ [q_6]) ++ [q_10]) ++ [q_14]) ++ [q_18]) ++ [q_22]) ++ [q_26]) ++ [q_30]) ++ [q_34]) h_33 := ?o59
  case o59 =>
    rw [eh_33]
    exact hx_T_nw hT hqq_34 tt_57 rfl
  have c0w : ∀ j, j < 0 → h_33.2.1 q_34 j = P_words j := fun j hj => absurd hj ?o60
  case o60 => omega
  have hcon := hcon.S hs trivial rfl
  have hz := hx_zr [2, 3, 4, 5, 6, 12, 15, 17] hz hs gx trivial rfl
  have hM := hM.tr (hs.mono ?o61)
  case o61 => decide
  have gx := gx.S hs
  have cw := c0w
  refine lv_dup hx hb dX10_init_78 rfl ?_
  refine lv_iconst (v := 0) hx hb dX10_init_79 ?o62 ?_
  case o62 => decide
  refine lv_bipush (v := 111) hx hb dX10_init_80 ?o63 ?_
  case o63 => decide
  refine hx_bast hx hb hW hT (hx_S.rf (M := [(57, 0)])) gq_34 tt_57 rfl ?o64 (y := 111) ?o65 ?o66 (List.mem_singleton.mpr rfl) dX10_init_82 (fun H locs h_35 eh_35 hW hT hs => ?_)
  case o64 => decide
  case o65 => decide
  case o66 => decide
  have hcon := hcon.S hs trivial rfl
  have hz := hx_zr [2, 3, 4, 5, 6, 12, 15, 17] hz hs gx trivial rfl
  have hM := hM.tr (hs.mono ?o67)
  case o67 => decide
  have gx := gx.S hs
  have gq_34 := gq_34.S hs
  have cw : ∀ j, j < 1 → h_35.2.1 q_34 j = P_words j := hx_cw cw eh_35 ?o68 ?o69
  case o68 => decide
  case o69 => decide
  refine lv_dup hx hb dX10_init_83 rfl ?_
  refine lv_iconst (v := 1) hx hb dX10_init_84 ?o70 ?_
  case o70 => decide
  refine lv_bipush (v := 114) hx hb dX10_init_85 ?o71 ?_
  case o71 => decide
  refine hx_bast hx hb hW hT (hx_S.rf (M := [(57, 0)])) gq_34 tt_57 rfl ?o72 (y := 114) ?o73 ?o74 (List.mem_singleton.mpr rfl) dX10_init_87 (fun H locs h_36 eh_36 hW hT hs => ?_)
  case o72 => decide
  case o73 => decide
  case o74 => decide
  have hcon := hcon.S hs trivial rfl
  have hz := hx_zr [2, 3, 4, 5, 6, 12, 15, 17] hz hs gx trivial rfl
  have hM := hM.tr (hs.mono ?o75)
  case o75 => decide
  have gx := gx.S hs
  have gq_34 := gq_34.S hs
  have cw : ∀ j, j < 2 → h_36.2.1 q_34 j = P_words j := hx_cw cw eh_36 ?o76 ?o77
  case o76 => decide
  case o77 => decide
  refine lv_dup hx hb dX10_init_88 rfl ?_
  refine lv_iconst (v := 2) hx hb dX10_init_89 ?o78 ?_
  case o78 => decide
  refine lv_iconst (v := 0) hx hb dX10_init_90 ?o79 ?_
  case o79 => decide
  refine hx_bast hx hb hW hT (hx_S.rf (M := [(57, 0)])) gq_34 tt_57 rfl ?o80 (y := 0) ?o81 ?o82 (List.mem_singleton.mpr rfl) dX10_init_91 (fun H locs h_37 eh_37 hW hT hs => ?_)
  case o80 => decide
  case o81 => decide
  case o82 => decide
  have hcon := hcon.S hs trivial rfl
  have hz := hx_zr [2, 3, 4, 5, 6, 12, 15, 17] hz hs gx trivial rfl
  have hM := hM.tr (hs.mono ?o83)
  case o83 => decide
  have gx := gx.S hs
  have gq_34 := gq_34.S hs
  have cw : ∀ j, j < 3 → h_37.2.1 q_34 j = P_words j := hx_cw cw eh_37 ?o84 ?o85
  case o84 => decide
  case o85 => decide
  refine lv_dup hx hb dX10_init_92 rfl ?_
  refine lv_iconst (v := 3) hx hb dX10_init_93 ?o86 ?_
  case o86 => decide
  refine lv_iconst (v := 0) hx hb dX10_init_94 ?o87 ?_
  case o87 => decide
  refine hx_bast hx hb hW hT (hx_S.rf (M := [(57, 0)])) gq_34 tt_57 rfl ?o88 (y := 0) ?o89 ?o90 (List.mem_singleton.mpr rfl) dX10_init_95 (fun H locs h_38 eh_38 hW hT hs => ?_)
  case o88 => decide
  case o89 => decide
  case o90 => decide
  have hcon := hcon.S hs trivial rfl
  have hz := hx_zr [2, 3, 4, 5, 6, 12, 15, 17] hz hs gx trivial rfl
  have hM := hM.tr (hs.mono ?o91)
  case o91 => decide
  have gx := gx.S hs
  have gq_34 := gq_34.S hs
  have cw : ∀ j, j < 4 → h_38.2.1 q_34 j = P_words j := hx_cw cw eh_38 ?o92 ?o93
  case o92 => decide
  case o93 => decide
  refine lv_dup hx hb dX10_init_96 rfl ?_
  refine lv_iconst (v := 4) hx hb dX10_init_97 ?o94 ?_
  case o94 => decide
  refine lv_iconst (v := 0) hx hb dX10_init_98 ?o95 ?_
  case o95 => decide
  refine hx_bast hx hb hW hT (hx_S.rf (M := [(57, 0)])) gq_34 tt_57 rfl ?o96 (y := 0) ?o97 ?o98 (List.mem_singleton.mpr rfl) dX10_init_99 (fun H locs h_39 eh_39 hW hT hs => ?_)
  case o96 => decide
  case o97 => decide
  case o98 => decide
  have hcon := hcon.S hs trivial rfl
  have hz := hx_zr [2, 3, 4, 5, 6, 12, 15, 17] hz hs gx trivial rfl
  have hM := hM.tr (hs.mono ?o99)
  case o99 => decide
  have gx := gx.S hs
  have gq_34 := gq_34.S hs
  have cw : ∀ j, j < 5 → h_39.2.1 q_34 j = P_words j := hx_cw cw eh_39 ?o100 ?o101
  case o100 => decide
  case o101 => decide
  exact si_0 l dC dI dA L h sz b0 x q_34 hx hb hml hr hlk hts hown hin hsz hZ (((((((((L ++ [q_2]) ++ [q_6]) ++ [q_10]) ++ [q_14]) ++ [q_18]) ++ [q_22]) ++ [q_26]) ++ [q_30]) ++ [q_34]) h_39 _ _ ls hW hT hM gx hcon hz gq_34  cw hl

