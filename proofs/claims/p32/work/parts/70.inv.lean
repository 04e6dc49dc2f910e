/-! THE CLAIM OUT OF ONE WALK OF THE LAW'S BODY. Your part is whole_start (and what it stands on); all else here is the same for every law, but numbers. -/
def R_law : String := "SmallCourtLaw"
def lw_P (b : Addr) (xs : List Int32) (args : Array Value) (s : State) : Prop := args = #[.ref b] ∧ s.IntsAt b xs ∧ xs.length ≤ 3584 ∧ (Jvm.Cond.and given_1 narrow_1).before args s = true
def lw_Q (_ : Array Value) (s : State) (o : Outcome) (t : State) : Prop := o = .returned (some (.int 1)) ∧ Framed s o t [] 600000 7302250
def lw_Z (below : List Frame) (a : Array Value) (s : State) : State → Prop := fun t => ∃ o, t.status = .running ∧ Ended t below o ∧ lw_Q a s o t
/-- the law's own end, with 1 on the stack, nothing written that was there before, its room as the claim has it -/
theorem lw_ret {p : Program} {l : Launch} {e : Env} {s : State} {m : MethodId} {below : List Frame} {meth : Method} {c : Code} {b : Nat} (hx : p.tables.exec = Jvm.exec) (hb : c.code = code) (hr : meth.sig.returnType = ret) (hlocks : meth.locks = false) {pc : Nat} {H : Heap} {ls : Array Slot} (hdg : decode code pc = .ok (.ireturn, 1)) : W p l e room_1 s m #[Value.ref b] below meth c H [] 600000 7302250 (lw_Z below #[Value.ref b] s) (F0 m pc ls [.int 1]) := by
  intro T hT X
  obtain ⟨fs, hret, hrun, hended, hW, hframe⟩ := X.leave (v := some (.int 1)) (hlocks := hlocks) (fun h => by rw [hr] at h; cases h)
  have hmeth' : T.vm.method? m = some meth := X.method'
  refine ⟨T.setFrames fs, ?_, .returned (some (.int 1)), hrun, hended, rfl, ⟨_, rfl⟩, hW, hframe⟩
  jvm_step X.here [X.here.top, hx, hb, hdg, hmeth', hr, ret, narrow_b1]
  (try refine ⟨rfl, ?_⟩); (try refine ⟨rfl, ?_⟩)
  first | (intro acts; rw [hret _ acts rfl rfl rfl]) | rw [hret _ _ rfl rfl rfl]
  exact Steps.refl _
/-- what holds at the law's entry: the machine, the code, the tables' words (any of lw_tbl by 'hts w (by decide +kernel)'), the script of L ints xs at the cell b, what the Statement gives of the start (any of its parts by flat_of_before) -/
def lw_At (p : Program) (s : State) (m : MethodId) (meth : Method) (c : Code) (b L : Nat) (xs : Nat → Int32) : Prop :=
  p.tables.exec = Jvm.exec ∧ c.code = code ∧ meth.sig.returnType = ret ∧ c.maxLocals = 4 ∧ s.vm.findClass R_law = some m.cls ∧ (∀ w ∈ lw_tbl, w.before #[Value.ref b] s = true) ∧ va_X b L xs s s.heap ∧ b < s.heap.size ∧ meth.locks = false ∧ (Jvm.Cond.and given_1 narrow_1).before #[Value.ref b] s = true
def wNL_law : Nat := 11380634711091364657615378382568869833455725030297520916085314270634214916657834106049258487113935497709808237177230902452439936886076643747622089870058637530668955774960863952953838788984185404697739738757458238513939221948998486229396514616654254469488213195942708564109909854288969379996326338076086913962026885716139793952347711514379428098347487570997520481796380824833018116580777882328966573622825894904201305659929144943442780146192348582522156013520618259683584662368022951975035996132133709070242348696447222957461844572052192921558634320855959369423981340442970171341179519930670390111796288293785833586672890802600155714641794134933692199353304242793194502137236941355994837743770358392344314700796097626317133142951770232251783973713532569705654674324942407101441404641716271504844918282378752703142572481579714316337273770891275469189891951962660949424751212260330649374892889051929433770615216772161831116765103488122171705657122192899483132707115940393292104936814782469374998086563126350592042418735954938255804722868140572825735510000865754718130747440651138391824499132255017270263099297911809382973816848166012409228840958262035553276492774714777307859391130478096349215182380068839647739995370723523653640309448910483936704179530856933059327720982228340784161979672800155625918917116627423720653309662176462501617614440869229695190465424946754840091050336726226784510037477087960318083602859695795551560371084550717463757401270362219792164987106112699031944302875381404446473523372549517691910836173755619812476825826643307424371545086459508369903972124539526701374526536615415300296091816672981716894315823147851594097290047184001719034750064178827599516842194248960417239353107560758121604689684815101518651587529395259591981947223224197984265323136058568602876456146121067724483003310657383721839609851147503504993206792672976269618166058446316247478086638544544010088533139772981451856552932635249799089409979867919092611605187823846450729279932245567183067480522634323161181570728350444047697598125641575255558584061984579120190847540363308436612760666696326187131910567443444743532411604235577010727923750723295845303170375384971666659384217531380531818730382293596212294545626808395003759071589872558520485146702502879199819061565226899341060723576714039464942450458568843012685775944137341872824437214016229276844784441893246267643408007318804145164607077092949867405404307357497424618783023487419554820713664156786400731774794360399558981630105665831134101269668772056769660013790555694606153657468098247300628697714941675029170762248110801469656662026026709299873897075950415465800199203198859954958583953755779883581663455870802324876592443436956021827203700579968458962040819505786616322233183763248769581520614203769563949885486876527685329158460055921166272961367135785579207207327756278651194726301738307535413942556834487462027550667194579087513541458370111338954601914900807189345495447829820260756827414537958722130848127569984286790309390851260791808854456311154421357618940325096857524276931588468754038924070325547165332812708684989229056395434333886867853691244386016759000453157988236268805016198929162280411209320288524384540252306044422658137905967910030036866374448915062654545314633418426975605678119236233696643281701514588231938735543780247903173873526271438901937889429479009025180433842363
theorem wL_law_c : hz_cd cL_law wNL_law 1387 := ⟨by decide +kernel, by decide +kernel⟩
theorem dL_law_0 : decode cL_law 0 = .ok (.new 7, 3) := dw_187 wL_law_c 0 7 rfl rfl
theorem dL_law_3 : decode cL_law 3 = .ok (.dup, 1) := dw_89 wL_law_c rfl
theorem dL_law_4 : decode cL_law 4 = .ok (.invokespecial 9, 3) := dw_183 wL_law_c 0 9 rfl rfl
theorem dL_law_7 : decode cL_law 7 = .ok (.astore_n 1, 1) := dw_76 wL_law_c rfl
theorem dL_law_8 : decode cL_law 8 = .ok (.new 10, 3) := dw_187 wL_law_c 0 10 rfl rfl
theorem dL_law_11 : decode cL_law 11 = .ok (.dup, 1) := dw_89 wL_law_c rfl
theorem dL_law_12 : decode cL_law 12 = .ok (.invokespecial 12, 3) := dw_183 wL_law_c 0 12 rfl rfl
theorem dL_law_15 : decode cL_law 15 = .ok (.astore_n 2, 1) := dw_77 wL_law_c rfl
theorem dL_law_16 : decode cL_law 16 = .ok (.iconst 0, 1) := dw_3 wL_law_c rfl
theorem dL_law_17 : decode cL_law 17 = .ok (.istore_n 3, 1) := dw_62 wL_law_c rfl
theorem dL_law_18 : decode cL_law 18 = .ok (.iload_n 3, 1) := dw_29 wL_law_c rfl
theorem dL_law_19 : decode cL_law 19 = .ok (.aload_n 0, 1) := dw_42 wL_law_c rfl
theorem dL_law_20 : decode cL_law 20 = .ok (.arraylength, 1) := dw_190 wL_law_c rfl
theorem dL_law_21 : decode cL_law 21 = .ok (.bipush 7, 2) := dw_16 wL_law_c 7 rfl rfl rfl
theorem dL_law_23 : decode cL_law 23 = .ok (.isub, 1) := dw_100 wL_law_c rfl
theorem dL_law_24 : decode cL_law 24 = .ok (.if_icmp .gt 1361, 3) := dw_163 wL_law_c 5 81 rfl rfl rfl
theorem dL_law_27 : decode cL_law 27 = .ok (.aload_n 0, 1) := dw_42 wL_law_c rfl
theorem dL_law_28 : decode cL_law 28 = .ok (.iload_n 3, 1) := dw_29 wL_law_c rfl
theorem dL_law_29 : decode cL_law 29 = .ok (.iaload, 1) := dw_46 wL_law_c rfl
theorem dL_law_30 : decode cL_law 30 = .ok (.bipush 31, 2) := dw_16 wL_law_c 31 rfl rfl rfl
theorem dL_law_32 : decode cL_law 32 = .ok (.iand, 1) := dw_126 wL_law_c rfl
theorem dL_law_33 : decode cL_law 33 = .ok (.tableswitch 1346 0 30 #[139, 162, 225, 248, 271, 304, 379, 442, 465, 514, 577, 630, 721, 770, 855, 888, 931, 954, 987, 1010, 1043, 1096, 1129, 1162, 1175, 1198, 1221, 1234, 1257, 1290, 1323], 139) := by decide +kernel
theorem dL_law_172 : decode cL_law 172 = .ok (.aload_n 1, 1) := dw_43 wL_law_c rfl
theorem dL_law_173 : decode cL_law 173 = .ok (.aload_n 0, 1) := dw_42 wL_law_c rfl
theorem dL_law_174 : decode cL_law 174 = .ok (.iload_n 3, 1) := dw_29 wL_law_c rfl
theorem dL_law_175 : decode cL_law 175 = .ok (.iconst 1, 1) := dw_4 wL_law_c rfl
theorem dL_law_176 : decode cL_law 176 = .ok (.iadd, 1) := dw_96 wL_law_c rfl
theorem dL_law_177 : decode cL_law 177 = .ok (.iaload, 1) := dw_46 wL_law_c rfl
theorem dL_law_178 : decode cL_law 178 = .ok (.invokevirtual 13, 3) := dw_182 wL_law_c 0 13 rfl rfl
theorem dL_law_181 : decode cL_law 181 = .ok (.pop, 1) := dw_87 wL_law_c rfl
theorem dL_law_182 : decode cL_law 182 = .ok (.aload_n 2, 1) := dw_44 wL_law_c rfl
theorem dL_law_183 : decode cL_law 183 = .ok (.aload_n 0, 1) := dw_42 wL_law_c rfl
theorem dL_law_184 : decode cL_law 184 = .ok (.iload_n 3, 1) := dw_29 wL_law_c rfl
theorem dL_law_185 : decode cL_law 185 = .ok (.iconst 1, 1) := dw_4 wL_law_c rfl
theorem dL_law_186 : decode cL_law 186 = .ok (.iadd, 1) := dw_96 wL_law_c rfl
theorem dL_law_187 : decode cL_law 187 = .ok (.iaload, 1) := dw_46 wL_law_c rfl
theorem dL_law_188 : decode cL_law 188 = .ok (.invokevirtual 17, 3) := dw_182 wL_law_c 0 17 rfl rfl
theorem dL_law_191 : decode cL_law 191 = .ok (.pop, 1) := dw_87 wL_law_c rfl
theorem dL_law_192 : decode cL_law 192 = .ok (.goto 1187, 3) := dw_167 wL_law_c 4 163 rfl rfl rfl
theorem dL_law_195 : decode cL_law 195 = .ok (.aload_n 1, 1) := dw_43 wL_law_c rfl
theorem dL_law_196 : decode cL_law 196 = .ok (.aload_n 0, 1) := dw_42 wL_law_c rfl
theorem dL_law_197 : decode cL_law 197 = .ok (.iload_n 3, 1) := dw_29 wL_law_c rfl
theorem dL_law_198 : decode cL_law 198 = .ok (.iconst 1, 1) := dw_4 wL_law_c rfl
theorem dL_law_199 : decode cL_law 199 = .ok (.iadd, 1) := dw_96 wL_law_c rfl
theorem dL_law_200 : decode cL_law 200 = .ok (.iaload, 1) := dw_46 wL_law_c rfl
theorem dL_law_201 : decode cL_law 201 = .ok (.aload_n 0, 1) := dw_42 wL_law_c rfl
theorem dL_law_202 : decode cL_law 202 = .ok (.iload_n 3, 1) := dw_29 wL_law_c rfl
theorem dL_law_203 : decode cL_law 203 = .ok (.iconst 2, 1) := dw_5 wL_law_c rfl
theorem dL_law_204 : decode cL_law 204 = .ok (.iadd, 1) := dw_96 wL_law_c rfl
theorem dL_law_205 : decode cL_law 205 = .ok (.iaload, 1) := dw_46 wL_law_c rfl
theorem dL_law_206 : decode cL_law 206 = .ok (.aload_n 0, 1) := dw_42 wL_law_c rfl
theorem dL_law_207 : decode cL_law 207 = .ok (.iload_n 3, 1) := dw_29 wL_law_c rfl
theorem dL_law_208 : decode cL_law 208 = .ok (.iconst 3, 1) := dw_6 wL_law_c rfl
theorem dL_law_209 : decode cL_law 209 = .ok (.iadd, 1) := dw_96 wL_law_c rfl
theorem dL_law_210 : decode cL_law 210 = .ok (.iaload, 1) := dw_46 wL_law_c rfl
theorem dL_law_211 : decode cL_law 211 = .ok (.aload_n 0, 1) := dw_42 wL_law_c rfl
theorem dL_law_212 : decode cL_law 212 = .ok (.iload_n 3, 1) := dw_29 wL_law_c rfl
theorem dL_law_213 : decode cL_law 213 = .ok (.iconst 4, 1) := dw_7 wL_law_c rfl
theorem dL_law_214 : decode cL_law 214 = .ok (.iadd, 1) := dw_96 wL_law_c rfl
theorem dL_law_215 : decode cL_law 215 = .ok (.iaload, 1) := dw_46 wL_law_c rfl
theorem dL_law_216 : decode cL_law 216 = .ok (.aload_n 0, 1) := dw_42 wL_law_c rfl
theorem dL_law_217 : decode cL_law 217 = .ok (.iload_n 3, 1) := dw_29 wL_law_c rfl
theorem dL_law_218 : decode cL_law 218 = .ok (.iconst 5, 1) := dw_8 wL_law_c rfl
theorem dL_law_219 : decode cL_law 219 = .ok (.iadd, 1) := dw_96 wL_law_c rfl
theorem dL_law_220 : decode cL_law 220 = .ok (.iaload, 1) := dw_46 wL_law_c rfl
theorem dL_law_221 : decode cL_law 221 = .ok (.invokevirtual 18, 3) := dw_182 wL_law_c 0 18 rfl rfl
theorem dL_law_224 : decode cL_law 224 = .ok (.pop, 1) := dw_87 wL_law_c rfl
theorem dL_law_225 : decode cL_law 225 = .ok (.aload_n 2, 1) := dw_44 wL_law_c rfl
theorem dL_law_226 : decode cL_law 226 = .ok (.aload_n 0, 1) := dw_42 wL_law_c rfl
theorem dL_law_227 : decode cL_law 227 = .ok (.iload_n 3, 1) := dw_29 wL_law_c rfl
theorem dL_law_228 : decode cL_law 228 = .ok (.iconst 1, 1) := dw_4 wL_law_c rfl
theorem dL_law_229 : decode cL_law 229 = .ok (.iadd, 1) := dw_96 wL_law_c rfl
theorem dL_law_230 : decode cL_law 230 = .ok (.iaload, 1) := dw_46 wL_law_c rfl
theorem dL_law_231 : decode cL_law 231 = .ok (.aload_n 0, 1) := dw_42 wL_law_c rfl
theorem dL_law_232 : decode cL_law 232 = .ok (.iload_n 3, 1) := dw_29 wL_law_c rfl
theorem dL_law_233 : decode cL_law 233 = .ok (.iconst 2, 1) := dw_5 wL_law_c rfl
theorem dL_law_234 : decode cL_law 234 = .ok (.iadd, 1) := dw_96 wL_law_c rfl
theorem dL_law_235 : decode cL_law 235 = .ok (.iaload, 1) := dw_46 wL_law_c rfl
theorem dL_law_236 : decode cL_law 236 = .ok (.aload_n 0, 1) := dw_42 wL_law_c rfl
theorem dL_law_237 : decode cL_law 237 = .ok (.iload_n 3, 1) := dw_29 wL_law_c rfl
theorem dL_law_238 : decode cL_law 238 = .ok (.iconst 3, 1) := dw_6 wL_law_c rfl
theorem dL_law_239 : decode cL_law 239 = .ok (.iadd, 1) := dw_96 wL_law_c rfl
theorem dL_law_240 : decode cL_law 240 = .ok (.iaload, 1) := dw_46 wL_law_c rfl
theorem dL_law_241 : decode cL_law 241 = .ok (.aload_n 0, 1) := dw_42 wL_law_c rfl
theorem dL_law_242 : decode cL_law 242 = .ok (.iload_n 3, 1) := dw_29 wL_law_c rfl
theorem dL_law_243 : decode cL_law 243 = .ok (.iconst 4, 1) := dw_7 wL_law_c rfl
theorem dL_law_244 : decode cL_law 244 = .ok (.iadd, 1) := dw_96 wL_law_c rfl
theorem dL_law_245 : decode cL_law 245 = .ok (.iaload, 1) := dw_46 wL_law_c rfl
theorem dL_law_246 : decode cL_law 246 = .ok (.aload_n 0, 1) := dw_42 wL_law_c rfl
theorem dL_law_247 : decode cL_law 247 = .ok (.iload_n 3, 1) := dw_29 wL_law_c rfl
theorem dL_law_248 : decode cL_law 248 = .ok (.iconst 5, 1) := dw_8 wL_law_c rfl
theorem dL_law_249 : decode cL_law 249 = .ok (.iadd, 1) := dw_96 wL_law_c rfl
theorem dL_law_250 : decode cL_law 250 = .ok (.iaload, 1) := dw_46 wL_law_c rfl
theorem dL_law_251 : decode cL_law 251 = .ok (.invokevirtual 22, 3) := dw_182 wL_law_c 0 22 rfl rfl
theorem dL_law_254 : decode cL_law 254 = .ok (.pop, 1) := dw_87 wL_law_c rfl
theorem dL_law_255 : decode cL_law 255 = .ok (.goto 1124, 3) := dw_167 wL_law_c 4 100 rfl rfl rfl
theorem dL_law_258 : decode cL_law 258 = .ok (.aload_n 1, 1) := dw_43 wL_law_c rfl
theorem dL_law_259 : decode cL_law 259 = .ok (.aload_n 0, 1) := dw_42 wL_law_c rfl
theorem dL_law_260 : decode cL_law 260 = .ok (.iload_n 3, 1) := dw_29 wL_law_c rfl
theorem dL_law_261 : decode cL_law 261 = .ok (.iconst 1, 1) := dw_4 wL_law_c rfl
theorem dL_law_262 : decode cL_law 262 = .ok (.iadd, 1) := dw_96 wL_law_c rfl
theorem dL_law_263 : decode cL_law 263 = .ok (.iaload, 1) := dw_46 wL_law_c rfl
theorem dL_law_264 : decode cL_law 264 = .ok (.invokevirtual 23, 3) := dw_182 wL_law_c 0 23 rfl rfl
theorem dL_law_267 : decode cL_law 267 = .ok (.pop, 1) := dw_87 wL_law_c rfl
theorem dL_law_268 : decode cL_law 268 = .ok (.aload_n 2, 1) := dw_44 wL_law_c rfl
theorem dL_law_269 : decode cL_law 269 = .ok (.aload_n 0, 1) := dw_42 wL_law_c rfl
theorem dL_law_270 : decode cL_law 270 = .ok (.iload_n 3, 1) := dw_29 wL_law_c rfl
theorem dL_law_271 : decode cL_law 271 = .ok (.iconst 1, 1) := dw_4 wL_law_c rfl
theorem dL_law_272 : decode cL_law 272 = .ok (.iadd, 1) := dw_96 wL_law_c rfl
theorem dL_law_273 : decode cL_law 273 = .ok (.iaload, 1) := dw_46 wL_law_c rfl
theorem dL_law_274 : decode cL_law 274 = .ok (.invokevirtual 27, 3) := dw_182 wL_law_c 0 27 rfl rfl
theorem dL_law_277 : decode cL_law 277 = .ok (.pop, 1) := dw_87 wL_law_c rfl
theorem dL_law_278 : decode cL_law 278 = .ok (.goto 1101, 3) := dw_167 wL_law_c 4 77 rfl rfl rfl
theorem dL_law_281 : decode cL_law 281 = .ok (.aload_n 1, 1) := dw_43 wL_law_c rfl
theorem dL_law_282 : decode cL_law 282 = .ok (.aload_n 0, 1) := dw_42 wL_law_c rfl
theorem dL_law_283 : decode cL_law 283 = .ok (.iload_n 3, 1) := dw_29 wL_law_c rfl
theorem dL_law_284 : decode cL_law 284 = .ok (.iconst 1, 1) := dw_4 wL_law_c rfl
theorem dL_law_285 : decode cL_law 285 = .ok (.iadd, 1) := dw_96 wL_law_c rfl
theorem dL_law_286 : decode cL_law 286 = .ok (.iaload, 1) := dw_46 wL_law_c rfl
theorem dL_law_287 : decode cL_law 287 = .ok (.invokevirtual 28, 3) := dw_182 wL_law_c 0 28 rfl rfl
theorem dL_law_290 : decode cL_law 290 = .ok (.pop, 1) := dw_87 wL_law_c rfl
theorem dL_law_291 : decode cL_law 291 = .ok (.aload_n 2, 1) := dw_44 wL_law_c rfl
theorem dL_law_292 : decode cL_law 292 = .ok (.aload_n 0, 1) := dw_42 wL_law_c rfl
theorem dL_law_293 : decode cL_law 293 = .ok (.iload_n 3, 1) := dw_29 wL_law_c rfl
theorem dL_law_294 : decode cL_law 294 = .ok (.iconst 1, 1) := dw_4 wL_law_c rfl
theorem dL_law_295 : decode cL_law 295 = .ok (.iadd, 1) := dw_96 wL_law_c rfl
theorem dL_law_296 : decode cL_law 296 = .ok (.iaload, 1) := dw_46 wL_law_c rfl
theorem dL_law_297 : decode cL_law 297 = .ok (.invokevirtual 31, 3) := dw_182 wL_law_c 0 31 rfl rfl
theorem dL_law_300 : decode cL_law 300 = .ok (.pop, 1) := dw_87 wL_law_c rfl
theorem dL_law_301 : decode cL_law 301 = .ok (.goto 1078, 3) := dw_167 wL_law_c 4 54 rfl rfl rfl
theorem dL_law_304 : decode cL_law 304 = .ok (.aload_n 1, 1) := dw_43 wL_law_c rfl
theorem dL_law_305 : decode cL_law 305 = .ok (.aload_n 0, 1) := dw_42 wL_law_c rfl
theorem dL_law_306 : decode cL_law 306 = .ok (.iload_n 3, 1) := dw_29 wL_law_c rfl
theorem dL_law_307 : decode cL_law 307 = .ok (.iconst 1, 1) := dw_4 wL_law_c rfl
theorem dL_law_308 : decode cL_law 308 = .ok (.iadd, 1) := dw_96 wL_law_c rfl
theorem dL_law_309 : decode cL_law 309 = .ok (.iaload, 1) := dw_46 wL_law_c rfl
theorem dL_law_310 : decode cL_law 310 = .ok (.aload_n 0, 1) := dw_42 wL_law_c rfl
theorem dL_law_311 : decode cL_law 311 = .ok (.iload_n 3, 1) := dw_29 wL_law_c rfl
theorem dL_law_312 : decode cL_law 312 = .ok (.iconst 2, 1) := dw_5 wL_law_c rfl
theorem dL_law_313 : decode cL_law 313 = .ok (.iadd, 1) := dw_96 wL_law_c rfl
theorem dL_law_314 : decode cL_law 314 = .ok (.iaload, 1) := dw_46 wL_law_c rfl
theorem dL_law_315 : decode cL_law 315 = .ok (.invokevirtual 32, 3) := dw_182 wL_law_c 0 32 rfl rfl
theorem dL_law_318 : decode cL_law 318 = .ok (.pop, 1) := dw_87 wL_law_c rfl
theorem dL_law_319 : decode cL_law 319 = .ok (.aload_n 2, 1) := dw_44 wL_law_c rfl
theorem dL_law_320 : decode cL_law 320 = .ok (.aload_n 0, 1) := dw_42 wL_law_c rfl
theorem dL_law_321 : decode cL_law 321 = .ok (.iload_n 3, 1) := dw_29 wL_law_c rfl
theorem dL_law_322 : decode cL_law 322 = .ok (.iconst 1, 1) := dw_4 wL_law_c rfl
theorem dL_law_323 : decode cL_law 323 = .ok (.iadd, 1) := dw_96 wL_law_c rfl
theorem dL_law_324 : decode cL_law 324 = .ok (.iaload, 1) := dw_46 wL_law_c rfl
theorem dL_law_325 : decode cL_law 325 = .ok (.aload_n 0, 1) := dw_42 wL_law_c rfl
theorem dL_law_326 : decode cL_law 326 = .ok (.iload_n 3, 1) := dw_29 wL_law_c rfl
theorem dL_law_327 : decode cL_law 327 = .ok (.iconst 2, 1) := dw_5 wL_law_c rfl
theorem dL_law_328 : decode cL_law 328 = .ok (.iadd, 1) := dw_96 wL_law_c rfl
theorem dL_law_329 : decode cL_law 329 = .ok (.iaload, 1) := dw_46 wL_law_c rfl
theorem dL_law_330 : decode cL_law 330 = .ok (.invokevirtual 36, 3) := dw_182 wL_law_c 0 36 rfl rfl
theorem dL_law_333 : decode cL_law 333 = .ok (.pop, 1) := dw_87 wL_law_c rfl
theorem dL_law_334 : decode cL_law 334 = .ok (.goto 1045, 3) := dw_167 wL_law_c 4 21 rfl rfl rfl
theorem dL_law_337 : decode cL_law 337 = .ok (.aload_n 1, 1) := dw_43 wL_law_c rfl
theorem dL_law_338 : decode cL_law 338 = .ok (.aload_n 0, 1) := dw_42 wL_law_c rfl
theorem dL_law_339 : decode cL_law 339 = .ok (.iload_n 3, 1) := dw_29 wL_law_c rfl
theorem dL_law_340 : decode cL_law 340 = .ok (.iconst 1, 1) := dw_4 wL_law_c rfl
theorem dL_law_341 : decode cL_law 341 = .ok (.iadd, 1) := dw_96 wL_law_c rfl
theorem dL_law_342 : decode cL_law 342 = .ok (.iaload, 1) := dw_46 wL_law_c rfl
theorem dL_law_343 : decode cL_law 343 = .ok (.aload_n 0, 1) := dw_42 wL_law_c rfl
theorem dL_law_344 : decode cL_law 344 = .ok (.iload_n 3, 1) := dw_29 wL_law_c rfl
theorem dL_law_345 : decode cL_law 345 = .ok (.iconst 2, 1) := dw_5 wL_law_c rfl
theorem dL_law_346 : decode cL_law 346 = .ok (.iadd, 1) := dw_96 wL_law_c rfl
theorem dL_law_347 : decode cL_law 347 = .ok (.iaload, 1) := dw_46 wL_law_c rfl
theorem dL_law_348 : decode cL_law 348 = .ok (.aload_n 0, 1) := dw_42 wL_law_c rfl
theorem dL_law_349 : decode cL_law 349 = .ok (.iload_n 3, 1) := dw_29 wL_law_c rfl
theorem dL_law_350 : decode cL_law 350 = .ok (.iconst 3, 1) := dw_6 wL_law_c rfl
theorem dL_law_351 : decode cL_law 351 = .ok (.iadd, 1) := dw_96 wL_law_c rfl
theorem dL_law_352 : decode cL_law 352 = .ok (.iaload, 1) := dw_46 wL_law_c rfl
theorem dL_law_353 : decode cL_law 353 = .ok (.aload_n 0, 1) := dw_42 wL_law_c rfl
theorem dL_law_354 : decode cL_law 354 = .ok (.iload_n 3, 1) := dw_29 wL_law_c rfl
theorem dL_law_355 : decode cL_law 355 = .ok (.iconst 4, 1) := dw_7 wL_law_c rfl
theorem dL_law_356 : decode cL_law 356 = .ok (.iadd, 1) := dw_96 wL_law_c rfl
theorem dL_law_357 : decode cL_law 357 = .ok (.iaload, 1) := dw_46 wL_law_c rfl
theorem dL_law_358 : decode cL_law 358 = .ok (.aload_n 0, 1) := dw_42 wL_law_c rfl
theorem dL_law_359 : decode cL_law 359 = .ok (.iload_n 3, 1) := dw_29 wL_law_c rfl
theorem dL_law_360 : decode cL_law 360 = .ok (.iconst 5, 1) := dw_8 wL_law_c rfl
theorem dL_law_361 : decode cL_law 361 = .ok (.iadd, 1) := dw_96 wL_law_c rfl
theorem dL_law_362 : decode cL_law 362 = .ok (.iaload, 1) := dw_46 wL_law_c rfl
theorem dL_law_363 : decode cL_law 363 = .ok (.aload_n 0, 1) := dw_42 wL_law_c rfl
theorem dL_law_364 : decode cL_law 364 = .ok (.iload_n 3, 1) := dw_29 wL_law_c rfl
theorem dL_law_365 : decode cL_law 365 = .ok (.bipush 6, 2) := dw_16 wL_law_c 6 rfl rfl rfl
theorem dL_law_367 : decode cL_law 367 = .ok (.iadd, 1) := dw_96 wL_law_c rfl
theorem dL_law_368 : decode cL_law 368 = .ok (.iaload, 1) := dw_46 wL_law_c rfl
theorem dL_law_369 : decode cL_law 369 = .ok (.invokevirtual 37, 3) := dw_182 wL_law_c 0 37 rfl rfl
theorem dL_law_372 : decode cL_law 372 = .ok (.pop, 1) := dw_87 wL_law_c rfl
theorem dL_law_373 : decode cL_law 373 = .ok (.aload_n 2, 1) := dw_44 wL_law_c rfl
theorem dL_law_374 : decode cL_law 374 = .ok (.aload_n 0, 1) := dw_42 wL_law_c rfl
theorem dL_law_375 : decode cL_law 375 = .ok (.iload_n 3, 1) := dw_29 wL_law_c rfl
theorem dL_law_376 : decode cL_law 376 = .ok (.iconst 1, 1) := dw_4 wL_law_c rfl
theorem dL_law_377 : decode cL_law 377 = .ok (.iadd, 1) := dw_96 wL_law_c rfl
theorem dL_law_378 : decode cL_law 378 = .ok (.iaload, 1) := dw_46 wL_law_c rfl
theorem dL_law_379 : decode cL_law 379 = .ok (.aload_n 0, 1) := dw_42 wL_law_c rfl
theorem dL_law_380 : decode cL_law 380 = .ok (.iload_n 3, 1) := dw_29 wL_law_c rfl
theorem dL_law_381 : decode cL_law 381 = .ok (.iconst 2, 1) := dw_5 wL_law_c rfl
theorem dL_law_382 : decode cL_law 382 = .ok (.iadd, 1) := dw_96 wL_law_c rfl
theorem dL_law_383 : decode cL_law 383 = .ok (.iaload, 1) := dw_46 wL_law_c rfl
theorem dL_law_384 : decode cL_law 384 = .ok (.aload_n 0, 1) := dw_42 wL_law_c rfl
theorem dL_law_385 : decode cL_law 385 = .ok (.iload_n 3, 1) := dw_29 wL_law_c rfl
theorem dL_law_386 : decode cL_law 386 = .ok (.iconst 3, 1) := dw_6 wL_law_c rfl
theorem dL_law_387 : decode cL_law 387 = .ok (.iadd, 1) := dw_96 wL_law_c rfl
theorem dL_law_388 : decode cL_law 388 = .ok (.iaload, 1) := dw_46 wL_law_c rfl
theorem dL_law_389 : decode cL_law 389 = .ok (.aload_n 0, 1) := dw_42 wL_law_c rfl
theorem dL_law_390 : decode cL_law 390 = .ok (.iload_n 3, 1) := dw_29 wL_law_c rfl
theorem dL_law_391 : decode cL_law 391 = .ok (.iconst 4, 1) := dw_7 wL_law_c rfl
theorem dL_law_392 : decode cL_law 392 = .ok (.iadd, 1) := dw_96 wL_law_c rfl
theorem dL_law_393 : decode cL_law 393 = .ok (.iaload, 1) := dw_46 wL_law_c rfl
theorem dL_law_394 : decode cL_law 394 = .ok (.aload_n 0, 1) := dw_42 wL_law_c rfl
theorem dL_law_395 : decode cL_law 395 = .ok (.iload_n 3, 1) := dw_29 wL_law_c rfl
theorem dL_law_396 : decode cL_law 396 = .ok (.iconst 5, 1) := dw_8 wL_law_c rfl
theorem dL_law_397 : decode cL_law 397 = .ok (.iadd, 1) := dw_96 wL_law_c rfl
theorem dL_law_398 : decode cL_law 398 = .ok (.iaload, 1) := dw_46 wL_law_c rfl
theorem dL_law_399 : decode cL_law 399 = .ok (.aload_n 0, 1) := dw_42 wL_law_c rfl
theorem dL_law_400 : decode cL_law 400 = .ok (.iload_n 3, 1) := dw_29 wL_law_c rfl
theorem dL_law_401 : decode cL_law 401 = .ok (.bipush 6, 2) := dw_16 wL_law_c 6 rfl rfl rfl
theorem dL_law_403 : decode cL_law 403 = .ok (.iadd, 1) := dw_96 wL_law_c rfl
theorem dL_law_404 : decode cL_law 404 = .ok (.iaload, 1) := dw_46 wL_law_c rfl
theorem dL_law_405 : decode cL_law 405 = .ok (.invokevirtual 41, 3) := dw_182 wL_law_c 0 41 rfl rfl
theorem dL_law_408 : decode cL_law 408 = .ok (.pop, 1) := dw_87 wL_law_c rfl
theorem dL_law_409 : decode cL_law 409 = .ok (.goto 970, 3) := dw_167 wL_law_c 3 202 rfl rfl rfl
theorem dL_law_412 : decode cL_law 412 = .ok (.aload_n 1, 1) := dw_43 wL_law_c rfl
theorem dL_law_413 : decode cL_law 413 = .ok (.aload_n 0, 1) := dw_42 wL_law_c rfl
theorem dL_law_414 : decode cL_law 414 = .ok (.iload_n 3, 1) := dw_29 wL_law_c rfl
theorem dL_law_415 : decode cL_law 415 = .ok (.iconst 1, 1) := dw_4 wL_law_c rfl
theorem dL_law_416 : decode cL_law 416 = .ok (.iadd, 1) := dw_96 wL_law_c rfl
theorem dL_law_417 : decode cL_law 417 = .ok (.iaload, 1) := dw_46 wL_law_c rfl
theorem dL_law_418 : decode cL_law 418 = .ok (.aload_n 0, 1) := dw_42 wL_law_c rfl
theorem dL_law_419 : decode cL_law 419 = .ok (.iload_n 3, 1) := dw_29 wL_law_c rfl
theorem dL_law_420 : decode cL_law 420 = .ok (.iconst 2, 1) := dw_5 wL_law_c rfl
theorem dL_law_421 : decode cL_law 421 = .ok (.iadd, 1) := dw_96 wL_law_c rfl
theorem dL_law_422 : decode cL_law 422 = .ok (.iaload, 1) := dw_46 wL_law_c rfl
theorem dL_law_423 : decode cL_law 423 = .ok (.aload_n 0, 1) := dw_42 wL_law_c rfl
theorem dL_law_424 : decode cL_law 424 = .ok (.iload_n 3, 1) := dw_29 wL_law_c rfl
theorem dL_law_425 : decode cL_law 425 = .ok (.iconst 3, 1) := dw_6 wL_law_c rfl
theorem dL_law_426 : decode cL_law 426 = .ok (.iadd, 1) := dw_96 wL_law_c rfl
theorem dL_law_427 : decode cL_law 427 = .ok (.iaload, 1) := dw_46 wL_law_c rfl
theorem dL_law_428 : decode cL_law 428 = .ok (.aload_n 0, 1) := dw_42 wL_law_c rfl
theorem dL_law_429 : decode cL_law 429 = .ok (.iload_n 3, 1) := dw_29 wL_law_c rfl
theorem dL_law_430 : decode cL_law 430 = .ok (.iconst 4, 1) := dw_7 wL_law_c rfl
theorem dL_law_431 : decode cL_law 431 = .ok (.iadd, 1) := dw_96 wL_law_c rfl
theorem dL_law_432 : decode cL_law 432 = .ok (.iaload, 1) := dw_46 wL_law_c rfl
theorem dL_law_433 : decode cL_law 433 = .ok (.aload_n 0, 1) := dw_42 wL_law_c rfl
theorem dL_law_434 : decode cL_law 434 = .ok (.iload_n 3, 1) := dw_29 wL_law_c rfl
theorem dL_law_435 : decode cL_law 435 = .ok (.iconst 5, 1) := dw_8 wL_law_c rfl
theorem dL_law_436 : decode cL_law 436 = .ok (.iadd, 1) := dw_96 wL_law_c rfl
theorem dL_law_437 : decode cL_law 437 = .ok (.iaload, 1) := dw_46 wL_law_c rfl
theorem dL_law_438 : decode cL_law 438 = .ok (.invokevirtual 42, 3) := dw_182 wL_law_c 0 42 rfl rfl
theorem dL_law_441 : decode cL_law 441 = .ok (.pop, 1) := dw_87 wL_law_c rfl
theorem dL_law_442 : decode cL_law 442 = .ok (.aload_n 2, 1) := dw_44 wL_law_c rfl
theorem dL_law_443 : decode cL_law 443 = .ok (.aload_n 0, 1) := dw_42 wL_law_c rfl
theorem dL_law_444 : decode cL_law 444 = .ok (.iload_n 3, 1) := dw_29 wL_law_c rfl
theorem dL_law_445 : decode cL_law 445 = .ok (.iconst 1, 1) := dw_4 wL_law_c rfl
theorem dL_law_446 : decode cL_law 446 = .ok (.iadd, 1) := dw_96 wL_law_c rfl
theorem dL_law_447 : decode cL_law 447 = .ok (.iaload, 1) := dw_46 wL_law_c rfl
theorem dL_law_448 : decode cL_law 448 = .ok (.aload_n 0, 1) := dw_42 wL_law_c rfl
theorem dL_law_449 : decode cL_law 449 = .ok (.iload_n 3, 1) := dw_29 wL_law_c rfl
theorem dL_law_450 : decode cL_law 450 = .ok (.iconst 2, 1) := dw_5 wL_law_c rfl
theorem dL_law_451 : decode cL_law 451 = .ok (.iadd, 1) := dw_96 wL_law_c rfl
theorem dL_law_452 : decode cL_law 452 = .ok (.iaload, 1) := dw_46 wL_law_c rfl
theorem dL_law_453 : decode cL_law 453 = .ok (.aload_n 0, 1) := dw_42 wL_law_c rfl
theorem dL_law_454 : decode cL_law 454 = .ok (.iload_n 3, 1) := dw_29 wL_law_c rfl
theorem dL_law_455 : decode cL_law 455 = .ok (.iconst 3, 1) := dw_6 wL_law_c rfl
theorem dL_law_456 : decode cL_law 456 = .ok (.iadd, 1) := dw_96 wL_law_c rfl
theorem dL_law_457 : decode cL_law 457 = .ok (.iaload, 1) := dw_46 wL_law_c rfl
theorem dL_law_458 : decode cL_law 458 = .ok (.aload_n 0, 1) := dw_42 wL_law_c rfl
theorem dL_law_459 : decode cL_law 459 = .ok (.iload_n 3, 1) := dw_29 wL_law_c rfl
theorem dL_law_460 : decode cL_law 460 = .ok (.iconst 4, 1) := dw_7 wL_law_c rfl
theorem dL_law_461 : decode cL_law 461 = .ok (.iadd, 1) := dw_96 wL_law_c rfl
theorem dL_law_462 : decode cL_law 462 = .ok (.iaload, 1) := dw_46 wL_law_c rfl
theorem dL_law_463 : decode cL_law 463 = .ok (.aload_n 0, 1) := dw_42 wL_law_c rfl
theorem dL_law_464 : decode cL_law 464 = .ok (.iload_n 3, 1) := dw_29 wL_law_c rfl
theorem dL_law_465 : decode cL_law 465 = .ok (.iconst 5, 1) := dw_8 wL_law_c rfl
theorem dL_law_466 : decode cL_law 466 = .ok (.iadd, 1) := dw_96 wL_law_c rfl
theorem dL_law_467 : decode cL_law 467 = .ok (.iaload, 1) := dw_46 wL_law_c rfl
theorem dL_law_468 : decode cL_law 468 = .ok (.invokevirtual 46, 3) := dw_182 wL_law_c 0 46 rfl rfl
theorem dL_law_471 : decode cL_law 471 = .ok (.pop, 1) := dw_87 wL_law_c rfl
theorem dL_law_472 : decode cL_law 472 = .ok (.goto 907, 3) := dw_167 wL_law_c 3 139 rfl rfl rfl
theorem dL_law_475 : decode cL_law 475 = .ok (.aload_n 1, 1) := dw_43 wL_law_c rfl
theorem dL_law_476 : decode cL_law 476 = .ok (.aload_n 0, 1) := dw_42 wL_law_c rfl
theorem dL_law_477 : decode cL_law 477 = .ok (.iload_n 3, 1) := dw_29 wL_law_c rfl
theorem dL_law_478 : decode cL_law 478 = .ok (.iconst 1, 1) := dw_4 wL_law_c rfl
theorem dL_law_479 : decode cL_law 479 = .ok (.iadd, 1) := dw_96 wL_law_c rfl
theorem dL_law_480 : decode cL_law 480 = .ok (.iaload, 1) := dw_46 wL_law_c rfl
theorem dL_law_481 : decode cL_law 481 = .ok (.invokevirtual 47, 3) := dw_182 wL_law_c 0 47 rfl rfl
theorem dL_law_484 : decode cL_law 484 = .ok (.pop, 1) := dw_87 wL_law_c rfl
theorem dL_law_485 : decode cL_law 485 = .ok (.aload_n 2, 1) := dw_44 wL_law_c rfl
theorem dL_law_486 : decode cL_law 486 = .ok (.aload_n 0, 1) := dw_42 wL_law_c rfl
theorem dL_law_487 : decode cL_law 487 = .ok (.iload_n 3, 1) := dw_29 wL_law_c rfl
theorem dL_law_488 : decode cL_law 488 = .ok (.iconst 1, 1) := dw_4 wL_law_c rfl
theorem dL_law_489 : decode cL_law 489 = .ok (.iadd, 1) := dw_96 wL_law_c rfl
theorem dL_law_490 : decode cL_law 490 = .ok (.iaload, 1) := dw_46 wL_law_c rfl
theorem dL_law_491 : decode cL_law 491 = .ok (.invokevirtual 50, 3) := dw_182 wL_law_c 0 50 rfl rfl
theorem dL_law_494 : decode cL_law 494 = .ok (.pop, 1) := dw_87 wL_law_c rfl
theorem dL_law_495 : decode cL_law 495 = .ok (.goto 884, 3) := dw_167 wL_law_c 3 116 rfl rfl rfl
theorem dL_law_498 : decode cL_law 498 = .ok (.aload_n 1, 1) := dw_43 wL_law_c rfl
theorem dL_law_499 : decode cL_law 499 = .ok (.aload_n 0, 1) := dw_42 wL_law_c rfl
theorem dL_law_500 : decode cL_law 500 = .ok (.iload_n 3, 1) := dw_29 wL_law_c rfl
theorem dL_law_501 : decode cL_law 501 = .ok (.iconst 1, 1) := dw_4 wL_law_c rfl
theorem dL_law_502 : decode cL_law 502 = .ok (.iadd, 1) := dw_96 wL_law_c rfl
theorem dL_law_503 : decode cL_law 503 = .ok (.iaload, 1) := dw_46 wL_law_c rfl
theorem dL_law_504 : decode cL_law 504 = .ok (.aload_n 0, 1) := dw_42 wL_law_c rfl
theorem dL_law_505 : decode cL_law 505 = .ok (.iload_n 3, 1) := dw_29 wL_law_c rfl
theorem dL_law_506 : decode cL_law 506 = .ok (.iconst 2, 1) := dw_5 wL_law_c rfl
theorem dL_law_507 : decode cL_law 507 = .ok (.iadd, 1) := dw_96 wL_law_c rfl
theorem dL_law_508 : decode cL_law 508 = .ok (.iaload, 1) := dw_46 wL_law_c rfl
theorem dL_law_509 : decode cL_law 509 = .ok (.ifCond .eq 7, 3) := dw_153 wL_law_c 0 7 rfl rfl rfl
theorem dL_law_512 : decode cL_law 512 = .ok (.iconst 1, 1) := dw_4 wL_law_c rfl
theorem dL_law_513 : decode cL_law 513 = .ok (.goto 4, 3) := dw_167 wL_law_c 0 4 rfl rfl rfl
theorem dL_law_516 : decode cL_law 516 = .ok (.iconst 0, 1) := dw_3 wL_law_c rfl
theorem dL_law_517 : decode cL_law 517 = .ok (.invokevirtual 51, 3) := dw_182 wL_law_c 0 51 rfl rfl
theorem dL_law_520 : decode cL_law 520 = .ok (.pop, 1) := dw_87 wL_law_c rfl
theorem dL_law_521 : decode cL_law 521 = .ok (.aload_n 2, 1) := dw_44 wL_law_c rfl
theorem dL_law_522 : decode cL_law 522 = .ok (.aload_n 0, 1) := dw_42 wL_law_c rfl
theorem dL_law_523 : decode cL_law 523 = .ok (.iload_n 3, 1) := dw_29 wL_law_c rfl
theorem dL_law_524 : decode cL_law 524 = .ok (.iconst 1, 1) := dw_4 wL_law_c rfl
theorem dL_law_525 : decode cL_law 525 = .ok (.iadd, 1) := dw_96 wL_law_c rfl
theorem dL_law_526 : decode cL_law 526 = .ok (.iaload, 1) := dw_46 wL_law_c rfl
theorem dL_law_527 : decode cL_law 527 = .ok (.aload_n 0, 1) := dw_42 wL_law_c rfl
theorem dL_law_528 : decode cL_law 528 = .ok (.iload_n 3, 1) := dw_29 wL_law_c rfl
theorem dL_law_529 : decode cL_law 529 = .ok (.iconst 2, 1) := dw_5 wL_law_c rfl
theorem dL_law_530 : decode cL_law 530 = .ok (.iadd, 1) := dw_96 wL_law_c rfl
theorem dL_law_531 : decode cL_law 531 = .ok (.iaload, 1) := dw_46 wL_law_c rfl
theorem dL_law_532 : decode cL_law 532 = .ok (.ifCond .eq 7, 3) := dw_153 wL_law_c 0 7 rfl rfl rfl
theorem dL_law_535 : decode cL_law 535 = .ok (.iconst 1, 1) := dw_4 wL_law_c rfl
theorem dL_law_536 : decode cL_law 536 = .ok (.goto 4, 3) := dw_167 wL_law_c 0 4 rfl rfl rfl
theorem dL_law_539 : decode cL_law 539 = .ok (.iconst 0, 1) := dw_3 wL_law_c rfl
theorem dL_law_540 : decode cL_law 540 = .ok (.invokevirtual 55, 3) := dw_182 wL_law_c 0 55 rfl rfl
theorem dL_law_543 : decode cL_law 543 = .ok (.pop, 1) := dw_87 wL_law_c rfl
theorem dL_law_544 : decode cL_law 544 = .ok (.goto 835, 3) := dw_167 wL_law_c 3 67 rfl rfl rfl
theorem dL_law_547 : decode cL_law 547 = .ok (.aload_n 1, 1) := dw_43 wL_law_c rfl
theorem dL_law_548 : decode cL_law 548 = .ok (.aload_n 0, 1) := dw_42 wL_law_c rfl
theorem dL_law_549 : decode cL_law 549 = .ok (.iload_n 3, 1) := dw_29 wL_law_c rfl
theorem dL_law_550 : decode cL_law 550 = .ok (.iconst 1, 1) := dw_4 wL_law_c rfl
theorem dL_law_551 : decode cL_law 551 = .ok (.iadd, 1) := dw_96 wL_law_c rfl
theorem dL_law_552 : decode cL_law 552 = .ok (.iaload, 1) := dw_46 wL_law_c rfl
theorem dL_law_553 : decode cL_law 553 = .ok (.aload_n 0, 1) := dw_42 wL_law_c rfl
theorem dL_law_554 : decode cL_law 554 = .ok (.iload_n 3, 1) := dw_29 wL_law_c rfl
theorem dL_law_555 : decode cL_law 555 = .ok (.iconst 2, 1) := dw_5 wL_law_c rfl
theorem dL_law_556 : decode cL_law 556 = .ok (.iadd, 1) := dw_96 wL_law_c rfl
theorem dL_law_557 : decode cL_law 557 = .ok (.iaload, 1) := dw_46 wL_law_c rfl
theorem dL_law_558 : decode cL_law 558 = .ok (.aload_n 0, 1) := dw_42 wL_law_c rfl
theorem dL_law_559 : decode cL_law 559 = .ok (.iload_n 3, 1) := dw_29 wL_law_c rfl
theorem dL_law_560 : decode cL_law 560 = .ok (.iconst 3, 1) := dw_6 wL_law_c rfl
theorem dL_law_561 : decode cL_law 561 = .ok (.iadd, 1) := dw_96 wL_law_c rfl
theorem dL_law_562 : decode cL_law 562 = .ok (.iaload, 1) := dw_46 wL_law_c rfl
theorem dL_law_563 : decode cL_law 563 = .ok (.aload_n 0, 1) := dw_42 wL_law_c rfl
theorem dL_law_564 : decode cL_law 564 = .ok (.iload_n 3, 1) := dw_29 wL_law_c rfl
theorem dL_law_565 : decode cL_law 565 = .ok (.iconst 4, 1) := dw_7 wL_law_c rfl
theorem dL_law_566 : decode cL_law 566 = .ok (.iadd, 1) := dw_96 wL_law_c rfl
theorem dL_law_567 : decode cL_law 567 = .ok (.iaload, 1) := dw_46 wL_law_c rfl
theorem dL_law_568 : decode cL_law 568 = .ok (.aload_n 0, 1) := dw_42 wL_law_c rfl
theorem dL_law_569 : decode cL_law 569 = .ok (.iload_n 3, 1) := dw_29 wL_law_c rfl
theorem dL_law_570 : decode cL_law 570 = .ok (.iconst 5, 1) := dw_8 wL_law_c rfl
theorem dL_law_571 : decode cL_law 571 = .ok (.iadd, 1) := dw_96 wL_law_c rfl
theorem dL_law_572 : decode cL_law 572 = .ok (.iaload, 1) := dw_46 wL_law_c rfl
theorem dL_law_573 : decode cL_law 573 = .ok (.invokevirtual 56, 3) := dw_182 wL_law_c 0 56 rfl rfl
theorem dL_law_576 : decode cL_law 576 = .ok (.pop, 1) := dw_87 wL_law_c rfl
theorem dL_law_577 : decode cL_law 577 = .ok (.aload_n 2, 1) := dw_44 wL_law_c rfl
theorem dL_law_578 : decode cL_law 578 = .ok (.aload_n 0, 1) := dw_42 wL_law_c rfl
theorem dL_law_579 : decode cL_law 579 = .ok (.iload_n 3, 1) := dw_29 wL_law_c rfl
theorem dL_law_580 : decode cL_law 580 = .ok (.iconst 1, 1) := dw_4 wL_law_c rfl
theorem dL_law_581 : decode cL_law 581 = .ok (.iadd, 1) := dw_96 wL_law_c rfl
theorem dL_law_582 : decode cL_law 582 = .ok (.iaload, 1) := dw_46 wL_law_c rfl
theorem dL_law_583 : decode cL_law 583 = .ok (.aload_n 0, 1) := dw_42 wL_law_c rfl
theorem dL_law_584 : decode cL_law 584 = .ok (.iload_n 3, 1) := dw_29 wL_law_c rfl
theorem dL_law_585 : decode cL_law 585 = .ok (.iconst 2, 1) := dw_5 wL_law_c rfl
theorem dL_law_586 : decode cL_law 586 = .ok (.iadd, 1) := dw_96 wL_law_c rfl
theorem dL_law_587 : decode cL_law 587 = .ok (.iaload, 1) := dw_46 wL_law_c rfl
theorem dL_law_588 : decode cL_law 588 = .ok (.aload_n 0, 1) := dw_42 wL_law_c rfl
theorem dL_law_589 : decode cL_law 589 = .ok (.iload_n 3, 1) := dw_29 wL_law_c rfl
theorem dL_law_590 : decode cL_law 590 = .ok (.iconst 3, 1) := dw_6 wL_law_c rfl
theorem dL_law_591 : decode cL_law 591 = .ok (.iadd, 1) := dw_96 wL_law_c rfl
theorem dL_law_592 : decode cL_law 592 = .ok (.iaload, 1) := dw_46 wL_law_c rfl
theorem dL_law_593 : decode cL_law 593 = .ok (.aload_n 0, 1) := dw_42 wL_law_c rfl
theorem dL_law_594 : decode cL_law 594 = .ok (.iload_n 3, 1) := dw_29 wL_law_c rfl
theorem dL_law_595 : decode cL_law 595 = .ok (.iconst 4, 1) := dw_7 wL_law_c rfl
theorem dL_law_596 : decode cL_law 596 = .ok (.iadd, 1) := dw_96 wL_law_c rfl
theorem dL_law_597 : decode cL_law 597 = .ok (.iaload, 1) := dw_46 wL_law_c rfl
theorem dL_law_598 : decode cL_law 598 = .ok (.aload_n 0, 1) := dw_42 wL_law_c rfl
theorem dL_law_599 : decode cL_law 599 = .ok (.iload_n 3, 1) := dw_29 wL_law_c rfl
theorem dL_law_600 : decode cL_law 600 = .ok (.iconst 5, 1) := dw_8 wL_law_c rfl
theorem dL_law_601 : decode cL_law 601 = .ok (.iadd, 1) := dw_96 wL_law_c rfl
theorem dL_law_602 : decode cL_law 602 = .ok (.iaload, 1) := dw_46 wL_law_c rfl
theorem dL_law_603 : decode cL_law 603 = .ok (.invokevirtual 59, 3) := dw_182 wL_law_c 0 59 rfl rfl
theorem dL_law_606 : decode cL_law 606 = .ok (.pop, 1) := dw_87 wL_law_c rfl
theorem dL_law_607 : decode cL_law 607 = .ok (.goto 772, 3) := dw_167 wL_law_c 3 4 rfl rfl rfl
theorem dL_law_610 : decode cL_law 610 = .ok (.aload_n 1, 1) := dw_43 wL_law_c rfl
theorem dL_law_611 : decode cL_law 611 = .ok (.aload_n 0, 1) := dw_42 wL_law_c rfl
theorem dL_law_612 : decode cL_law 612 = .ok (.iload_n 3, 1) := dw_29 wL_law_c rfl
theorem dL_law_613 : decode cL_law 613 = .ok (.iconst 1, 1) := dw_4 wL_law_c rfl
theorem dL_law_614 : decode cL_law 614 = .ok (.iadd, 1) := dw_96 wL_law_c rfl
theorem dL_law_615 : decode cL_law 615 = .ok (.iaload, 1) := dw_46 wL_law_c rfl
theorem dL_law_616 : decode cL_law 616 = .ok (.aload_n 0, 1) := dw_42 wL_law_c rfl
theorem dL_law_617 : decode cL_law 617 = .ok (.iload_n 3, 1) := dw_29 wL_law_c rfl
theorem dL_law_618 : decode cL_law 618 = .ok (.iconst 2, 1) := dw_5 wL_law_c rfl
theorem dL_law_619 : decode cL_law 619 = .ok (.iadd, 1) := dw_96 wL_law_c rfl
theorem dL_law_620 : decode cL_law 620 = .ok (.iaload, 1) := dw_46 wL_law_c rfl
theorem dL_law_621 : decode cL_law 621 = .ok (.aload_n 0, 1) := dw_42 wL_law_c rfl
theorem dL_law_622 : decode cL_law 622 = .ok (.iload_n 3, 1) := dw_29 wL_law_c rfl
theorem dL_law_623 : decode cL_law 623 = .ok (.iconst 3, 1) := dw_6 wL_law_c rfl
theorem dL_law_624 : decode cL_law 624 = .ok (.iadd, 1) := dw_96 wL_law_c rfl
theorem dL_law_625 : decode cL_law 625 = .ok (.iaload, 1) := dw_46 wL_law_c rfl
theorem dL_law_626 : decode cL_law 626 = .ok (.aload_n 0, 1) := dw_42 wL_law_c rfl
theorem dL_law_627 : decode cL_law 627 = .ok (.iload_n 3, 1) := dw_29 wL_law_c rfl
theorem dL_law_628 : decode cL_law 628 = .ok (.iconst 4, 1) := dw_7 wL_law_c rfl
theorem dL_law_629 : decode cL_law 629 = .ok (.iadd, 1) := dw_96 wL_law_c rfl
theorem dL_law_630 : decode cL_law 630 = .ok (.iaload, 1) := dw_46 wL_law_c rfl
theorem dL_law_631 : decode cL_law 631 = .ok (.invokevirtual 60, 3) := dw_182 wL_law_c 0 60 rfl rfl
theorem dL_law_634 : decode cL_law 634 = .ok (.pop, 1) := dw_87 wL_law_c rfl
theorem dL_law_635 : decode cL_law 635 = .ok (.aload_n 2, 1) := dw_44 wL_law_c rfl
theorem dL_law_636 : decode cL_law 636 = .ok (.aload_n 0, 1) := dw_42 wL_law_c rfl
theorem dL_law_637 : decode cL_law 637 = .ok (.iload_n 3, 1) := dw_29 wL_law_c rfl
theorem dL_law_638 : decode cL_law 638 = .ok (.iconst 1, 1) := dw_4 wL_law_c rfl
theorem dL_law_639 : decode cL_law 639 = .ok (.iadd, 1) := dw_96 wL_law_c rfl
theorem dL_law_640 : decode cL_law 640 = .ok (.iaload, 1) := dw_46 wL_law_c rfl
theorem dL_law_641 : decode cL_law 641 = .ok (.aload_n 0, 1) := dw_42 wL_law_c rfl
theorem dL_law_642 : decode cL_law 642 = .ok (.iload_n 3, 1) := dw_29 wL_law_c rfl
theorem dL_law_643 : decode cL_law 643 = .ok (.iconst 2, 1) := dw_5 wL_law_c rfl
theorem dL_law_644 : decode cL_law 644 = .ok (.iadd, 1) := dw_96 wL_law_c rfl
theorem dL_law_645 : decode cL_law 645 = .ok (.iaload, 1) := dw_46 wL_law_c rfl
theorem dL_law_646 : decode cL_law 646 = .ok (.aload_n 0, 1) := dw_42 wL_law_c rfl
theorem dL_law_647 : decode cL_law 647 = .ok (.iload_n 3, 1) := dw_29 wL_law_c rfl
theorem dL_law_648 : decode cL_law 648 = .ok (.iconst 3, 1) := dw_6 wL_law_c rfl
theorem dL_law_649 : decode cL_law 649 = .ok (.iadd, 1) := dw_96 wL_law_c rfl
theorem dL_law_650 : decode cL_law 650 = .ok (.iaload, 1) := dw_46 wL_law_c rfl
theorem dL_law_651 : decode cL_law 651 = .ok (.aload_n 0, 1) := dw_42 wL_law_c rfl
theorem dL_law_652 : decode cL_law 652 = .ok (.iload_n 3, 1) := dw_29 wL_law_c rfl
theorem dL_law_653 : decode cL_law 653 = .ok (.iconst 4, 1) := dw_7 wL_law_c rfl
theorem dL_law_654 : decode cL_law 654 = .ok (.iadd, 1) := dw_96 wL_law_c rfl
theorem dL_law_655 : decode cL_law 655 = .ok (.iaload, 1) := dw_46 wL_law_c rfl
theorem dL_law_656 : decode cL_law 656 = .ok (.invokevirtual 64, 3) := dw_182 wL_law_c 0 64 rfl rfl
theorem dL_law_659 : decode cL_law 659 = .ok (.pop, 1) := dw_87 wL_law_c rfl
theorem dL_law_660 : decode cL_law 660 = .ok (.goto 719, 3) := dw_167 wL_law_c 2 207 rfl rfl rfl
theorem dL_law_663 : decode cL_law 663 = .ok (.aload_n 1, 1) := dw_43 wL_law_c rfl
theorem dL_law_664 : decode cL_law 664 = .ok (.aload_n 0, 1) := dw_42 wL_law_c rfl
theorem dL_law_665 : decode cL_law 665 = .ok (.iload_n 3, 1) := dw_29 wL_law_c rfl
theorem dL_law_666 : decode cL_law 666 = .ok (.iconst 1, 1) := dw_4 wL_law_c rfl
theorem dL_law_667 : decode cL_law 667 = .ok (.iadd, 1) := dw_96 wL_law_c rfl
theorem dL_law_668 : decode cL_law 668 = .ok (.iaload, 1) := dw_46 wL_law_c rfl
theorem dL_law_669 : decode cL_law 669 = .ok (.aload_n 0, 1) := dw_42 wL_law_c rfl
theorem dL_law_670 : decode cL_law 670 = .ok (.iload_n 3, 1) := dw_29 wL_law_c rfl
theorem dL_law_671 : decode cL_law 671 = .ok (.iconst 2, 1) := dw_5 wL_law_c rfl
theorem dL_law_672 : decode cL_law 672 = .ok (.iadd, 1) := dw_96 wL_law_c rfl
theorem dL_law_673 : decode cL_law 673 = .ok (.iaload, 1) := dw_46 wL_law_c rfl
theorem dL_law_674 : decode cL_law 674 = .ok (.aload_n 0, 1) := dw_42 wL_law_c rfl
theorem dL_law_675 : decode cL_law 675 = .ok (.iload_n 3, 1) := dw_29 wL_law_c rfl
theorem dL_law_676 : decode cL_law 676 = .ok (.iconst 3, 1) := dw_6 wL_law_c rfl
theorem dL_law_677 : decode cL_law 677 = .ok (.iadd, 1) := dw_96 wL_law_c rfl
theorem dL_law_678 : decode cL_law 678 = .ok (.iaload, 1) := dw_46 wL_law_c rfl
theorem dL_law_679 : decode cL_law 679 = .ok (.aload_n 0, 1) := dw_42 wL_law_c rfl
theorem dL_law_680 : decode cL_law 680 = .ok (.iload_n 3, 1) := dw_29 wL_law_c rfl
theorem dL_law_681 : decode cL_law 681 = .ok (.iconst 4, 1) := dw_7 wL_law_c rfl
theorem dL_law_682 : decode cL_law 682 = .ok (.iadd, 1) := dw_96 wL_law_c rfl
theorem dL_law_683 : decode cL_law 683 = .ok (.iaload, 1) := dw_46 wL_law_c rfl
theorem dL_law_684 : decode cL_law 684 = .ok (.aload_n 0, 1) := dw_42 wL_law_c rfl
theorem dL_law_685 : decode cL_law 685 = .ok (.iload_n 3, 1) := dw_29 wL_law_c rfl
theorem dL_law_686 : decode cL_law 686 = .ok (.iconst 5, 1) := dw_8 wL_law_c rfl
theorem dL_law_687 : decode cL_law 687 = .ok (.iadd, 1) := dw_96 wL_law_c rfl
theorem dL_law_688 : decode cL_law 688 = .ok (.iaload, 1) := dw_46 wL_law_c rfl
theorem dL_law_689 : decode cL_law 689 = .ok (.ifCond .eq 7, 3) := dw_153 wL_law_c 0 7 rfl rfl rfl
theorem dL_law_692 : decode cL_law 692 = .ok (.iconst 1, 1) := dw_4 wL_law_c rfl
theorem dL_law_693 : decode cL_law 693 = .ok (.goto 4, 3) := dw_167 wL_law_c 0 4 rfl rfl rfl
theorem dL_law_696 : decode cL_law 696 = .ok (.iconst 0, 1) := dw_3 wL_law_c rfl
theorem dL_law_697 : decode cL_law 697 = .ok (.aload_n 0, 1) := dw_42 wL_law_c rfl
theorem dL_law_698 : decode cL_law 698 = .ok (.iload_n 3, 1) := dw_29 wL_law_c rfl
theorem dL_law_699 : decode cL_law 699 = .ok (.bipush 6, 2) := dw_16 wL_law_c 6 rfl rfl rfl
theorem dL_law_701 : decode cL_law 701 = .ok (.iadd, 1) := dw_96 wL_law_c rfl
theorem dL_law_702 : decode cL_law 702 = .ok (.iaload, 1) := dw_46 wL_law_c rfl
theorem dL_law_703 : decode cL_law 703 = .ok (.invokevirtual 65, 3) := dw_182 wL_law_c 0 65 rfl rfl
theorem dL_law_706 : decode cL_law 706 = .ok (.pop, 1) := dw_87 wL_law_c rfl
theorem dL_law_707 : decode cL_law 707 = .ok (.aload_n 2, 1) := dw_44 wL_law_c rfl
theorem dL_law_708 : decode cL_law 708 = .ok (.aload_n 0, 1) := dw_42 wL_law_c rfl
theorem dL_law_709 : decode cL_law 709 = .ok (.iload_n 3, 1) := dw_29 wL_law_c rfl
theorem dL_law_710 : decode cL_law 710 = .ok (.iconst 1, 1) := dw_4 wL_law_c rfl
theorem dL_law_711 : decode cL_law 711 = .ok (.iadd, 1) := dw_96 wL_law_c rfl
theorem dL_law_712 : decode cL_law 712 = .ok (.iaload, 1) := dw_46 wL_law_c rfl
theorem dL_law_713 : decode cL_law 713 = .ok (.aload_n 0, 1) := dw_42 wL_law_c rfl
theorem dL_law_714 : decode cL_law 714 = .ok (.iload_n 3, 1) := dw_29 wL_law_c rfl
theorem dL_law_715 : decode cL_law 715 = .ok (.iconst 2, 1) := dw_5 wL_law_c rfl
theorem dL_law_716 : decode cL_law 716 = .ok (.iadd, 1) := dw_96 wL_law_c rfl
theorem dL_law_717 : decode cL_law 717 = .ok (.iaload, 1) := dw_46 wL_law_c rfl
theorem dL_law_718 : decode cL_law 718 = .ok (.aload_n 0, 1) := dw_42 wL_law_c rfl
theorem dL_law_719 : decode cL_law 719 = .ok (.iload_n 3, 1) := dw_29 wL_law_c rfl
theorem dL_law_720 : decode cL_law 720 = .ok (.iconst 3, 1) := dw_6 wL_law_c rfl
theorem dL_law_721 : decode cL_law 721 = .ok (.iadd, 1) := dw_96 wL_law_c rfl
theorem dL_law_722 : decode cL_law 722 = .ok (.iaload, 1) := dw_46 wL_law_c rfl
theorem dL_law_723 : decode cL_law 723 = .ok (.aload_n 0, 1) := dw_42 wL_law_c rfl
theorem dL_law_724 : decode cL_law 724 = .ok (.iload_n 3, 1) := dw_29 wL_law_c rfl
theorem dL_law_725 : decode cL_law 725 = .ok (.iconst 4, 1) := dw_7 wL_law_c rfl
theorem dL_law_726 : decode cL_law 726 = .ok (.iadd, 1) := dw_96 wL_law_c rfl
theorem dL_law_727 : decode cL_law 727 = .ok (.iaload, 1) := dw_46 wL_law_c rfl
theorem dL_law_728 : decode cL_law 728 = .ok (.aload_n 0, 1) := dw_42 wL_law_c rfl
theorem dL_law_729 : decode cL_law 729 = .ok (.iload_n 3, 1) := dw_29 wL_law_c rfl
theorem dL_law_730 : decode cL_law 730 = .ok (.iconst 5, 1) := dw_8 wL_law_c rfl
theorem dL_law_731 : decode cL_law 731 = .ok (.iadd, 1) := dw_96 wL_law_c rfl
theorem dL_law_732 : decode cL_law 732 = .ok (.iaload, 1) := dw_46 wL_law_c rfl
theorem dL_law_733 : decode cL_law 733 = .ok (.ifCond .eq 7, 3) := dw_153 wL_law_c 0 7 rfl rfl rfl
theorem dL_law_736 : decode cL_law 736 = .ok (.iconst 1, 1) := dw_4 wL_law_c rfl
theorem dL_law_737 : decode cL_law 737 = .ok (.goto 4, 3) := dw_167 wL_law_c 0 4 rfl rfl rfl
theorem dL_law_740 : decode cL_law 740 = .ok (.iconst 0, 1) := dw_3 wL_law_c rfl
theorem dL_law_741 : decode cL_law 741 = .ok (.aload_n 0, 1) := dw_42 wL_law_c rfl
theorem dL_law_742 : decode cL_law 742 = .ok (.iload_n 3, 1) := dw_29 wL_law_c rfl
theorem dL_law_743 : decode cL_law 743 = .ok (.bipush 6, 2) := dw_16 wL_law_c 6 rfl rfl rfl
theorem dL_law_745 : decode cL_law 745 = .ok (.iadd, 1) := dw_96 wL_law_c rfl
theorem dL_law_746 : decode cL_law 746 = .ok (.iaload, 1) := dw_46 wL_law_c rfl
theorem dL_law_747 : decode cL_law 747 = .ok (.invokevirtual 69, 3) := dw_182 wL_law_c 0 69 rfl rfl
theorem dL_law_750 : decode cL_law 750 = .ok (.pop, 1) := dw_87 wL_law_c rfl
theorem dL_law_751 : decode cL_law 751 = .ok (.goto 628, 3) := dw_167 wL_law_c 2 116 rfl rfl rfl
theorem dL_law_754 : decode cL_law 754 = .ok (.aload_n 1, 1) := dw_43 wL_law_c rfl
theorem dL_law_755 : decode cL_law 755 = .ok (.aload_n 0, 1) := dw_42 wL_law_c rfl
theorem dL_law_756 : decode cL_law 756 = .ok (.iload_n 3, 1) := dw_29 wL_law_c rfl
theorem dL_law_757 : decode cL_law 757 = .ok (.iconst 1, 1) := dw_4 wL_law_c rfl
theorem dL_law_758 : decode cL_law 758 = .ok (.iadd, 1) := dw_96 wL_law_c rfl
theorem dL_law_759 : decode cL_law 759 = .ok (.iaload, 1) := dw_46 wL_law_c rfl
theorem dL_law_760 : decode cL_law 760 = .ok (.aload_n 0, 1) := dw_42 wL_law_c rfl
theorem dL_law_761 : decode cL_law 761 = .ok (.iload_n 3, 1) := dw_29 wL_law_c rfl
theorem dL_law_762 : decode cL_law 762 = .ok (.iconst 2, 1) := dw_5 wL_law_c rfl
theorem dL_law_763 : decode cL_law 763 = .ok (.iadd, 1) := dw_96 wL_law_c rfl
theorem dL_law_764 : decode cL_law 764 = .ok (.iaload, 1) := dw_46 wL_law_c rfl
theorem dL_law_765 : decode cL_law 765 = .ok (.ifCond .eq 7, 3) := dw_153 wL_law_c 0 7 rfl rfl rfl
theorem dL_law_768 : decode cL_law 768 = .ok (.iconst 1, 1) := dw_4 wL_law_c rfl
theorem dL_law_769 : decode cL_law 769 = .ok (.goto 4, 3) := dw_167 wL_law_c 0 4 rfl rfl rfl
theorem dL_law_772 : decode cL_law 772 = .ok (.iconst 0, 1) := dw_3 wL_law_c rfl
theorem dL_law_773 : decode cL_law 773 = .ok (.invokevirtual 70, 3) := dw_182 wL_law_c 0 70 rfl rfl
theorem dL_law_776 : decode cL_law 776 = .ok (.pop, 1) := dw_87 wL_law_c rfl
theorem dL_law_777 : decode cL_law 777 = .ok (.aload_n 2, 1) := dw_44 wL_law_c rfl
theorem dL_law_778 : decode cL_law 778 = .ok (.aload_n 0, 1) := dw_42 wL_law_c rfl
theorem dL_law_779 : decode cL_law 779 = .ok (.iload_n 3, 1) := dw_29 wL_law_c rfl
theorem dL_law_780 : decode cL_law 780 = .ok (.iconst 1, 1) := dw_4 wL_law_c rfl
theorem dL_law_781 : decode cL_law 781 = .ok (.iadd, 1) := dw_96 wL_law_c rfl
theorem dL_law_782 : decode cL_law 782 = .ok (.iaload, 1) := dw_46 wL_law_c rfl
theorem dL_law_783 : decode cL_law 783 = .ok (.aload_n 0, 1) := dw_42 wL_law_c rfl
theorem dL_law_784 : decode cL_law 784 = .ok (.iload_n 3, 1) := dw_29 wL_law_c rfl
theorem dL_law_785 : decode cL_law 785 = .ok (.iconst 2, 1) := dw_5 wL_law_c rfl
theorem dL_law_786 : decode cL_law 786 = .ok (.iadd, 1) := dw_96 wL_law_c rfl
theorem dL_law_787 : decode cL_law 787 = .ok (.iaload, 1) := dw_46 wL_law_c rfl
theorem dL_law_788 : decode cL_law 788 = .ok (.ifCond .eq 7, 3) := dw_153 wL_law_c 0 7 rfl rfl rfl
theorem dL_law_791 : decode cL_law 791 = .ok (.iconst 1, 1) := dw_4 wL_law_c rfl
theorem dL_law_792 : decode cL_law 792 = .ok (.goto 4, 3) := dw_167 wL_law_c 0 4 rfl rfl rfl
theorem dL_law_795 : decode cL_law 795 = .ok (.iconst 0, 1) := dw_3 wL_law_c rfl
theorem dL_law_796 : decode cL_law 796 = .ok (.invokevirtual 74, 3) := dw_182 wL_law_c 0 74 rfl rfl
theorem dL_law_799 : decode cL_law 799 = .ok (.pop, 1) := dw_87 wL_law_c rfl
theorem dL_law_800 : decode cL_law 800 = .ok (.goto 579, 3) := dw_167 wL_law_c 2 67 rfl rfl rfl
theorem dL_law_803 : decode cL_law 803 = .ok (.aload_n 1, 1) := dw_43 wL_law_c rfl
theorem dL_law_804 : decode cL_law 804 = .ok (.aload_n 0, 1) := dw_42 wL_law_c rfl
theorem dL_law_805 : decode cL_law 805 = .ok (.iload_n 3, 1) := dw_29 wL_law_c rfl
theorem dL_law_806 : decode cL_law 806 = .ok (.iconst 1, 1) := dw_4 wL_law_c rfl
theorem dL_law_807 : decode cL_law 807 = .ok (.iadd, 1) := dw_96 wL_law_c rfl
theorem dL_law_808 : decode cL_law 808 = .ok (.iaload, 1) := dw_46 wL_law_c rfl
theorem dL_law_809 : decode cL_law 809 = .ok (.aload_n 0, 1) := dw_42 wL_law_c rfl
theorem dL_law_810 : decode cL_law 810 = .ok (.iload_n 3, 1) := dw_29 wL_law_c rfl
theorem dL_law_811 : decode cL_law 811 = .ok (.iconst 2, 1) := dw_5 wL_law_c rfl
theorem dL_law_812 : decode cL_law 812 = .ok (.iadd, 1) := dw_96 wL_law_c rfl
theorem dL_law_813 : decode cL_law 813 = .ok (.iaload, 1) := dw_46 wL_law_c rfl
theorem dL_law_814 : decode cL_law 814 = .ok (.ifCond .eq 7, 3) := dw_153 wL_law_c 0 7 rfl rfl rfl
theorem dL_law_817 : decode cL_law 817 = .ok (.iconst 1, 1) := dw_4 wL_law_c rfl
theorem dL_law_818 : decode cL_law 818 = .ok (.goto 4, 3) := dw_167 wL_law_c 0 4 rfl rfl rfl
theorem dL_law_821 : decode cL_law 821 = .ok (.iconst 0, 1) := dw_3 wL_law_c rfl
theorem dL_law_822 : decode cL_law 822 = .ok (.aload_n 0, 1) := dw_42 wL_law_c rfl
theorem dL_law_823 : decode cL_law 823 = .ok (.iload_n 3, 1) := dw_29 wL_law_c rfl
theorem dL_law_824 : decode cL_law 824 = .ok (.iconst 3, 1) := dw_6 wL_law_c rfl
theorem dL_law_825 : decode cL_law 825 = .ok (.iadd, 1) := dw_96 wL_law_c rfl
theorem dL_law_826 : decode cL_law 826 = .ok (.iaload, 1) := dw_46 wL_law_c rfl
theorem dL_law_827 : decode cL_law 827 = .ok (.ifCond .eq 7, 3) := dw_153 wL_law_c 0 7 rfl rfl rfl
theorem dL_law_830 : decode cL_law 830 = .ok (.iconst 1, 1) := dw_4 wL_law_c rfl
theorem dL_law_831 : decode cL_law 831 = .ok (.goto 4, 3) := dw_167 wL_law_c 0 4 rfl rfl rfl
theorem dL_law_834 : decode cL_law 834 = .ok (.iconst 0, 1) := dw_3 wL_law_c rfl
theorem dL_law_835 : decode cL_law 835 = .ok (.aload_n 0, 1) := dw_42 wL_law_c rfl
theorem dL_law_836 : decode cL_law 836 = .ok (.iload_n 3, 1) := dw_29 wL_law_c rfl
theorem dL_law_837 : decode cL_law 837 = .ok (.iconst 4, 1) := dw_7 wL_law_c rfl
theorem dL_law_838 : decode cL_law 838 = .ok (.iadd, 1) := dw_96 wL_law_c rfl
theorem dL_law_839 : decode cL_law 839 = .ok (.iaload, 1) := dw_46 wL_law_c rfl
theorem dL_law_840 : decode cL_law 840 = .ok (.invokevirtual 75, 3) := dw_182 wL_law_c 0 75 rfl rfl
theorem dL_law_843 : decode cL_law 843 = .ok (.pop, 1) := dw_87 wL_law_c rfl
theorem dL_law_844 : decode cL_law 844 = .ok (.aload_n 2, 1) := dw_44 wL_law_c rfl
theorem dL_law_845 : decode cL_law 845 = .ok (.aload_n 0, 1) := dw_42 wL_law_c rfl
theorem dL_law_846 : decode cL_law 846 = .ok (.iload_n 3, 1) := dw_29 wL_law_c rfl
theorem dL_law_847 : decode cL_law 847 = .ok (.iconst 1, 1) := dw_4 wL_law_c rfl
theorem dL_law_848 : decode cL_law 848 = .ok (.iadd, 1) := dw_96 wL_law_c rfl
theorem dL_law_849 : decode cL_law 849 = .ok (.iaload, 1) := dw_46 wL_law_c rfl
theorem dL_law_850 : decode cL_law 850 = .ok (.aload_n 0, 1) := dw_42 wL_law_c rfl
theorem dL_law_851 : decode cL_law 851 = .ok (.iload_n 3, 1) := dw_29 wL_law_c rfl
theorem dL_law_852 : decode cL_law 852 = .ok (.iconst 2, 1) := dw_5 wL_law_c rfl
theorem dL_law_853 : decode cL_law 853 = .ok (.iadd, 1) := dw_96 wL_law_c rfl
theorem dL_law_854 : decode cL_law 854 = .ok (.iaload, 1) := dw_46 wL_law_c rfl
theorem dL_law_855 : decode cL_law 855 = .ok (.ifCond .eq 7, 3) := dw_153 wL_law_c 0 7 rfl rfl rfl
theorem dL_law_858 : decode cL_law 858 = .ok (.iconst 1, 1) := dw_4 wL_law_c rfl
theorem dL_law_859 : decode cL_law 859 = .ok (.goto 4, 3) := dw_167 wL_law_c 0 4 rfl rfl rfl
theorem dL_law_862 : decode cL_law 862 = .ok (.iconst 0, 1) := dw_3 wL_law_c rfl
theorem dL_law_863 : decode cL_law 863 = .ok (.aload_n 0, 1) := dw_42 wL_law_c rfl
theorem dL_law_864 : decode cL_law 864 = .ok (.iload_n 3, 1) := dw_29 wL_law_c rfl
theorem dL_law_865 : decode cL_law 865 = .ok (.iconst 3, 1) := dw_6 wL_law_c rfl
theorem dL_law_866 : decode cL_law 866 = .ok (.iadd, 1) := dw_96 wL_law_c rfl
theorem dL_law_867 : decode cL_law 867 = .ok (.iaload, 1) := dw_46 wL_law_c rfl
theorem dL_law_868 : decode cL_law 868 = .ok (.ifCond .eq 7, 3) := dw_153 wL_law_c 0 7 rfl rfl rfl
theorem dL_law_871 : decode cL_law 871 = .ok (.iconst 1, 1) := dw_4 wL_law_c rfl
theorem dL_law_872 : decode cL_law 872 = .ok (.goto 4, 3) := dw_167 wL_law_c 0 4 rfl rfl rfl
theorem dL_law_875 : decode cL_law 875 = .ok (.iconst 0, 1) := dw_3 wL_law_c rfl
theorem dL_law_876 : decode cL_law 876 = .ok (.aload_n 0, 1) := dw_42 wL_law_c rfl
theorem dL_law_877 : decode cL_law 877 = .ok (.iload_n 3, 1) := dw_29 wL_law_c rfl
theorem dL_law_878 : decode cL_law 878 = .ok (.iconst 4, 1) := dw_7 wL_law_c rfl
theorem dL_law_879 : decode cL_law 879 = .ok (.iadd, 1) := dw_96 wL_law_c rfl
theorem dL_law_880 : decode cL_law 880 = .ok (.iaload, 1) := dw_46 wL_law_c rfl
theorem dL_law_881 : decode cL_law 881 = .ok (.invokevirtual 79, 3) := dw_182 wL_law_c 0 79 rfl rfl
theorem dL_law_884 : decode cL_law 884 = .ok (.pop, 1) := dw_87 wL_law_c rfl
theorem dL_law_885 : decode cL_law 885 = .ok (.goto 494, 3) := dw_167 wL_law_c 1 238 rfl rfl rfl
theorem dL_law_888 : decode cL_law 888 = .ok (.aload_n 1, 1) := dw_43 wL_law_c rfl
theorem dL_law_889 : decode cL_law 889 = .ok (.aload_n 0, 1) := dw_42 wL_law_c rfl
theorem dL_law_890 : decode cL_law 890 = .ok (.iload_n 3, 1) := dw_29 wL_law_c rfl
theorem dL_law_891 : decode cL_law 891 = .ok (.iconst 1, 1) := dw_4 wL_law_c rfl
theorem dL_law_892 : decode cL_law 892 = .ok (.iadd, 1) := dw_96 wL_law_c rfl
theorem dL_law_893 : decode cL_law 893 = .ok (.iaload, 1) := dw_46 wL_law_c rfl
theorem dL_law_894 : decode cL_law 894 = .ok (.aload_n 0, 1) := dw_42 wL_law_c rfl
theorem dL_law_895 : decode cL_law 895 = .ok (.iload_n 3, 1) := dw_29 wL_law_c rfl
theorem dL_law_896 : decode cL_law 896 = .ok (.iconst 2, 1) := dw_5 wL_law_c rfl
theorem dL_law_897 : decode cL_law 897 = .ok (.iadd, 1) := dw_96 wL_law_c rfl
theorem dL_law_898 : decode cL_law 898 = .ok (.iaload, 1) := dw_46 wL_law_c rfl
theorem dL_law_899 : decode cL_law 899 = .ok (.invokevirtual 80, 3) := dw_182 wL_law_c 0 80 rfl rfl
theorem dL_law_902 : decode cL_law 902 = .ok (.pop, 1) := dw_87 wL_law_c rfl
theorem dL_law_903 : decode cL_law 903 = .ok (.aload_n 2, 1) := dw_44 wL_law_c rfl
theorem dL_law_904 : decode cL_law 904 = .ok (.aload_n 0, 1) := dw_42 wL_law_c rfl
theorem dL_law_905 : decode cL_law 905 = .ok (.iload_n 3, 1) := dw_29 wL_law_c rfl
theorem dL_law_906 : decode cL_law 906 = .ok (.iconst 1, 1) := dw_4 wL_law_c rfl
theorem dL_law_907 : decode cL_law 907 = .ok (.iadd, 1) := dw_96 wL_law_c rfl
theorem dL_law_908 : decode cL_law 908 = .ok (.iaload, 1) := dw_46 wL_law_c rfl
theorem dL_law_909 : decode cL_law 909 = .ok (.aload_n 0, 1) := dw_42 wL_law_c rfl
theorem dL_law_910 : decode cL_law 910 = .ok (.iload_n 3, 1) := dw_29 wL_law_c rfl
theorem dL_law_911 : decode cL_law 911 = .ok (.iconst 2, 1) := dw_5 wL_law_c rfl
theorem dL_law_912 : decode cL_law 912 = .ok (.iadd, 1) := dw_96 wL_law_c rfl
theorem dL_law_913 : decode cL_law 913 = .ok (.iaload, 1) := dw_46 wL_law_c rfl
theorem dL_law_914 : decode cL_law 914 = .ok (.invokevirtual 83, 3) := dw_182 wL_law_c 0 83 rfl rfl
theorem dL_law_917 : decode cL_law 917 = .ok (.pop, 1) := dw_87 wL_law_c rfl
theorem dL_law_918 : decode cL_law 918 = .ok (.goto 461, 3) := dw_167 wL_law_c 1 205 rfl rfl rfl
theorem dL_law_921 : decode cL_law 921 = .ok (.aload_n 1, 1) := dw_43 wL_law_c rfl
theorem dL_law_922 : decode cL_law 922 = .ok (.aload_n 0, 1) := dw_42 wL_law_c rfl
theorem dL_law_923 : decode cL_law 923 = .ok (.iload_n 3, 1) := dw_29 wL_law_c rfl
theorem dL_law_924 : decode cL_law 924 = .ok (.iconst 1, 1) := dw_4 wL_law_c rfl
theorem dL_law_925 : decode cL_law 925 = .ok (.iadd, 1) := dw_96 wL_law_c rfl
theorem dL_law_926 : decode cL_law 926 = .ok (.iaload, 1) := dw_46 wL_law_c rfl
theorem dL_law_927 : decode cL_law 927 = .ok (.aload_n 0, 1) := dw_42 wL_law_c rfl
theorem dL_law_928 : decode cL_law 928 = .ok (.iload_n 3, 1) := dw_29 wL_law_c rfl
theorem dL_law_929 : decode cL_law 929 = .ok (.iconst 2, 1) := dw_5 wL_law_c rfl
theorem dL_law_930 : decode cL_law 930 = .ok (.iadd, 1) := dw_96 wL_law_c rfl
theorem dL_law_931 : decode cL_law 931 = .ok (.iaload, 1) := dw_46 wL_law_c rfl
theorem dL_law_932 : decode cL_law 932 = .ok (.aload_n 0, 1) := dw_42 wL_law_c rfl
theorem dL_law_933 : decode cL_law 933 = .ok (.iload_n 3, 1) := dw_29 wL_law_c rfl
theorem dL_law_934 : decode cL_law 934 = .ok (.iconst 3, 1) := dw_6 wL_law_c rfl
theorem dL_law_935 : decode cL_law 935 = .ok (.iadd, 1) := dw_96 wL_law_c rfl
theorem dL_law_936 : decode cL_law 936 = .ok (.iaload, 1) := dw_46 wL_law_c rfl
theorem dL_law_937 : decode cL_law 937 = .ok (.invokevirtual 84, 3) := dw_182 wL_law_c 0 84 rfl rfl
theorem dL_law_940 : decode cL_law 940 = .ok (.pop, 1) := dw_87 wL_law_c rfl
theorem dL_law_941 : decode cL_law 941 = .ok (.aload_n 2, 1) := dw_44 wL_law_c rfl
theorem dL_law_942 : decode cL_law 942 = .ok (.aload_n 0, 1) := dw_42 wL_law_c rfl
theorem dL_law_943 : decode cL_law 943 = .ok (.iload_n 3, 1) := dw_29 wL_law_c rfl
theorem dL_law_944 : decode cL_law 944 = .ok (.iconst 1, 1) := dw_4 wL_law_c rfl
theorem dL_law_945 : decode cL_law 945 = .ok (.iadd, 1) := dw_96 wL_law_c rfl
theorem dL_law_946 : decode cL_law 946 = .ok (.iaload, 1) := dw_46 wL_law_c rfl
theorem dL_law_947 : decode cL_law 947 = .ok (.aload_n 0, 1) := dw_42 wL_law_c rfl
theorem dL_law_948 : decode cL_law 948 = .ok (.iload_n 3, 1) := dw_29 wL_law_c rfl
theorem dL_law_949 : decode cL_law 949 = .ok (.iconst 2, 1) := dw_5 wL_law_c rfl
theorem dL_law_950 : decode cL_law 950 = .ok (.iadd, 1) := dw_96 wL_law_c rfl
theorem dL_law_951 : decode cL_law 951 = .ok (.iaload, 1) := dw_46 wL_law_c rfl
theorem dL_law_952 : decode cL_law 952 = .ok (.aload_n 0, 1) := dw_42 wL_law_c rfl
theorem dL_law_953 : decode cL_law 953 = .ok (.iload_n 3, 1) := dw_29 wL_law_c rfl
theorem dL_law_954 : decode cL_law 954 = .ok (.iconst 3, 1) := dw_6 wL_law_c rfl
theorem dL_law_955 : decode cL_law 955 = .ok (.iadd, 1) := dw_96 wL_law_c rfl
theorem dL_law_956 : decode cL_law 956 = .ok (.iaload, 1) := dw_46 wL_law_c rfl
theorem dL_law_957 : decode cL_law 957 = .ok (.invokevirtual 88, 3) := dw_182 wL_law_c 0 88 rfl rfl
theorem dL_law_960 : decode cL_law 960 = .ok (.pop, 1) := dw_87 wL_law_c rfl
theorem dL_law_961 : decode cL_law 961 = .ok (.goto 418, 3) := dw_167 wL_law_c 1 162 rfl rfl rfl
theorem dL_law_964 : decode cL_law 964 = .ok (.aload_n 1, 1) := dw_43 wL_law_c rfl
theorem dL_law_965 : decode cL_law 965 = .ok (.aload_n 0, 1) := dw_42 wL_law_c rfl
theorem dL_law_966 : decode cL_law 966 = .ok (.iload_n 3, 1) := dw_29 wL_law_c rfl
theorem dL_law_967 : decode cL_law 967 = .ok (.iconst 1, 1) := dw_4 wL_law_c rfl
theorem dL_law_968 : decode cL_law 968 = .ok (.iadd, 1) := dw_96 wL_law_c rfl
theorem dL_law_969 : decode cL_law 969 = .ok (.iaload, 1) := dw_46 wL_law_c rfl
theorem dL_law_970 : decode cL_law 970 = .ok (.invokevirtual 89, 3) := dw_182 wL_law_c 0 89 rfl rfl
theorem dL_law_973 : decode cL_law 973 = .ok (.pop, 1) := dw_87 wL_law_c rfl
theorem dL_law_974 : decode cL_law 974 = .ok (.aload_n 2, 1) := dw_44 wL_law_c rfl
theorem dL_law_975 : decode cL_law 975 = .ok (.aload_n 0, 1) := dw_42 wL_law_c rfl
theorem dL_law_976 : decode cL_law 976 = .ok (.iload_n 3, 1) := dw_29 wL_law_c rfl
theorem dL_law_977 : decode cL_law 977 = .ok (.iconst 1, 1) := dw_4 wL_law_c rfl
theorem dL_law_978 : decode cL_law 978 = .ok (.iadd, 1) := dw_96 wL_law_c rfl
theorem dL_law_979 : decode cL_law 979 = .ok (.iaload, 1) := dw_46 wL_law_c rfl
theorem dL_law_980 : decode cL_law 980 = .ok (.invokevirtual 92, 3) := dw_182 wL_law_c 0 92 rfl rfl
theorem dL_law_983 : decode cL_law 983 = .ok (.pop, 1) := dw_87 wL_law_c rfl
theorem dL_law_984 : decode cL_law 984 = .ok (.goto 395, 3) := dw_167 wL_law_c 1 139 rfl rfl rfl
theorem dL_law_987 : decode cL_law 987 = .ok (.aload_n 1, 1) := dw_43 wL_law_c rfl
theorem dL_law_988 : decode cL_law 988 = .ok (.aload_n 0, 1) := dw_42 wL_law_c rfl
theorem dL_law_989 : decode cL_law 989 = .ok (.iload_n 3, 1) := dw_29 wL_law_c rfl
theorem dL_law_990 : decode cL_law 990 = .ok (.iconst 1, 1) := dw_4 wL_law_c rfl
theorem dL_law_991 : decode cL_law 991 = .ok (.iadd, 1) := dw_96 wL_law_c rfl
theorem dL_law_992 : decode cL_law 992 = .ok (.iaload, 1) := dw_46 wL_law_c rfl
theorem dL_law_993 : decode cL_law 993 = .ok (.aload_n 0, 1) := dw_42 wL_law_c rfl
theorem dL_law_994 : decode cL_law 994 = .ok (.iload_n 3, 1) := dw_29 wL_law_c rfl
theorem dL_law_995 : decode cL_law 995 = .ok (.iconst 2, 1) := dw_5 wL_law_c rfl
theorem dL_law_996 : decode cL_law 996 = .ok (.iadd, 1) := dw_96 wL_law_c rfl
theorem dL_law_997 : decode cL_law 997 = .ok (.iaload, 1) := dw_46 wL_law_c rfl
theorem dL_law_998 : decode cL_law 998 = .ok (.invokevirtual 93, 3) := dw_182 wL_law_c 0 93 rfl rfl
theorem dL_law_1001 : decode cL_law 1001 = .ok (.pop, 1) := dw_87 wL_law_c rfl
theorem dL_law_1002 : decode cL_law 1002 = .ok (.aload_n 2, 1) := dw_44 wL_law_c rfl
theorem dL_law_1003 : decode cL_law 1003 = .ok (.aload_n 0, 1) := dw_42 wL_law_c rfl
theorem dL_law_1004 : decode cL_law 1004 = .ok (.iload_n 3, 1) := dw_29 wL_law_c rfl
theorem dL_law_1005 : decode cL_law 1005 = .ok (.iconst 1, 1) := dw_4 wL_law_c rfl
theorem dL_law_1006 : decode cL_law 1006 = .ok (.iadd, 1) := dw_96 wL_law_c rfl
theorem dL_law_1007 : decode cL_law 1007 = .ok (.iaload, 1) := dw_46 wL_law_c rfl
theorem dL_law_1008 : decode cL_law 1008 = .ok (.aload_n 0, 1) := dw_42 wL_law_c rfl
theorem dL_law_1009 : decode cL_law 1009 = .ok (.iload_n 3, 1) := dw_29 wL_law_c rfl
theorem dL_law_1010 : decode cL_law 1010 = .ok (.iconst 2, 1) := dw_5 wL_law_c rfl
theorem dL_law_1011 : decode cL_law 1011 = .ok (.iadd, 1) := dw_96 wL_law_c rfl
theorem dL_law_1012 : decode cL_law 1012 = .ok (.iaload, 1) := dw_46 wL_law_c rfl
theorem dL_law_1013 : decode cL_law 1013 = .ok (.invokevirtual 96, 3) := dw_182 wL_law_c 0 96 rfl rfl
theorem dL_law_1016 : decode cL_law 1016 = .ok (.pop, 1) := dw_87 wL_law_c rfl
theorem dL_law_1017 : decode cL_law 1017 = .ok (.goto 362, 3) := dw_167 wL_law_c 1 106 rfl rfl rfl
theorem dL_law_1020 : decode cL_law 1020 = .ok (.aload_n 1, 1) := dw_43 wL_law_c rfl
theorem dL_law_1021 : decode cL_law 1021 = .ok (.aload_n 0, 1) := dw_42 wL_law_c rfl
theorem dL_law_1022 : decode cL_law 1022 = .ok (.iload_n 3, 1) := dw_29 wL_law_c rfl
theorem dL_law_1023 : decode cL_law 1023 = .ok (.iconst 1, 1) := dw_4 wL_law_c rfl
theorem dL_law_1024 : decode cL_law 1024 = .ok (.iadd, 1) := dw_96 wL_law_c rfl
theorem dL_law_1025 : decode cL_law 1025 = .ok (.iaload, 1) := dw_46 wL_law_c rfl
theorem dL_law_1026 : decode cL_law 1026 = .ok (.invokevirtual 97, 3) := dw_182 wL_law_c 0 97 rfl rfl
theorem dL_law_1029 : decode cL_law 1029 = .ok (.pop, 1) := dw_87 wL_law_c rfl
theorem dL_law_1030 : decode cL_law 1030 = .ok (.aload_n 2, 1) := dw_44 wL_law_c rfl
theorem dL_law_1031 : decode cL_law 1031 = .ok (.aload_n 0, 1) := dw_42 wL_law_c rfl
theorem dL_law_1032 : decode cL_law 1032 = .ok (.iload_n 3, 1) := dw_29 wL_law_c rfl
theorem dL_law_1033 : decode cL_law 1033 = .ok (.iconst 1, 1) := dw_4 wL_law_c rfl
theorem dL_law_1034 : decode cL_law 1034 = .ok (.iadd, 1) := dw_96 wL_law_c rfl
theorem dL_law_1035 : decode cL_law 1035 = .ok (.iaload, 1) := dw_46 wL_law_c rfl
theorem dL_law_1036 : decode cL_law 1036 = .ok (.invokevirtual 100, 3) := dw_182 wL_law_c 0 100 rfl rfl
theorem dL_law_1039 : decode cL_law 1039 = .ok (.pop, 1) := dw_87 wL_law_c rfl
theorem dL_law_1040 : decode cL_law 1040 = .ok (.goto 339, 3) := dw_167 wL_law_c 1 83 rfl rfl rfl
theorem dL_law_1043 : decode cL_law 1043 = .ok (.aload_n 1, 1) := dw_43 wL_law_c rfl
theorem dL_law_1044 : decode cL_law 1044 = .ok (.aload_n 0, 1) := dw_42 wL_law_c rfl
theorem dL_law_1045 : decode cL_law 1045 = .ok (.iload_n 3, 1) := dw_29 wL_law_c rfl
theorem dL_law_1046 : decode cL_law 1046 = .ok (.iconst 1, 1) := dw_4 wL_law_c rfl
theorem dL_law_1047 : decode cL_law 1047 = .ok (.iadd, 1) := dw_96 wL_law_c rfl
theorem dL_law_1048 : decode cL_law 1048 = .ok (.iaload, 1) := dw_46 wL_law_c rfl
theorem dL_law_1049 : decode cL_law 1049 = .ok (.aload_n 0, 1) := dw_42 wL_law_c rfl
theorem dL_law_1050 : decode cL_law 1050 = .ok (.iload_n 3, 1) := dw_29 wL_law_c rfl
theorem dL_law_1051 : decode cL_law 1051 = .ok (.iconst 2, 1) := dw_5 wL_law_c rfl
theorem dL_law_1052 : decode cL_law 1052 = .ok (.iadd, 1) := dw_96 wL_law_c rfl
theorem dL_law_1053 : decode cL_law 1053 = .ok (.iaload, 1) := dw_46 wL_law_c rfl
theorem dL_law_1054 : decode cL_law 1054 = .ok (.invokevirtual 101, 3) := dw_182 wL_law_c 0 101 rfl rfl
theorem dL_law_1057 : decode cL_law 1057 = .ok (.pop, 1) := dw_87 wL_law_c rfl
theorem dL_law_1058 : decode cL_law 1058 = .ok (.aload_n 2, 1) := dw_44 wL_law_c rfl
theorem dL_law_1059 : decode cL_law 1059 = .ok (.aload_n 0, 1) := dw_42 wL_law_c rfl
theorem dL_law_1060 : decode cL_law 1060 = .ok (.iload_n 3, 1) := dw_29 wL_law_c rfl
theorem dL_law_1061 : decode cL_law 1061 = .ok (.iconst 1, 1) := dw_4 wL_law_c rfl
theorem dL_law_1062 : decode cL_law 1062 = .ok (.iadd, 1) := dw_96 wL_law_c rfl
theorem dL_law_1063 : decode cL_law 1063 = .ok (.iaload, 1) := dw_46 wL_law_c rfl
theorem dL_law_1064 : decode cL_law 1064 = .ok (.aload_n 0, 1) := dw_42 wL_law_c rfl
theorem dL_law_1065 : decode cL_law 1065 = .ok (.iload_n 3, 1) := dw_29 wL_law_c rfl
theorem dL_law_1066 : decode cL_law 1066 = .ok (.iconst 2, 1) := dw_5 wL_law_c rfl
theorem dL_law_1067 : decode cL_law 1067 = .ok (.iadd, 1) := dw_96 wL_law_c rfl
theorem dL_law_1068 : decode cL_law 1068 = .ok (.iaload, 1) := dw_46 wL_law_c rfl
theorem dL_law_1069 : decode cL_law 1069 = .ok (.invokevirtual 104, 3) := dw_182 wL_law_c 0 104 rfl rfl
theorem dL_law_1072 : decode cL_law 1072 = .ok (.pop, 1) := dw_87 wL_law_c rfl
theorem dL_law_1073 : decode cL_law 1073 = .ok (.goto 306, 3) := dw_167 wL_law_c 1 50 rfl rfl rfl
theorem dL_law_1076 : decode cL_law 1076 = .ok (.aload_n 1, 1) := dw_43 wL_law_c rfl
theorem dL_law_1077 : decode cL_law 1077 = .ok (.aload_n 0, 1) := dw_42 wL_law_c rfl
theorem dL_law_1078 : decode cL_law 1078 = .ok (.iload_n 3, 1) := dw_29 wL_law_c rfl
theorem dL_law_1079 : decode cL_law 1079 = .ok (.iconst 1, 1) := dw_4 wL_law_c rfl
theorem dL_law_1080 : decode cL_law 1080 = .ok (.iadd, 1) := dw_96 wL_law_c rfl
theorem dL_law_1081 : decode cL_law 1081 = .ok (.iaload, 1) := dw_46 wL_law_c rfl
theorem dL_law_1082 : decode cL_law 1082 = .ok (.aload_n 0, 1) := dw_42 wL_law_c rfl
theorem dL_law_1083 : decode cL_law 1083 = .ok (.iload_n 3, 1) := dw_29 wL_law_c rfl
theorem dL_law_1084 : decode cL_law 1084 = .ok (.iconst 2, 1) := dw_5 wL_law_c rfl
theorem dL_law_1085 : decode cL_law 1085 = .ok (.iadd, 1) := dw_96 wL_law_c rfl
theorem dL_law_1086 : decode cL_law 1086 = .ok (.iaload, 1) := dw_46 wL_law_c rfl
theorem dL_law_1087 : decode cL_law 1087 = .ok (.aload_n 0, 1) := dw_42 wL_law_c rfl
theorem dL_law_1088 : decode cL_law 1088 = .ok (.iload_n 3, 1) := dw_29 wL_law_c rfl
theorem dL_law_1089 : decode cL_law 1089 = .ok (.iconst 3, 1) := dw_6 wL_law_c rfl
theorem dL_law_1090 : decode cL_law 1090 = .ok (.iadd, 1) := dw_96 wL_law_c rfl
theorem dL_law_1091 : decode cL_law 1091 = .ok (.iaload, 1) := dw_46 wL_law_c rfl
theorem dL_law_1092 : decode cL_law 1092 = .ok (.aload_n 0, 1) := dw_42 wL_law_c rfl
theorem dL_law_1093 : decode cL_law 1093 = .ok (.iload_n 3, 1) := dw_29 wL_law_c rfl
theorem dL_law_1094 : decode cL_law 1094 = .ok (.iconst 4, 1) := dw_7 wL_law_c rfl
theorem dL_law_1095 : decode cL_law 1095 = .ok (.iadd, 1) := dw_96 wL_law_c rfl
theorem dL_law_1096 : decode cL_law 1096 = .ok (.iaload, 1) := dw_46 wL_law_c rfl
theorem dL_law_1097 : decode cL_law 1097 = .ok (.invokevirtual 105, 3) := dw_182 wL_law_c 0 105 rfl rfl
theorem dL_law_1100 : decode cL_law 1100 = .ok (.pop, 1) := dw_87 wL_law_c rfl
theorem dL_law_1101 : decode cL_law 1101 = .ok (.aload_n 2, 1) := dw_44 wL_law_c rfl
theorem dL_law_1102 : decode cL_law 1102 = .ok (.aload_n 0, 1) := dw_42 wL_law_c rfl
theorem dL_law_1103 : decode cL_law 1103 = .ok (.iload_n 3, 1) := dw_29 wL_law_c rfl
theorem dL_law_1104 : decode cL_law 1104 = .ok (.iconst 1, 1) := dw_4 wL_law_c rfl
theorem dL_law_1105 : decode cL_law 1105 = .ok (.iadd, 1) := dw_96 wL_law_c rfl
theorem dL_law_1106 : decode cL_law 1106 = .ok (.iaload, 1) := dw_46 wL_law_c rfl
theorem dL_law_1107 : decode cL_law 1107 = .ok (.aload_n 0, 1) := dw_42 wL_law_c rfl
theorem dL_law_1108 : decode cL_law 1108 = .ok (.iload_n 3, 1) := dw_29 wL_law_c rfl
theorem dL_law_1109 : decode cL_law 1109 = .ok (.iconst 2, 1) := dw_5 wL_law_c rfl
theorem dL_law_1110 : decode cL_law 1110 = .ok (.iadd, 1) := dw_96 wL_law_c rfl
theorem dL_law_1111 : decode cL_law 1111 = .ok (.iaload, 1) := dw_46 wL_law_c rfl
theorem dL_law_1112 : decode cL_law 1112 = .ok (.aload_n 0, 1) := dw_42 wL_law_c rfl
theorem dL_law_1113 : decode cL_law 1113 = .ok (.iload_n 3, 1) := dw_29 wL_law_c rfl
theorem dL_law_1114 : decode cL_law 1114 = .ok (.iconst 3, 1) := dw_6 wL_law_c rfl
theorem dL_law_1115 : decode cL_law 1115 = .ok (.iadd, 1) := dw_96 wL_law_c rfl
theorem dL_law_1116 : decode cL_law 1116 = .ok (.iaload, 1) := dw_46 wL_law_c rfl
theorem dL_law_1117 : decode cL_law 1117 = .ok (.aload_n 0, 1) := dw_42 wL_law_c rfl
theorem dL_law_1118 : decode cL_law 1118 = .ok (.iload_n 3, 1) := dw_29 wL_law_c rfl
theorem dL_law_1119 : decode cL_law 1119 = .ok (.iconst 4, 1) := dw_7 wL_law_c rfl
theorem dL_law_1120 : decode cL_law 1120 = .ok (.iadd, 1) := dw_96 wL_law_c rfl
theorem dL_law_1121 : decode cL_law 1121 = .ok (.iaload, 1) := dw_46 wL_law_c rfl
theorem dL_law_1122 : decode cL_law 1122 = .ok (.invokevirtual 108, 3) := dw_182 wL_law_c 0 108 rfl rfl
theorem dL_law_1125 : decode cL_law 1125 = .ok (.pop, 1) := dw_87 wL_law_c rfl
theorem dL_law_1126 : decode cL_law 1126 = .ok (.goto 253, 3) := dw_167 wL_law_c 0 253 rfl rfl rfl
theorem dL_law_1129 : decode cL_law 1129 = .ok (.aload_n 1, 1) := dw_43 wL_law_c rfl
theorem dL_law_1130 : decode cL_law 1130 = .ok (.aload_n 0, 1) := dw_42 wL_law_c rfl
theorem dL_law_1131 : decode cL_law 1131 = .ok (.iload_n 3, 1) := dw_29 wL_law_c rfl
theorem dL_law_1132 : decode cL_law 1132 = .ok (.iconst 1, 1) := dw_4 wL_law_c rfl
theorem dL_law_1133 : decode cL_law 1133 = .ok (.iadd, 1) := dw_96 wL_law_c rfl
theorem dL_law_1134 : decode cL_law 1134 = .ok (.iaload, 1) := dw_46 wL_law_c rfl
theorem dL_law_1135 : decode cL_law 1135 = .ok (.aload_n 0, 1) := dw_42 wL_law_c rfl
theorem dL_law_1136 : decode cL_law 1136 = .ok (.iload_n 3, 1) := dw_29 wL_law_c rfl
theorem dL_law_1137 : decode cL_law 1137 = .ok (.iconst 2, 1) := dw_5 wL_law_c rfl
theorem dL_law_1138 : decode cL_law 1138 = .ok (.iadd, 1) := dw_96 wL_law_c rfl
theorem dL_law_1139 : decode cL_law 1139 = .ok (.iaload, 1) := dw_46 wL_law_c rfl
theorem dL_law_1140 : decode cL_law 1140 = .ok (.invokevirtual 109, 3) := dw_182 wL_law_c 0 109 rfl rfl
theorem dL_law_1143 : decode cL_law 1143 = .ok (.pop, 1) := dw_87 wL_law_c rfl
theorem dL_law_1144 : decode cL_law 1144 = .ok (.aload_n 2, 1) := dw_44 wL_law_c rfl
theorem dL_law_1145 : decode cL_law 1145 = .ok (.aload_n 0, 1) := dw_42 wL_law_c rfl
theorem dL_law_1146 : decode cL_law 1146 = .ok (.iload_n 3, 1) := dw_29 wL_law_c rfl
theorem dL_law_1147 : decode cL_law 1147 = .ok (.iconst 1, 1) := dw_4 wL_law_c rfl
theorem dL_law_1148 : decode cL_law 1148 = .ok (.iadd, 1) := dw_96 wL_law_c rfl
theorem dL_law_1149 : decode cL_law 1149 = .ok (.iaload, 1) := dw_46 wL_law_c rfl
theorem dL_law_1150 : decode cL_law 1150 = .ok (.aload_n 0, 1) := dw_42 wL_law_c rfl
theorem dL_law_1151 : decode cL_law 1151 = .ok (.iload_n 3, 1) := dw_29 wL_law_c rfl
theorem dL_law_1152 : decode cL_law 1152 = .ok (.iconst 2, 1) := dw_5 wL_law_c rfl
theorem dL_law_1153 : decode cL_law 1153 = .ok (.iadd, 1) := dw_96 wL_law_c rfl
theorem dL_law_1154 : decode cL_law 1154 = .ok (.iaload, 1) := dw_46 wL_law_c rfl
theorem dL_law_1155 : decode cL_law 1155 = .ok (.invokevirtual 112, 3) := dw_182 wL_law_c 0 112 rfl rfl
theorem dL_law_1158 : decode cL_law 1158 = .ok (.pop, 1) := dw_87 wL_law_c rfl
theorem dL_law_1159 : decode cL_law 1159 = .ok (.goto 220, 3) := dw_167 wL_law_c 0 220 rfl rfl rfl
theorem dL_law_1162 : decode cL_law 1162 = .ok (.aload_n 1, 1) := dw_43 wL_law_c rfl
theorem dL_law_1163 : decode cL_law 1163 = .ok (.aload_n 0, 1) := dw_42 wL_law_c rfl
theorem dL_law_1164 : decode cL_law 1164 = .ok (.iload_n 3, 1) := dw_29 wL_law_c rfl
theorem dL_law_1165 : decode cL_law 1165 = .ok (.iconst 1, 1) := dw_4 wL_law_c rfl
theorem dL_law_1166 : decode cL_law 1166 = .ok (.iadd, 1) := dw_96 wL_law_c rfl
theorem dL_law_1167 : decode cL_law 1167 = .ok (.iaload, 1) := dw_46 wL_law_c rfl
theorem dL_law_1168 : decode cL_law 1168 = .ok (.aload_n 0, 1) := dw_42 wL_law_c rfl
theorem dL_law_1169 : decode cL_law 1169 = .ok (.iload_n 3, 1) := dw_29 wL_law_c rfl
theorem dL_law_1170 : decode cL_law 1170 = .ok (.iconst 2, 1) := dw_5 wL_law_c rfl
theorem dL_law_1171 : decode cL_law 1171 = .ok (.iadd, 1) := dw_96 wL_law_c rfl
theorem dL_law_1172 : decode cL_law 1172 = .ok (.iaload, 1) := dw_46 wL_law_c rfl
theorem dL_law_1173 : decode cL_law 1173 = .ok (.invokevirtual 113, 3) := dw_182 wL_law_c 0 113 rfl rfl
theorem dL_law_1176 : decode cL_law 1176 = .ok (.pop, 1) := dw_87 wL_law_c rfl
theorem dL_law_1177 : decode cL_law 1177 = .ok (.aload_n 2, 1) := dw_44 wL_law_c rfl
theorem dL_law_1178 : decode cL_law 1178 = .ok (.aload_n 0, 1) := dw_42 wL_law_c rfl
theorem dL_law_1179 : decode cL_law 1179 = .ok (.iload_n 3, 1) := dw_29 wL_law_c rfl
theorem dL_law_1180 : decode cL_law 1180 = .ok (.iconst 1, 1) := dw_4 wL_law_c rfl
theorem dL_law_1181 : decode cL_law 1181 = .ok (.iadd, 1) := dw_96 wL_law_c rfl
theorem dL_law_1182 : decode cL_law 1182 = .ok (.iaload, 1) := dw_46 wL_law_c rfl
theorem dL_law_1183 : decode cL_law 1183 = .ok (.aload_n 0, 1) := dw_42 wL_law_c rfl
theorem dL_law_1184 : decode cL_law 1184 = .ok (.iload_n 3, 1) := dw_29 wL_law_c rfl
theorem dL_law_1185 : decode cL_law 1185 = .ok (.iconst 2, 1) := dw_5 wL_law_c rfl
theorem dL_law_1186 : decode cL_law 1186 = .ok (.iadd, 1) := dw_96 wL_law_c rfl
theorem dL_law_1187 : decode cL_law 1187 = .ok (.iaload, 1) := dw_46 wL_law_c rfl
theorem dL_law_1188 : decode cL_law 1188 = .ok (.invokevirtual 116, 3) := dw_182 wL_law_c 0 116 rfl rfl
theorem dL_law_1191 : decode cL_law 1191 = .ok (.pop, 1) := dw_87 wL_law_c rfl
theorem dL_law_1192 : decode cL_law 1192 = .ok (.goto 187, 3) := dw_167 wL_law_c 0 187 rfl rfl rfl
theorem dL_law_1195 : decode cL_law 1195 = .ok (.aload_n 1, 1) := dw_43 wL_law_c rfl
theorem dL_law_1196 : decode cL_law 1196 = .ok (.invokevirtual 117, 3) := dw_182 wL_law_c 0 117 rfl rfl
theorem dL_law_1199 : decode cL_law 1199 = .ok (.pop, 1) := dw_87 wL_law_c rfl
theorem dL_law_1200 : decode cL_law 1200 = .ok (.aload_n 2, 1) := dw_44 wL_law_c rfl
theorem dL_law_1201 : decode cL_law 1201 = .ok (.invokevirtual 121, 3) := dw_182 wL_law_c 0 121 rfl rfl
theorem dL_law_1204 : decode cL_law 1204 = .ok (.pop, 1) := dw_87 wL_law_c rfl
theorem dL_law_1205 : decode cL_law 1205 = .ok (.goto 174, 3) := dw_167 wL_law_c 0 174 rfl rfl rfl
theorem dL_law_1208 : decode cL_law 1208 = .ok (.aload_n 1, 1) := dw_43 wL_law_c rfl
theorem dL_law_1209 : decode cL_law 1209 = .ok (.aload_n 0, 1) := dw_42 wL_law_c rfl
theorem dL_law_1210 : decode cL_law 1210 = .ok (.iload_n 3, 1) := dw_29 wL_law_c rfl
theorem dL_law_1211 : decode cL_law 1211 = .ok (.iconst 1, 1) := dw_4 wL_law_c rfl
theorem dL_law_1212 : decode cL_law 1212 = .ok (.iadd, 1) := dw_96 wL_law_c rfl
theorem dL_law_1213 : decode cL_law 1213 = .ok (.iaload, 1) := dw_46 wL_law_c rfl
theorem dL_law_1214 : decode cL_law 1214 = .ok (.invokevirtual 122, 3) := dw_182 wL_law_c 0 122 rfl rfl
theorem dL_law_1217 : decode cL_law 1217 = .ok (.pop, 1) := dw_87 wL_law_c rfl
theorem dL_law_1218 : decode cL_law 1218 = .ok (.aload_n 2, 1) := dw_44 wL_law_c rfl
theorem dL_law_1219 : decode cL_law 1219 = .ok (.aload_n 0, 1) := dw_42 wL_law_c rfl
theorem dL_law_1220 : decode cL_law 1220 = .ok (.iload_n 3, 1) := dw_29 wL_law_c rfl
theorem dL_law_1221 : decode cL_law 1221 = .ok (.iconst 1, 1) := dw_4 wL_law_c rfl
theorem dL_law_1222 : decode cL_law 1222 = .ok (.iadd, 1) := dw_96 wL_law_c rfl
theorem dL_law_1223 : decode cL_law 1223 = .ok (.iaload, 1) := dw_46 wL_law_c rfl
theorem dL_law_1224 : decode cL_law 1224 = .ok (.invokevirtual 125, 3) := dw_182 wL_law_c 0 125 rfl rfl
theorem dL_law_1227 : decode cL_law 1227 = .ok (.pop, 1) := dw_87 wL_law_c rfl
theorem dL_law_1228 : decode cL_law 1228 = .ok (.goto 151, 3) := dw_167 wL_law_c 0 151 rfl rfl rfl
theorem dL_law_1231 : decode cL_law 1231 = .ok (.aload_n 1, 1) := dw_43 wL_law_c rfl
theorem dL_law_1232 : decode cL_law 1232 = .ok (.aload_n 0, 1) := dw_42 wL_law_c rfl
theorem dL_law_1233 : decode cL_law 1233 = .ok (.iload_n 3, 1) := dw_29 wL_law_c rfl
theorem dL_law_1234 : decode cL_law 1234 = .ok (.iconst 1, 1) := dw_4 wL_law_c rfl
theorem dL_law_1235 : decode cL_law 1235 = .ok (.iadd, 1) := dw_96 wL_law_c rfl
theorem dL_law_1236 : decode cL_law 1236 = .ok (.iaload, 1) := dw_46 wL_law_c rfl
theorem dL_law_1237 : decode cL_law 1237 = .ok (.invokevirtual 126, 3) := dw_182 wL_law_c 0 126 rfl rfl
theorem dL_law_1240 : decode cL_law 1240 = .ok (.pop, 1) := dw_87 wL_law_c rfl
theorem dL_law_1241 : decode cL_law 1241 = .ok (.aload_n 2, 1) := dw_44 wL_law_c rfl
theorem dL_law_1242 : decode cL_law 1242 = .ok (.aload_n 0, 1) := dw_42 wL_law_c rfl
theorem dL_law_1243 : decode cL_law 1243 = .ok (.iload_n 3, 1) := dw_29 wL_law_c rfl
theorem dL_law_1244 : decode cL_law 1244 = .ok (.iconst 1, 1) := dw_4 wL_law_c rfl
theorem dL_law_1245 : decode cL_law 1245 = .ok (.iadd, 1) := dw_96 wL_law_c rfl
theorem dL_law_1246 : decode cL_law 1246 = .ok (.iaload, 1) := dw_46 wL_law_c rfl
theorem dL_law_1247 : decode cL_law 1247 = .ok (.invokevirtual 129, 3) := dw_182 wL_law_c 0 129 rfl rfl
theorem dL_law_1250 : decode cL_law 1250 = .ok (.pop, 1) := dw_87 wL_law_c rfl
theorem dL_law_1251 : decode cL_law 1251 = .ok (.goto 128, 3) := dw_167 wL_law_c 0 128 rfl rfl rfl
theorem dL_law_1254 : decode cL_law 1254 = .ok (.aload_n 1, 1) := dw_43 wL_law_c rfl
theorem dL_law_1255 : decode cL_law 1255 = .ok (.invokevirtual 130, 3) := dw_182 wL_law_c 0 130 rfl rfl
theorem dL_law_1258 : decode cL_law 1258 = .ok (.pop, 1) := dw_87 wL_law_c rfl
theorem dL_law_1259 : decode cL_law 1259 = .ok (.aload_n 2, 1) := dw_44 wL_law_c rfl
theorem dL_law_1260 : decode cL_law 1260 = .ok (.invokevirtual 133, 3) := dw_182 wL_law_c 0 133 rfl rfl
theorem dL_law_1263 : decode cL_law 1263 = .ok (.pop, 1) := dw_87 wL_law_c rfl
theorem dL_law_1264 : decode cL_law 1264 = .ok (.goto 115, 3) := dw_167 wL_law_c 0 115 rfl rfl rfl
theorem dL_law_1267 : decode cL_law 1267 = .ok (.aload_n 1, 1) := dw_43 wL_law_c rfl
theorem dL_law_1268 : decode cL_law 1268 = .ok (.aload_n 0, 1) := dw_42 wL_law_c rfl
theorem dL_law_1269 : decode cL_law 1269 = .ok (.iload_n 3, 1) := dw_29 wL_law_c rfl
theorem dL_law_1270 : decode cL_law 1270 = .ok (.iconst 1, 1) := dw_4 wL_law_c rfl
theorem dL_law_1271 : decode cL_law 1271 = .ok (.iadd, 1) := dw_96 wL_law_c rfl
theorem dL_law_1272 : decode cL_law 1272 = .ok (.iaload, 1) := dw_46 wL_law_c rfl
theorem dL_law_1273 : decode cL_law 1273 = .ok (.invokevirtual 134, 3) := dw_182 wL_law_c 0 134 rfl rfl
theorem dL_law_1276 : decode cL_law 1276 = .ok (.pop, 1) := dw_87 wL_law_c rfl
theorem dL_law_1277 : decode cL_law 1277 = .ok (.aload_n 2, 1) := dw_44 wL_law_c rfl
theorem dL_law_1278 : decode cL_law 1278 = .ok (.aload_n 0, 1) := dw_42 wL_law_c rfl
theorem dL_law_1279 : decode cL_law 1279 = .ok (.iload_n 3, 1) := dw_29 wL_law_c rfl
theorem dL_law_1280 : decode cL_law 1280 = .ok (.iconst 1, 1) := dw_4 wL_law_c rfl
theorem dL_law_1281 : decode cL_law 1281 = .ok (.iadd, 1) := dw_96 wL_law_c rfl
theorem dL_law_1282 : decode cL_law 1282 = .ok (.iaload, 1) := dw_46 wL_law_c rfl
theorem dL_law_1283 : decode cL_law 1283 = .ok (.invokevirtual 137, 3) := dw_182 wL_law_c 0 137 rfl rfl
theorem dL_law_1286 : decode cL_law 1286 = .ok (.pop, 1) := dw_87 wL_law_c rfl
theorem dL_law_1287 : decode cL_law 1287 = .ok (.goto 92, 3) := dw_167 wL_law_c 0 92 rfl rfl rfl
theorem dL_law_1290 : decode cL_law 1290 = .ok (.aload_n 1, 1) := dw_43 wL_law_c rfl
theorem dL_law_1291 : decode cL_law 1291 = .ok (.aload_n 0, 1) := dw_42 wL_law_c rfl
theorem dL_law_1292 : decode cL_law 1292 = .ok (.iload_n 3, 1) := dw_29 wL_law_c rfl
theorem dL_law_1293 : decode cL_law 1293 = .ok (.iconst 1, 1) := dw_4 wL_law_c rfl
theorem dL_law_1294 : decode cL_law 1294 = .ok (.iadd, 1) := dw_96 wL_law_c rfl
theorem dL_law_1295 : decode cL_law 1295 = .ok (.iaload, 1) := dw_46 wL_law_c rfl
theorem dL_law_1296 : decode cL_law 1296 = .ok (.aload_n 0, 1) := dw_42 wL_law_c rfl
theorem dL_law_1297 : decode cL_law 1297 = .ok (.iload_n 3, 1) := dw_29 wL_law_c rfl
theorem dL_law_1298 : decode cL_law 1298 = .ok (.iconst 2, 1) := dw_5 wL_law_c rfl
theorem dL_law_1299 : decode cL_law 1299 = .ok (.iadd, 1) := dw_96 wL_law_c rfl
theorem dL_law_1300 : decode cL_law 1300 = .ok (.iaload, 1) := dw_46 wL_law_c rfl
theorem dL_law_1301 : decode cL_law 1301 = .ok (.invokevirtual 138, 3) := dw_182 wL_law_c 0 138 rfl rfl
theorem dL_law_1304 : decode cL_law 1304 = .ok (.pop, 1) := dw_87 wL_law_c rfl
theorem dL_law_1305 : decode cL_law 1305 = .ok (.aload_n 2, 1) := dw_44 wL_law_c rfl
theorem dL_law_1306 : decode cL_law 1306 = .ok (.aload_n 0, 1) := dw_42 wL_law_c rfl
theorem dL_law_1307 : decode cL_law 1307 = .ok (.iload_n 3, 1) := dw_29 wL_law_c rfl
theorem dL_law_1308 : decode cL_law 1308 = .ok (.iconst 1, 1) := dw_4 wL_law_c rfl
theorem dL_law_1309 : decode cL_law 1309 = .ok (.iadd, 1) := dw_96 wL_law_c rfl
theorem dL_law_1310 : decode cL_law 1310 = .ok (.iaload, 1) := dw_46 wL_law_c rfl
theorem dL_law_1311 : decode cL_law 1311 = .ok (.aload_n 0, 1) := dw_42 wL_law_c rfl
theorem dL_law_1312 : decode cL_law 1312 = .ok (.iload_n 3, 1) := dw_29 wL_law_c rfl
theorem dL_law_1313 : decode cL_law 1313 = .ok (.iconst 2, 1) := dw_5 wL_law_c rfl
theorem dL_law_1314 : decode cL_law 1314 = .ok (.iadd, 1) := dw_96 wL_law_c rfl
theorem dL_law_1315 : decode cL_law 1315 = .ok (.iaload, 1) := dw_46 wL_law_c rfl
theorem dL_law_1316 : decode cL_law 1316 = .ok (.invokevirtual 141, 3) := dw_182 wL_law_c 0 141 rfl rfl
theorem dL_law_1319 : decode cL_law 1319 = .ok (.pop, 1) := dw_87 wL_law_c rfl
theorem dL_law_1320 : decode cL_law 1320 = .ok (.goto 59, 3) := dw_167 wL_law_c 0 59 rfl rfl rfl
theorem dL_law_1323 : decode cL_law 1323 = .ok (.aload_n 1, 1) := dw_43 wL_law_c rfl
theorem dL_law_1324 : decode cL_law 1324 = .ok (.aload_n 0, 1) := dw_42 wL_law_c rfl
theorem dL_law_1325 : decode cL_law 1325 = .ok (.iload_n 3, 1) := dw_29 wL_law_c rfl
theorem dL_law_1326 : decode cL_law 1326 = .ok (.iconst 1, 1) := dw_4 wL_law_c rfl
theorem dL_law_1327 : decode cL_law 1327 = .ok (.iadd, 1) := dw_96 wL_law_c rfl
theorem dL_law_1328 : decode cL_law 1328 = .ok (.iaload, 1) := dw_46 wL_law_c rfl
theorem dL_law_1329 : decode cL_law 1329 = .ok (.aload_n 0, 1) := dw_42 wL_law_c rfl
theorem dL_law_1330 : decode cL_law 1330 = .ok (.iload_n 3, 1) := dw_29 wL_law_c rfl
theorem dL_law_1331 : decode cL_law 1331 = .ok (.iconst 2, 1) := dw_5 wL_law_c rfl
theorem dL_law_1332 : decode cL_law 1332 = .ok (.iadd, 1) := dw_96 wL_law_c rfl
theorem dL_law_1333 : decode cL_law 1333 = .ok (.iaload, 1) := dw_46 wL_law_c rfl
theorem dL_law_1334 : decode cL_law 1334 = .ok (.invokevirtual 142, 3) := dw_182 wL_law_c 0 142 rfl rfl
theorem dL_law_1337 : decode cL_law 1337 = .ok (.pop, 1) := dw_87 wL_law_c rfl
theorem dL_law_1338 : decode cL_law 1338 = .ok (.aload_n 2, 1) := dw_44 wL_law_c rfl
theorem dL_law_1339 : decode cL_law 1339 = .ok (.aload_n 0, 1) := dw_42 wL_law_c rfl
theorem dL_law_1340 : decode cL_law 1340 = .ok (.iload_n 3, 1) := dw_29 wL_law_c rfl
theorem dL_law_1341 : decode cL_law 1341 = .ok (.iconst 1, 1) := dw_4 wL_law_c rfl
theorem dL_law_1342 : decode cL_law 1342 = .ok (.iadd, 1) := dw_96 wL_law_c rfl
theorem dL_law_1343 : decode cL_law 1343 = .ok (.iaload, 1) := dw_46 wL_law_c rfl
theorem dL_law_1344 : decode cL_law 1344 = .ok (.aload_n 0, 1) := dw_42 wL_law_c rfl
theorem dL_law_1345 : decode cL_law 1345 = .ok (.iload_n 3, 1) := dw_29 wL_law_c rfl
theorem dL_law_1346 : decode cL_law 1346 = .ok (.iconst 2, 1) := dw_5 wL_law_c rfl
theorem dL_law_1347 : decode cL_law 1347 = .ok (.iadd, 1) := dw_96 wL_law_c rfl
theorem dL_law_1348 : decode cL_law 1348 = .ok (.iaload, 1) := dw_46 wL_law_c rfl
theorem dL_law_1349 : decode cL_law 1349 = .ok (.invokevirtual 145, 3) := dw_182 wL_law_c 0 145 rfl rfl
theorem dL_law_1352 : decode cL_law 1352 = .ok (.pop, 1) := dw_87 wL_law_c rfl
theorem dL_law_1353 : decode cL_law 1353 = .ok (.goto 26, 3) := dw_167 wL_law_c 0 26 rfl rfl rfl
theorem dL_law_1356 : decode cL_law 1356 = .ok (.aload_n 1, 1) := dw_43 wL_law_c rfl
theorem dL_law_1357 : decode cL_law 1357 = .ok (.aload_n 0, 1) := dw_42 wL_law_c rfl
theorem dL_law_1358 : decode cL_law 1358 = .ok (.iload_n 3, 1) := dw_29 wL_law_c rfl
theorem dL_law_1359 : decode cL_law 1359 = .ok (.iconst 1, 1) := dw_4 wL_law_c rfl
theorem dL_law_1360 : decode cL_law 1360 = .ok (.iadd, 1) := dw_96 wL_law_c rfl
theorem dL_law_1361 : decode cL_law 1361 = .ok (.iaload, 1) := dw_46 wL_law_c rfl
theorem dL_law_1362 : decode cL_law 1362 = .ok (.invokevirtual 146, 3) := dw_182 wL_law_c 0 146 rfl rfl
theorem dL_law_1365 : decode cL_law 1365 = .ok (.aload_n 2, 1) := dw_44 wL_law_c rfl
theorem dL_law_1366 : decode cL_law 1366 = .ok (.aload_n 0, 1) := dw_42 wL_law_c rfl
theorem dL_law_1367 : decode cL_law 1367 = .ok (.iload_n 3, 1) := dw_29 wL_law_c rfl
theorem dL_law_1368 : decode cL_law 1368 = .ok (.iconst 1, 1) := dw_4 wL_law_c rfl
theorem dL_law_1369 : decode cL_law 1369 = .ok (.iadd, 1) := dw_96 wL_law_c rfl
theorem dL_law_1370 : decode cL_law 1370 = .ok (.iaload, 1) := dw_46 wL_law_c rfl
theorem dL_law_1371 : decode cL_law 1371 = .ok (.invokevirtual 149, 3) := dw_182 wL_law_c 0 149 rfl rfl
theorem dL_law_1374 : decode cL_law 1374 = .ok (.if_icmp .eq 5, 3) := dw_159 wL_law_c 0 5 rfl rfl rfl
theorem dL_law_1379 : decode cL_law 1379 = .ok (.iinc 3 7, 3) := dw_132 wL_law_c 3 7 rfl rfl rfl
theorem dL_law_1382 : decode cL_law 1382 = .ok (.goto (-1364), 3) := dn_167 wL_law_c 250 172 rfl (by decide)
theorem dL_law_1385 : decode cL_law 1385 = .ok (.iconst 1, 1) := dw_4 wL_law_c rfl
theorem dL_law_1386 : decode cL_law 1386 = .ok (.ireturn, 1) := dw_172 wL_law_c rfl
/-! WHAT HOLDS AT THE HEAD OF THE LAW'S LOOP -/
def hx_IX (h : hx_h) (x : Nat) : Prop := (∀ q : Nat, h.2.2 x 5 = some q → ∀ j : Nat, (j : Int) < (h.2.1 x 6).toInt → h.2.2 q j ≠ none) ∧ (∀ q : Nat, h.2.2 x 7 = some q → ∀ j : Nat, (j : Int) < (h.2.1 x 8).toInt → h.2.2 q j ≠ none) ∧ (∀ q : Nat, h.2.2 x 10 = some q → ∀ j : Nat, (j : Int) < (h.2.1 x 11).toInt → h.2.2 q j ≠ none) ∧ (∀ q : Nat, h.2.2 x 12 = some q → ∀ j : Nat, (j : Int) < (h.2.1 x 13).toInt → h.2.2 q j ≠ none) ∧ (∀ w q : Nat, h.2.2 x 19 = some w → h.2.2 w 3 = some q → ∀ j : Nat, (j : Int) < (h.2.1 w 0).toInt → h.2.2 q j ≠ none)
def hx_IM (T : Int) (h : hx_h) (m : Nat) : Prop := (∀ q : Nat, h.2.2 m 19 = some q → hx_wd (h.2.1 q)) ∧ (∀ q : Nat, h.2.2 m 3 = some q → hx_WK (h.2.1 q) (h.2.1 m 1).toInt) ∧ (∀ q r : Nat, h.2.2 m 5 = some q → h.2.2 m 4 = some r → hx_RP (h.2.1 q) (h.2.1 r) (h.2.1 m 1).toInt) ∧ (∀ q : Nat, h.2.2 m 44 = some q → hx_PL (h.2.1 q) (h.2.1 m 36).toInt (h.2.1 m 1).toInt) ∧ (∀ q : Nat, h.2.2 m 47 = some q → (h.2.1 m 57).toInt = hx_hc (h.2.1 q) (h.2.1 m 36).toInt.toNat) ∧ (∀ q : Nat, h.2.2 m 45 = some q → hx_TR (h.2.1 q) T) ∧ (∀ q r : Nat, h.2.2 m 47 = some q → h.2.2 m 46 = some r → hx_HF (h.2.1 m 36).toInt (h.2.1 q) (h.2.1 r))
def hx_EQ (h : hx_h) (x m : Nat) : Prop := h.2.1 x 2 = h.2.1 m 0 ∧ h.2.1 x 8 = h.2.1 m 20 ∧ h.2.1 x 11 = h.2.1 m 36 ∧ h.2.1 x 1 = h.2.1 m 7 ∧ h.2.1 x 6 = h.2.1 m 1 ∧ h.2.1 x 13 = h.2.1 m 57 ∧ (∀ q : Nat, h.2.2 x 9 = some q → h.2.1 q 0 = h.2.1 m 29) ∧ (∀ q : Nat, h.2.2 x 19 = some q → h.2.1 q 0 = h.2.1 m 90) ∧ (∀ q : Nat, h.2.2 x 19 = some q → h.2.1 q 1 = h.2.1 m 92) ∧ (∀ q : Nat, h.2.2 x 14 = some q → h.2.1 q 0 = h.2.1 m 59) ∧ (∀ q : Nat, h.2.2 x 7 = some q → hx_num 40 h q 0 (h.2.1 x 8).toInt) ∧ (∀ q : Nat, h.2.2 x 10 = some q → hx_num 100 h q 0 (h.2.1 x 11).toInt) ∧ (∀ b a r : Nat, h.2.2 x 9 = some b → h.2.2 b 1 = some a → h.2.2 m 30 = some r → hx_eqN (h.2.1 b 0).toInt.toNat (h.2.1 a) (h.2.1 r)) ∧ (∀ b a r : Nat, h.2.2 x 9 = some b → h.2.2 b 2 = some a → h.2.2 m 31 = some r → hx_eqN (h.2.1 b 0).toInt.toNat (h.2.1 a) (h.2.1 r)) ∧ (∀ b a r : Nat, h.2.2 x 9 = some b → h.2.2 b 3 = some a → h.2.2 m 32 = some r → hx_eqN (h.2.1 b 0).toInt.toNat (h.2.1 a) (h.2.1 r)) ∧ (∀ b a r : Nat, h.2.2 x 9 = some b → h.2.2 b 4 = some a → h.2.2 m 33 = some r → hx_eqN (h.2.1 b 0).toInt.toNat (h.2.1 a) (h.2.1 r)) ∧ (∀ b a r : Nat, h.2.2 x 9 = some b → h.2.2 b 5 = some a → h.2.2 m 34 = some r → hx_eqN (h.2.1 b 0).toInt.toNat (h.2.1 a) (h.2.1 r)) ∧ (∀ b a c : Nat, h.2.2 x 9 = some b → h.2.2 b 3 = some a → h.2.2 b 6 = some c → hy_BD (h.2.1 a) (h.2.1 c) (h.2.1 b 0).toInt.toNat ∧ hy_DY (h.2.1 a) (h.2.1 b 0).toInt.toNat) ∧ (∀ w q c : Nat, h.2.2 x 19 = some w → h.2.2 w 3 = some q → h.2.2 x 10 = some c → hx_LQ 8 100 h q c) ∧ (∀ w q r : Nat, h.2.2 x 19 = some w → h.2.2 w 3 = some q → h.2.2 m 91 = some r → hx_eqN 8 (hx_col 8 h q 0) (h.2.1 r)) ∧ (∀ w a r : Nat, h.2.2 x 19 = some w → h.2.2 w 2 = some a → h.2.2 m 93 = some r → hx_eqN (h.2.1 w 1).toInt.toNat (h.2.1 a) (h.2.1 r)) ∧ (∀ c q a : Nat, h.2.2 x 10 = some c → h.2.2 x 7 = some q → h.2.2 m 38 = some a → hw_DF h c q 2 (h.2.1 a) (h.2.1 x 11).toInt) ∧ (∀ q r : Nat, h.2.2 x 0 = some q → h.2.2 m 6 = some r → h.2.1 q = h.2.1 r) ∧ (∀ q w a b c d e p : Nat, h.2.2 x 5 = some q → h.2.2 x 4 = some w → h.2.2 m 2 = some a → h.2.2 m 3 = some b → h.2.2 m 4 = some c → h.2.2 m 5 = some d → h.2.2 x 10 = some e → h.2.2 m 44 = some p → ∃ A : Nat → hv_act, hv_RA h q w (h.2.1 x 6).toInt A ∧ hv_CA (h.2.1 a) (h.2.1 b) (h.2.1 c) (h.2.1 d) (h.2.1 x 6).toInt A ∧ hv_AC h e (h.2.1 p) (h.2.1 x 11).toInt A ∧ hv_AB A) ∧ (∀ c q a : Nat, h.2.2 x 10 = some c → h.2.2 x 7 = some q → h.2.2 m 37 = some a → hw_DF h c q 1 (h.2.1 a) (h.2.1 x 11).toInt) ∧ (∀ q c a : Nat, h.2.2 x 12 = some q → h.2.2 x 10 = some c → h.2.2 m 58 = some a → hv_HL h q c (h.2.1 a) (h.2.1 x 13).toInt (h.2.1 x 11).toInt) ∧ (∀ a b : Nat, h.2.2 m 58 = some a → h.2.2 m 47 = some b → hv_HO (h.2.1 a) (h.2.1 b) (h.2.1 m 57).toInt (h.2.1 m 36).toInt) ∧ (∀ c a b d e f : Nat, h.2.2 x 10 = some c → h.2.2 m 53 = some a → h.2.2 m 41 = some b → h.2.2 m 42 = some d → h.2.2 m 39 = some e → h.2.2 m 47 = some f → ∃ F : Nat → Int32, hv_FX 8 4 h c F (h.2.1 x 11).toInt ∧ hv_FR F (h.2.1 a) (h.2.1 b) (h.2.1 d) (h.2.1 e) (h.2.1 f) (h.2.1 x 11).toInt) ∧ (∀ c a : Nat, h.2.2 x 10 = some c → h.2.2 m 52 = some a → hv_FX 3 5 h c (h.2.1 a) (h.2.1 x 11).toInt) ∧ (∀ q r : Nat, h.2.2 x 7 = some q → h.2.2 m 21 = some r → hx_col 40 h q 1 = h.2.1 r) ∧ (∀ q r : Nat, h.2.2 x 7 = some q → h.2.2 m 26 = some r → hx_col 40 h q 2 = h.2.1 r) ∧ (∀ q r : Nat, h.2.2 x 10 = some q → h.2.2 m 39 = some r → hx_col 100 h q 6 = h.2.1 r) ∧ (∀ q r : Nat, h.2.2 x 10 = some q → h.2.2 m 40 = some r → hx_col 100 h q 7 = h.2.1 r) ∧ (∀ q r : Nat, h.2.2 x 10 = some q → h.2.2 m 43 = some r → hx_col 100 h q 8 = h.2.1 r) ∧ (∀ q r : Nat, h.2.2 x 10 = some q → h.2.2 m 47 = some r → hx_col 100 h q 11 = h.2.1 r) ∧ (∀ q r : Nat, h.2.2 x 10 = some q → h.2.2 m 51 = some r → hx_col 100 h q 12 = h.2.1 r) ∧ (∀ q r : Nat, h.2.2 x 7 = some q → h.2.2 m 22 = some r → hx_col 40 h q 3 = h.2.1 r) ∧ (∀ q r : Nat, h.2.2 x 7 = some q → h.2.2 m 23 = some r → hx_col 40 h q 4 = h.2.1 r) ∧ (∀ q r : Nat, h.2.2 x 10 = some q → h.2.2 m 48 = some r → hx_col 100 h q 13 = h.2.1 r) ∧ (∀ q r : Nat, h.2.2 x 10 = some q → h.2.2 m 54 = some r → hx_col 100 h q 14 = h.2.1 r) ∧ (∀ q r : Nat, h.2.2 x 10 = some q → h.2.2 m 55 = some r → hx_col 100 h q 15 = h.2.1 r) ∧ (∀ q r : Nat, h.2.2 x 10 = some q → h.2.2 m 56 = some r → hx_col 100 h q 17 = h.2.1 r) ∧ (∀ q r : Nat, h.2.2 x 10 = some q → h.2.2 m 49 = some r → hx_col 100 h q 16 = h.2.1 r) ∧ (∀ q r : Nat, h.2.2 x 10 = some q → h.2.2 m 50 = some r → hx_col 100 h q 18 = h.2.1 r) ∧ (∀ p q r : Nat, h.2.2 x 14 = some p → h.2.2 p 2 = some q → h.2.2 m 60 = some r → h.2.1 q = h.2.1 r) ∧ (∀ p q r : Nat, h.2.2 x 14 = some p → h.2.2 p 3 = some q → h.2.2 m 61 = some r → h.2.1 q = h.2.1 r) ∧ (∀ p q r : Nat, h.2.2 x 14 = some p → h.2.2 p 5 = some q → h.2.2 m 62 = some r → h.2.1 q = h.2.1 r) ∧ (∀ p q r : Nat, h.2.2 x 14 = some p → h.2.2 p 4 = some q → h.2.2 m 63 = some r → h.2.1 q = h.2.1 r) ∧ (∀ p q r : Nat, h.2.2 x 14 = some p → h.2.2 p 1 = some q → h.2.2 m 64 = some r → h.2.1 q = h.2.1 r) ∧ (∀ p : Nat, h.2.2 x 18 = some p → hz_NQ (h.2.1 p 0).toInt (h.2.1 m 83).toInt (h.2.1 m 84).toInt) ∧ (∀ p q r : Nat, h.2.2 x 18 = some p → h.2.2 p 3 = some q → h.2.2 m 85 = some r → ∀ j : Nat, (j : Int) < (h.2.1 p 0).toInt → (h.2.1 q j).toInt = (h.2.1 r j).toInt) ∧ (∀ q r : Nat, h.2.2 x 7 = some q → h.2.2 m 27 = some r → hx_eqN 40 (hx_col 40 h q 7) (h.2.1 r)) ∧ (∀ q r : Nat, h.2.2 x 7 = some q → h.2.2 m 28 = some r → hx_eqN 40 (hx_col 40 h q 8) (h.2.1 r)) ∧ (∀ q r : Nat, h.2.2 x 7 = some q → h.2.2 m 24 = some r → hx_eqN 40 (hx_col 40 h q 5) (h.2.1 r)) ∧ (∀ q r : Nat, h.2.2 x 7 = some q → h.2.2 m 25 = some r → hx_eqN 40 (hx_col 40 h q 6) (h.2.1 r)) ∧ (∀ q r : Nat, h.2.2 x 10 = some q → h.2.2 m 46 = some r → hx_eqN 100 (hx_col 100 h q 10) (h.2.1 r)) ∧ (∀ q r : Nat, h.2.2 x 10 = some q → h.2.2 m 45 = some r → hx_eqN 100 (hx_col 100 h q 9) (h.2.1 r)) ∧ True
def hx_IV (T : Int) (x m : Nat) (L : List Nat) (h : hx_h) : Prop := hx_T T_tb L h ∧ hx_g L h x 9 ∧ hx_g L h m 10 ∧ hx_EQ h x m ∧ hx_IX h x ∧ hx_IM T h m
theorem hx_rf {tb : List hx_d} {L : List Nat} {h : hx_h} {a t ci k u : Nat} {fs : List hx_f} (hT : hx_T tb L h) (g : hx_g L h a t) (hd : tb[t]? = some (.inl (ci, fs))) (hf : fs[k]? = some (.inr (true, [u]))) : ∃ q, h.2.2 a k = some q ∧ hx_g L h q u := by
  obtain ⟨h1, h2⟩ := hT.gr g hd hf
  cases hq : h.2.2 a k with
  | none => exact absurd hq (h1 rfl)
  | some q =>
    obtain ⟨q1, q2⟩ := h2 q hq
    exact ⟨q, rfl, q1, by simpa using q2⟩
theorem hx_ob {r : Option Nat} {a : Nat} {P : Nat → Prop} (f : r = some a) (p : P a) : ∀ q, r = some q → P q := fun q hq => by
  have : a = q := Option.some.inj (f.symm.trans hq)
  subst this; exact p
theorem hx_ob2 {r r2 : Option Nat} {a a2 : Nat} {P : Nat → Nat → Prop} (f : r = some a) (f2 : r2 = some a2) (p : P a a2) : ∀ q q2, r = some q → r2 = some q2 → P q q2 := fun q q2 hq hq2 => by
  have e1 : a = q := Option.some.inj (f.symm.trans hq)
  have e2 : a2 = q2 := Option.some.inj (f2.symm.trans hq2)
  subst e1; subst e2; exact p
theorem hx_pf0 {h : hx_h} {a k : Nat} {P : Nat → Prop} (f : h.2.1 a k = 0) : ∀ j : Nat, (j : Int) < (h.2.1 a k).toInt → P j := fun j hj => by
  rw [f] at hj
  have : (0 : Int32).toInt = 0 := by decide
  omega
theorem hx_pf1 {h : hx_h} {a k : Nat} {P : Nat → Prop} {v : Int32} (f : h.2.1 a k = v) (z : v.toInt = 0) : ∀ j : Nat, (j : Int) < (h.2.1 a k).toInt → P j := fun j hj => by
  rw [f] at hj
  omega
theorem hx_PL_le {f : Nat → Int32} {c a b : Int} (h : hx_PL f c a) (hb : a ≤ b) : hx_PL f c b := fun k h0 h1 => ⟨(h k h0 h1).1, Int.le_trans (h k h0 h1).2 hb⟩
theorem hx_hc00 {f : Nat → Int32} : (0 : Int32).toInt = ((hx_hc f (0 : Int32).toInt.toNat : Nat) : Int) := by
  have : (0 : Int32).toInt = 0 := by decide
  rw [this]; rfl
theorem hx_ck {r1 r2 i n0 n1 n2 : Int32} (p : (r1.toInt = 0 ∨ r1.toInt = 1) ∧ (r1.toInt = 0 → (i.toInt < n0.toInt ∨ 7999 < i.toInt) ∧ n1 = n0) ∧ (r1.toInt = 1 → n0.toInt ≤ i.toInt ∧ i.toInt ≤ 7999 ∧ n1 = i)) (q : (r2.toInt = 0 ∨ r2.toInt = 1) ∧ (r2.toInt = 0 → (i.toInt < n0.toInt ∨ 7999 < i.toInt) ∧ n2 = n0) ∧ (r2.toInt = 1 → n0.toInt ≤ i.toInt ∧ i.toInt ≤ 7999 ∧ n2 = i)) : r1.toInt = r2.toInt ∧ n1 = n2 := by
  obtain ⟨a, b, c⟩ := p
  obtain ⟨a', b', c'⟩ := q
  rcases a with z | z <;> rcases a' with z' | z'
  · exact ⟨by omega, (b z).2.trans (b' z').2.symm⟩
  · exfalso; have := (b z).1; have := c' z'; omega
  · exfalso; have := c z; have := (b' z').1; omega
  · exact ⟨by omega, (c z).2.2.trans (c' z').2.2.symm⟩
