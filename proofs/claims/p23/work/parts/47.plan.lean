def wNX10_planned : Nat := 8193440703931023064142924320009964799657218762173165655902263366138322871010769805920488439848592085930575893267395778085920742204868334846747
theorem wX10_planned_c : hz_cd cX10_planned wNX10_planned 59 := ⟨by decide +kernel, by decide +kernel⟩
theorem dX10_planned_0 : decode cX10_planned 0 = .ok (.iload_n 1, 1) := dw_27 wX10_planned_c rfl
theorem dX10_planned_1 : decode cX10_planned 1 = .ok (.iconst 0, 1) := dw_3 wX10_planned_c rfl
theorem dX10_planned_2 : decode cX10_planned 2 = .ok (.aload_n 0, 1) := dw_42 wX10_planned_c rfl
theorem dX10_planned_3 : decode cX10_planned 3 = .ok (.getfield 435, 3) := dw_180 wX10_planned_c 1 179 rfl rfl
theorem dX10_planned_6 : decode cX10_planned 6 = .ok (.iconst 1, 1) := dw_4 wX10_planned_c rfl
theorem dX10_planned_7 : decode cX10_planned 7 = .ok (.isub, 1) := dw_100 wX10_planned_c rfl
theorem dX10_planned_8 : decode cX10_planned 8 = .ok (.invokestatic 228, 3) := dw_184 wX10_planned_c 0 228 rfl rfl
theorem dX10_planned_11 : decode cX10_planned 11 = .ok (.ifCond .ne 5, 3) := dw_154 wX10_planned_c 0 5 rfl rfl rfl
theorem dX10_planned_14 : decode cX10_planned 14 = .ok (.iconst (-1), 1) := dw_2 wX10_planned_c rfl
theorem dX10_planned_15 : decode cX10_planned 15 = .ok (.ireturn, 1) := dw_172 wX10_planned_c rfl
theorem dX10_planned_16 : decode cX10_planned 16 = .ok (.iload_n 2, 1) := dw_28 wX10_planned_c rfl
theorem dX10_planned_17 : decode cX10_planned 17 = .ok (.ifCond .ne 12, 3) := dw_154 wX10_planned_c 0 12 rfl rfl rfl
theorem dX10_planned_20 : decode cX10_planned 20 = .ok (.aload_n 0, 1) := dw_42 wX10_planned_c rfl
theorem dX10_planned_21 : decode cX10_planned 21 = .ok (.getfield 165, 3) := dw_180 wX10_planned_c 0 165 rfl rfl
theorem dX10_planned_24 : decode cX10_planned 24 = .ok (.iload_n 1, 1) := dw_27 wX10_planned_c rfl
theorem dX10_planned_25 : decode cX10_planned 25 = .ok (.iaload, 1) := dw_46 wX10_planned_c rfl
theorem dX10_planned_26 : decode cX10_planned 26 = .ok (.goto 32, 3) := dw_167 wX10_planned_c 0 32 rfl rfl rfl
theorem dX10_planned_29 : decode cX10_planned 29 = .ok (.iload_n 2, 1) := dw_28 wX10_planned_c rfl
theorem dX10_planned_30 : decode cX10_planned 30 = .ok (.iconst 1, 1) := dw_4 wX10_planned_c rfl
theorem dX10_planned_31 : decode cX10_planned 31 = .ok (.if_icmp .ne 12, 3) := dw_160 wX10_planned_c 0 12 rfl rfl rfl
theorem dX10_planned_34 : decode cX10_planned 34 = .ok (.aload_n 0, 1) := dw_42 wX10_planned_c rfl
theorem dX10_planned_35 : decode cX10_planned 35 = .ok (.getfield 168, 3) := dw_180 wX10_planned_c 0 168 rfl rfl
theorem dX10_planned_38 : decode cX10_planned 38 = .ok (.iload_n 1, 1) := dw_27 wX10_planned_c rfl
theorem dX10_planned_39 : decode cX10_planned 39 = .ok (.iaload, 1) := dw_46 wX10_planned_c rfl
theorem dX10_planned_40 : decode cX10_planned 40 = .ok (.goto 18, 3) := dw_167 wX10_planned_c 0 18 rfl rfl rfl
theorem dX10_planned_43 : decode cX10_planned 43 = .ok (.iload_n 2, 1) := dw_28 wX10_planned_c rfl
theorem dX10_planned_44 : decode cX10_planned 44 = .ok (.iconst 2, 1) := dw_5 wX10_planned_c rfl
theorem dX10_planned_45 : decode cX10_planned 45 = .ok (.if_icmp .ne 12, 3) := dw_160 wX10_planned_c 0 12 rfl rfl rfl
theorem dX10_planned_48 : decode cX10_planned 48 = .ok (.aload_n 0, 1) := dw_42 wX10_planned_c rfl
theorem dX10_planned_49 : decode cX10_planned 49 = .ok (.getfield 186, 3) := dw_180 wX10_planned_c 0 186 rfl rfl
theorem dX10_planned_52 : decode cX10_planned 52 = .ok (.iload_n 1, 1) := dw_27 wX10_planned_c rfl
theorem dX10_planned_53 : decode cX10_planned 53 = .ok (.iaload, 1) := dw_46 wX10_planned_c rfl
theorem dX10_planned_54 : decode cX10_planned 54 = .ok (.goto 4, 3) := dw_167 wX10_planned_c 0 4 rfl rfl rfl
theorem dX10_planned_57 : decode cX10_planned 57 = .ok (.iconst (-1), 1) := dw_2 wX10_planned_c rfl
theorem dX10_planned_58 : decode cX10_planned 58 = .ok (.ireturn, 1) := dw_172 wX10_planned_c rfl
theorem dX10_lesser_0 : decode cX10_lesser 0 = .ok (.iload_n 0, 1) := by decide +kernel
theorem dX10_lesser_1 : decode cX10_lesser 1 = .ok (.iload_n 1, 1) := by decide +kernel
theorem dX10_lesser_2 : decode cX10_lesser 2 = .ok (.if_icmp .ge 7, 3) := by decide +kernel
theorem dX10_lesser_5 : decode cX10_lesser 5 = .ok (.iload_n 0, 1) := by decide +kernel
theorem dX10_lesser_6 : decode cX10_lesser 6 = .ok (.goto 4, 3) := by decide +kernel
theorem dX10_lesser_9 : decode cX10_lesser 9 = .ok (.iload_n 1, 1) := by decide +kernel
theorem dX10_lesser_10 : decode cX10_lesser 10 = .ok (.ireturn, 1) := by decide +kernel
def wNX10_debts : Nat := 2882297395197654574024416549013883388703723299867337492742205770803188829794122576787872364052361650258511688061432464621648797458783781505078655327139928680362297807458149431196675
theorem wX10_debts_c : hz_cd cX10_debts wNX10_debts 75 := ⟨by decide +kernel, by decide +kernel⟩
theorem dX10_debts_0 : decode cX10_debts 0 = .ok (.iconst 0, 1) := dw_3 wX10_debts_c rfl
theorem dX10_debts_1 : decode cX10_debts 1 = .ok (.istore_n 1, 1) := dw_60 wX10_debts_c rfl
theorem dX10_debts_2 : decode cX10_debts 2 = .ok (.iload_n 1, 1) := dw_27 wX10_debts_c rfl
theorem dX10_debts_3 : decode cX10_debts 3 = .ok (.sipush 1600, 3) := dw_17 wX10_debts_c 6 64 rfl rfl rfl
theorem dX10_debts_6 : decode cX10_debts 6 = .ok (.if_icmp .ge 16, 3) := dw_162 wX10_debts_c 0 16 rfl rfl rfl
theorem dX10_debts_9 : decode cX10_debts 9 = .ok (.aload_n 0, 1) := dw_42 wX10_debts_c rfl
theorem dX10_debts_10 : decode cX10_debts 10 = .ok (.getfield 189, 3) := dw_180 wX10_debts_c 0 189 rfl rfl
theorem dX10_debts_13 : decode cX10_debts 13 = .ok (.iload_n 1, 1) := dw_27 wX10_debts_c rfl
theorem dX10_debts_14 : decode cX10_debts 14 = .ok (.iconst 0, 1) := dw_3 wX10_debts_c rfl
theorem dX10_debts_15 : decode cX10_debts 15 = .ok (.iastore, 1) := dw_79 wX10_debts_c rfl
theorem dX10_debts_16 : decode cX10_debts 16 = .ok (.iinc 1 1, 3) := dw_132 wX10_debts_c 1 1 rfl rfl rfl
theorem dX10_debts_19 : decode cX10_debts 19 = .ok (.goto (-17), 3) := dn_167 wX10_debts_c 255 239 rfl (by decide)
theorem dX10_debts_22 : decode cX10_debts 22 = .ok (.iconst 0, 1) := dw_3 wX10_debts_c rfl
theorem dX10_debts_23 : decode cX10_debts 23 = .ok (.istore_n 1, 1) := dw_60 wX10_debts_c rfl
theorem dX10_debts_24 : decode cX10_debts 24 = .ok (.iload_n 1, 1) := dw_27 wX10_debts_c rfl
theorem dX10_debts_25 : decode cX10_debts 25 = .ok (.aload_n 0, 1) := dw_42 wX10_debts_c rfl
theorem dX10_debts_26 : decode cX10_debts 26 = .ok (.getfield 367, 3) := dw_180 wX10_debts_c 1 111 rfl rfl
theorem dX10_debts_29 : decode cX10_debts 29 = .ok (.if_icmp .ge 45, 3) := dw_162 wX10_debts_c 0 45 rfl rfl rfl
theorem dX10_debts_32 : decode cX10_debts 32 = .ok (.aload_n 0, 1) := dw_42 wX10_debts_c rfl
theorem dX10_debts_33 : decode cX10_debts 33 = .ok (.iload_n 1, 1) := dw_27 wX10_debts_c rfl
theorem dX10_debts_34 : decode cX10_debts 34 = .ok (.invokevirtual 419, 3) := dw_182 wX10_debts_c 1 163 rfl rfl
theorem dX10_debts_37 : decode cX10_debts 37 = .ok (.ifCond .eq 31, 3) := dw_153 wX10_debts_c 0 31 rfl rfl rfl
theorem dX10_debts_40 : decode cX10_debts 40 = .ok (.aload_n 0, 1) := dw_42 wX10_debts_c rfl
theorem dX10_debts_41 : decode cX10_debts 41 = .ok (.getfield 189, 3) := dw_180 wX10_debts_c 0 189 rfl rfl
theorem dX10_debts_44 : decode cX10_debts 44 = .ok (.bipush 40, 2) := dw_16 wX10_debts_c 40 rfl rfl rfl
theorem dX10_debts_46 : decode cX10_debts 46 = .ok (.aload_n 0, 1) := dw_42 wX10_debts_c rfl
theorem dX10_debts_47 : decode cX10_debts 47 = .ok (.getfield 84, 3) := dw_180 wX10_debts_c 0 84 rfl rfl
theorem dX10_debts_50 : decode cX10_debts 50 = .ok (.iload_n 1, 1) := dw_27 wX10_debts_c rfl
theorem dX10_debts_51 : decode cX10_debts 51 = .ok (.iaload, 1) := dw_46 wX10_debts_c rfl
theorem dX10_debts_52 : decode cX10_debts 52 = .ok (.imul, 1) := dw_104 wX10_debts_c rfl
theorem dX10_debts_53 : decode cX10_debts 53 = .ok (.aload_n 0, 1) := dw_42 wX10_debts_c rfl
theorem dX10_debts_54 : decode cX10_debts 54 = .ok (.getfield 81, 3) := dw_180 wX10_debts_c 0 81 rfl rfl
theorem dX10_debts_57 : decode cX10_debts 57 = .ok (.iload_n 1, 1) := dw_27 wX10_debts_c rfl
theorem dX10_debts_58 : decode cX10_debts 58 = .ok (.iaload, 1) := dw_46 wX10_debts_c rfl
theorem dX10_debts_59 : decode cX10_debts 59 = .ok (.iadd, 1) := dw_96 wX10_debts_c rfl
theorem dX10_debts_60 : decode cX10_debts 60 = .ok (.dup2, 1) := dw_92 wX10_debts_c rfl
theorem dX10_debts_61 : decode cX10_debts 61 = .ok (.iaload, 1) := dw_46 wX10_debts_c rfl
theorem dX10_debts_62 : decode cX10_debts 62 = .ok (.aload_n 0, 1) := dw_42 wX10_debts_c rfl
theorem dX10_debts_63 : decode cX10_debts 63 = .ok (.getfield 401, 3) := dw_180 wX10_debts_c 1 145 rfl rfl
theorem dX10_debts_66 : decode cX10_debts 66 = .ok (.iadd, 1) := dw_96 wX10_debts_c rfl
theorem dX10_debts_67 : decode cX10_debts 67 = .ok (.iastore, 1) := dw_79 wX10_debts_c rfl
theorem dX10_debts_68 : decode cX10_debts 68 = .ok (.iinc 1 1, 3) := dw_132 wX10_debts_c 1 1 rfl rfl rfl
theorem dX10_debts_71 : decode cX10_debts 71 = .ok (.goto (-47), 3) := dn_167 wX10_debts_c 255 209 rfl (by decide)
theorem dX10_debts_74 : decode cX10_debts 74 = .ok (.return_, 1) := dw_177 wX10_debts_c rfl
def wNX10_offers : Nat := 21883990482543757304630139160145533510535777767236616248566486092334182164249341036133227959949560407076015573784685138818777113047853281825180549622279515166689401707993905093581825531181525610989005518570166815145035322803168367149542842463542906399601935299626
theorem wX10_offers_c : hz_cd cX10_offers wNX10_offers 109 := ⟨by decide +kernel, by decide +kernel⟩
theorem dX10_offers_0 : decode cX10_offers 0 = .ok (.aload_n 0, 1) := dw_42 wX10_offers_c rfl
theorem dX10_offers_1 : decode cX10_offers 1 = .ok (.getfield 189, 3) := dw_180 wX10_offers_c 0 189 rfl rfl
theorem dX10_offers_4 : decode cX10_offers 4 = .ok (.bipush 40, 2) := dw_16 wX10_offers_c 40 rfl rfl rfl
theorem dX10_offers_6 : decode cX10_offers 6 = .ok (.aload_n 0, 1) := dw_42 wX10_offers_c rfl
theorem dX10_offers_7 : decode cX10_offers 7 = .ok (.getfield 198, 3) := dw_180 wX10_offers_c 0 198 rfl rfl
theorem dX10_offers_10 : decode cX10_offers 10 = .ok (.iload_n 1, 1) := dw_27 wX10_offers_c rfl
theorem dX10_offers_11 : decode cX10_offers 11 = .ok (.iconst 1, 1) := dw_4 wX10_offers_c rfl
theorem dX10_offers_12 : decode cX10_offers 12 = .ok (.isub, 1) := dw_100 wX10_offers_c rfl
theorem dX10_offers_13 : decode cX10_offers 13 = .ok (.iaload, 1) := dw_46 wX10_offers_c rfl
theorem dX10_offers_14 : decode cX10_offers 14 = .ok (.imul, 1) := dw_104 wX10_offers_c rfl
theorem dX10_offers_15 : decode cX10_offers 15 = .ok (.aload_n 0, 1) := dw_42 wX10_offers_c rfl
theorem dX10_offers_16 : decode cX10_offers 16 = .ok (.getfield 198, 3) := dw_180 wX10_offers_c 0 198 rfl rfl
theorem dX10_offers_19 : decode cX10_offers 19 = .ok (.iconst 0, 1) := dw_3 wX10_offers_c rfl
theorem dX10_offers_20 : decode cX10_offers 20 = .ok (.iaload, 1) := dw_46 wX10_offers_c rfl
theorem dX10_offers_21 : decode cX10_offers 21 = .ok (.iadd, 1) := dw_96 wX10_offers_c rfl
theorem dX10_offers_22 : decode cX10_offers 22 = .ok (.iaload, 1) := dw_46 wX10_offers_c rfl
theorem dX10_offers_23 : decode cX10_offers 23 = .ok (.istore_n 3, 1) := dw_62 wX10_offers_c rfl
theorem dX10_offers_24 : decode cX10_offers 24 = .ok (.iload_n 3, 1) := dw_29 wX10_offers_c rfl
theorem dX10_offers_25 : decode cX10_offers 25 = .ok (.iload_n 2, 1) := dw_28 wX10_offers_c rfl
theorem dX10_offers_26 : decode cX10_offers 26 = .ok (.if_icmp .ge 7, 3) := dw_162 wX10_offers_c 0 7 rfl rfl rfl
theorem dX10_offers_29 : decode cX10_offers 29 = .ok (.iload_n 3, 1) := dw_29 wX10_offers_c rfl
theorem dX10_offers_30 : decode cX10_offers 30 = .ok (.goto 4, 3) := dw_167 wX10_offers_c 0 4 rfl rfl rfl
theorem dX10_offers_33 : decode cX10_offers 33 = .ok (.iload_n 2, 1) := dw_28 wX10_offers_c rfl
theorem dX10_offers_34 : decode cX10_offers 34 = .ok (.istore 4, 2) := dw_54 wX10_offers_c 4 rfl
theorem dX10_offers_36 : decode cX10_offers 36 = .ok (.iload 4, 2) := dw_21 wX10_offers_c 4 rfl
theorem dX10_offers_38 : decode cX10_offers 38 = .ok (.ifCond .eq 29, 3) := dw_153 wX10_offers_c 0 29 rfl rfl rfl
theorem dX10_offers_41 : decode cX10_offers 41 = .ok (.iload 4, 2) := dw_21 wX10_offers_c 4 rfl
theorem dX10_offers_43 : decode cX10_offers 43 = .ok (.aload_n 0, 1) := dw_42 wX10_offers_c rfl
theorem dX10_offers_44 : decode cX10_offers 44 = .ok (.getfield 438, 3) := dw_180 wX10_offers_c 1 182 rfl rfl
theorem dX10_offers_47 : decode cX10_offers 47 = .ok (.if_icmp .lt 20, 3) := dw_161 wX10_offers_c 0 20 rfl rfl rfl
theorem dX10_offers_50 : decode cX10_offers 50 = .ok (.iload 4, 2) := dw_21 wX10_offers_c 4 rfl
theorem dX10_offers_52 : decode cX10_offers 52 = .ok (.aload_n 0, 1) := dw_42 wX10_offers_c rfl
theorem dX10_offers_53 : decode cX10_offers 53 = .ok (.getfield 438, 3) := dw_180 wX10_offers_c 1 182 rfl rfl
theorem dX10_offers_56 : decode cX10_offers 56 = .ok (.if_icmp .ne 12, 3) := dw_160 wX10_offers_c 0 12 rfl rfl rfl
theorem dX10_offers_59 : decode cX10_offers 59 = .ok (.iload_n 1, 1) := dw_27 wX10_offers_c rfl
theorem dX10_offers_60 : decode cX10_offers 60 = .ok (.aload_n 0, 1) := dw_42 wX10_offers_c rfl
theorem dX10_offers_61 : decode cX10_offers 61 = .ok (.getfield 441, 3) := dw_180 wX10_offers_c 1 185 rfl rfl
theorem dX10_offers_64 : decode cX10_offers 64 = .ok (.if_icmp .lt 4, 3) := dw_161 wX10_offers_c 0 4 rfl rfl rfl
theorem dX10_offers_67 : decode cX10_offers 67 = .ok (.return_, 1) := dw_177 wX10_offers_c rfl
theorem dX10_offers_68 : decode cX10_offers 68 = .ok (.aload_n 0, 1) := dw_42 wX10_offers_c rfl
theorem dX10_offers_69 : decode cX10_offers 69 = .ok (.iload 4, 2) := dw_21 wX10_offers_c 4 rfl
theorem dX10_offers_71 : decode cX10_offers 71 = .ok (.putfield 438, 3) := dw_181 wX10_offers_c 1 182 rfl rfl
theorem dX10_offers_74 : decode cX10_offers 74 = .ok (.aload_n 0, 1) := dw_42 wX10_offers_c rfl
theorem dX10_offers_75 : decode cX10_offers 75 = .ok (.iload_n 1, 1) := dw_27 wX10_offers_c rfl
theorem dX10_offers_76 : decode cX10_offers 76 = .ok (.putfield 441, 3) := dw_181 wX10_offers_c 1 185 rfl rfl
theorem dX10_offers_79 : decode cX10_offers 79 = .ok (.iconst 0, 1) := dw_3 wX10_offers_c rfl
theorem dX10_offers_80 : decode cX10_offers 80 = .ok (.istore 5, 2) := dw_54 wX10_offers_c 5 rfl
theorem dX10_offers_82 : decode cX10_offers 82 = .ok (.iload 5, 2) := dw_21 wX10_offers_c 5 rfl
theorem dX10_offers_84 : decode cX10_offers 84 = .ok (.iload_n 1, 1) := dw_27 wX10_offers_c rfl
theorem dX10_offers_85 : decode cX10_offers 85 = .ok (.if_icmp .ge 23, 3) := dw_162 wX10_offers_c 0 23 rfl rfl rfl
theorem dX10_offers_88 : decode cX10_offers 88 = .ok (.aload_n 0, 1) := dw_42 wX10_offers_c rfl
theorem dX10_offers_89 : decode cX10_offers 89 = .ok (.getfield 195, 3) := dw_180 wX10_offers_c 0 195 rfl rfl
theorem dX10_offers_92 : decode cX10_offers 92 = .ok (.iload 5, 2) := dw_21 wX10_offers_c 5 rfl
theorem dX10_offers_94 : decode cX10_offers 94 = .ok (.aload_n 0, 1) := dw_42 wX10_offers_c rfl
theorem dX10_offers_95 : decode cX10_offers 95 = .ok (.getfield 198, 3) := dw_180 wX10_offers_c 0 198 rfl rfl
theorem dX10_offers_98 : decode cX10_offers 98 = .ok (.iload 5, 2) := dw_21 wX10_offers_c 5 rfl
theorem dX10_offers_100 : decode cX10_offers 100 = .ok (.iaload, 1) := dw_46 wX10_offers_c rfl
theorem dX10_offers_101 : decode cX10_offers 101 = .ok (.iastore, 1) := dw_79 wX10_offers_c rfl
theorem dX10_offers_102 : decode cX10_offers 102 = .ok (.iinc 5 1, 3) := dw_132 wX10_offers_c 5 1 rfl rfl rfl
theorem dX10_offers_105 : decode cX10_offers 105 = .ok (.goto (-23), 3) := dn_167 wX10_offers_c 255 233 rfl (by decide)
theorem dX10_offers_108 : decode cX10_offers 108 = .ok (.return_, 1) := dw_177 wX10_offers_c rfl
def wNX10_finds : Nat := 3240754097718452773374329099791318725459801054681156535646267442893174691459346980500324986275929782390932792470449362650909311301087100886515566240030738412575015440310151416456264487344201348600945587883291134980036658349492836054427871987707114980370019970815516106712500404044526750976792556146141874363949586966434180545208550259000331324095112621867430458951497507860065117511563767601725809320252829157721811243979087764200139102387792835040598850548969248920648868660403802012645542883808066352974432592532825032325688870203754254364377898
theorem wX10_finds_c : hz_cd cX10_finds wNX10_finds 227 := ⟨by decide +kernel, by decide +kernel⟩
theorem dX10_finds_0 : decode cX10_finds 0 = .ok (.aload_n 0, 1) := dw_42 wX10_finds_c rfl
theorem dX10_finds_1 : decode cX10_finds 1 = .ok (.iconst 0, 1) := dw_3 wX10_finds_c rfl
theorem dX10_finds_2 : decode cX10_finds 2 = .ok (.putfield 438, 3) := dw_181 wX10_finds_c 1 182 rfl rfl
theorem dX10_finds_5 : decode cX10_finds 5 = .ok (.aload_n 0, 1) := dw_42 wX10_finds_c rfl
theorem dX10_finds_6 : decode cX10_finds 6 = .ok (.iconst 0, 1) := dw_3 wX10_finds_c rfl
theorem dX10_finds_7 : decode cX10_finds 7 = .ok (.putfield 441, 3) := dw_181 wX10_finds_c 1 185 rfl rfl
theorem dX10_finds_10 : decode cX10_finds 10 = .ok (.iconst 0, 1) := dw_3 wX10_finds_c rfl
theorem dX10_finds_11 : decode cX10_finds 11 = .ok (.istore_n 1, 1) := dw_60 wX10_finds_c rfl
theorem dX10_finds_12 : decode cX10_finds 12 = .ok (.iload_n 1, 1) := dw_27 wX10_finds_c rfl
theorem dX10_finds_13 : decode cX10_finds 13 = .ok (.aload_n 0, 1) := dw_42 wX10_finds_c rfl
theorem dX10_finds_14 : decode cX10_finds 14 = .ok (.getfield 337, 3) := dw_180 wX10_finds_c 1 81 rfl rfl
theorem dX10_finds_17 : decode cX10_finds 17 = .ok (.if_icmp .ge 209, 3) := dw_162 wX10_finds_c 0 209 rfl rfl rfl
theorem dX10_finds_20 : decode cX10_finds 20 = .ok (.aload_n 0, 1) := dw_42 wX10_finds_c rfl
theorem dX10_finds_21 : decode cX10_finds 21 = .ok (.getfield 198, 3) := dw_180 wX10_finds_c 0 198 rfl rfl
theorem dX10_finds_24 : decode cX10_finds 24 = .ok (.iconst 0, 1) := dw_3 wX10_finds_c rfl
theorem dX10_finds_25 : decode cX10_finds 25 = .ok (.iload_n 1, 1) := dw_27 wX10_finds_c rfl
theorem dX10_finds_26 : decode cX10_finds 26 = .ok (.iastore, 1) := dw_79 wX10_finds_c rfl
theorem dX10_finds_27 : decode cX10_finds 27 = .ok (.iload_n 1, 1) := dw_27 wX10_finds_c rfl
theorem dX10_finds_28 : decode cX10_finds 28 = .ok (.iconst 1, 1) := dw_4 wX10_finds_c rfl
theorem dX10_finds_29 : decode cX10_finds 29 = .ok (.iadd, 1) := dw_96 wX10_finds_c rfl
theorem dX10_finds_30 : decode cX10_finds 30 = .ok (.istore_n 2, 1) := dw_61 wX10_finds_c rfl
theorem dX10_finds_31 : decode cX10_finds 31 = .ok (.iload_n 2, 1) := dw_28 wX10_finds_c rfl
theorem dX10_finds_32 : decode cX10_finds 32 = .ok (.aload_n 0, 1) := dw_42 wX10_finds_c rfl
theorem dX10_finds_33 : decode cX10_finds 33 = .ok (.getfield 337, 3) := dw_180 wX10_finds_c 1 81 rfl rfl
theorem dX10_finds_36 : decode cX10_finds 36 = .ok (.if_icmp .ge 184, 3) := dw_162 wX10_finds_c 0 184 rfl rfl rfl
theorem dX10_finds_39 : decode cX10_finds 39 = .ok (.aload_n 0, 1) := dw_42 wX10_finds_c rfl
theorem dX10_finds_40 : decode cX10_finds 40 = .ok (.getfield 189, 3) := dw_180 wX10_finds_c 0 189 rfl rfl
theorem dX10_finds_43 : decode cX10_finds 43 = .ok (.bipush 40, 2) := dw_16 wX10_finds_c 40 rfl rfl rfl
theorem dX10_finds_45 : decode cX10_finds 45 = .ok (.iload_n 1, 1) := dw_27 wX10_finds_c rfl
theorem dX10_finds_46 : decode cX10_finds 46 = .ok (.imul, 1) := dw_104 wX10_finds_c rfl
theorem dX10_finds_47 : decode cX10_finds 47 = .ok (.iload_n 2, 1) := dw_28 wX10_finds_c rfl
theorem dX10_finds_48 : decode cX10_finds 48 = .ok (.iadd, 1) := dw_96 wX10_finds_c rfl
theorem dX10_finds_49 : decode cX10_finds 49 = .ok (.iaload, 1) := dw_46 wX10_finds_c rfl
theorem dX10_finds_50 : decode cX10_finds 50 = .ok (.istore_n 3, 1) := dw_62 wX10_finds_c rfl
theorem dX10_finds_51 : decode cX10_finds 51 = .ok (.iload_n 3, 1) := dw_29 wX10_finds_c rfl
theorem dX10_finds_52 : decode cX10_finds 52 = .ok (.ifCond .ne 6, 3) := dw_154 wX10_finds_c 0 6 rfl rfl rfl
theorem dX10_finds_55 : decode cX10_finds 55 = .ok (.goto 159, 3) := dw_167 wX10_finds_c 0 159 rfl rfl rfl
theorem dX10_finds_58 : decode cX10_finds 58 = .ok (.aload_n 0, 1) := dw_42 wX10_finds_c rfl
theorem dX10_finds_59 : decode cX10_finds 59 = .ok (.getfield 198, 3) := dw_180 wX10_finds_c 0 198 rfl rfl
theorem dX10_finds_62 : decode cX10_finds 62 = .ok (.iconst 1, 1) := dw_4 wX10_finds_c rfl
theorem dX10_finds_63 : decode cX10_finds 63 = .ok (.iload_n 2, 1) := dw_28 wX10_finds_c rfl
theorem dX10_finds_64 : decode cX10_finds 64 = .ok (.iastore, 1) := dw_79 wX10_finds_c rfl
theorem dX10_finds_65 : decode cX10_finds 65 = .ok (.aload_n 0, 1) := dw_42 wX10_finds_c rfl
theorem dX10_finds_66 : decode cX10_finds 66 = .ok (.iconst 2, 1) := dw_5 wX10_finds_c rfl
theorem dX10_finds_67 : decode cX10_finds 67 = .ok (.iload_n 3, 1) := dw_29 wX10_finds_c rfl
theorem dX10_finds_68 : decode cX10_finds 68 = .ok (.invokevirtual 444, 3) := dw_182 wX10_finds_c 1 188 rfl rfl
theorem dX10_finds_71 : decode cX10_finds 71 = .ok (.iload_n 1, 1) := dw_27 wX10_finds_c rfl
theorem dX10_finds_72 : decode cX10_finds 72 = .ok (.iconst 1, 1) := dw_4 wX10_finds_c rfl
theorem dX10_finds_73 : decode cX10_finds 73 = .ok (.iadd, 1) := dw_96 wX10_finds_c rfl
theorem dX10_finds_74 : decode cX10_finds 74 = .ok (.istore 4, 2) := dw_54 wX10_finds_c 4 rfl
theorem dX10_finds_76 : decode cX10_finds 76 = .ok (.iload 4, 2) := dw_21 wX10_finds_c 4 rfl
theorem dX10_finds_78 : decode cX10_finds 78 = .ok (.aload_n 0, 1) := dw_42 wX10_finds_c rfl
theorem dX10_finds_79 : decode cX10_finds 79 = .ok (.getfield 337, 3) := dw_180 wX10_finds_c 1 81 rfl rfl
theorem dX10_finds_82 : decode cX10_finds 82 = .ok (.if_icmp .ge 132, 3) := dw_162 wX10_finds_c 0 132 rfl rfl rfl
theorem dX10_finds_85 : decode cX10_finds 85 = .ok (.iload_n 3, 1) := dw_29 wX10_finds_c rfl
theorem dX10_finds_86 : decode cX10_finds 86 = .ok (.aload_n 0, 1) := dw_42 wX10_finds_c rfl
theorem dX10_finds_87 : decode cX10_finds 87 = .ok (.getfield 189, 3) := dw_180 wX10_finds_c 0 189 rfl rfl
theorem dX10_finds_90 : decode cX10_finds 90 = .ok (.bipush 40, 2) := dw_16 wX10_finds_c 40 rfl rfl rfl
theorem dX10_finds_92 : decode cX10_finds 92 = .ok (.iload_n 2, 1) := dw_28 wX10_finds_c rfl
theorem dX10_finds_93 : decode cX10_finds 93 = .ok (.imul, 1) := dw_104 wX10_finds_c rfl
theorem dX10_finds_94 : decode cX10_finds 94 = .ok (.iload 4, 2) := dw_21 wX10_finds_c 4 rfl
theorem dX10_finds_96 : decode cX10_finds 96 = .ok (.iadd, 1) := dw_96 wX10_finds_c rfl
theorem dX10_finds_97 : decode cX10_finds 97 = .ok (.iaload, 1) := dw_46 wX10_finds_c rfl
theorem dX10_finds_98 : decode cX10_finds 98 = .ok (.invokestatic 448, 3) := dw_184 wX10_finds_c 1 192 rfl rfl
theorem dX10_finds_101 : decode cX10_finds 101 = .ok (.istore 5, 2) := dw_54 wX10_finds_c 5 rfl
theorem dX10_finds_103 : decode cX10_finds 103 = .ok (.iload 4, 2) := dw_21 wX10_finds_c 4 rfl
theorem dX10_finds_105 : decode cX10_finds 105 = .ok (.iload_n 2, 1) := dw_28 wX10_finds_c rfl
theorem dX10_finds_106 : decode cX10_finds 106 = .ok (.if_icmp .eq 102, 3) := dw_159 wX10_finds_c 0 102 rfl rfl rfl
theorem dX10_finds_109 : decode cX10_finds 109 = .ok (.iload 5, 2) := dw_21 wX10_finds_c 5 rfl
theorem dX10_finds_111 : decode cX10_finds 111 = .ok (.ifCond .ne 6, 3) := dw_154 wX10_finds_c 0 6 rfl rfl rfl
theorem dX10_finds_114 : decode cX10_finds 114 = .ok (.goto 94, 3) := dw_167 wX10_finds_c 0 94 rfl rfl rfl
theorem dX10_finds_117 : decode cX10_finds 117 = .ok (.aload_n 0, 1) := dw_42 wX10_finds_c rfl
theorem dX10_finds_118 : decode cX10_finds 118 = .ok (.getfield 198, 3) := dw_180 wX10_finds_c 0 198 rfl rfl
theorem dX10_finds_121 : decode cX10_finds 121 = .ok (.iconst 2, 1) := dw_5 wX10_finds_c rfl
theorem dX10_finds_122 : decode cX10_finds 122 = .ok (.iload 4, 2) := dw_21 wX10_finds_c 4 rfl
theorem dX10_finds_124 : decode cX10_finds 124 = .ok (.iastore, 1) := dw_79 wX10_finds_c rfl
theorem dX10_finds_125 : decode cX10_finds 125 = .ok (.aload_n 0, 1) := dw_42 wX10_finds_c rfl
theorem dX10_finds_126 : decode cX10_finds 126 = .ok (.iconst 3, 1) := dw_6 wX10_finds_c rfl
theorem dX10_finds_127 : decode cX10_finds 127 = .ok (.iload 5, 2) := dw_21 wX10_finds_c 5 rfl
theorem dX10_finds_129 : decode cX10_finds 129 = .ok (.invokevirtual 444, 3) := dw_182 wX10_finds_c 1 188 rfl rfl
theorem dX10_finds_132 : decode cX10_finds 132 = .ok (.iload_n 1, 1) := dw_27 wX10_finds_c rfl
theorem dX10_finds_133 : decode cX10_finds 133 = .ok (.iconst 1, 1) := dw_4 wX10_finds_c rfl
theorem dX10_finds_134 : decode cX10_finds 134 = .ok (.iadd, 1) := dw_96 wX10_finds_c rfl
theorem dX10_finds_135 : decode cX10_finds 135 = .ok (.istore 6, 2) := dw_54 wX10_finds_c 6 rfl
theorem dX10_finds_137 : decode cX10_finds 137 = .ok (.iload 6, 2) := dw_21 wX10_finds_c 6 rfl
theorem dX10_finds_139 : decode cX10_finds 139 = .ok (.aload_n 0, 1) := dw_42 wX10_finds_c rfl
theorem dX10_finds_140 : decode cX10_finds 140 = .ok (.getfield 337, 3) := dw_180 wX10_finds_c 1 81 rfl rfl
theorem dX10_finds_143 : decode cX10_finds 143 = .ok (.if_icmp .ge 65, 3) := dw_162 wX10_finds_c 0 65 rfl rfl rfl
theorem dX10_finds_146 : decode cX10_finds 146 = .ok (.iload 5, 2) := dw_21 wX10_finds_c 5 rfl
theorem dX10_finds_148 : decode cX10_finds 148 = .ok (.aload_n 0, 1) := dw_42 wX10_finds_c rfl
theorem dX10_finds_149 : decode cX10_finds 149 = .ok (.getfield 189, 3) := dw_180 wX10_finds_c 0 189 rfl rfl
theorem dX10_finds_152 : decode cX10_finds 152 = .ok (.bipush 40, 2) := dw_16 wX10_finds_c 40 rfl rfl rfl
theorem dX10_finds_154 : decode cX10_finds 154 = .ok (.iload 4, 2) := dw_21 wX10_finds_c 4 rfl
theorem dX10_finds_156 : decode cX10_finds 156 = .ok (.imul, 1) := dw_104 wX10_finds_c rfl
theorem dX10_finds_157 : decode cX10_finds 157 = .ok (.iload 6, 2) := dw_21 wX10_finds_c 6 rfl
theorem dX10_finds_159 : decode cX10_finds 159 = .ok (.iadd, 1) := dw_96 wX10_finds_c rfl
theorem dX10_finds_160 : decode cX10_finds 160 = .ok (.iaload, 1) := dw_46 wX10_finds_c rfl
theorem dX10_finds_161 : decode cX10_finds 161 = .ok (.invokestatic 448, 3) := dw_184 wX10_finds_c 1 192 rfl rfl
theorem dX10_finds_164 : decode cX10_finds 164 = .ok (.istore 7, 2) := dw_54 wX10_finds_c 7 rfl
theorem dX10_finds_166 : decode cX10_finds 166 = .ok (.iload 6, 2) := dw_21 wX10_finds_c 6 rfl
theorem dX10_finds_168 : decode cX10_finds 168 = .ok (.iload_n 2, 1) := dw_28 wX10_finds_c rfl
theorem dX10_finds_169 : decode cX10_finds 169 = .ok (.if_icmp .eq 33, 3) := dw_159 wX10_finds_c 0 33 rfl rfl rfl
theorem dX10_finds_172 : decode cX10_finds 172 = .ok (.iload 6, 2) := dw_21 wX10_finds_c 6 rfl
theorem dX10_finds_174 : decode cX10_finds 174 = .ok (.iload 4, 2) := dw_21 wX10_finds_c 4 rfl
theorem dX10_finds_176 : decode cX10_finds 176 = .ok (.if_icmp .eq 26, 3) := dw_159 wX10_finds_c 0 26 rfl rfl rfl
theorem dX10_finds_179 : decode cX10_finds 179 = .ok (.iload 7, 2) := dw_21 wX10_finds_c 7 rfl
theorem dX10_finds_181 : decode cX10_finds 181 = .ok (.ifCond .ne 6, 3) := dw_154 wX10_finds_c 0 6 rfl rfl rfl
theorem dX10_finds_184 : decode cX10_finds 184 = .ok (.goto 18, 3) := dw_167 wX10_finds_c 0 18 rfl rfl rfl
theorem dX10_finds_187 : decode cX10_finds 187 = .ok (.aload_n 0, 1) := dw_42 wX10_finds_c rfl
theorem dX10_finds_188 : decode cX10_finds 188 = .ok (.getfield 198, 3) := dw_180 wX10_finds_c 0 198 rfl rfl
theorem dX10_finds_191 : decode cX10_finds 191 = .ok (.iconst 3, 1) := dw_6 wX10_finds_c rfl
theorem dX10_finds_192 : decode cX10_finds 192 = .ok (.iload 6, 2) := dw_21 wX10_finds_c 6 rfl
theorem dX10_finds_194 : decode cX10_finds 194 = .ok (.iastore, 1) := dw_79 wX10_finds_c rfl
theorem dX10_finds_195 : decode cX10_finds 195 = .ok (.aload_n 0, 1) := dw_42 wX10_finds_c rfl
theorem dX10_finds_196 : decode cX10_finds 196 = .ok (.iconst 4, 1) := dw_7 wX10_finds_c rfl
theorem dX10_finds_197 : decode cX10_finds 197 = .ok (.iload 7, 2) := dw_21 wX10_finds_c 7 rfl
theorem dX10_finds_199 : decode cX10_finds 199 = .ok (.invokevirtual 444, 3) := dw_182 wX10_finds_c 1 188 rfl rfl
theorem dX10_finds_202 : decode cX10_finds 202 = .ok (.iinc 6 1, 3) := dw_132 wX10_finds_c 6 1 rfl rfl rfl
theorem dX10_finds_205 : decode cX10_finds 205 = .ok (.goto (-68), 3) := dn_167 wX10_finds_c 255 188 rfl (by decide)
theorem dX10_finds_208 : decode cX10_finds 208 = .ok (.iinc 4 1, 3) := dw_132 wX10_finds_c 4 1 rfl rfl rfl
theorem dX10_finds_211 : decode cX10_finds 211 = .ok (.goto (-135), 3) := dn_167 wX10_finds_c 255 121 rfl (by decide)
theorem dX10_finds_214 : decode cX10_finds 214 = .ok (.iinc 2 1, 3) := dw_132 wX10_finds_c 2 1 rfl rfl rfl
theorem dX10_finds_217 : decode cX10_finds 217 = .ok (.goto (-186), 3) := dn_167 wX10_finds_c 255 70 rfl (by decide)
theorem dX10_finds_220 : decode cX10_finds 220 = .ok (.iinc 1 1, 3) := dw_132 wX10_finds_c 1 1 rfl rfl rfl
theorem dX10_finds_223 : decode cX10_finds 223 = .ok (.goto (-211), 3) := dn_167 wX10_finds_c 255 45 rfl (by decide)
theorem dX10_finds_226 : decode cX10_finds 226 = .ok (.return_, 1) := dw_177 wX10_finds_c rfl
def wNX10_netted : Nat := 26474434767166304409986200275932325419376849144474934619565882884597170504491400800735302248386837596359178546426922
theorem wX10_netted_c : hz_cd cX10_netted wNX10_netted 48 := ⟨by decide +kernel, by decide +kernel⟩
theorem dX10_netted_0 : decode cX10_netted 0 = .ok (.aload_n 0, 1) := dw_42 wX10_netted_c rfl
theorem dX10_netted_1 : decode cX10_netted 1 = .ok (.getfield 451, 3) := dw_180 wX10_netted_c 1 195 rfl rfl
theorem dX10_netted_4 : decode cX10_netted 4 = .ok (.ifCond .ne 7, 3) := dw_154 wX10_netted_c 0 7 rfl rfl rfl
theorem dX10_netted_7 : decode cX10_netted 7 = .ok (.iconst (-1), 1) := dw_2 wX10_netted_c rfl
theorem dX10_netted_8 : decode cX10_netted 8 = .ok (.goto 39, 3) := dw_167 wX10_netted_c 0 39 rfl rfl rfl
theorem dX10_netted_11 : decode cX10_netted 11 = .ok (.iload_n 1, 1) := dw_27 wX10_netted_c rfl
theorem dX10_netted_12 : decode cX10_netted 12 = .ok (.iconst (-1), 1) := dw_2 wX10_netted_c rfl
theorem dX10_netted_13 : decode cX10_netted 13 = .ok (.if_icmp .ne 10, 3) := dw_160 wX10_netted_c 0 10 rfl rfl rfl
theorem dX10_netted_16 : decode cX10_netted 16 = .ok (.aload_n 0, 1) := dw_42 wX10_netted_c rfl
theorem dX10_netted_17 : decode cX10_netted 17 = .ok (.getfield 455, 3) := dw_180 wX10_netted_c 1 199 rfl rfl
theorem dX10_netted_20 : decode cX10_netted 20 = .ok (.goto 27, 3) := dw_167 wX10_netted_c 0 27 rfl rfl rfl
theorem dX10_netted_23 : decode cX10_netted 23 = .ok (.iload_n 1, 1) := dw_27 wX10_netted_c rfl
theorem dX10_netted_24 : decode cX10_netted 24 = .ok (.iconst 0, 1) := dw_3 wX10_netted_c rfl
theorem dX10_netted_25 : decode cX10_netted 25 = .ok (.aload_n 0, 1) := dw_42 wX10_netted_c rfl
theorem dX10_netted_26 : decode cX10_netted 26 = .ok (.getfield 455, 3) := dw_180 wX10_netted_c 1 199 rfl rfl
theorem dX10_netted_29 : decode cX10_netted 29 = .ok (.iconst 1, 1) := dw_4 wX10_netted_c rfl
theorem dX10_netted_30 : decode cX10_netted 30 = .ok (.isub, 1) := dw_100 wX10_netted_c rfl
theorem dX10_netted_31 : decode cX10_netted 31 = .ok (.invokestatic 228, 3) := dw_184 wX10_netted_c 0 228 rfl rfl
theorem dX10_netted_34 : decode cX10_netted 34 = .ok (.ifCond .eq 12, 3) := dw_153 wX10_netted_c 0 12 rfl rfl rfl
theorem dX10_netted_37 : decode cX10_netted 37 = .ok (.aload_n 0, 1) := dw_42 wX10_netted_c rfl
theorem dX10_netted_38 : decode cX10_netted 38 = .ok (.getfield 192, 3) := dw_180 wX10_netted_c 0 192 rfl rfl
theorem dX10_netted_41 : decode cX10_netted 41 = .ok (.iload_n 1, 1) := dw_27 wX10_netted_c rfl
theorem dX10_netted_42 : decode cX10_netted 42 = .ok (.iaload, 1) := dw_46 wX10_netted_c rfl
theorem dX10_netted_43 : decode cX10_netted 43 = .ok (.goto 4, 3) := dw_167 wX10_netted_c 0 4 rfl rfl rfl
theorem dX10_netted_46 : decode cX10_netted 46 = .ok (.iconst (-1), 1) := dw_2 wX10_netted_c rfl
theorem dX10_netted_47 : decode cX10_netted 47 = .ok (.ireturn, 1) := dw_172 wX10_netted_c rfl