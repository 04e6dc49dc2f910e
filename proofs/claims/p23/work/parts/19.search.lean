def wNX5_keepIfBetter : Nat := 117239316219950551908478467812043532344694777629211431134890502725711346500775603017250999123332910971780636623929085089032731
theorem wX5_keepIfBetter_c : hz_cd cX5_keepIfBetter wNX5_keepIfBetter 52 := ⟨by decide +kernel, by decide +kernel⟩
theorem dX5_keepIfBetter_0 : decode cX5_keepIfBetter 0 = .ok (.iload_n 1, 1) := dw_27 wX5_keepIfBetter_c rfl
theorem dX5_keepIfBetter_1 : decode cX5_keepIfBetter 1 = .ok (.aload_n 0, 1) := dw_42 wX5_keepIfBetter_c rfl
theorem dX5_keepIfBetter_2 : decode cX5_keepIfBetter 2 = .ok (.getfield 68, 3) := dw_180 wX5_keepIfBetter_c 0 68 rfl rfl
theorem dX5_keepIfBetter_5 : decode cX5_keepIfBetter 5 = .ok (.if_icmp .lt 19, 3) := dw_161 wX5_keepIfBetter_c 0 19 rfl rfl rfl
theorem dX5_keepIfBetter_8 : decode cX5_keepIfBetter 8 = .ok (.iload_n 1, 1) := dw_27 wX5_keepIfBetter_c rfl
theorem dX5_keepIfBetter_9 : decode cX5_keepIfBetter 9 = .ok (.aload_n 0, 1) := dw_42 wX5_keepIfBetter_c rfl
theorem dX5_keepIfBetter_10 : decode cX5_keepIfBetter 10 = .ok (.getfield 68, 3) := dw_180 wX5_keepIfBetter_c 0 68 rfl rfl
theorem dX5_keepIfBetter_13 : decode cX5_keepIfBetter 13 = .ok (.if_icmp .ne 38, 3) := dw_160 wX5_keepIfBetter_c 0 38 rfl rfl rfl
theorem dX5_keepIfBetter_16 : decode cX5_keepIfBetter 16 = .ok (.iload_n 2, 1) := dw_28 wX5_keepIfBetter_c rfl
theorem dX5_keepIfBetter_17 : decode cX5_keepIfBetter 17 = .ok (.aload_n 0, 1) := dw_42 wX5_keepIfBetter_c rfl
theorem dX5_keepIfBetter_18 : decode cX5_keepIfBetter 18 = .ok (.getfield 71, 3) := dw_180 wX5_keepIfBetter_c 0 71 rfl rfl
theorem dX5_keepIfBetter_21 : decode cX5_keepIfBetter 21 = .ok (.if_icmp .ge 30, 3) := dw_162 wX5_keepIfBetter_c 0 30 rfl rfl rfl
theorem dX5_keepIfBetter_24 : decode cX5_keepIfBetter 24 = .ok (.aload_n 0, 1) := dw_42 wX5_keepIfBetter_c rfl
theorem dX5_keepIfBetter_25 : decode cX5_keepIfBetter 25 = .ok (.iload_n 1, 1) := dw_27 wX5_keepIfBetter_c rfl
theorem dX5_keepIfBetter_26 : decode cX5_keepIfBetter 26 = .ok (.putfield 68, 3) := dw_181 wX5_keepIfBetter_c 0 68 rfl rfl
theorem dX5_keepIfBetter_29 : decode cX5_keepIfBetter 29 = .ok (.aload_n 0, 1) := dw_42 wX5_keepIfBetter_c rfl
theorem dX5_keepIfBetter_30 : decode cX5_keepIfBetter 30 = .ok (.iload_n 2, 1) := dw_28 wX5_keepIfBetter_c rfl
theorem dX5_keepIfBetter_31 : decode cX5_keepIfBetter 31 = .ok (.putfield 71, 3) := dw_181 wX5_keepIfBetter_c 0 71 rfl rfl
theorem dX5_keepIfBetter_34 : decode cX5_keepIfBetter 34 = .ok (.aload_n 0, 1) := dw_42 wX5_keepIfBetter_c rfl
theorem dX5_keepIfBetter_35 : decode cX5_keepIfBetter 35 = .ok (.getfield 30, 3) := dw_180 wX5_keepIfBetter_c 0 30 rfl rfl
theorem dX5_keepIfBetter_38 : decode cX5_keepIfBetter 38 = .ok (.iconst 0, 1) := dw_3 wX5_keepIfBetter_c rfl
theorem dX5_keepIfBetter_39 : decode cX5_keepIfBetter 39 = .ok (.aload_n 0, 1) := dw_42 wX5_keepIfBetter_c rfl
theorem dX5_keepIfBetter_40 : decode cX5_keepIfBetter 40 = .ok (.getfield 15, 3) := dw_180 wX5_keepIfBetter_c 0 15 rfl rfl
theorem dX5_keepIfBetter_43 : decode cX5_keepIfBetter 43 = .ok (.iconst 0, 1) := dw_3 wX5_keepIfBetter_c rfl
theorem dX5_keepIfBetter_44 : decode cX5_keepIfBetter 44 = .ok (.aload_n 0, 1) := dw_42 wX5_keepIfBetter_c rfl
theorem dX5_keepIfBetter_45 : decode cX5_keepIfBetter 45 = .ok (.getfield 33, 3) := dw_180 wX5_keepIfBetter_c 0 33 rfl rfl
theorem dX5_keepIfBetter_48 : decode cX5_keepIfBetter 48 = .ok (.invokestatic 90, 3) := dw_184 wX5_keepIfBetter_c 0 90 rfl rfl
theorem dX5_keepIfBetter_51 : decode cX5_keepIfBetter 51 = .ok (.return_, 1) := dw_177 wX5_keepIfBetter_c rfl
def wNX7_keepIfBetter : Nat := 6982620803910223535612507217504365012886689100046156138273543448994942177812795467254055765558612808801253892419758620
theorem wX7_keepIfBetter_c : hz_cd cX7_keepIfBetter wNX7_keepIfBetter 49 := ⟨by decide +kernel, by decide +kernel⟩
theorem dX7_keepIfBetter_0 : decode cX7_keepIfBetter 0 = .ok (.iload_n 2, 1) := dw_28 wX7_keepIfBetter_c rfl
theorem dX7_keepIfBetter_1 : decode cX7_keepIfBetter 1 = .ok (.aload_n 0, 1) := dw_42 wX7_keepIfBetter_c rfl
theorem dX7_keepIfBetter_2 : decode cX7_keepIfBetter 2 = .ok (.getfield 34, 3) := dw_180 wX7_keepIfBetter_c 0 34 rfl rfl
theorem dX7_keepIfBetter_5 : decode cX7_keepIfBetter 5 = .ok (.if_icmp .gt 19, 3) := dw_163 wX7_keepIfBetter_c 0 19 rfl rfl rfl
theorem dX7_keepIfBetter_8 : decode cX7_keepIfBetter 8 = .ok (.iload_n 2, 1) := dw_28 wX7_keepIfBetter_c rfl
theorem dX7_keepIfBetter_9 : decode cX7_keepIfBetter 9 = .ok (.aload_n 0, 1) := dw_42 wX7_keepIfBetter_c rfl
theorem dX7_keepIfBetter_10 : decode cX7_keepIfBetter 10 = .ok (.getfield 34, 3) := dw_180 wX7_keepIfBetter_c 0 34 rfl rfl
theorem dX7_keepIfBetter_13 : decode cX7_keepIfBetter 13 = .ok (.if_icmp .ne 35, 3) := dw_160 wX7_keepIfBetter_c 0 35 rfl rfl rfl
theorem dX7_keepIfBetter_16 : decode cX7_keepIfBetter 16 = .ok (.iload_n 1, 1) := dw_27 wX7_keepIfBetter_c rfl
theorem dX7_keepIfBetter_17 : decode cX7_keepIfBetter 17 = .ok (.aload_n 0, 1) := dw_42 wX7_keepIfBetter_c rfl
theorem dX7_keepIfBetter_18 : decode cX7_keepIfBetter 18 = .ok (.getfield 31, 3) := dw_180 wX7_keepIfBetter_c 0 31 rfl rfl
theorem dX7_keepIfBetter_21 : decode cX7_keepIfBetter 21 = .ok (.if_icmp .ge 27, 3) := dw_162 wX7_keepIfBetter_c 0 27 rfl rfl rfl
theorem dX7_keepIfBetter_24 : decode cX7_keepIfBetter 24 = .ok (.aload_n 0, 1) := dw_42 wX7_keepIfBetter_c rfl
theorem dX7_keepIfBetter_25 : decode cX7_keepIfBetter 25 = .ok (.iload_n 2, 1) := dw_28 wX7_keepIfBetter_c rfl
theorem dX7_keepIfBetter_26 : decode cX7_keepIfBetter 26 = .ok (.putfield 34, 3) := dw_181 wX7_keepIfBetter_c 0 34 rfl rfl
theorem dX7_keepIfBetter_29 : decode cX7_keepIfBetter 29 = .ok (.aload_n 0, 1) := dw_42 wX7_keepIfBetter_c rfl
theorem dX7_keepIfBetter_30 : decode cX7_keepIfBetter 30 = .ok (.iload_n 1, 1) := dw_27 wX7_keepIfBetter_c rfl
theorem dX7_keepIfBetter_31 : decode cX7_keepIfBetter 31 = .ok (.putfield 31, 3) := dw_181 wX7_keepIfBetter_c 0 31 rfl rfl
theorem dX7_keepIfBetter_34 : decode cX7_keepIfBetter 34 = .ok (.aload_n 0, 1) := dw_42 wX7_keepIfBetter_c rfl
theorem dX7_keepIfBetter_35 : decode cX7_keepIfBetter 35 = .ok (.getfield 22, 3) := dw_180 wX7_keepIfBetter_c 0 22 rfl rfl
theorem dX7_keepIfBetter_38 : decode cX7_keepIfBetter 38 = .ok (.iconst 0, 1) := dw_3 wX7_keepIfBetter_c rfl
theorem dX7_keepIfBetter_39 : decode cX7_keepIfBetter 39 = .ok (.aload_n 0, 1) := dw_42 wX7_keepIfBetter_c rfl
theorem dX7_keepIfBetter_40 : decode cX7_keepIfBetter 40 = .ok (.getfield 25, 3) := dw_180 wX7_keepIfBetter_c 0 25 rfl rfl
theorem dX7_keepIfBetter_43 : decode cX7_keepIfBetter 43 = .ok (.iconst 0, 1) := dw_3 wX7_keepIfBetter_c rfl
theorem dX7_keepIfBetter_44 : decode cX7_keepIfBetter 44 = .ok (.iload_n 1, 1) := dw_27 wX7_keepIfBetter_c rfl
theorem dX7_keepIfBetter_45 : decode cX7_keepIfBetter 45 = .ok (.invokestatic 55, 3) := dw_184 wX7_keepIfBetter_c 0 55 rfl rfl
theorem dX7_keepIfBetter_48 : decode cX7_keepIfBetter 48 = .ok (.return_, 1) := dw_177 wX7_keepIfBetter_c rfl
def wNX5_tryFrom : Nat := 7435291132404322170928050039131678739300883622456677544842742920598257197282072773534659273831614114114040022316081806361724350769296876554656902493589794078469905921553337178882983909258694963472406872477948666330569207139242955924752436794840623385888103535469916278462830706485269276072327240755739
theorem wX5_tryFrom_c : hz_cd cX5_tryFrom wNX5_tryFrom 125 := ⟨by decide +kernel, by decide +kernel⟩
theorem dX5_tryFrom_0 : decode cX5_tryFrom 0 = .ok (.iload_n 1, 1) := dw_27 wX5_tryFrom_c rfl
theorem dX5_tryFrom_1 : decode cX5_tryFrom 1 = .ok (.aload_n 0, 1) := dw_42 wX5_tryFrom_c rfl
theorem dX5_tryFrom_2 : decode cX5_tryFrom 2 = .ok (.getfield 33, 3) := dw_180 wX5_tryFrom_c 0 33 rfl rfl
theorem dX5_tryFrom_5 : decode cX5_tryFrom 5 = .ok (.if_icmp .lt 11, 3) := dw_161 wX5_tryFrom_c 0 11 rfl rfl rfl
theorem dX5_tryFrom_8 : decode cX5_tryFrom 8 = .ok (.aload_n 0, 1) := dw_42 wX5_tryFrom_c rfl
theorem dX5_tryFrom_9 : decode cX5_tryFrom 9 = .ok (.iload_n 3, 1) := dw_29 wX5_tryFrom_c rfl
theorem dX5_tryFrom_10 : decode cX5_tryFrom 10 = .ok (.iload 4, 2) := dw_21 wX5_tryFrom_c 4 rfl
theorem dX5_tryFrom_12 : decode cX5_tryFrom 12 = .ok (.invokevirtual 83, 3) := dw_182 wX5_tryFrom_c 0 83 rfl rfl
theorem dX5_tryFrom_15 : decode cX5_tryFrom 15 = .ok (.return_, 1) := dw_177 wX5_tryFrom_c rfl
theorem dX5_tryFrom_16 : decode cX5_tryFrom 16 = .ok (.aload_n 0, 1) := dw_42 wX5_tryFrom_c rfl
theorem dX5_tryFrom_17 : decode cX5_tryFrom 17 = .ok (.iload_n 1, 1) := dw_27 wX5_tryFrom_c rfl
theorem dX5_tryFrom_18 : decode cX5_tryFrom 18 = .ok (.iconst 1, 1) := dw_4 wX5_tryFrom_c rfl
theorem dX5_tryFrom_19 : decode cX5_tryFrom 19 = .ok (.iadd, 1) := dw_96 wX5_tryFrom_c rfl
theorem dX5_tryFrom_20 : decode cX5_tryFrom 20 = .ok (.invokevirtual 63, 3) := dw_182 wX5_tryFrom_c 0 63 rfl rfl
theorem dX5_tryFrom_23 : decode cX5_tryFrom 23 = .ok (.istore 5, 2) := dw_54 wX5_tryFrom_c 5 rfl
theorem dX5_tryFrom_25 : decode cX5_tryFrom 25 = .ok (.iconst 0, 1) := dw_3 wX5_tryFrom_c rfl
theorem dX5_tryFrom_26 : decode cX5_tryFrom 26 = .ok (.istore 6, 2) := dw_54 wX5_tryFrom_c 6 rfl
theorem dX5_tryFrom_28 : decode cX5_tryFrom 28 = .ok (.iload 6, 2) := dw_21 wX5_tryFrom_c 6 rfl
theorem dX5_tryFrom_30 : decode cX5_tryFrom 30 = .ok (.bipush 12, 2) := dw_16 wX5_tryFrom_c 12 rfl rfl rfl
theorem dX5_tryFrom_32 : decode cX5_tryFrom 32 = .ok (.if_icmp .gt 92, 3) := dw_163 wX5_tryFrom_c 0 92 rfl rfl rfl
theorem dX5_tryFrom_35 : decode cX5_tryFrom 35 = .ok (.aload_n 0, 1) := dw_42 wX5_tryFrom_c rfl
theorem dX5_tryFrom_36 : decode cX5_tryFrom 36 = .ok (.getfield 27, 3) := dw_180 wX5_tryFrom_c 0 27 rfl rfl
theorem dX5_tryFrom_39 : decode cX5_tryFrom 39 = .ok (.iload_n 1, 1) := dw_27 wX5_tryFrom_c rfl
theorem dX5_tryFrom_40 : decode cX5_tryFrom 40 = .ok (.iaload, 1) := dw_46 wX5_tryFrom_c rfl
theorem dX5_tryFrom_41 : decode cX5_tryFrom 41 = .ok (.iload 6, 2) := dw_21 wX5_tryFrom_c 6 rfl
theorem dX5_tryFrom_43 : decode cX5_tryFrom 43 = .ok (.aload_n 0, 1) := dw_42 wX5_tryFrom_c rfl
theorem dX5_tryFrom_44 : decode cX5_tryFrom 44 = .ok (.getfield 37, 3) := dw_180 wX5_tryFrom_c 0 37 rfl rfl
theorem dX5_tryFrom_47 : decode cX5_tryFrom 47 = .ok (.imul, 1) := dw_104 wX5_tryFrom_c rfl
theorem dX5_tryFrom_48 : decode cX5_tryFrom 48 = .ok (.iadd, 1) := dw_96 wX5_tryFrom_c rfl
theorem dX5_tryFrom_49 : decode cX5_tryFrom 49 = .ok (.istore 7, 2) := dw_54 wX5_tryFrom_c 7 rfl
theorem dX5_tryFrom_51 : decode cX5_tryFrom 51 = .ok (.iload_n 2, 1) := dw_28 wX5_tryFrom_c rfl
theorem dX5_tryFrom_52 : decode cX5_tryFrom 52 = .ok (.iload 7, 2) := dw_21 wX5_tryFrom_c 7 rfl
theorem dX5_tryFrom_54 : decode cX5_tryFrom 54 = .ok (.iadd, 1) := dw_96 wX5_tryFrom_c rfl
theorem dX5_tryFrom_55 : decode cX5_tryFrom 55 = .ok (.iload 5, 2) := dw_21 wX5_tryFrom_c 5 rfl
theorem dX5_tryFrom_57 : decode cX5_tryFrom 57 = .ok (.iadd, 1) := dw_96 wX5_tryFrom_c rfl
theorem dX5_tryFrom_58 : decode cX5_tryFrom 58 = .ok (.aload_n 0, 1) := dw_42 wX5_tryFrom_c rfl
theorem dX5_tryFrom_59 : decode cX5_tryFrom 59 = .ok (.getfield 40, 3) := dw_180 wX5_tryFrom_c 0 40 rfl rfl
theorem dX5_tryFrom_62 : decode cX5_tryFrom 62 = .ok (.if_icmp .le 4, 3) := dw_164 wX5_tryFrom_c 0 4 rfl rfl rfl
theorem dX5_tryFrom_65 : decode cX5_tryFrom 65 = .ok (.return_, 1) := dw_177 wX5_tryFrom_c rfl
theorem dX5_tryFrom_66 : decode cX5_tryFrom 66 = .ok (.aload_n 0, 1) := dw_42 wX5_tryFrom_c rfl
theorem dX5_tryFrom_67 : decode cX5_tryFrom 67 = .ok (.getfield 24, 3) := dw_180 wX5_tryFrom_c 0 24 rfl rfl
theorem dX5_tryFrom_70 : decode cX5_tryFrom 70 = .ok (.iload_n 1, 1) := dw_27 wX5_tryFrom_c rfl
theorem dX5_tryFrom_71 : decode cX5_tryFrom 71 = .ok (.iaload, 1) := dw_46 wX5_tryFrom_c rfl
theorem dX5_tryFrom_72 : decode cX5_tryFrom 72 = .ok (.iload 7, 2) := dw_21 wX5_tryFrom_c 7 rfl
theorem dX5_tryFrom_74 : decode cX5_tryFrom 74 = .ok (.invokestatic 78, 3) := dw_184 wX5_tryFrom_c 0 78 rfl rfl
theorem dX5_tryFrom_77 : decode cX5_tryFrom 77 = .ok (.istore 8, 2) := dw_54 wX5_tryFrom_c 8 rfl
theorem dX5_tryFrom_79 : decode cX5_tryFrom 79 = .ok (.aload_n 0, 1) := dw_42 wX5_tryFrom_c rfl
theorem dX5_tryFrom_80 : decode cX5_tryFrom 80 = .ok (.getfield 30, 3) := dw_180 wX5_tryFrom_c 0 30 rfl rfl
theorem dX5_tryFrom_83 : decode cX5_tryFrom 83 = .ok (.iload_n 1, 1) := dw_27 wX5_tryFrom_c rfl
theorem dX5_tryFrom_84 : decode cX5_tryFrom 84 = .ok (.iload 7, 2) := dw_21 wX5_tryFrom_c 7 rfl
theorem dX5_tryFrom_86 : decode cX5_tryFrom 86 = .ok (.iastore, 1) := dw_79 wX5_tryFrom_c rfl
theorem dX5_tryFrom_87 : decode cX5_tryFrom 87 = .ok (.iload 8, 2) := dw_21 wX5_tryFrom_c 8 rfl
theorem dX5_tryFrom_89 : decode cX5_tryFrom 89 = .ok (.aload_n 0, 1) := dw_42 wX5_tryFrom_c rfl
theorem dX5_tryFrom_90 : decode cX5_tryFrom 90 = .ok (.getfield 68, 3) := dw_180 wX5_tryFrom_c 0 68 rfl rfl
theorem dX5_tryFrom_93 : decode cX5_tryFrom 93 = .ok (.if_icmp .gt 25, 3) := dw_163 wX5_tryFrom_c 0 25 rfl rfl rfl
theorem dX5_tryFrom_96 : decode cX5_tryFrom 96 = .ok (.aload_n 0, 1) := dw_42 wX5_tryFrom_c rfl
theorem dX5_tryFrom_97 : decode cX5_tryFrom 97 = .ok (.iload_n 1, 1) := dw_27 wX5_tryFrom_c rfl
theorem dX5_tryFrom_98 : decode cX5_tryFrom 98 = .ok (.iconst 1, 1) := dw_4 wX5_tryFrom_c rfl
theorem dX5_tryFrom_99 : decode cX5_tryFrom 99 = .ok (.iadd, 1) := dw_96 wX5_tryFrom_c rfl
theorem dX5_tryFrom_100 : decode cX5_tryFrom 100 = .ok (.iload_n 2, 1) := dw_28 wX5_tryFrom_c rfl
theorem dX5_tryFrom_101 : decode cX5_tryFrom 101 = .ok (.iload 7, 2) := dw_21 wX5_tryFrom_c 7 rfl
theorem dX5_tryFrom_103 : decode cX5_tryFrom 103 = .ok (.iadd, 1) := dw_96 wX5_tryFrom_c rfl
theorem dX5_tryFrom_104 : decode cX5_tryFrom 104 = .ok (.iload_n 3, 1) := dw_29 wX5_tryFrom_c rfl
theorem dX5_tryFrom_105 : decode cX5_tryFrom 105 = .ok (.iload 8, 2) := dw_21 wX5_tryFrom_c 8 rfl
theorem dX5_tryFrom_107 : decode cX5_tryFrom 107 = .ok (.invokestatic 87, 3) := dw_184 wX5_tryFrom_c 0 87 rfl rfl
theorem dX5_tryFrom_110 : decode cX5_tryFrom 110 = .ok (.iload 4, 2) := dw_21 wX5_tryFrom_c 4 rfl
theorem dX5_tryFrom_112 : decode cX5_tryFrom 112 = .ok (.iload 8, 2) := dw_21 wX5_tryFrom_c 8 rfl
theorem dX5_tryFrom_114 : decode cX5_tryFrom 114 = .ok (.iadd, 1) := dw_96 wX5_tryFrom_c rfl
theorem dX5_tryFrom_115 : decode cX5_tryFrom 115 = .ok (.invokevirtual 74, 3) := dw_182 wX5_tryFrom_c 0 74 rfl rfl
theorem dX5_tryFrom_118 : decode cX5_tryFrom 118 = .ok (.iinc 6 1, 3) := dw_132 wX5_tryFrom_c 6 1 rfl rfl rfl
theorem dX5_tryFrom_121 : decode cX5_tryFrom 121 = .ok (.goto (-93), 3) := dn_167 wX5_tryFrom_c 255 163 rfl (by decide)
theorem dX5_tryFrom_124 : decode cX5_tryFrom 124 = .ok (.return_, 1) := dw_177 wX5_tryFrom_c rfl
def wNX5_settle : Nat := 19271480431153553849394384712846499594046867168569447454735889342711384665079422063236293270569401088096756627851143434610457614945513012482161760464414270121983381329445429679647906365318550672411040172149866679252819266602565576526694934182002471978
theorem wX5_settle_c : hz_cd cX5_settle wNX5_settle 104 := ⟨by decide +kernel, by decide +kernel⟩
theorem dX5_settle_0 : decode cX5_settle 0 = .ok (.aload_n 0, 1) := dw_42 wX5_settle_c rfl
theorem dX5_settle_1 : decode cX5_settle 1 = .ok (.getfield 33, 3) := dw_180 wX5_settle_c 0 33 rfl rfl
theorem dX5_settle_4 : decode cX5_settle 4 = .ok (.ifCond .le 18, 3) := dw_158 wX5_settle_c 0 18 rfl rfl rfl
theorem dX5_settle_7 : decode cX5_settle 7 = .ok (.aload_n 0, 1) := dw_42 wX5_settle_c rfl
theorem dX5_settle_8 : decode cX5_settle 8 = .ok (.iconst 0, 1) := dw_3 wX5_settle_c rfl
theorem dX5_settle_9 : decode cX5_settle 9 = .ok (.invokevirtual 63, 3) := dw_182 wX5_settle_c 0 63 rfl rfl
theorem dX5_settle_12 : decode cX5_settle 12 = .ok (.aload_n 0, 1) := dw_42 wX5_settle_c rfl
theorem dX5_settle_13 : decode cX5_settle 13 = .ok (.getfield 40, 3) := dw_180 wX5_settle_c 0 40 rfl rfl
theorem dX5_settle_16 : decode cX5_settle 16 = .ok (.if_icmp .le 6, 3) := dw_164 wX5_settle_c 0 6 rfl rfl rfl
theorem dX5_settle_19 : decode cX5_settle 19 = .ok (.bipush (-2), 2) := dn_16 wX5_settle_c 254 rfl (by decide)
theorem dX5_settle_21 : decode cX5_settle 21 = .ok (.ireturn, 1) := dw_172 wX5_settle_c rfl
theorem dX5_settle_22 : decode cX5_settle 22 = .ok (.aload_n 0, 1) := dw_42 wX5_settle_c rfl
theorem dX5_settle_23 : decode cX5_settle 23 = .ok (.ldc 67, 2) := dw_18 wX5_settle_c 67 rfl
theorem dX5_settle_25 : decode cX5_settle 25 = .ok (.putfield 68, 3) := dw_181 wX5_settle_c 0 68 rfl rfl
theorem dX5_settle_28 : decode cX5_settle 28 = .ok (.aload_n 0, 1) := dw_42 wX5_settle_c rfl
theorem dX5_settle_29 : decode cX5_settle 29 = .ok (.ldc 67, 2) := dw_18 wX5_settle_c 67 rfl
theorem dX5_settle_31 : decode cX5_settle 31 = .ok (.putfield 71, 3) := dw_181 wX5_settle_c 0 71 rfl rfl
theorem dX5_settle_34 : decode cX5_settle 34 = .ok (.aload_n 0, 1) := dw_42 wX5_settle_c rfl
theorem dX5_settle_35 : decode cX5_settle 35 = .ok (.iconst 0, 1) := dw_3 wX5_settle_c rfl
theorem dX5_settle_36 : decode cX5_settle 36 = .ok (.iconst 0, 1) := dw_3 wX5_settle_c rfl
theorem dX5_settle_37 : decode cX5_settle 37 = .ok (.iconst 0, 1) := dw_3 wX5_settle_c rfl
theorem dX5_settle_38 : decode cX5_settle 38 = .ok (.iconst 0, 1) := dw_3 wX5_settle_c rfl
theorem dX5_settle_39 : decode cX5_settle 39 = .ok (.invokevirtual 74, 3) := dw_182 wX5_settle_c 0 74 rfl rfl
theorem dX5_settle_42 : decode cX5_settle 42 = .ok (.iconst 0, 1) := dw_3 wX5_settle_c rfl
theorem dX5_settle_43 : decode cX5_settle 43 = .ok (.istore_n 1, 1) := dw_60 wX5_settle_c rfl
theorem dX5_settle_44 : decode cX5_settle 44 = .ok (.iload_n 1, 1) := dw_27 wX5_settle_c rfl
theorem dX5_settle_45 : decode cX5_settle 45 = .ok (.aload_n 0, 1) := dw_42 wX5_settle_c rfl
theorem dX5_settle_46 : decode cX5_settle 46 = .ok (.getfield 33, 3) := dw_180 wX5_settle_c 0 33 rfl rfl
theorem dX5_settle_49 : decode cX5_settle 49 = .ok (.if_icmp .ge 42, 3) := dw_162 wX5_settle_c 0 42 rfl rfl rfl
theorem dX5_settle_52 : decode cX5_settle 52 = .ok (.aload_n 0, 1) := dw_42 wX5_settle_c rfl
theorem dX5_settle_53 : decode cX5_settle 53 = .ok (.getfield 9, 3) := dw_180 wX5_settle_c 0 9 rfl rfl
theorem dX5_settle_56 : decode cX5_settle 56 = .ok (.iload_n 1, 1) := dw_27 wX5_settle_c rfl
theorem dX5_settle_57 : decode cX5_settle 57 = .ok (.aload_n 0, 1) := dw_42 wX5_settle_c rfl
theorem dX5_settle_58 : decode cX5_settle 58 = .ok (.getfield 21, 3) := dw_180 wX5_settle_c 0 21 rfl rfl
theorem dX5_settle_61 : decode cX5_settle 61 = .ok (.iload_n 1, 1) := dw_27 wX5_settle_c rfl
theorem dX5_settle_62 : decode cX5_settle 62 = .ok (.iaload, 1) := dw_46 wX5_settle_c rfl
theorem dX5_settle_63 : decode cX5_settle 63 = .ok (.iastore, 1) := dw_79 wX5_settle_c rfl
theorem dX5_settle_64 : decode cX5_settle 64 = .ok (.aload_n 0, 1) := dw_42 wX5_settle_c rfl
theorem dX5_settle_65 : decode cX5_settle 65 = .ok (.getfield 18, 3) := dw_180 wX5_settle_c 0 18 rfl rfl
theorem dX5_settle_68 : decode cX5_settle 68 = .ok (.iload_n 1, 1) := dw_27 wX5_settle_c rfl
theorem dX5_settle_69 : decode cX5_settle 69 = .ok (.aload_n 0, 1) := dw_42 wX5_settle_c rfl
theorem dX5_settle_70 : decode cX5_settle 70 = .ok (.getfield 24, 3) := dw_180 wX5_settle_c 0 24 rfl rfl
theorem dX5_settle_73 : decode cX5_settle 73 = .ok (.iload_n 1, 1) := dw_27 wX5_settle_c rfl
theorem dX5_settle_74 : decode cX5_settle 74 = .ok (.iaload, 1) := dw_46 wX5_settle_c rfl
theorem dX5_settle_75 : decode cX5_settle 75 = .ok (.aload_n 0, 1) := dw_42 wX5_settle_c rfl
theorem dX5_settle_76 : decode cX5_settle 76 = .ok (.getfield 15, 3) := dw_180 wX5_settle_c 0 15 rfl rfl
theorem dX5_settle_79 : decode cX5_settle 79 = .ok (.iload_n 1, 1) := dw_27 wX5_settle_c rfl
theorem dX5_settle_80 : decode cX5_settle 80 = .ok (.iaload, 1) := dw_46 wX5_settle_c rfl
theorem dX5_settle_81 : decode cX5_settle 81 = .ok (.invokestatic 78, 3) := dw_184 wX5_settle_c 0 78 rfl rfl
theorem dX5_settle_84 : decode cX5_settle 84 = .ok (.iastore, 1) := dw_79 wX5_settle_c rfl
theorem dX5_settle_85 : decode cX5_settle 85 = .ok (.iinc 1 1, 3) := dw_132 wX5_settle_c 1 1 rfl rfl rfl
theorem dX5_settle_88 : decode cX5_settle 88 = .ok (.goto (-44), 3) := dn_167 wX5_settle_c 255 212 rfl (by decide)
theorem dX5_settle_91 : decode cX5_settle 91 = .ok (.aload_n 0, 1) := dw_42 wX5_settle_c rfl
theorem dX5_settle_92 : decode cX5_settle 92 = .ok (.aload_n 0, 1) := dw_42 wX5_settle_c rfl
theorem dX5_settle_93 : decode cX5_settle 93 = .ok (.getfield 33, 3) := dw_180 wX5_settle_c 0 33 rfl rfl
theorem dX5_settle_96 : decode cX5_settle 96 = .ok (.putfield 81, 3) := dw_181 wX5_settle_c 0 81 rfl rfl
theorem dX5_settle_99 : decode cX5_settle 99 = .ok (.aload_n 0, 1) := dw_42 wX5_settle_c rfl
theorem dX5_settle_100 : decode cX5_settle 100 = .ok (.getfield 68, 3) := dw_180 wX5_settle_c 0 68 rfl rfl
theorem dX5_settle_103 : decode cX5_settle 103 = .ok (.ireturn, 1) := dw_172 wX5_settle_c rfl
def wNX7_goOn : Nat := 1904271645994851251120787617695356003698643261381876025330272229083052487495281502355946650631563655135364504283006745051257480042428740451751073103110958961388401144617120541251190408823797760200483344471684628936443691778921768528117858887026315647429338522291947608281972563414815820667012774358987818
theorem wX7_goOn_c : hz_cd cX7_goOn wNX7_goOn 126 := ⟨by decide +kernel, by decide +kernel⟩
theorem dX7_goOn_0 : decode cX7_goOn 0 = .ok (.aload_n 0, 1) := dw_42 wX7_goOn_c rfl
theorem dX7_goOn_1 : decode cX7_goOn 1 = .ok (.getfield 22, 3) := dw_180 wX7_goOn_c 0 22 rfl rfl
theorem dX7_goOn_4 : decode cX7_goOn 4 = .ok (.iload_n 1, 1) := dw_27 wX7_goOn_c rfl
theorem dX7_goOn_5 : decode cX7_goOn 5 = .ok (.iconst 1, 1) := dw_4 wX7_goOn_c rfl
theorem dX7_goOn_6 : decode cX7_goOn 6 = .ok (.isub, 1) := dw_100 wX7_goOn_c rfl
theorem dX7_goOn_7 : decode cX7_goOn 7 = .ok (.iaload, 1) := dw_46 wX7_goOn_c rfl
theorem dX7_goOn_8 : decode cX7_goOn 8 = .ok (.bipush 40, 2) := dw_16 wX7_goOn_c 40 rfl rfl rfl
theorem dX7_goOn_10 : decode cX7_goOn 10 = .ok (.imul, 1) := dw_104 wX7_goOn_c rfl
theorem dX7_goOn_11 : decode cX7_goOn 11 = .ok (.istore_n 3, 1) := dw_62 wX7_goOn_c rfl
theorem dX7_goOn_12 : decode cX7_goOn 12 = .ok (.iload_n 1, 1) := dw_27 wX7_goOn_c rfl
theorem dX7_goOn_13 : decode cX7_goOn 13 = .ok (.iconst 1, 1) := dw_4 wX7_goOn_c rfl
theorem dX7_goOn_14 : decode cX7_goOn 14 = .ok (.if_icmp .le 25, 3) := dw_164 wX7_goOn_c 0 25 rfl rfl rfl
theorem dX7_goOn_17 : decode cX7_goOn 17 = .ok (.aload_n 0, 1) := dw_42 wX7_goOn_c rfl
theorem dX7_goOn_18 : decode cX7_goOn 18 = .ok (.iload_n 1, 1) := dw_27 wX7_goOn_c rfl
theorem dX7_goOn_19 : decode cX7_goOn 19 = .ok (.iload_n 2, 1) := dw_28 wX7_goOn_c rfl
theorem dX7_goOn_20 : decode cX7_goOn 20 = .ok (.aload_n 0, 1) := dw_42 wX7_goOn_c rfl
theorem dX7_goOn_21 : decode cX7_goOn 21 = .ok (.getfield 19, 3) := dw_180 wX7_goOn_c 0 19 rfl rfl
theorem dX7_goOn_24 : decode cX7_goOn 24 = .ok (.iload_n 3, 1) := dw_29 wX7_goOn_c rfl
theorem dX7_goOn_25 : decode cX7_goOn 25 = .ok (.aload_n 0, 1) := dw_42 wX7_goOn_c rfl
theorem dX7_goOn_26 : decode cX7_goOn 26 = .ok (.getfield 22, 3) := dw_180 wX7_goOn_c 0 22 rfl rfl
theorem dX7_goOn_29 : decode cX7_goOn 29 = .ok (.iconst 0, 1) := dw_3 wX7_goOn_c rfl
theorem dX7_goOn_30 : decode cX7_goOn 30 = .ok (.iaload, 1) := dw_46 wX7_goOn_c rfl
theorem dX7_goOn_31 : decode cX7_goOn 31 = .ok (.iadd, 1) := dw_96 wX7_goOn_c rfl
theorem dX7_goOn_32 : decode cX7_goOn 32 = .ok (.iaload, 1) := dw_46 wX7_goOn_c rfl
theorem dX7_goOn_33 : decode cX7_goOn 33 = .ok (.invokestatic 42, 3) := dw_184 wX7_goOn_c 0 42 rfl rfl
theorem dX7_goOn_36 : decode cX7_goOn 36 = .ok (.invokevirtual 48, 3) := dw_182 wX7_goOn_c 0 48 rfl rfl
theorem dX7_goOn_39 : decode cX7_goOn 39 = .ok (.aload_n 0, 1) := dw_42 wX7_goOn_c rfl
theorem dX7_goOn_40 : decode cX7_goOn 40 = .ok (.getfield 22, 3) := dw_180 wX7_goOn_c 0 22 rfl rfl
theorem dX7_goOn_43 : decode cX7_goOn 43 = .ok (.iconst 0, 1) := dw_3 wX7_goOn_c rfl
theorem dX7_goOn_44 : decode cX7_goOn 44 = .ok (.iaload, 1) := dw_46 wX7_goOn_c rfl
theorem dX7_goOn_45 : decode cX7_goOn 45 = .ok (.iconst 1, 1) := dw_4 wX7_goOn_c rfl
theorem dX7_goOn_46 : decode cX7_goOn 46 = .ok (.iadd, 1) := dw_96 wX7_goOn_c rfl
theorem dX7_goOn_47 : decode cX7_goOn 47 = .ok (.istore 4, 2) := dw_54 wX7_goOn_c 4 rfl
theorem dX7_goOn_49 : decode cX7_goOn 49 = .ok (.iload 4, 2) := dw_21 wX7_goOn_c 4 rfl
theorem dX7_goOn_51 : decode cX7_goOn 51 = .ok (.aload_n 0, 1) := dw_42 wX7_goOn_c rfl
theorem dX7_goOn_52 : decode cX7_goOn 52 = .ok (.getfield 28, 3) := dw_180 wX7_goOn_c 0 28 rfl rfl
theorem dX7_goOn_55 : decode cX7_goOn 55 = .ok (.if_icmp .ge 70, 3) := dw_162 wX7_goOn_c 0 70 rfl rfl rfl
theorem dX7_goOn_58 : decode cX7_goOn 58 = .ok (.iload_n 1, 1) := dw_27 wX7_goOn_c rfl
theorem dX7_goOn_59 : decode cX7_goOn 59 = .ok (.iconst 4, 1) := dw_7 wX7_goOn_c rfl
theorem dX7_goOn_60 : decode cX7_goOn 60 = .ok (.if_icmp .ge 65, 3) := dw_162 wX7_goOn_c 0 65 rfl rfl rfl
theorem dX7_goOn_125 : decode cX7_goOn 125 = .ok (.return_, 1) := dw_177 wX7_goOn_c rfl
theorem dX7_goOn_63 : decode cX7_goOn 63 = .ok (.aload_n 0, 1) := dw_42 wX7_goOn_c rfl
theorem dX7_goOn_64 : decode cX7_goOn 64 = .ok (.getfield 19, 3) := dw_180 wX7_goOn_c 0 19 rfl rfl
theorem dX7_goOn_67 : decode cX7_goOn 67 = .ok (.iload_n 3, 1) := dw_29 wX7_goOn_c rfl
theorem dX7_goOn_68 : decode cX7_goOn 68 = .ok (.iload 4, 2) := dw_21 wX7_goOn_c 4 rfl
theorem dX7_goOn_70 : decode cX7_goOn 70 = .ok (.iadd, 1) := dw_96 wX7_goOn_c rfl
theorem dX7_goOn_71 : decode cX7_goOn 71 = .ok (.iaload, 1) := dw_46 wX7_goOn_c rfl
theorem dX7_goOn_72 : decode cX7_goOn 72 = .ok (.istore 5, 2) := dw_54 wX7_goOn_c 5 rfl
theorem dX7_goOn_74 : decode cX7_goOn 74 = .ok (.iload 5, 2) := dw_21 wX7_goOn_c 5 rfl
theorem dX7_goOn_76 : decode cX7_goOn 76 = .ok (.ifCond .le 43, 3) := dw_158 wX7_goOn_c 0 43 rfl rfl rfl
theorem dX7_goOn_79 : decode cX7_goOn 79 = .ok (.iload 5, 2) := dw_21 wX7_goOn_c 5 rfl
theorem dX7_goOn_81 : decode cX7_goOn 81 = .ok (.aload_n 0, 1) := dw_42 wX7_goOn_c rfl
theorem dX7_goOn_82 : decode cX7_goOn 82 = .ok (.getfield 34, 3) := dw_180 wX7_goOn_c 0 34 rfl rfl
theorem dX7_goOn_85 : decode cX7_goOn 85 = .ok (.if_icmp .lt 34, 3) := dw_161 wX7_goOn_c 0 34 rfl rfl rfl
theorem dX7_goOn_88 : decode cX7_goOn 88 = .ok (.aload_n 0, 1) := dw_42 wX7_goOn_c rfl
theorem dX7_goOn_89 : decode cX7_goOn 89 = .ok (.iload 4, 2) := dw_21 wX7_goOn_c 4 rfl
theorem dX7_goOn_91 : decode cX7_goOn 91 = .ok (.iload_n 1, 1) := dw_27 wX7_goOn_c rfl
theorem dX7_goOn_92 : decode cX7_goOn 92 = .ok (.invokevirtual 51, 3) := dw_182 wX7_goOn_c 0 51 rfl rfl
theorem dX7_goOn_95 : decode cX7_goOn 95 = .ok (.ifCond .ne 24, 3) := dw_154 wX7_goOn_c 0 24 rfl rfl rfl
theorem dX7_goOn_98 : decode cX7_goOn 98 = .ok (.aload_n 0, 1) := dw_42 wX7_goOn_c rfl
theorem dX7_goOn_99 : decode cX7_goOn 99 = .ok (.getfield 22, 3) := dw_180 wX7_goOn_c 0 22 rfl rfl
theorem dX7_goOn_102 : decode cX7_goOn 102 = .ok (.iload_n 1, 1) := dw_27 wX7_goOn_c rfl
theorem dX7_goOn_103 : decode cX7_goOn 103 = .ok (.iload 4, 2) := dw_21 wX7_goOn_c 4 rfl
theorem dX7_goOn_105 : decode cX7_goOn 105 = .ok (.iastore, 1) := dw_79 wX7_goOn_c rfl
theorem dX7_goOn_106 : decode cX7_goOn 106 = .ok (.aload_n 0, 1) := dw_42 wX7_goOn_c rfl
theorem dX7_goOn_107 : decode cX7_goOn 107 = .ok (.iload_n 1, 1) := dw_27 wX7_goOn_c rfl
theorem dX7_goOn_108 : decode cX7_goOn 108 = .ok (.iconst 1, 1) := dw_4 wX7_goOn_c rfl
theorem dX7_goOn_109 : decode cX7_goOn 109 = .ok (.iadd, 1) := dw_96 wX7_goOn_c rfl
theorem dX7_goOn_110 : decode cX7_goOn 110 = .ok (.iload_n 2, 1) := dw_28 wX7_goOn_c rfl
theorem dX7_goOn_111 : decode cX7_goOn 111 = .ok (.iload 5, 2) := dw_21 wX7_goOn_c 5 rfl
theorem dX7_goOn_113 : decode cX7_goOn 113 = .ok (.invokestatic 42, 3) := dw_184 wX7_goOn_c 0 42 rfl rfl
theorem dX7_goOn_116 : decode cX7_goOn 116 = .ok (.invokevirtual 38, 3) := dw_182 wX7_goOn_c 0 38 rfl rfl
theorem dX7_goOn_119 : decode cX7_goOn 119 = .ok (.iinc 4 1, 3) := dw_132 wX7_goOn_c 4 1 rfl rfl rfl
theorem dX7_goOn_122 : decode cX7_goOn 122 = .ok (.goto (-73), 3) := dn_167 wX7_goOn_c 255 183 rfl (by decide)
def wNX7_findBest : Nat := 29109609921258864303665556373012971869457556321608589751660484060868530461584277571132906969947641713963003994587875462853493546
theorem wX7_findBest_c : hz_cd cX7_findBest wNX7_findBest 53 := ⟨by decide +kernel, by decide +kernel⟩
theorem dX7_findBest_0 : decode cX7_findBest 0 = .ok (.aload_n 0, 1) := dw_42 wX7_findBest_c rfl
theorem dX7_findBest_1 : decode cX7_findBest 1 = .ok (.iconst 0, 1) := dw_3 wX7_findBest_c rfl
theorem dX7_findBest_2 : decode cX7_findBest 2 = .ok (.putfield 31, 3) := dw_181 wX7_findBest_c 0 31 rfl rfl
theorem dX7_findBest_5 : decode cX7_findBest 5 = .ok (.aload_n 0, 1) := dw_42 wX7_findBest_c rfl
theorem dX7_findBest_6 : decode cX7_findBest 6 = .ok (.iconst 0, 1) := dw_3 wX7_findBest_c rfl
theorem dX7_findBest_7 : decode cX7_findBest 7 = .ok (.putfield 34, 3) := dw_181 wX7_findBest_c 0 34 rfl rfl
theorem dX7_findBest_10 : decode cX7_findBest 10 = .ok (.iconst 0, 1) := dw_3 wX7_findBest_c rfl
theorem dX7_findBest_11 : decode cX7_findBest 11 = .ok (.istore_n 1, 1) := dw_60 wX7_findBest_c rfl
theorem dX7_findBest_12 : decode cX7_findBest 12 = .ok (.iload_n 1, 1) := dw_27 wX7_findBest_c rfl
theorem dX7_findBest_13 : decode cX7_findBest 13 = .ok (.aload_n 0, 1) := dw_42 wX7_findBest_c rfl
theorem dX7_findBest_14 : decode cX7_findBest 14 = .ok (.getfield 28, 3) := dw_180 wX7_findBest_c 0 28 rfl rfl
theorem dX7_findBest_17 : decode cX7_findBest 17 = .ok (.if_icmp .ge 23, 3) := dw_162 wX7_findBest_c 0 23 rfl rfl rfl
theorem dX7_findBest_20 : decode cX7_findBest 20 = .ok (.aload_n 0, 1) := dw_42 wX7_findBest_c rfl
theorem dX7_findBest_21 : decode cX7_findBest 21 = .ok (.getfield 22, 3) := dw_180 wX7_findBest_c 0 22 rfl rfl
theorem dX7_findBest_24 : decode cX7_findBest 24 = .ok (.iconst 0, 1) := dw_3 wX7_findBest_c rfl
theorem dX7_findBest_25 : decode cX7_findBest 25 = .ok (.iload_n 1, 1) := dw_27 wX7_findBest_c rfl
theorem dX7_findBest_26 : decode cX7_findBest 26 = .ok (.iastore, 1) := dw_79 wX7_findBest_c rfl
theorem dX7_findBest_27 : decode cX7_findBest 27 = .ok (.aload_n 0, 1) := dw_42 wX7_findBest_c rfl
theorem dX7_findBest_28 : decode cX7_findBest 28 = .ok (.iconst 1, 1) := dw_4 wX7_findBest_c rfl
theorem dX7_findBest_29 : decode cX7_findBest 29 = .ok (.ldc 37, 2) := dw_18 wX7_findBest_c 37 rfl
theorem dX7_findBest_31 : decode cX7_findBest 31 = .ok (.invokevirtual 38, 3) := dw_182 wX7_findBest_c 0 38 rfl rfl
theorem dX7_findBest_34 : decode cX7_findBest 34 = .ok (.iinc 1 1, 3) := dw_132 wX7_findBest_c 1 1 rfl rfl rfl
theorem dX7_findBest_37 : decode cX7_findBest 37 = .ok (.goto (-25), 3) := dn_167 wX7_findBest_c 255 231 rfl (by decide)
theorem dX7_findBest_40 : decode cX7_findBest 40 = .ok (.aload_n 0, 1) := dw_42 wX7_findBest_c rfl
theorem dX7_findBest_41 : decode cX7_findBest 41 = .ok (.getfield 31, 3) := dw_180 wX7_findBest_c 0 31 rfl rfl
theorem dX7_findBest_44 : decode cX7_findBest 44 = .ok (.ifCond .le 7, 3) := dw_158 wX7_findBest_c 0 7 rfl rfl rfl
theorem dX7_findBest_47 : decode cX7_findBest 47 = .ok (.iconst 1, 1) := dw_4 wX7_findBest_c rfl
theorem dX7_findBest_48 : decode cX7_findBest 48 = .ok (.goto 4, 3) := dw_167 wX7_findBest_c 0 4 rfl rfl rfl
theorem dX7_findBest_51 : decode cX7_findBest 51 = .ok (.iconst 0, 1) := dw_3 wX7_findBest_c rfl
theorem dX7_findBest_52 : decode cX7_findBest 52 = .ok (.ireturn, 1) := dw_172 wX7_findBest_c rfl
def wNX7_takeOff : Nat := 58201814880819230962648132361277104086887926543038639062039813308258509481865101741313990074547620897839684547125403333535981749515916409937413560159521323643427039964748043456296153643951694601437867563340741635
theorem wX7_takeOff_c : hz_cd cX7_takeOff wNX7_takeOff 88 := ⟨by decide +kernel, by decide +kernel⟩
theorem dX7_takeOff_0 : decode cX7_takeOff 0 = .ok (.iconst 0, 1) := dw_3 wX7_takeOff_c rfl
theorem dX7_takeOff_1 : decode cX7_takeOff 1 = .ok (.istore_n 1, 1) := dw_60 wX7_takeOff_c rfl
theorem dX7_takeOff_2 : decode cX7_takeOff 2 = .ok (.iload_n 1, 1) := dw_27 wX7_takeOff_c rfl
theorem dX7_takeOff_3 : decode cX7_takeOff 3 = .ok (.aload_n 0, 1) := dw_42 wX7_takeOff_c rfl
theorem dX7_takeOff_4 : decode cX7_takeOff 4 = .ok (.getfield 31, 3) := dw_180 wX7_takeOff_c 0 31 rfl rfl
theorem dX7_takeOff_7 : decode cX7_takeOff 7 = .ok (.if_icmp .ge 41, 3) := dw_162 wX7_takeOff_c 0 41 rfl rfl rfl
theorem dX7_takeOff_10 : decode cX7_takeOff 10 = .ok (.aload_n 0, 1) := dw_42 wX7_takeOff_c rfl
theorem dX7_takeOff_11 : decode cX7_takeOff 11 = .ok (.getfield 19, 3) := dw_180 wX7_takeOff_c 0 19 rfl rfl
theorem dX7_takeOff_14 : decode cX7_takeOff 14 = .ok (.aload_n 0, 1) := dw_42 wX7_takeOff_c rfl
theorem dX7_takeOff_15 : decode cX7_takeOff 15 = .ok (.getfield 25, 3) := dw_180 wX7_takeOff_c 0 25 rfl rfl
theorem dX7_takeOff_18 : decode cX7_takeOff 18 = .ok (.iload_n 1, 1) := dw_27 wX7_takeOff_c rfl
theorem dX7_takeOff_19 : decode cX7_takeOff 19 = .ok (.iaload, 1) := dw_46 wX7_takeOff_c rfl
theorem dX7_takeOff_20 : decode cX7_takeOff 20 = .ok (.bipush 40, 2) := dw_16 wX7_takeOff_c 40 rfl rfl rfl
theorem dX7_takeOff_22 : decode cX7_takeOff 22 = .ok (.imul, 1) := dw_104 wX7_takeOff_c rfl
theorem dX7_takeOff_23 : decode cX7_takeOff 23 = .ok (.aload_n 0, 1) := dw_42 wX7_takeOff_c rfl
theorem dX7_takeOff_24 : decode cX7_takeOff 24 = .ok (.getfield 25, 3) := dw_180 wX7_takeOff_c 0 25 rfl rfl
theorem dX7_takeOff_27 : decode cX7_takeOff 27 = .ok (.aload_n 0, 1) := dw_42 wX7_takeOff_c rfl
theorem dX7_takeOff_28 : decode cX7_takeOff 28 = .ok (.iload_n 1, 1) := dw_27 wX7_takeOff_c rfl
theorem dX7_takeOff_29 : decode cX7_takeOff 29 = .ok (.invokevirtual 75, 3) := dw_182 wX7_takeOff_c 0 75 rfl rfl
theorem dX7_takeOff_32 : decode cX7_takeOff 32 = .ok (.iaload, 1) := dw_46 wX7_takeOff_c rfl
theorem dX7_takeOff_33 : decode cX7_takeOff 33 = .ok (.iadd, 1) := dw_96 wX7_takeOff_c rfl
theorem dX7_takeOff_34 : decode cX7_takeOff 34 = .ok (.dup2, 1) := dw_92 wX7_takeOff_c rfl
theorem dX7_takeOff_35 : decode cX7_takeOff 35 = .ok (.iaload, 1) := dw_46 wX7_takeOff_c rfl
theorem dX7_takeOff_36 : decode cX7_takeOff 36 = .ok (.aload_n 0, 1) := dw_42 wX7_takeOff_c rfl
theorem dX7_takeOff_37 : decode cX7_takeOff 37 = .ok (.getfield 34, 3) := dw_180 wX7_takeOff_c 0 34 rfl rfl
theorem dX7_takeOff_40 : decode cX7_takeOff 40 = .ok (.isub, 1) := dw_100 wX7_takeOff_c rfl
theorem dX7_takeOff_41 : decode cX7_takeOff 41 = .ok (.iastore, 1) := dw_79 wX7_takeOff_c rfl
theorem dX7_takeOff_42 : decode cX7_takeOff 42 = .ok (.iinc 1 1, 3) := dw_132 wX7_takeOff_c 1 1 rfl rfl rfl
theorem dX7_takeOff_45 : decode cX7_takeOff 45 = .ok (.goto (-43), 3) := dn_167 wX7_takeOff_c 255 213 rfl (by decide)
theorem dX7_takeOff_48 : decode cX7_takeOff 48 = .ok (.aload_n 0, 1) := dw_42 wX7_takeOff_c rfl
theorem dX7_takeOff_49 : decode cX7_takeOff 49 = .ok (.getfield 9, 3) := dw_180 wX7_takeOff_c 0 9 rfl rfl
theorem dX7_takeOff_52 : decode cX7_takeOff 52 = .ok (.ifCond .lt 35, 3) := dw_155 wX7_takeOff_c 0 35 rfl rfl rfl
theorem dX7_takeOff_55 : decode cX7_takeOff 55 = .ok (.aload_n 0, 1) := dw_42 wX7_takeOff_c rfl
theorem dX7_takeOff_56 : decode cX7_takeOff 56 = .ok (.getfield 9, 3) := dw_180 wX7_takeOff_c 0 9 rfl rfl
theorem dX7_takeOff_59 : decode cX7_takeOff 59 = .ok (.bipush 100, 2) := dw_16 wX7_takeOff_c 100 rfl rfl rfl
theorem dX7_takeOff_61 : decode cX7_takeOff 61 = .ok (.if_icmp .ge 26, 3) := dw_162 wX7_takeOff_c 0 26 rfl rfl rfl
theorem dX7_takeOff_64 : decode cX7_takeOff 64 = .ok (.aload_n 0, 1) := dw_42 wX7_takeOff_c rfl
theorem dX7_takeOff_65 : decode cX7_takeOff 65 = .ok (.getfield 15, 3) := dw_180 wX7_takeOff_c 0 15 rfl rfl
theorem dX7_takeOff_68 : decode cX7_takeOff 68 = .ok (.aload_n 0, 1) := dw_42 wX7_takeOff_c rfl
theorem dX7_takeOff_69 : decode cX7_takeOff 69 = .ok (.getfield 9, 3) := dw_180 wX7_takeOff_c 0 9 rfl rfl
theorem dX7_takeOff_72 : decode cX7_takeOff 72 = .ok (.aload_n 0, 1) := dw_42 wX7_takeOff_c rfl
theorem dX7_takeOff_73 : decode cX7_takeOff 73 = .ok (.getfield 34, 3) := dw_180 wX7_takeOff_c 0 34 rfl rfl
theorem dX7_takeOff_76 : decode cX7_takeOff 76 = .ok (.iastore, 1) := dw_79 wX7_takeOff_c rfl
theorem dX7_takeOff_77 : decode cX7_takeOff 77 = .ok (.aload_n 0, 1) := dw_42 wX7_takeOff_c rfl
theorem dX7_takeOff_78 : decode cX7_takeOff 78 = .ok (.dup, 1) := dw_89 wX7_takeOff_c rfl
theorem dX7_takeOff_79 : decode cX7_takeOff 79 = .ok (.getfield 9, 3) := dw_180 wX7_takeOff_c 0 9 rfl rfl
theorem dX7_takeOff_82 : decode cX7_takeOff 82 = .ok (.iconst 1, 1) := dw_4 wX7_takeOff_c rfl
theorem dX7_takeOff_83 : decode cX7_takeOff 83 = .ok (.iadd, 1) := dw_96 wX7_takeOff_c rfl
theorem dX7_takeOff_84 : decode cX7_takeOff 84 = .ok (.putfield 9, 3) := dw_181 wX7_takeOff_c 0 9 rfl rfl
theorem dX7_takeOff_87 : decode cX7_takeOff 87 = .ok (.return_, 1) := dw_177 wX7_takeOff_c rfl
def wNX7_isDebt : Nat := 94058222522838277641852105841475287945376463877593009116639424276150605771631768696727799514712290348
theorem wX7_isDebt_c : hz_cd cX7_isDebt wNX7_isDebt 42 := ⟨by decide +kernel, by decide +kernel⟩
theorem dX7_isDebt_0 : decode cX7_isDebt 0 = .ok (.aload_n 2, 1) := dw_44 wX7_isDebt_c rfl
theorem dX7_isDebt_1 : decode cX7_isDebt 1 = .ok (.getfield 61, 3) := dw_180 wX7_isDebt_c 0 61 rfl rfl
theorem dX7_isDebt_4 : decode cX7_isDebt 4 = .ok (.getfield 67, 3) := dw_180 wX7_isDebt_c 0 67 rfl rfl
theorem dX7_isDebt_7 : decode cX7_isDebt 7 = .ok (.aload_n 0, 1) := dw_42 wX7_isDebt_c rfl
theorem dX7_isDebt_8 : decode cX7_isDebt 8 = .ok (.getfield 25, 3) := dw_180 wX7_isDebt_c 0 25 rfl rfl
theorem dX7_isDebt_11 : decode cX7_isDebt 11 = .ok (.iload_n 1, 1) := dw_27 wX7_isDebt_c rfl
theorem dX7_isDebt_12 : decode cX7_isDebt 12 = .ok (.iaload, 1) := dw_46 wX7_isDebt_c rfl
theorem dX7_isDebt_13 : decode cX7_isDebt 13 = .ok (.if_icmp .ne 27, 3) := dw_160 wX7_isDebt_c 0 27 rfl rfl rfl
theorem dX7_isDebt_16 : decode cX7_isDebt 16 = .ok (.aload_n 2, 1) := dw_44 wX7_isDebt_c rfl
theorem dX7_isDebt_17 : decode cX7_isDebt 17 = .ok (.getfield 72, 3) := dw_180 wX7_isDebt_c 0 72 rfl rfl
theorem dX7_isDebt_20 : decode cX7_isDebt 20 = .ok (.getfield 67, 3) := dw_180 wX7_isDebt_c 0 67 rfl rfl
theorem dX7_isDebt_23 : decode cX7_isDebt 23 = .ok (.aload_n 0, 1) := dw_42 wX7_isDebt_c rfl
theorem dX7_isDebt_24 : decode cX7_isDebt 24 = .ok (.getfield 25, 3) := dw_180 wX7_isDebt_c 0 25 rfl rfl
theorem dX7_isDebt_27 : decode cX7_isDebt 27 = .ok (.aload_n 0, 1) := dw_42 wX7_isDebt_c rfl
theorem dX7_isDebt_28 : decode cX7_isDebt 28 = .ok (.iload_n 1, 1) := dw_27 wX7_isDebt_c rfl
theorem dX7_isDebt_29 : decode cX7_isDebt 29 = .ok (.invokevirtual 75, 3) := dw_182 wX7_isDebt_c 0 75 rfl rfl
theorem dX7_isDebt_32 : decode cX7_isDebt 32 = .ok (.iaload, 1) := dw_46 wX7_isDebt_c rfl
theorem dX7_isDebt_33 : decode cX7_isDebt 33 = .ok (.if_icmp .ne 7, 3) := dw_160 wX7_isDebt_c 0 7 rfl rfl rfl
theorem dX7_isDebt_36 : decode cX7_isDebt 36 = .ok (.iconst 1, 1) := dw_4 wX7_isDebt_c rfl
theorem dX7_isDebt_37 : decode cX7_isDebt 37 = .ok (.goto 4, 3) := dw_167 wX7_isDebt_c 0 4 rfl rfl rfl
theorem dX7_isDebt_40 : decode cX7_isDebt 40 = .ok (.iconst 0, 1) := dw_3 wX7_isDebt_c rfl
theorem dX7_isDebt_41 : decode cX7_isDebt 41 = .ok (.ireturn, 1) := dw_172 wX7_isDebt_c rfl