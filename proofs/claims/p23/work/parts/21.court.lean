def wNX9_livingJudges : Nat := 113773505964440822247201260092231409091734324507497739589281760899776903533363727197442388284982584342245442376393888526187523
theorem wX9_livingJudges_c : hz_cd cX9_livingJudges wNX9_livingJudges 52 := ⟨by decide +kernel, by decide +kernel⟩
theorem dX9_livingJudges_0 : decode cX9_livingJudges 0 = .ok (.iconst 0, 1) := dw_3 wX9_livingJudges_c rfl
theorem dX9_livingJudges_1 : decode cX9_livingJudges 1 = .ok (.istore_n 1, 1) := dw_60 wX9_livingJudges_c rfl
theorem dX9_livingJudges_2 : decode cX9_livingJudges 2 = .ok (.iconst 0, 1) := dw_3 wX9_livingJudges_c rfl
theorem dX9_livingJudges_3 : decode cX9_livingJudges 3 = .ok (.istore_n 2, 1) := dw_61 wX9_livingJudges_c rfl
theorem dX9_livingJudges_4 : decode cX9_livingJudges 4 = .ok (.iload_n 2, 1) := dw_28 wX9_livingJudges_c rfl
theorem dX9_livingJudges_5 : decode cX9_livingJudges 5 = .ok (.aload_n 0, 1) := dw_42 wX9_livingJudges_c rfl
theorem dX9_livingJudges_6 : decode cX9_livingJudges 6 = .ok (.getfield 125, 3) := dw_180 wX9_livingJudges_c 0 125 rfl rfl
theorem dX9_livingJudges_9 : decode cX9_livingJudges 9 = .ok (.if_icmp .ge 41, 3) := dw_162 wX9_livingJudges_c 0 41 rfl rfl rfl
theorem dX9_livingJudges_12 : decode cX9_livingJudges 12 = .ok (.iload_n 1, 1) := dw_27 wX9_livingJudges_c rfl
theorem dX9_livingJudges_13 : decode cX9_livingJudges 13 = .ok (.aload_n 0, 1) := dw_42 wX9_livingJudges_c rfl
theorem dX9_livingJudges_14 : decode cX9_livingJudges 14 = .ok (.getfield 35, 3) := dw_180 wX9_livingJudges_c 0 35 rfl rfl
theorem dX9_livingJudges_17 : decode cX9_livingJudges 17 = .ok (.iload_n 2, 1) := dw_28 wX9_livingJudges_c rfl
theorem dX9_livingJudges_18 : decode cX9_livingJudges 18 = .ok (.aaload, 1) := dw_50 wX9_livingJudges_c rfl
theorem dX9_livingJudges_19 : decode cX9_livingJudges 19 = .ok (.getfield 152, 3) := dw_180 wX9_livingJudges_c 0 152 rfl rfl
theorem dX9_livingJudges_22 : decode cX9_livingJudges 22 = .ok (.ifCond .eq 19, 3) := dw_153 wX9_livingJudges_c 0 19 rfl rfl rfl
theorem dX9_livingJudges_25 : decode cX9_livingJudges 25 = .ok (.aload_n 0, 1) := dw_42 wX9_livingJudges_c rfl
theorem dX9_livingJudges_26 : decode cX9_livingJudges 26 = .ok (.getfield 35, 3) := dw_180 wX9_livingJudges_c 0 35 rfl rfl
theorem dX9_livingJudges_29 : decode cX9_livingJudges 29 = .ok (.iload_n 2, 1) := dw_28 wX9_livingJudges_c rfl
theorem dX9_livingJudges_30 : decode cX9_livingJudges 30 = .ok (.aaload, 1) := dw_50 wX9_livingJudges_c rfl
theorem dX9_livingJudges_31 : decode cX9_livingJudges 31 = .ok (.getfield 148, 3) := dw_180 wX9_livingJudges_c 0 148 rfl rfl
theorem dX9_livingJudges_34 : decode cX9_livingJudges 34 = .ok (.ifCond .ne 7, 3) := dw_154 wX9_livingJudges_c 0 7 rfl rfl rfl
theorem dX9_livingJudges_37 : decode cX9_livingJudges 37 = .ok (.iconst 1, 1) := dw_4 wX9_livingJudges_c rfl
theorem dX9_livingJudges_38 : decode cX9_livingJudges 38 = .ok (.goto 4, 3) := dw_167 wX9_livingJudges_c 0 4 rfl rfl rfl
theorem dX9_livingJudges_41 : decode cX9_livingJudges 41 = .ok (.iconst 0, 1) := dw_3 wX9_livingJudges_c rfl
theorem dX9_livingJudges_42 : decode cX9_livingJudges 42 = .ok (.iadd, 1) := dw_96 wX9_livingJudges_c rfl
theorem dX9_livingJudges_43 : decode cX9_livingJudges 43 = .ok (.istore_n 1, 1) := dw_60 wX9_livingJudges_c rfl
theorem dX9_livingJudges_44 : decode cX9_livingJudges 44 = .ok (.iinc 2 1, 3) := dw_132 wX9_livingJudges_c 2 1 rfl rfl rfl
theorem dX9_livingJudges_47 : decode cX9_livingJudges 47 = .ok (.goto (-43), 3) := dn_167 wX9_livingJudges_c 255 213 rfl (by decide)
theorem dX9_livingJudges_50 : decode cX9_livingJudges 50 = .ok (.iload_n 1, 1) := dw_27 wX9_livingJudges_c rfl
theorem dX9_livingJudges_51 : decode cX9_livingJudges 51 = .ok (.ireturn, 1) := dw_172 wX9_livingJudges_c rfl
def wNX9_sumOfSplit : Nat := 201028993105077307028979116907778365146398622862028239460986702149411364568757936744867429198336326095346988309411855550472206093356536340831239240634919714900307032668060068178681341830962377604611
theorem wX9_sumOfSplit_c : hz_cd cX9_sumOfSplit wNX9_sumOfSplit 82 := ⟨by decide +kernel, by decide +kernel⟩
theorem dX9_sumOfSplit_0 : decode cX9_sumOfSplit 0 = .ok (.iconst 0, 1) := dw_3 wX9_sumOfSplit_c rfl
theorem dX9_sumOfSplit_1 : decode cX9_sumOfSplit 1 = .ok (.istore_n 3, 1) := dw_62 wX9_sumOfSplit_c rfl
theorem dX9_sumOfSplit_2 : decode cX9_sumOfSplit 2 = .ok (.iconst 0, 1) := dw_3 wX9_sumOfSplit_c rfl
theorem dX9_sumOfSplit_3 : decode cX9_sumOfSplit 3 = .ok (.istore 4, 2) := dw_54 wX9_sumOfSplit_c 4 rfl
theorem dX9_sumOfSplit_5 : decode cX9_sumOfSplit 5 = .ok (.iload 4, 2) := dw_21 wX9_sumOfSplit_c 4 rfl
theorem dX9_sumOfSplit_7 : decode cX9_sumOfSplit 7 = .ok (.aload_n 0, 1) := dw_42 wX9_sumOfSplit_c rfl
theorem dX9_sumOfSplit_8 : decode cX9_sumOfSplit 8 = .ok (.getfield 181, 3) := dw_180 wX9_sumOfSplit_c 0 181 rfl rfl
theorem dX9_sumOfSplit_11 : decode cX9_sumOfSplit 11 = .ok (.if_icmp .ge 69, 3) := dw_162 wX9_sumOfSplit_c 0 69 rfl rfl rfl
theorem dX9_sumOfSplit_14 : decode cX9_sumOfSplit 14 = .ok (.aload_n 0, 1) := dw_42 wX9_sumOfSplit_c rfl
theorem dX9_sumOfSplit_15 : decode cX9_sumOfSplit 15 = .ok (.getfield 48, 3) := dw_180 wX9_sumOfSplit_c 0 48 rfl rfl
theorem dX9_sumOfSplit_18 : decode cX9_sumOfSplit 18 = .ok (.iload 4, 2) := dw_21 wX9_sumOfSplit_c 4 rfl
theorem dX9_sumOfSplit_20 : decode cX9_sumOfSplit 20 = .ok (.aaload, 1) := dw_50 wX9_sumOfSplit_c rfl
theorem dX9_sumOfSplit_21 : decode cX9_sumOfSplit 21 = .ok (.astore 5, 2) := dw_58 wX9_sumOfSplit_c 5 rfl
theorem dX9_sumOfSplit_23 : decode cX9_sumOfSplit 23 = .ok (.aload 5, 2) := dw_25 wX9_sumOfSplit_c 5 rfl
theorem dX9_sumOfSplit_25 : decode cX9_sumOfSplit 25 = .ok (.getfield 223, 3) := dw_180 wX9_sumOfSplit_c 0 223 rfl rfl
theorem dX9_sumOfSplit_28 : decode cX9_sumOfSplit 28 = .ok (.aload_n 1, 1) := dw_43 wX9_sumOfSplit_c rfl
theorem dX9_sumOfSplit_29 : decode cX9_sumOfSplit 29 = .ok (.getfield 223, 3) := dw_180 wX9_sumOfSplit_c 0 223 rfl rfl
theorem dX9_sumOfSplit_32 : decode cX9_sumOfSplit 32 = .ok (.if_acmp .ne 42, 3) := dw_166 wX9_sumOfSplit_c 0 42 rfl rfl rfl
theorem dX9_sumOfSplit_35 : decode cX9_sumOfSplit 35 = .ok (.aload 5, 2) := dw_25 wX9_sumOfSplit_c 5 rfl
theorem dX9_sumOfSplit_37 : decode cX9_sumOfSplit 37 = .ok (.getfield 212, 3) := dw_180 wX9_sumOfSplit_c 0 212 rfl rfl
theorem dX9_sumOfSplit_40 : decode cX9_sumOfSplit 40 = .ok (.aload_n 1, 1) := dw_43 wX9_sumOfSplit_c rfl
theorem dX9_sumOfSplit_41 : decode cX9_sumOfSplit 41 = .ok (.getfield 212, 3) := dw_180 wX9_sumOfSplit_c 0 212 rfl rfl
theorem dX9_sumOfSplit_44 : decode cX9_sumOfSplit 44 = .ok (.if_acmp .ne 30, 3) := dw_166 wX9_sumOfSplit_c 0 30 rfl rfl rfl
theorem dX9_sumOfSplit_47 : decode cX9_sumOfSplit 47 = .ok (.aload 5, 2) := dw_25 wX9_sumOfSplit_c 5 rfl
theorem dX9_sumOfSplit_49 : decode cX9_sumOfSplit 49 = .ok (.getfield 193, 3) := dw_180 wX9_sumOfSplit_c 0 193 rfl rfl
theorem dX9_sumOfSplit_52 : decode cX9_sumOfSplit 52 = .ok (.aload_n 1, 1) := dw_43 wX9_sumOfSplit_c rfl
theorem dX9_sumOfSplit_53 : decode cX9_sumOfSplit 53 = .ok (.getfield 193, 3) := dw_180 wX9_sumOfSplit_c 0 193 rfl rfl
theorem dX9_sumOfSplit_56 : decode cX9_sumOfSplit 56 = .ok (.aload_n 2, 1) := dw_44 wX9_sumOfSplit_c rfl
theorem dX9_sumOfSplit_57 : decode cX9_sumOfSplit 57 = .ok (.getfield 119, 3) := dw_180 wX9_sumOfSplit_c 0 119 rfl rfl
theorem dX9_sumOfSplit_60 : decode cX9_sumOfSplit 60 = .ok (.iconst 2, 1) := dw_5 wX9_sumOfSplit_c rfl
theorem dX9_sumOfSplit_61 : decode cX9_sumOfSplit 61 = .ok (.iaload, 1) := dw_46 wX9_sumOfSplit_c rfl
theorem dX9_sumOfSplit_62 : decode cX9_sumOfSplit 62 = .ok (.isub, 1) := dw_100 wX9_sumOfSplit_c rfl
theorem dX9_sumOfSplit_63 : decode cX9_sumOfSplit 63 = .ok (.if_icmp .lt 11, 3) := dw_161 wX9_sumOfSplit_c 0 11 rfl rfl rfl
theorem dX9_sumOfSplit_66 : decode cX9_sumOfSplit 66 = .ok (.iload_n 3, 1) := dw_29 wX9_sumOfSplit_c rfl
theorem dX9_sumOfSplit_67 : decode cX9_sumOfSplit 67 = .ok (.aload 5, 2) := dw_25 wX9_sumOfSplit_c 5 rfl
theorem dX9_sumOfSplit_69 : decode cX9_sumOfSplit 69 = .ok (.getfield 187, 3) := dw_180 wX9_sumOfSplit_c 0 187 rfl rfl
theorem dX9_sumOfSplit_72 : decode cX9_sumOfSplit 72 = .ok (.iadd, 1) := dw_96 wX9_sumOfSplit_c rfl
theorem dX9_sumOfSplit_73 : decode cX9_sumOfSplit 73 = .ok (.istore_n 3, 1) := dw_62 wX9_sumOfSplit_c rfl
theorem dX9_sumOfSplit_74 : decode cX9_sumOfSplit 74 = .ok (.iinc 4 1, 3) := dw_132 wX9_sumOfSplit_c 4 1 rfl rfl rfl
theorem dX9_sumOfSplit_77 : decode cX9_sumOfSplit 77 = .ok (.goto (-72), 3) := dn_167 wX9_sumOfSplit_c 255 184 rfl (by decide)
theorem dX9_sumOfSplit_80 : decode cX9_sumOfSplit 80 = .ok (.iload_n 3, 1) := dw_29 wX9_sumOfSplit_c rfl
theorem dX9_sumOfSplit_81 : decode cX9_sumOfSplit 81 = .ok (.ireturn, 1) := dw_172 wX9_sumOfSplit_c rfl
def wNX9_openInstalments : Nat := 2307650564634152608827143583468312029874520384063943556603229127726087932440173511135178340680932262499060559431159169940587140577504696742319382890358717699
theorem wX9_openInstalments_c : hz_cd cX9_openInstalments wNX9_openInstalments 65 := ⟨by decide +kernel, by decide +kernel⟩
theorem dX9_openInstalments_0 : decode cX9_openInstalments 0 = .ok (.iconst 0, 1) := dw_3 wX9_openInstalments_c rfl
theorem dX9_openInstalments_1 : decode cX9_openInstalments 1 = .ok (.istore_n 2, 1) := dw_61 wX9_openInstalments_c rfl
theorem dX9_openInstalments_2 : decode cX9_openInstalments 2 = .ok (.iconst 0, 1) := dw_3 wX9_openInstalments_c rfl
theorem dX9_openInstalments_3 : decode cX9_openInstalments 3 = .ok (.istore_n 3, 1) := dw_62 wX9_openInstalments_c rfl
theorem dX9_openInstalments_4 : decode cX9_openInstalments 4 = .ok (.iload_n 3, 1) := dw_29 wX9_openInstalments_c rfl
theorem dX9_openInstalments_5 : decode cX9_openInstalments 5 = .ok (.aload_n 0, 1) := dw_42 wX9_openInstalments_c rfl
theorem dX9_openInstalments_6 : decode cX9_openInstalments 6 = .ok (.getfield 181, 3) := dw_180 wX9_openInstalments_c 0 181 rfl rfl
theorem dX9_openInstalments_9 : decode cX9_openInstalments 9 = .ok (.if_icmp .ge 54, 3) := dw_162 wX9_openInstalments_c 0 54 rfl rfl rfl
theorem dX9_openInstalments_12 : decode cX9_openInstalments 12 = .ok (.aload_n 0, 1) := dw_42 wX9_openInstalments_c rfl
theorem dX9_openInstalments_13 : decode cX9_openInstalments 13 = .ok (.getfield 48, 3) := dw_180 wX9_openInstalments_c 0 48 rfl rfl
theorem dX9_openInstalments_16 : decode cX9_openInstalments 16 = .ok (.iload_n 3, 1) := dw_29 wX9_openInstalments_c rfl
theorem dX9_openInstalments_17 : decode cX9_openInstalments 17 = .ok (.aaload, 1) := dw_50 wX9_openInstalments_c rfl
theorem dX9_openInstalments_18 : decode cX9_openInstalments 18 = .ok (.getfield 212, 3) := dw_180 wX9_openInstalments_c 0 212 rfl rfl
theorem dX9_openInstalments_21 : decode cX9_openInstalments 21 = .ok (.aload_n 1, 1) := dw_43 wX9_openInstalments_c rfl
theorem dX9_openInstalments_22 : decode cX9_openInstalments 22 = .ok (.if_acmp .ne 35, 3) := dw_166 wX9_openInstalments_c 0 35 rfl rfl rfl
theorem dX9_openInstalments_25 : decode cX9_openInstalments 25 = .ok (.aload_n 0, 1) := dw_42 wX9_openInstalments_c rfl
theorem dX9_openInstalments_26 : decode cX9_openInstalments 26 = .ok (.getfield 48, 3) := dw_180 wX9_openInstalments_c 0 48 rfl rfl
theorem dX9_openInstalments_29 : decode cX9_openInstalments 29 = .ok (.iload_n 3, 1) := dw_29 wX9_openInstalments_c rfl
theorem dX9_openInstalments_30 : decode cX9_openInstalments 30 = .ok (.aaload, 1) := dw_50 wX9_openInstalments_c rfl
theorem dX9_openInstalments_31 : decode cX9_openInstalments 31 = .ok (.aload_n 0, 1) := dw_42 wX9_openInstalments_c rfl
theorem dX9_openInstalments_32 : decode cX9_openInstalments 32 = .ok (.getfield 58, 3) := dw_180 wX9_openInstalments_c 0 58 rfl rfl
theorem dX9_openInstalments_35 : decode cX9_openInstalments 35 = .ok (.aload_n 0, 1) := dw_42 wX9_openInstalments_c rfl
theorem dX9_openInstalments_36 : decode cX9_openInstalments 36 = .ok (.getfield 94, 3) := dw_180 wX9_openInstalments_c 0 94 rfl rfl
theorem dX9_openInstalments_39 : decode cX9_openInstalments 39 = .ok (.invokevirtual 274, 3) := dw_182 wX9_openInstalments_c 1 18 rfl rfl
theorem dX9_openInstalments_42 : decode cX9_openInstalments 42 = .ok (.ifCond .eq 15, 3) := dw_153 wX9_openInstalments_c 0 15 rfl rfl rfl
theorem dX9_openInstalments_45 : decode cX9_openInstalments 45 = .ok (.iload_n 2, 1) := dw_28 wX9_openInstalments_c rfl
theorem dX9_openInstalments_46 : decode cX9_openInstalments 46 = .ok (.aload_n 0, 1) := dw_42 wX9_openInstalments_c rfl
theorem dX9_openInstalments_47 : decode cX9_openInstalments 47 = .ok (.getfield 48, 3) := dw_180 wX9_openInstalments_c 0 48 rfl rfl
theorem dX9_openInstalments_50 : decode cX9_openInstalments 50 = .ok (.iload_n 3, 1) := dw_29 wX9_openInstalments_c rfl
theorem dX9_openInstalments_51 : decode cX9_openInstalments 51 = .ok (.aaload, 1) := dw_50 wX9_openInstalments_c rfl
theorem dX9_openInstalments_52 : decode cX9_openInstalments 52 = .ok (.getfield 271, 3) := dw_180 wX9_openInstalments_c 1 15 rfl rfl
theorem dX9_openInstalments_55 : decode cX9_openInstalments 55 = .ok (.iadd, 1) := dw_96 wX9_openInstalments_c rfl
theorem dX9_openInstalments_56 : decode cX9_openInstalments 56 = .ok (.istore_n 2, 1) := dw_61 wX9_openInstalments_c rfl
theorem dX9_openInstalments_57 : decode cX9_openInstalments 57 = .ok (.iinc 3 1, 3) := dw_132 wX9_openInstalments_c 3 1 rfl rfl rfl
theorem dX9_openInstalments_60 : decode cX9_openInstalments 60 = .ok (.goto (-56), 3) := dn_167 wX9_openInstalments_c 255 200 rfl (by decide)
theorem dX9_openInstalments_63 : decode cX9_openInstalments 63 = .ok (.iload_n 2, 1) := dw_28 wX9_openInstalments_c rfl
theorem dX9_openInstalments_64 : decode cX9_openInstalments 64 = .ok (.ireturn, 1) := dw_172 wX9_openInstalments_c rfl