theorem dX10_isOpen_0 : decode cX10_isOpen 0 = .ok (.aload_n 0, 1) := by decide +kernel
theorem dX10_isOpen_1 : decode cX10_isOpen 1 = .ok (.iload_n 1, 1) := by decide +kernel
theorem dX10_isOpen_2 : decode cX10_isOpen 2 = .ok (.aload_n 0, 1) := by decide +kernel
theorem dX10_isOpen_3 : decode cX10_isOpen 3 = .ok (.getfield 232, 3) := by decide +kernel
theorem dX10_isOpen_6 : decode cX10_isOpen 6 = .ok (.aload_n 0, 1) := by decide +kernel
theorem dX10_isOpen_7 : decode cX10_isOpen 7 = .ok (.getfield 232, 3) := by decide +kernel
theorem dX10_isOpen_10 : decode cX10_isOpen 10 = .ok (.invokevirtual 416, 3) := by decide +kernel
theorem dX10_isOpen_13 : decode cX10_isOpen 13 = .ok (.aload_n 0, 1) := by decide +kernel
theorem dX10_isOpen_14 : decode cX10_isOpen 14 = .ok (.getfield 410, 3) := by decide +kernel
theorem dX10_isOpen_17 : decode cX10_isOpen 17 = .ok (.iconst 4, 1) := by decide +kernel
theorem dX10_isOpen_18 : decode cX10_isOpen 18 = .ok (.bipush 6, 2) := by decide +kernel
theorem dX10_isOpen_20 : decode cX10_isOpen 20 = .ok (.invokestatic 228, 3) := by decide +kernel
theorem dX10_isOpen_23 : decode cX10_isOpen 23 = .ok (.ireturn, 1) := by decide +kernel
theorem dX10_means_0 : decode cX10_means 0 = .ok (.aload_n 0, 1) := by decide +kernel
theorem dX10_means_1 : decode cX10_means 1 = .ok (.getfield 41, 3) := by decide +kernel
theorem dX10_means_4 : decode cX10_means 4 = .ok (.iload_n 1, 1) := by decide +kernel
theorem dX10_means_5 : decode cX10_means 5 = .ok (.iaload, 1) := by decide +kernel
theorem dX10_means_6 : decode cX10_means 6 = .ok (.aload_n 0, 1) := by decide +kernel
theorem dX10_means_7 : decode cX10_means 7 = .ok (.iload_n 2, 1) := by decide +kernel
theorem dX10_means_8 : decode cX10_means 8 = .ok (.iconst 3, 1) := by decide +kernel
theorem dX10_means_9 : decode cX10_means 9 = .ok (.invokevirtual 333, 3) := by decide +kernel
theorem dX10_means_12 : decode cX10_means 12 = .ok (.aload_n 0, 1) := by decide +kernel
theorem dX10_means_13 : decode cX10_means 13 = .ok (.getfield 44, 3) := by decide +kernel
theorem dX10_means_16 : decode cX10_means 16 = .ok (.iload_n 1, 1) := by decide +kernel
theorem dX10_means_17 : decode cX10_means 17 = .ok (.iaload, 1) := by decide +kernel
theorem dX10_means_18 : decode cX10_means 18 = .ok (.imul, 1) := by decide +kernel
theorem dX10_means_19 : decode cX10_means 19 = .ok (.isub, 1) := by decide +kernel
theorem dX10_means_20 : decode cX10_means 20 = .ok (.ireturn, 1) := by decide +kernel
def wNX10_pays : Nat := 2541390651577569110128755561290899445204270236065964451109779997859376976419097543669548465266966891150803909208809919129328804665745761440031810096635923580624906007594
theorem wX10_pays_c : hz_cd cX10_pays wNX10_pays 70 := ⟨by decide +kernel, by decide +kernel⟩
theorem dX10_pays_0 : decode cX10_pays 0 = .ok (.aload_n 0, 1) := dw_42 wX10_pays_c rfl
theorem dX10_pays_1 : decode cX10_pays 1 = .ok (.getfield 144, 3) := dw_180 wX10_pays_c 0 144 rfl rfl
theorem dX10_pays_4 : decode cX10_pays 4 = .ok (.aload_n 0, 1) := dw_42 wX10_pays_c rfl
theorem dX10_pays_5 : decode cX10_pays 5 = .ok (.getfield 413, 3) := dw_180 wX10_pays_c 1 157 rfl rfl
theorem dX10_pays_8 : decode cX10_pays 8 = .ok (.iload_n 1, 1) := dw_27 wX10_pays_c rfl
theorem dX10_pays_9 : decode cX10_pays 9 = .ok (.iastore, 1) := dw_79 wX10_pays_c rfl
theorem dX10_pays_10 : decode cX10_pays 10 = .ok (.aload_n 0, 1) := dw_42 wX10_pays_c rfl
theorem dX10_pays_11 : decode cX10_pays 11 = .ok (.getfield 147, 3) := dw_180 wX10_pays_c 0 147 rfl rfl
theorem dX10_pays_14 : decode cX10_pays 14 = .ok (.aload_n 0, 1) := dw_42 wX10_pays_c rfl
theorem dX10_pays_15 : decode cX10_pays 15 = .ok (.getfield 413, 3) := dw_180 wX10_pays_c 1 157 rfl rfl
theorem dX10_pays_18 : decode cX10_pays 18 = .ok (.iload_n 2, 1) := dw_28 wX10_pays_c rfl
theorem dX10_pays_19 : decode cX10_pays 19 = .ok (.iastore, 1) := dw_79 wX10_pays_c rfl
theorem dX10_pays_20 : decode cX10_pays 20 = .ok (.aload_n 0, 1) := dw_42 wX10_pays_c rfl
theorem dX10_pays_21 : decode cX10_pays 21 = .ok (.getfield 150, 3) := dw_180 wX10_pays_c 0 150 rfl rfl
theorem dX10_pays_24 : decode cX10_pays 24 = .ok (.aload_n 0, 1) := dw_42 wX10_pays_c rfl
theorem dX10_pays_25 : decode cX10_pays 25 = .ok (.getfield 413, 3) := dw_180 wX10_pays_c 1 157 rfl rfl
theorem dX10_pays_28 : decode cX10_pays 28 = .ok (.iload_n 3, 1) := dw_29 wX10_pays_c rfl
theorem dX10_pays_29 : decode cX10_pays 29 = .ok (.iastore, 1) := dw_79 wX10_pays_c rfl
theorem dX10_pays_30 : decode cX10_pays 30 = .ok (.aload_n 0, 1) := dw_42 wX10_pays_c rfl
theorem dX10_pays_31 : decode cX10_pays 31 = .ok (.getfield 153, 3) := dw_180 wX10_pays_c 0 153 rfl rfl
theorem dX10_pays_34 : decode cX10_pays 34 = .ok (.aload_n 0, 1) := dw_42 wX10_pays_c rfl
theorem dX10_pays_35 : decode cX10_pays 35 = .ok (.getfield 413, 3) := dw_180 wX10_pays_c 1 157 rfl rfl
theorem dX10_pays_38 : decode cX10_pays 38 = .ok (.aload_n 0, 1) := dw_42 wX10_pays_c rfl
theorem dX10_pays_39 : decode cX10_pays 39 = .ok (.getfield 232, 3) := dw_180 wX10_pays_c 0 232 rfl rfl
theorem dX10_pays_42 : decode cX10_pays 42 = .ok (.iastore, 1) := dw_79 wX10_pays_c rfl
theorem dX10_pays_43 : decode cX10_pays 43 = .ok (.aload_n 0, 1) := dw_42 wX10_pays_c rfl
theorem dX10_pays_44 : decode cX10_pays 44 = .ok (.getfield 156, 3) := dw_180 wX10_pays_c 0 156 rfl rfl
theorem dX10_pays_47 : decode cX10_pays 47 = .ok (.aload_n 0, 1) := dw_42 wX10_pays_c rfl
theorem dX10_pays_48 : decode cX10_pays 48 = .ok (.getfield 413, 3) := dw_180 wX10_pays_c 1 157 rfl rfl
theorem dX10_pays_51 : decode cX10_pays 51 = .ok (.iconst (-1), 1) := dw_2 wX10_pays_c rfl
theorem dX10_pays_52 : decode cX10_pays 52 = .ok (.iastore, 1) := dw_79 wX10_pays_c rfl
theorem dX10_pays_53 : decode cX10_pays 53 = .ok (.aload_n 0, 1) := dw_42 wX10_pays_c rfl
theorem dX10_pays_54 : decode cX10_pays 54 = .ok (.dup, 1) := dw_89 wX10_pays_c rfl
theorem dX10_pays_55 : decode cX10_pays 55 = .ok (.getfield 413, 3) := dw_180 wX10_pays_c 1 157 rfl rfl
theorem dX10_pays_58 : decode cX10_pays 58 = .ok (.iconst 1, 1) := dw_4 wX10_pays_c rfl
theorem dX10_pays_59 : decode cX10_pays 59 = .ok (.iadd, 1) := dw_96 wX10_pays_c rfl
theorem dX10_pays_60 : decode cX10_pays 60 = .ok (.putfield 413, 3) := dw_181 wX10_pays_c 1 157 rfl rfl
theorem dX10_pays_63 : decode cX10_pays 63 = .ok (.aload_n 0, 1) := dw_42 wX10_pays_c rfl
theorem dX10_pays_64 : decode cX10_pays 64 = .ok (.getfield 413, 3) := dw_180 wX10_pays_c 1 157 rfl rfl
theorem dX10_pays_67 : decode cX10_pays 67 = .ok (.iconst 1, 1) := dw_4 wX10_pays_c rfl
theorem dX10_pays_68 : decode cX10_pays 68 = .ok (.isub, 1) := dw_100 wX10_pays_c rfl
theorem dX10_pays_69 : decode cX10_pays 69 = .ok (.ireturn, 1) := dw_172 wX10_pays_c rfl
def wNX10_pay : Nat := 716456114843639695573866136000393640549524919340088782223619657710382673473172946206999597414525423472627137525467836318343802646769120336435752683494113867548783688578412072864429098
theorem wX10_pay_c : hz_cd cX10_pay wNX10_pay 76 := ⟨by decide +kernel, by decide +kernel⟩
theorem dX10_pay_0 : decode cX10_pay 0 = .ok (.aload_n 0, 1) := dw_42 wX10_pay_c rfl
theorem dX10_pay_1 : decode cX10_pay 1 = .ok (.getfield 413, 3) := dw_180 wX10_pay_c 1 157 rfl rfl
theorem dX10_pay_4 : decode cX10_pay 4 = .ok (.sipush 600, 3) := dw_17 wX10_pay_c 2 88 rfl rfl rfl
theorem dX10_pay_7 : decode cX10_pay 7 = .ok (.if_icmp .eq 59, 3) := dw_159 wX10_pay_c 0 59 rfl rfl rfl
theorem dX10_pay_10 : decode cX10_pay 10 = .ok (.aload_n 0, 1) := dw_42 wX10_pay_c rfl
theorem dX10_pay_11 : decode cX10_pay 11 = .ok (.iload_n 1, 1) := dw_27 wX10_pay_c rfl
theorem dX10_pay_12 : decode cX10_pay 12 = .ok (.invokevirtual 370, 3) := dw_182 wX10_pay_c 1 114 rfl rfl
theorem dX10_pay_15 : decode cX10_pay 15 = .ok (.ifCond .eq 51, 3) := dw_153 wX10_pay_c 0 51 rfl rfl rfl
theorem dX10_pay_18 : decode cX10_pay 18 = .ok (.aload_n 0, 1) := dw_42 wX10_pay_c rfl
theorem dX10_pay_19 : decode cX10_pay 19 = .ok (.getfield 114, 3) := dw_180 wX10_pay_c 0 114 rfl rfl
theorem dX10_pay_22 : decode cX10_pay 22 = .ok (.iload_n 1, 1) := dw_27 wX10_pay_c rfl
theorem dX10_pay_23 : decode cX10_pay 23 = .ok (.iaload, 1) := dw_46 wX10_pay_c rfl
theorem dX10_pay_24 : decode cX10_pay 24 = .ok (.iconst (-1), 1) := dw_2 wX10_pay_c rfl
theorem dX10_pay_25 : decode cX10_pay 25 = .ok (.if_icmp .eq 41, 3) := dw_159 wX10_pay_c 0 41 rfl rfl rfl
theorem dX10_pay_28 : decode cX10_pay 28 = .ok (.aload_n 0, 1) := dw_42 wX10_pay_c rfl
theorem dX10_pay_29 : decode cX10_pay 29 = .ok (.getfield 120, 3) := dw_180 wX10_pay_c 0 120 rfl rfl
theorem dX10_pay_32 : decode cX10_pay 32 = .ok (.iload_n 1, 1) := dw_27 wX10_pay_c rfl
theorem dX10_pay_33 : decode cX10_pay 33 = .ok (.iaload, 1) := dw_46 wX10_pay_c rfl
theorem dX10_pay_34 : decode cX10_pay 34 = .ok (.iconst (-1), 1) := dw_2 wX10_pay_c rfl
theorem dX10_pay_35 : decode cX10_pay 35 = .ok (.if_icmp .ne 31, 3) := dw_160 wX10_pay_c 0 31 rfl rfl rfl
theorem dX10_pay_38 : decode cX10_pay 38 = .ok (.iload_n 2, 1) := dw_28 wX10_pay_c rfl
theorem dX10_pay_39 : decode cX10_pay 39 = .ok (.aload_n 0, 1) := dw_42 wX10_pay_c rfl
theorem dX10_pay_40 : decode cX10_pay 40 = .ok (.getfield 114, 3) := dw_180 wX10_pay_c 0 114 rfl rfl
theorem dX10_pay_43 : decode cX10_pay 43 = .ok (.iload_n 1, 1) := dw_27 wX10_pay_c rfl
theorem dX10_pay_44 : decode cX10_pay 44 = .ok (.iaload, 1) := dw_46 wX10_pay_c rfl
theorem dX10_pay_45 : decode cX10_pay 45 = .ok (.aload_n 0, 1) := dw_42 wX10_pay_c rfl
theorem dX10_pay_46 : decode cX10_pay 46 = .ok (.getfield 232, 3) := dw_180 wX10_pay_c 0 232 rfl rfl
theorem dX10_pay_49 : decode cX10_pay 49 = .ok (.invokestatic 228, 3) := dw_184 wX10_pay_c 0 228 rfl rfl
theorem dX10_pay_52 : decode cX10_pay 52 = .ok (.ifCond .eq 14, 3) := dw_153 wX10_pay_c 0 14 rfl rfl rfl
theorem dX10_pay_55 : decode cX10_pay 55 = .ok (.iload_n 3, 1) := dw_29 wX10_pay_c rfl
theorem dX10_pay_56 : decode cX10_pay 56 = .ok (.iconst 1, 1) := dw_4 wX10_pay_c rfl
theorem dX10_pay_57 : decode cX10_pay 57 = .ok (.sipush 9999, 3) := dw_17 wX10_pay_c 39 15 rfl rfl rfl
theorem dX10_pay_60 : decode cX10_pay 60 = .ok (.invokestatic 228, 3) := dw_184 wX10_pay_c 0 228 rfl rfl
theorem dX10_pay_63 : decode cX10_pay 63 = .ok (.ifCond .ne 5, 3) := dw_154 wX10_pay_c 0 5 rfl rfl rfl
theorem dX10_pay_66 : decode cX10_pay 66 = .ok (.iconst (-1), 1) := dw_2 wX10_pay_c rfl
theorem dX10_pay_67 : decode cX10_pay 67 = .ok (.ireturn, 1) := dw_172 wX10_pay_c rfl
theorem dX10_pay_68 : decode cX10_pay 68 = .ok (.aload_n 0, 1) := dw_42 wX10_pay_c rfl
theorem dX10_pay_69 : decode cX10_pay 69 = .ok (.iload_n 1, 1) := dw_27 wX10_pay_c rfl
theorem dX10_pay_70 : decode cX10_pay 70 = .ok (.iload_n 2, 1) := dw_28 wX10_pay_c rfl
theorem dX10_pay_71 : decode cX10_pay 71 = .ok (.iload_n 3, 1) := dw_29 wX10_pay_c rfl
theorem dX10_pay_72 : decode cX10_pay 72 = .ok (.invokevirtual 425, 3) := dw_182 wX10_pay_c 1 169 rfl rfl
theorem dX10_pay_75 : decode cX10_pay 75 = .ok (.ireturn, 1) := dw_172 wX10_pay_c rfl
def wNX10_strike : Nat := 21900281269948395608101905402893364427719624170638227969481792064797187632507280969316303643
theorem wX10_strike_c : hz_cd cX10_strike wNX10_strike 38 := ⟨by decide +kernel, by decide +kernel⟩
theorem dX10_strike_0 : decode cX10_strike 0 = .ok (.iload_n 1, 1) := dw_27 wX10_strike_c rfl
theorem dX10_strike_1 : decode cX10_strike 1 = .ok (.iconst 0, 1) := dw_3 wX10_strike_c rfl
theorem dX10_strike_2 : decode cX10_strike 2 = .ok (.aload_n 0, 1) := dw_42 wX10_strike_c rfl
theorem dX10_strike_3 : decode cX10_strike 3 = .ok (.getfield 413, 3) := dw_180 wX10_strike_c 1 157 rfl rfl
theorem dX10_strike_6 : decode cX10_strike 6 = .ok (.iconst 1, 1) := dw_4 wX10_strike_c rfl
theorem dX10_strike_7 : decode cX10_strike 7 = .ok (.isub, 1) := dw_100 wX10_strike_c rfl
theorem dX10_strike_8 : decode cX10_strike 8 = .ok (.invokestatic 228, 3) := dw_184 wX10_strike_c 0 228 rfl rfl
theorem dX10_strike_11 : decode cX10_strike 11 = .ok (.ifCond .eq 13, 3) := dw_153 wX10_strike_c 0 13 rfl rfl rfl
theorem dX10_strike_14 : decode cX10_strike 14 = .ok (.aload_n 0, 1) := dw_42 wX10_strike_c rfl
theorem dX10_strike_15 : decode cX10_strike 15 = .ok (.getfield 156, 3) := dw_180 wX10_strike_c 0 156 rfl rfl
theorem dX10_strike_18 : decode cX10_strike 18 = .ok (.iload_n 1, 1) := dw_27 wX10_strike_c rfl
theorem dX10_strike_19 : decode cX10_strike 19 = .ok (.iaload, 1) := dw_46 wX10_strike_c rfl
theorem dX10_strike_20 : decode cX10_strike 20 = .ok (.iconst (-1), 1) := dw_2 wX10_strike_c rfl
theorem dX10_strike_21 : decode cX10_strike 21 = .ok (.if_icmp .eq 5, 3) := dw_159 wX10_strike_c 0 5 rfl rfl rfl
theorem dX10_strike_24 : decode cX10_strike 24 = .ok (.iconst 0, 1) := dw_3 wX10_strike_c rfl
theorem dX10_strike_25 : decode cX10_strike 25 = .ok (.ireturn, 1) := dw_172 wX10_strike_c rfl
theorem dX10_strike_26 : decode cX10_strike 26 = .ok (.aload_n 0, 1) := dw_42 wX10_strike_c rfl
theorem dX10_strike_27 : decode cX10_strike 27 = .ok (.getfield 156, 3) := dw_180 wX10_strike_c 0 156 rfl rfl
theorem dX10_strike_30 : decode cX10_strike 30 = .ok (.iload_n 1, 1) := dw_27 wX10_strike_c rfl
theorem dX10_strike_31 : decode cX10_strike 31 = .ok (.aload_n 0, 1) := dw_42 wX10_strike_c rfl
theorem dX10_strike_32 : decode cX10_strike 32 = .ok (.getfield 232, 3) := dw_180 wX10_strike_c 0 232 rfl rfl
theorem dX10_strike_35 : decode cX10_strike 35 = .ok (.iastore, 1) := dw_79 wX10_strike_c rfl
theorem dX10_strike_36 : decode cX10_strike 36 = .ok (.iconst 1, 1) := dw_4 wX10_strike_c rfl
theorem dX10_strike_37 : decode cX10_strike 37 = .ok (.ireturn, 1) := dw_172 wX10_strike_c rfl
def wNX10_seize : Nat := 91165902413900209095235369524404514921179015852645606079823548023686299831739476623118017509602805891393248503310239097671640047545218444689501052637704914066192046259916876468276393637918969872447382997362639795740226428716943512700417189957833875724262917284564783471402
theorem wX10_seize_c : hz_cd cX10_seize wNX10_seize 113 := ⟨by decide +kernel, by decide +kernel⟩
theorem dX10_seize_0 : decode cX10_seize 0 = .ok (.aload_n 0, 1) := dw_42 wX10_seize_c rfl
theorem dX10_seize_1 : decode cX10_seize 1 = .ok (.iload_n 1, 1) := dw_27 wX10_seize_c rfl
theorem dX10_seize_2 : decode cX10_seize 2 = .ok (.invokevirtual 370, 3) := dw_182 wX10_seize_c 1 114 rfl rfl
theorem dX10_seize_5 : decode cX10_seize 5 = .ok (.ifCond .eq 24, 3) := dw_153 wX10_seize_c 0 24 rfl rfl rfl
theorem dX10_seize_8 : decode cX10_seize 8 = .ok (.aload_n 0, 1) := dw_42 wX10_seize_c rfl
theorem dX10_seize_9 : decode cX10_seize 9 = .ok (.getfield 117, 3) := dw_180 wX10_seize_c 0 117 rfl rfl
theorem dX10_seize_12 : decode cX10_seize 12 = .ok (.iload_n 1, 1) := dw_27 wX10_seize_c rfl
theorem dX10_seize_13 : decode cX10_seize 13 = .ok (.iaload, 1) := dw_46 wX10_seize_c rfl
theorem dX10_seize_14 : decode cX10_seize 14 = .ok (.iconst (-1), 1) := dw_2 wX10_seize_c rfl
theorem dX10_seize_15 : decode cX10_seize 15 = .ok (.if_icmp .ne 14, 3) := dw_160 wX10_seize_c 0 14 rfl rfl rfl
theorem dX10_seize_18 : decode cX10_seize 18 = .ok (.iload_n 2, 1) := dw_28 wX10_seize_c rfl
theorem dX10_seize_19 : decode cX10_seize 19 = .ok (.iconst 1, 1) := dw_4 wX10_seize_c rfl
theorem dX10_seize_20 : decode cX10_seize 20 = .ok (.sipush 9999, 3) := dw_17 wX10_seize_c 39 15 rfl rfl rfl
theorem dX10_seize_23 : decode cX10_seize 23 = .ok (.invokestatic 228, 3) := dw_184 wX10_seize_c 0 228 rfl rfl
theorem dX10_seize_26 : decode cX10_seize 26 = .ok (.ifCond .ne 7, 3) := dw_154 wX10_seize_c 0 7 rfl rfl rfl
theorem dX10_seize_29 : decode cX10_seize 29 = .ok (.ldc_w 357, 3) := dw_19 wX10_seize_c 1 101 rfl rfl
theorem dX10_seize_32 : decode cX10_seize 32 = .ok (.ireturn, 1) := dw_172 wX10_seize_c rfl
theorem dX10_seize_33 : decode cX10_seize 33 = .ok (.aload_n 0, 1) := dw_42 wX10_seize_c rfl
theorem dX10_seize_34 : decode cX10_seize 34 = .ok (.iload_n 1, 1) := dw_27 wX10_seize_c rfl
theorem dX10_seize_35 : decode cX10_seize 35 = .ok (.aload_n 0, 1) := dw_42 wX10_seize_c rfl
theorem dX10_seize_36 : decode cX10_seize 36 = .ok (.getfield 232, 3) := dw_180 wX10_seize_c 0 232 rfl rfl
theorem dX10_seize_39 : decode cX10_seize 39 = .ok (.aload_n 0, 1) := dw_42 wX10_seize_c rfl
theorem dX10_seize_40 : decode cX10_seize 40 = .ok (.getfield 232, 3) := dw_180 wX10_seize_c 0 232 rfl rfl
theorem dX10_seize_43 : decode cX10_seize 43 = .ok (.invokevirtual 416, 3) := dw_182 wX10_seize_c 1 160 rfl rfl
theorem dX10_seize_46 : decode cX10_seize 46 = .ok (.aload_n 0, 1) := dw_42 wX10_seize_c rfl
theorem dX10_seize_47 : decode cX10_seize 47 = .ok (.getfield 410, 3) := dw_180 wX10_seize_c 1 154 rfl rfl
theorem dX10_seize_50 : decode cX10_seize 50 = .ok (.iconst 5, 1) := dw_8 wX10_seize_c rfl
theorem dX10_seize_51 : decode cX10_seize 51 = .ok (.bipush 6, 2) := dw_16 wX10_seize_c 6 rfl rfl rfl
theorem dX10_seize_53 : decode cX10_seize 53 = .ok (.invokestatic 228, 3) := dw_184 wX10_seize_c 0 228 rfl rfl
theorem dX10_seize_56 : decode cX10_seize 56 = .ok (.ifCond .ne 7, 3) := dw_154 wX10_seize_c 0 7 rfl rfl rfl
theorem dX10_seize_59 : decode cX10_seize 59 = .ok (.ldc_w 357, 3) := dw_19 wX10_seize_c 1 101 rfl rfl
theorem dX10_seize_62 : decode cX10_seize 62 = .ok (.ireturn, 1) := dw_172 wX10_seize_c rfl
theorem dX10_seize_63 : decode cX10_seize 63 = .ok (.aload_n 0, 1) := dw_42 wX10_seize_c rfl
theorem dX10_seize_64 : decode cX10_seize 64 = .ok (.getfield 117, 3) := dw_180 wX10_seize_c 0 117 rfl rfl
theorem dX10_seize_67 : decode cX10_seize 67 = .ok (.iload_n 1, 1) := dw_27 wX10_seize_c rfl
theorem dX10_seize_68 : decode cX10_seize 68 = .ok (.aload_n 0, 1) := dw_42 wX10_seize_c rfl
theorem dX10_seize_69 : decode cX10_seize 69 = .ok (.getfield 232, 3) := dw_180 wX10_seize_c 0 232 rfl rfl
theorem dX10_seize_72 : decode cX10_seize 72 = .ok (.iastore, 1) := dw_79 wX10_seize_c rfl
theorem dX10_seize_73 : decode cX10_seize 73 = .ok (.aload_n 0, 1) := dw_42 wX10_seize_c rfl
theorem dX10_seize_74 : decode cX10_seize 74 = .ok (.getfield 138, 3) := dw_180 wX10_seize_c 0 138 rfl rfl
theorem dX10_seize_77 : decode cX10_seize 77 = .ok (.iload_n 1, 1) := dw_27 wX10_seize_c rfl
theorem dX10_seize_78 : decode cX10_seize 78 = .ok (.iload_n 2, 1) := dw_28 wX10_seize_c rfl
theorem dX10_seize_79 : decode cX10_seize 79 = .ok (.iastore, 1) := dw_79 wX10_seize_c rfl
theorem dX10_seize_80 : decode cX10_seize 80 = .ok (.aload_n 0, 1) := dw_42 wX10_seize_c rfl
theorem dX10_seize_81 : decode cX10_seize 81 = .ok (.iload_n 1, 1) := dw_27 wX10_seize_c rfl
theorem dX10_seize_82 : decode cX10_seize 82 = .ok (.aload_n 0, 1) := dw_42 wX10_seize_c rfl
theorem dX10_seize_83 : decode cX10_seize 83 = .ok (.getfield 232, 3) := dw_180 wX10_seize_c 0 232 rfl rfl
theorem dX10_seize_86 : decode cX10_seize 86 = .ok (.aload_n 0, 1) := dw_42 wX10_seize_c rfl
theorem dX10_seize_87 : decode cX10_seize 87 = .ok (.getfield 232, 3) := dw_180 wX10_seize_c 0 232 rfl rfl
theorem dX10_seize_90 : decode cX10_seize 90 = .ok (.invokevirtual 416, 3) := dw_182 wX10_seize_c 1 160 rfl rfl
theorem dX10_seize_93 : decode cX10_seize 93 = .ok (.aload_n 0, 1) := dw_42 wX10_seize_c rfl
theorem dX10_seize_94 : decode cX10_seize 94 = .ok (.getfield 404, 3) := dw_180 wX10_seize_c 1 148 rfl rfl
theorem dX10_seize_97 : decode cX10_seize 97 = .ok (.ifCond .le 11, 3) := dw_158 wX10_seize_c 0 11 rfl rfl rfl
theorem dX10_seize_100 : decode cX10_seize 100 = .ok (.aload_n 0, 1) := dw_42 wX10_seize_c rfl
theorem dX10_seize_101 : decode cX10_seize 101 = .ok (.getfield 404, 3) := dw_180 wX10_seize_c 1 148 rfl rfl
theorem dX10_seize_104 : decode cX10_seize 104 = .ok (.ineg, 1) := dw_116 wX10_seize_c rfl
theorem dX10_seize_105 : decode cX10_seize 105 = .ok (.goto 7, 3) := dw_167 wX10_seize_c 0 7 rfl rfl rfl
theorem dX10_seize_108 : decode cX10_seize 108 = .ok (.aload_n 0, 1) := dw_42 wX10_seize_c rfl
theorem dX10_seize_109 : decode cX10_seize 109 = .ok (.getfield 401, 3) := dw_180 wX10_seize_c 1 145 rfl rfl
theorem dX10_seize_112 : decode cX10_seize 112 = .ok (.ireturn, 1) := dw_172 wX10_seize_c rfl
def wNX10_gaol : Nat := 7211788988662231656296204188773265768333092318120954538542552761914956820563507046892377832798296347132106704697602887833624954403236655078434397275081495936693637994267693188816793763472217467748554848501654657395767187375571774146273872319459972774314038747998155579992459903757047844433649322040106
theorem wX10_gaol_c : hz_cd cX10_gaol wNX10_gaol 125 := ⟨by decide +kernel, by decide +kernel⟩
theorem dX10_gaol_0 : decode cX10_gaol 0 = .ok (.aload_n 0, 1) := dw_42 wX10_gaol_c rfl
theorem dX10_gaol_1 : decode cX10_gaol 1 = .ok (.iload_n 1, 1) := dw_27 wX10_gaol_c rfl
theorem dX10_gaol_2 : decode cX10_gaol 2 = .ok (.invokevirtual 370, 3) := dw_182 wX10_gaol_c 1 114 rfl rfl
theorem dX10_gaol_5 : decode cX10_gaol 5 = .ok (.ifCond .eq 27, 3) := dw_153 wX10_gaol_c 0 27 rfl rfl rfl
theorem dX10_gaol_8 : decode cX10_gaol 8 = .ok (.aload_n 0, 1) := dw_42 wX10_gaol_c rfl
theorem dX10_gaol_9 : decode cX10_gaol 9 = .ok (.getfield 117, 3) := dw_180 wX10_gaol_c 0 117 rfl rfl
theorem dX10_gaol_12 : decode cX10_gaol 12 = .ok (.iload_n 1, 1) := dw_27 wX10_gaol_c rfl
theorem dX10_gaol_13 : decode cX10_gaol 13 = .ok (.iaload, 1) := dw_46 wX10_gaol_c rfl
theorem dX10_gaol_14 : decode cX10_gaol 14 = .ok (.iconst (-1), 1) := dw_2 wX10_gaol_c rfl
theorem dX10_gaol_15 : decode cX10_gaol 15 = .ok (.if_icmp .eq 17, 3) := dw_159 wX10_gaol_c 0 17 rfl rfl rfl
theorem dX10_gaol_18 : decode cX10_gaol 18 = .ok (.aload_n 0, 1) := dw_42 wX10_gaol_c rfl
theorem dX10_gaol_19 : decode cX10_gaol 19 = .ok (.getfield 56, 3) := dw_180 wX10_gaol_c 0 56 rfl rfl
theorem dX10_gaol_22 : decode cX10_gaol 22 = .ok (.aload_n 0, 1) := dw_42 wX10_gaol_c rfl
theorem dX10_gaol_23 : decode cX10_gaol 23 = .ok (.getfield 84, 3) := dw_180 wX10_gaol_c 0 84 rfl rfl
theorem dX10_gaol_26 : decode cX10_gaol 26 = .ok (.iload_n 1, 1) := dw_27 wX10_gaol_c rfl
theorem dX10_gaol_27 : decode cX10_gaol 27 = .ok (.iaload, 1) := dw_46 wX10_gaol_c rfl
theorem dX10_gaol_28 : decode cX10_gaol 28 = .ok (.baload, 1) := dw_51 wX10_gaol_c rfl
theorem dX10_gaol_29 : decode cX10_gaol 29 = .ok (.ifCond .eq 5, 3) := dw_153 wX10_gaol_c 0 5 rfl rfl rfl
theorem dX10_gaol_32 : decode cX10_gaol 32 = .ok (.iconst (-1), 1) := dw_2 wX10_gaol_c rfl
theorem dX10_gaol_33 : decode cX10_gaol 33 = .ok (.ireturn, 1) := dw_172 wX10_gaol_c rfl
theorem dX10_gaol_34 : decode cX10_gaol 34 = .ok (.aload_n 0, 1) := dw_42 wX10_gaol_c rfl
theorem dX10_gaol_35 : decode cX10_gaol 35 = .ok (.iload_n 1, 1) := dw_27 wX10_gaol_c rfl
theorem dX10_gaol_36 : decode cX10_gaol 36 = .ok (.aload_n 0, 1) := dw_42 wX10_gaol_c rfl
theorem dX10_gaol_37 : decode cX10_gaol 37 = .ok (.getfield 232, 3) := dw_180 wX10_gaol_c 0 232 rfl rfl
theorem dX10_gaol_40 : decode cX10_gaol 40 = .ok (.aload_n 0, 1) := dw_42 wX10_gaol_c rfl
theorem dX10_gaol_41 : decode cX10_gaol 41 = .ok (.getfield 232, 3) := dw_180 wX10_gaol_c 0 232 rfl rfl
theorem dX10_gaol_44 : decode cX10_gaol 44 = .ok (.invokevirtual 416, 3) := dw_182 wX10_gaol_c 1 160 rfl rfl
theorem dX10_gaol_47 : decode cX10_gaol 47 = .ok (.aload_n 0, 1) := dw_42 wX10_gaol_c rfl
theorem dX10_gaol_48 : decode cX10_gaol 48 = .ok (.getfield 410, 3) := dw_180 wX10_gaol_c 1 154 rfl rfl
theorem dX10_gaol_51 : decode cX10_gaol 51 = .ok (.bipush 6, 2) := dw_16 wX10_gaol_c 6 rfl rfl rfl
theorem dX10_gaol_53 : decode cX10_gaol 53 = .ok (.if_icmp .eq 5, 3) := dw_159 wX10_gaol_c 0 5 rfl rfl rfl
theorem dX10_gaol_56 : decode cX10_gaol 56 = .ok (.iconst (-1), 1) := dw_2 wX10_gaol_c rfl
theorem dX10_gaol_57 : decode cX10_gaol 57 = .ok (.ireturn, 1) := dw_172 wX10_gaol_c rfl
theorem dX10_gaol_58 : decode cX10_gaol 58 = .ok (.aload_n 0, 1) := dw_42 wX10_gaol_c rfl
theorem dX10_gaol_59 : decode cX10_gaol 59 = .ok (.getfield 401, 3) := dw_180 wX10_gaol_c 1 145 rfl rfl
theorem dX10_gaol_62 : decode cX10_gaol 62 = .ok (.bipush 11, 2) := dw_16 wX10_gaol_c 11 rfl rfl rfl
theorem dX10_gaol_64 : decode cX10_gaol 64 = .ok (.iadd, 1) := dw_96 wX10_gaol_c rfl
theorem dX10_gaol_65 : decode cX10_gaol 65 = .ok (.bipush 12, 2) := dw_16 wX10_gaol_c 12 rfl rfl rfl
theorem dX10_gaol_67 : decode cX10_gaol 67 = .ok (.idiv, 1) := dw_108 wX10_gaol_c rfl
theorem dX10_gaol_68 : decode cX10_gaol 68 = .ok (.aload_n 0, 1) := dw_42 wX10_gaol_c rfl
theorem dX10_gaol_69 : decode cX10_gaol 69 = .ok (.aload_n 0, 1) := dw_42 wX10_gaol_c rfl
theorem dX10_gaol_70 : decode cX10_gaol 70 = .ok (.getfield 102, 3) := dw_180 wX10_gaol_c 0 102 rfl rfl
theorem dX10_gaol_73 : decode cX10_gaol 73 = .ok (.iload_n 1, 1) := dw_27 wX10_gaol_c rfl
theorem dX10_gaol_74 : decode cX10_gaol 74 = .ok (.iaload, 1) := dw_46 wX10_gaol_c rfl
theorem dX10_gaol_75 : decode cX10_gaol 75 = .ok (.bipush 6, 2) := dw_16 wX10_gaol_c 6 rfl rfl rfl
theorem dX10_gaol_77 : decode cX10_gaol 77 = .ok (.invokevirtual 333, 3) := dw_182 wX10_gaol_c 1 77 rfl rfl
theorem dX10_gaol_80 : decode cX10_gaol 80 = .ok (.imul, 1) := dw_104 wX10_gaol_c rfl
theorem dX10_gaol_81 : decode cX10_gaol 81 = .ok (.istore_n 2, 1) := dw_61 wX10_gaol_c rfl
theorem dX10_gaol_82 : decode cX10_gaol 82 = .ok (.aload_n 0, 1) := dw_42 wX10_gaol_c rfl
theorem dX10_gaol_83 : decode cX10_gaol 83 = .ok (.getfield 120, 3) := dw_180 wX10_gaol_c 0 120 rfl rfl
theorem dX10_gaol_86 : decode cX10_gaol 86 = .ok (.iload_n 1, 1) := dw_27 wX10_gaol_c rfl
theorem dX10_gaol_87 : decode cX10_gaol 87 = .ok (.aload_n 0, 1) := dw_42 wX10_gaol_c rfl
theorem dX10_gaol_88 : decode cX10_gaol 88 = .ok (.getfield 232, 3) := dw_180 wX10_gaol_c 0 232 rfl rfl
theorem dX10_gaol_91 : decode cX10_gaol 91 = .ok (.iastore, 1) := dw_79 wX10_gaol_c rfl
theorem dX10_gaol_92 : decode cX10_gaol 92 = .ok (.iload_n 2, 1) := dw_28 wX10_gaol_c rfl
theorem dX10_gaol_93 : decode cX10_gaol 93 = .ok (.aload_n 0, 1) := dw_42 wX10_gaol_c rfl
theorem dX10_gaol_94 : decode cX10_gaol 94 = .ok (.aload_n 0, 1) := dw_42 wX10_gaol_c rfl
theorem dX10_gaol_95 : decode cX10_gaol 95 = .ok (.getfield 102, 3) := dw_180 wX10_gaol_c 0 102 rfl rfl
theorem dX10_gaol_98 : decode cX10_gaol 98 = .ok (.iload_n 1, 1) := dw_27 wX10_gaol_c rfl
theorem dX10_gaol_99 : decode cX10_gaol 99 = .ok (.iaload, 1) := dw_46 wX10_gaol_c rfl
theorem dX10_gaol_100 : decode cX10_gaol 100 = .ok (.bipush 7, 2) := dw_16 wX10_gaol_c 7 rfl rfl rfl
theorem dX10_gaol_102 : decode cX10_gaol 102 = .ok (.invokevirtual 333, 3) := dw_182 wX10_gaol_c 1 77 rfl rfl
theorem dX10_gaol_105 : decode cX10_gaol 105 = .ok (.if_icmp .ge 7, 3) := dw_162 wX10_gaol_c 0 7 rfl rfl rfl
theorem dX10_gaol_108 : decode cX10_gaol 108 = .ok (.iload_n 2, 1) := dw_28 wX10_gaol_c rfl
theorem dX10_gaol_109 : decode cX10_gaol 109 = .ok (.goto 15, 3) := dw_167 wX10_gaol_c 0 15 rfl rfl rfl
theorem dX10_gaol_112 : decode cX10_gaol 112 = .ok (.aload_n 0, 1) := dw_42 wX10_gaol_c rfl
theorem dX10_gaol_113 : decode cX10_gaol 113 = .ok (.aload_n 0, 1) := dw_42 wX10_gaol_c rfl
theorem dX10_gaol_114 : decode cX10_gaol 114 = .ok (.getfield 102, 3) := dw_180 wX10_gaol_c 0 102 rfl rfl
theorem dX10_gaol_117 : decode cX10_gaol 117 = .ok (.iload_n 1, 1) := dw_27 wX10_gaol_c rfl
theorem dX10_gaol_118 : decode cX10_gaol 118 = .ok (.iaload, 1) := dw_46 wX10_gaol_c rfl
theorem dX10_gaol_119 : decode cX10_gaol 119 = .ok (.bipush 7, 2) := dw_16 wX10_gaol_c 7 rfl rfl rfl
theorem dX10_gaol_121 : decode cX10_gaol 121 = .ok (.invokevirtual 333, 3) := dw_182 wX10_gaol_c 1 77 rfl rfl
theorem dX10_gaol_124 : decode cX10_gaol 124 = .ok (.ireturn, 1) := dw_172 wX10_gaol_c rfl
def wNX10_claim : Nat := 87794730877056575265318190798289922615361331382468977999764789608244861680496982440475034739246945920392824950422610642490981067457828586270690534158054619397305334905551214885405137270895218161470405338719665679265493690671332693017544720512814400584670013611774838077731447332398931509917980080610411282675310014466565378057965801412148587321709972249152949006972342404800740629520613496534454739607826423380105048481416693981061587387423530
theorem wX10_claim_c : hz_cd cX10_claim wNX10_claim 184 := ⟨by decide +kernel, by decide +kernel⟩
theorem dX10_claim_0 : decode cX10_claim 0 = .ok (.aload_n 0, 1) := dw_42 wX10_claim_c rfl
theorem dX10_claim_1 : decode cX10_claim 1 = .ok (.iload_n 1, 1) := dw_27 wX10_claim_c rfl
theorem dX10_claim_2 : decode cX10_claim 2 = .ok (.invokevirtual 370, 3) := dw_182 wX10_claim_c 1 114 rfl rfl
theorem dX10_claim_5 : decode cX10_claim 5 = .ok (.ifCond .ne 5, 3) := dw_154 wX10_claim_c 0 5 rfl rfl rfl
theorem dX10_claim_8 : decode cX10_claim 8 = .ok (.iconst (-1), 1) := dw_2 wX10_claim_c rfl
theorem dX10_claim_9 : decode cX10_claim 9 = .ok (.ireturn, 1) := dw_172 wX10_claim_c rfl
theorem dX10_claim_10 : decode cX10_claim 10 = .ok (.iload_n 2, 1) := dw_28 wX10_claim_c rfl
theorem dX10_claim_11 : decode cX10_claim 11 = .ok (.tableswitch 171 0 13 #[69, 76, 83, 90, 97, 104, 111, 111, 111, 125, 132, 139, 146, 155], 69) := by decide +kernel
theorem dX10_claim_80 : decode cX10_claim 80 = .ok (.aload_n 0, 1) := dw_42 wX10_claim_c rfl
theorem dX10_claim_81 : decode cX10_claim 81 = .ok (.getfield 81, 3) := dw_180 wX10_claim_c 0 81 rfl rfl
theorem dX10_claim_84 : decode cX10_claim 84 = .ok (.iload_n 1, 1) := dw_27 wX10_claim_c rfl
theorem dX10_claim_85 : decode cX10_claim 85 = .ok (.iaload, 1) := dw_46 wX10_claim_c rfl
theorem dX10_claim_86 : decode cX10_claim 86 = .ok (.ireturn, 1) := dw_172 wX10_claim_c rfl
theorem dX10_claim_87 : decode cX10_claim 87 = .ok (.aload_n 0, 1) := dw_42 wX10_claim_c rfl
theorem dX10_claim_88 : decode cX10_claim 88 = .ok (.getfield 84, 3) := dw_180 wX10_claim_c 0 84 rfl rfl
theorem dX10_claim_91 : decode cX10_claim 91 = .ok (.iload_n 1, 1) := dw_27 wX10_claim_c rfl
theorem dX10_claim_92 : decode cX10_claim 92 = .ok (.iaload, 1) := dw_46 wX10_claim_c rfl
theorem dX10_claim_93 : decode cX10_claim 93 = .ok (.ireturn, 1) := dw_172 wX10_claim_c rfl
theorem dX10_claim_94 : decode cX10_claim 94 = .ok (.aload_n 0, 1) := dw_42 wX10_claim_c rfl
theorem dX10_claim_95 : decode cX10_claim 95 = .ok (.getfield 87, 3) := dw_180 wX10_claim_c 0 87 rfl rfl
theorem dX10_claim_98 : decode cX10_claim 98 = .ok (.iload_n 1, 1) := dw_27 wX10_claim_c rfl
theorem dX10_claim_99 : decode cX10_claim 99 = .ok (.iaload, 1) := dw_46 wX10_claim_c rfl
theorem dX10_claim_100 : decode cX10_claim 100 = .ok (.ireturn, 1) := dw_172 wX10_claim_c rfl
theorem dX10_claim_101 : decode cX10_claim 101 = .ok (.aload_n 0, 1) := dw_42 wX10_claim_c rfl
theorem dX10_claim_102 : decode cX10_claim 102 = .ok (.getfield 99, 3) := dw_180 wX10_claim_c 0 99 rfl rfl
theorem dX10_claim_105 : decode cX10_claim 105 = .ok (.iload_n 1, 1) := dw_27 wX10_claim_c rfl
theorem dX10_claim_106 : decode cX10_claim 106 = .ok (.iaload, 1) := dw_46 wX10_claim_c rfl
theorem dX10_claim_107 : decode cX10_claim 107 = .ok (.ireturn, 1) := dw_172 wX10_claim_c rfl
theorem dX10_claim_108 : decode cX10_claim 108 = .ok (.aload_n 0, 1) := dw_42 wX10_claim_c rfl
theorem dX10_claim_109 : decode cX10_claim 109 = .ok (.getfield 105, 3) := dw_180 wX10_claim_c 0 105 rfl rfl
theorem dX10_claim_112 : decode cX10_claim 112 = .ok (.iload_n 1, 1) := dw_27 wX10_claim_c rfl
theorem dX10_claim_113 : decode cX10_claim 113 = .ok (.iaload, 1) := dw_46 wX10_claim_c rfl
theorem dX10_claim_114 : decode cX10_claim 114 = .ok (.ireturn, 1) := dw_172 wX10_claim_c rfl
theorem dX10_claim_115 : decode cX10_claim 115 = .ok (.aload_n 0, 1) := dw_42 wX10_claim_c rfl
theorem dX10_claim_116 : decode cX10_claim 116 = .ok (.getfield 123, 3) := dw_180 wX10_claim_c 0 123 rfl rfl
theorem dX10_claim_119 : decode cX10_claim 119 = .ok (.iload_n 1, 1) := dw_27 wX10_claim_c rfl
theorem dX10_claim_120 : decode cX10_claim 120 = .ok (.iaload, 1) := dw_46 wX10_claim_c rfl
theorem dX10_claim_121 : decode cX10_claim 121 = .ok (.ireturn, 1) := dw_172 wX10_claim_c rfl
theorem dX10_claim_122 : decode cX10_claim 122 = .ok (.aload_n 0, 1) := dw_42 wX10_claim_c rfl
theorem dX10_claim_123 : decode cX10_claim 123 = .ok (.getfield 126, 3) := dw_180 wX10_claim_c 0 126 rfl rfl
theorem dX10_claim_126 : decode cX10_claim 126 = .ok (.iconst 3, 1) := dw_6 wX10_claim_c rfl
theorem dX10_claim_127 : decode cX10_claim 127 = .ok (.iload_n 1, 1) := dw_27 wX10_claim_c rfl
theorem dX10_claim_128 : decode cX10_claim 128 = .ok (.imul, 1) := dw_104 wX10_claim_c rfl
theorem dX10_claim_129 : decode cX10_claim 129 = .ok (.iload_n 2, 1) := dw_28 wX10_claim_c rfl
theorem dX10_claim_130 : decode cX10_claim 130 = .ok (.iadd, 1) := dw_96 wX10_claim_c rfl
theorem dX10_claim_131 : decode cX10_claim 131 = .ok (.bipush 6, 2) := dw_16 wX10_claim_c 6 rfl rfl rfl
theorem dX10_claim_133 : decode cX10_claim 133 = .ok (.isub, 1) := dw_100 wX10_claim_c rfl
theorem dX10_claim_134 : decode cX10_claim 134 = .ok (.iaload, 1) := dw_46 wX10_claim_c rfl
theorem dX10_claim_135 : decode cX10_claim 135 = .ok (.ireturn, 1) := dw_172 wX10_claim_c rfl
theorem dX10_claim_136 : decode cX10_claim 136 = .ok (.aload_n 0, 1) := dw_42 wX10_claim_c rfl
theorem dX10_claim_137 : decode cX10_claim 137 = .ok (.getfield 114, 3) := dw_180 wX10_claim_c 0 114 rfl rfl
theorem dX10_claim_140 : decode cX10_claim 140 = .ok (.iload_n 1, 1) := dw_27 wX10_claim_c rfl
theorem dX10_claim_141 : decode cX10_claim 141 = .ok (.iaload, 1) := dw_46 wX10_claim_c rfl
theorem dX10_claim_142 : decode cX10_claim 142 = .ok (.ireturn, 1) := dw_172 wX10_claim_c rfl
theorem dX10_claim_143 : decode cX10_claim 143 = .ok (.aload_n 0, 1) := dw_42 wX10_claim_c rfl
theorem dX10_claim_144 : decode cX10_claim 144 = .ok (.getfield 132, 3) := dw_180 wX10_claim_c 0 132 rfl rfl
theorem dX10_claim_147 : decode cX10_claim 147 = .ok (.iload_n 1, 1) := dw_27 wX10_claim_c rfl
theorem dX10_claim_148 : decode cX10_claim 148 = .ok (.iaload, 1) := dw_46 wX10_claim_c rfl
theorem dX10_claim_149 : decode cX10_claim 149 = .ok (.ireturn, 1) := dw_172 wX10_claim_c rfl
theorem dX10_claim_150 : decode cX10_claim 150 = .ok (.aload_n 0, 1) := dw_42 wX10_claim_c rfl
theorem dX10_claim_151 : decode cX10_claim 151 = .ok (.getfield 135, 3) := dw_180 wX10_claim_c 0 135 rfl rfl
theorem dX10_claim_154 : decode cX10_claim 154 = .ok (.iload_n 1, 1) := dw_27 wX10_claim_c rfl
theorem dX10_claim_155 : decode cX10_claim 155 = .ok (.iaload, 1) := dw_46 wX10_claim_c rfl
theorem dX10_claim_156 : decode cX10_claim 156 = .ok (.ireturn, 1) := dw_172 wX10_claim_c rfl
theorem dX10_claim_157 : decode cX10_claim 157 = .ok (.aload_n 0, 1) := dw_42 wX10_claim_c rfl
theorem dX10_claim_158 : decode cX10_claim 158 = .ok (.getfield 102, 3) := dw_180 wX10_claim_c 0 102 rfl rfl
theorem dX10_claim_161 : decode cX10_claim 161 = .ok (.iload_n 1, 1) := dw_27 wX10_claim_c rfl
theorem dX10_claim_162 : decode cX10_claim 162 = .ok (.iaload, 1) := dw_46 wX10_claim_c rfl
theorem dX10_claim_163 : decode cX10_claim 163 = .ok (.iconst 1, 1) := dw_4 wX10_claim_c rfl
theorem dX10_claim_164 : decode cX10_claim 164 = .ok (.isub, 1) := dw_100 wX10_claim_c rfl
theorem dX10_claim_165 : decode cX10_claim 165 = .ok (.ireturn, 1) := dw_172 wX10_claim_c rfl
theorem dX10_claim_166 : decode cX10_claim 166 = .ok (.aload_n 0, 1) := dw_42 wX10_claim_c rfl
theorem dX10_claim_167 : decode cX10_claim 167 = .ok (.getfield 117, 3) := dw_180 wX10_claim_c 0 117 rfl rfl
theorem dX10_claim_170 : decode cX10_claim 170 = .ok (.iload_n 1, 1) := dw_27 wX10_claim_c rfl
theorem dX10_claim_171 : decode cX10_claim 171 = .ok (.iaload, 1) := dw_46 wX10_claim_c rfl
theorem dX10_claim_172 : decode cX10_claim 172 = .ok (.iconst (-1), 1) := dw_2 wX10_claim_c rfl
theorem dX10_claim_173 : decode cX10_claim 173 = .ok (.if_icmp .ne 7, 3) := dw_160 wX10_claim_c 0 7 rfl rfl rfl
theorem dX10_claim_176 : decode cX10_claim 176 = .ok (.iconst 0, 1) := dw_3 wX10_claim_c rfl
theorem dX10_claim_177 : decode cX10_claim 177 = .ok (.goto 4, 3) := dw_167 wX10_claim_c 0 4 rfl rfl rfl
theorem dX10_claim_180 : decode cX10_claim 180 = .ok (.iconst 1, 1) := dw_4 wX10_claim_c rfl
theorem dX10_claim_181 : decode cX10_claim 181 = .ok (.ireturn, 1) := dw_172 wX10_claim_c rfl
theorem dX10_claim_182 : decode cX10_claim 182 = .ok (.iconst (-1), 1) := dw_2 wX10_claim_c rfl
theorem dX10_claim_183 : decode cX10_claim 183 = .ok (.ireturn, 1) := dw_172 wX10_claim_c rfl
def wNX10_state : Nat := 1386599393190001994771151287875621451616662504558703369749112504274405851660337909199584233493320187129730875230077759381794575976646218948598920623036420618909799336849319385177663080234016681272475758757705956649509119254976875792785689538124945677444721339578850090
theorem wX10_state_c : hz_cd cX10_state wNX10_state 111 := ⟨by decide +kernel, by decide +kernel⟩
theorem dX10_state_0 : decode cX10_state 0 = .ok (.aload_n 0, 1) := dw_42 wX10_state_c rfl
theorem dX10_state_1 : decode cX10_state 1 = .ok (.iload_n 1, 1) := dw_27 wX10_state_c rfl
theorem dX10_state_2 : decode cX10_state 2 = .ok (.invokevirtual 370, 3) := dw_182 wX10_state_c 1 114 rfl rfl
theorem dX10_state_5 : decode cX10_state 5 = .ok (.ifCond .eq 35, 3) := dw_153 wX10_state_c 0 35 rfl rfl rfl
theorem dX10_state_8 : decode cX10_state 8 = .ok (.iload_n 2, 1) := dw_28 wX10_state_c rfl
theorem dX10_state_9 : decode cX10_state 9 = .ok (.aload_n 0, 1) := dw_42 wX10_state_c rfl
theorem dX10_state_10 : decode cX10_state 10 = .ok (.getfield 99, 3) := dw_180 wX10_state_c 0 99 rfl rfl
theorem dX10_state_13 : decode cX10_state 13 = .ok (.iload_n 1, 1) := dw_27 wX10_state_c rfl
theorem dX10_state_14 : decode cX10_state 14 = .ok (.iaload, 1) := dw_46 wX10_state_c rfl
theorem dX10_state_15 : decode cX10_state 15 = .ok (.sipush 7999, 3) := dw_17 wX10_state_c 31 63 rfl rfl rfl
theorem dX10_state_18 : decode cX10_state 18 = .ok (.invokestatic 228, 3) := dw_184 wX10_state_c 0 228 rfl rfl
theorem dX10_state_21 : decode cX10_state 21 = .ok (.ifCond .eq 19, 3) := dw_153 wX10_state_c 0 19 rfl rfl rfl
theorem dX10_state_24 : decode cX10_state 24 = .ok (.iload_n 3, 1) := dw_29 wX10_state_c rfl
theorem dX10_state_25 : decode cX10_state 25 = .ok (.aload_n 0, 1) := dw_42 wX10_state_c rfl
theorem dX10_state_26 : decode cX10_state 26 = .ok (.getfield 99, 3) := dw_180 wX10_state_c 0 99 rfl rfl
theorem dX10_state_29 : decode cX10_state 29 = .ok (.iload_n 1, 1) := dw_27 wX10_state_c rfl
theorem dX10_state_30 : decode cX10_state 30 = .ok (.iaload, 1) := dw_46 wX10_state_c rfl
theorem dX10_state_31 : decode cX10_state 31 = .ok (.sipush 7999, 3) := dw_17 wX10_state_c 31 63 rfl rfl rfl
theorem dX10_state_34 : decode cX10_state 34 = .ok (.invokestatic 228, 3) := dw_184 wX10_state_c 0 228 rfl rfl
theorem dX10_state_37 : decode cX10_state 37 = .ok (.ifCond .ne 5, 3) := dw_154 wX10_state_c 0 5 rfl rfl rfl
theorem dX10_state_40 : decode cX10_state 40 = .ok (.iconst (-1), 1) := dw_2 wX10_state_c rfl
theorem dX10_state_41 : decode cX10_state 41 = .ok (.ireturn, 1) := dw_172 wX10_state_c rfl
theorem dX10_state_42 : decode cX10_state 42 = .ok (.aload_n 0, 1) := dw_42 wX10_state_c rfl
theorem dX10_state_43 : decode cX10_state 43 = .ok (.iload_n 1, 1) := dw_27 wX10_state_c rfl
theorem dX10_state_44 : decode cX10_state 44 = .ok (.iload_n 2, 1) := dw_28 wX10_state_c rfl
theorem dX10_state_45 : decode cX10_state 45 = .ok (.iload_n 3, 1) := dw_29 wX10_state_c rfl
theorem dX10_state_46 : decode cX10_state 46 = .ok (.invokevirtual 416, 3) := dw_182 wX10_state_c 1 160 rfl rfl
theorem dX10_state_49 : decode cX10_state 49 = .ok (.iload 4, 2) := dw_21 wX10_state_c 4 rfl
theorem dX10_state_51 : decode cX10_state 51 = .ok (.tableswitch 58 0 4 #[33, 38, 43, 48, 53], 33) := by decide +kernel
theorem dX10_state_84 : decode cX10_state 84 = .ok (.aload_n 0, 1) := dw_42 wX10_state_c rfl
theorem dX10_state_85 : decode cX10_state 85 = .ok (.getfield 410, 3) := dw_180 wX10_state_c 1 154 rfl rfl
theorem dX10_state_88 : decode cX10_state 88 = .ok (.ireturn, 1) := dw_172 wX10_state_c rfl
theorem dX10_state_89 : decode cX10_state 89 = .ok (.aload_n 0, 1) := dw_42 wX10_state_c rfl
theorem dX10_state_90 : decode cX10_state 90 = .ok (.getfield 401, 3) := dw_180 wX10_state_c 1 145 rfl rfl
theorem dX10_state_93 : decode cX10_state 93 = .ok (.ireturn, 1) := dw_172 wX10_state_c rfl
theorem dX10_state_94 : decode cX10_state 94 = .ok (.aload_n 0, 1) := dw_42 wX10_state_c rfl
theorem dX10_state_95 : decode cX10_state 95 = .ok (.getfield 407, 3) := dw_180 wX10_state_c 1 151 rfl rfl
theorem dX10_state_98 : decode cX10_state 98 = .ok (.ireturn, 1) := dw_172 wX10_state_c rfl
theorem dX10_state_99 : decode cX10_state 99 = .ok (.aload_n 0, 1) := dw_42 wX10_state_c rfl
theorem dX10_state_100 : decode cX10_state 100 = .ok (.getfield 398, 3) := dw_180 wX10_state_c 1 142 rfl rfl
theorem dX10_state_103 : decode cX10_state 103 = .ok (.ireturn, 1) := dw_172 wX10_state_c rfl
theorem dX10_state_104 : decode cX10_state 104 = .ok (.aload_n 0, 1) := dw_42 wX10_state_c rfl
theorem dX10_state_105 : decode cX10_state 105 = .ok (.getfield 404, 3) := dw_180 wX10_state_c 1 148 rfl rfl
theorem dX10_state_108 : decode cX10_state 108 = .ok (.ireturn, 1) := dw_172 wX10_state_c rfl
theorem dX10_state_109 : decode cX10_state 109 = .ok (.iconst (-1), 1) := dw_2 wX10_state_c rfl
theorem dX10_state_110 : decode cX10_state 110 = .ok (.ireturn, 1) := dw_172 wX10_state_c rfl