def wNX0_holds : Nat := 2306300905568338808746112385216861374822077157092809550460704096406759932759945412246785979603389603545553794683813374327795555830901135346603081229357029931
theorem wX0_holds_c : hz_cd cX0_holds wNX0_holds 65 := ⟨by decide +kernel, by decide +kernel⟩
theorem dX0_holds_0 : decode cX0_holds 0 = .ok (.aload_n 1, 1) := dw_43 wX0_holds_c rfl
theorem dX0_holds_1 : decode cX0_holds 1 = .ok (.iload_n 0, 1) := dw_26 wX0_holds_c rfl
theorem dX0_holds_2 : decode cX0_holds 2 = .ok (.bipush 7, 2) := dw_16 wX0_holds_c 7 rfl rfl rfl
theorem dX0_holds_4 : decode cX0_holds 4 = .ok (.iand, 1) := dw_126 wX0_holds_c rfl
theorem dX0_holds_5 : decode cX0_holds 5 = .ok (.iaload, 1) := dw_46 wX0_holds_c rfl
theorem dX0_holds_6 : decode cX0_holds 6 = .ok (.istore_n 2, 1) := dw_61 wX0_holds_c rfl
theorem dX0_holds_7 : decode cX0_holds 7 = .ok (.iload_n 0, 1) := dw_26 wX0_holds_c rfl
theorem dX0_holds_8 : decode cX0_holds 8 = .ok (.bipush 7, 2) := dw_16 wX0_holds_c 7 rfl rfl rfl
theorem dX0_holds_10 : decode cX0_holds 10 = .ok (.ishr, 1) := dw_122 wX0_holds_c rfl
theorem dX0_holds_11 : decode cX0_holds 11 = .ok (.istore_n 3, 1) := dw_62 wX0_holds_c rfl
theorem dX0_holds_12 : decode cX0_holds 12 = .ok (.iload_n 0, 1) := dw_26 wX0_holds_c rfl
theorem dX0_holds_13 : decode cX0_holds 13 = .ok (.bipush 6, 2) := dw_16 wX0_holds_c 6 rfl rfl rfl
theorem dX0_holds_15 : decode cX0_holds 15 = .ok (.ishr, 1) := dw_122 wX0_holds_c rfl
theorem dX0_holds_16 : decode cX0_holds 16 = .ok (.iconst 1, 1) := dw_4 wX0_holds_c rfl
theorem dX0_holds_17 : decode cX0_holds 17 = .ok (.iand, 1) := dw_126 wX0_holds_c rfl
theorem dX0_holds_18 : decode cX0_holds 18 = .ok (.iconst 1, 1) := dw_4 wX0_holds_c rfl
theorem dX0_holds_19 : decode cX0_holds 19 = .ok (.if_icmp .ne 10, 3) := dw_160 wX0_holds_c 0 10 rfl rfl rfl
theorem dX0_holds_22 : decode cX0_holds 22 = .ok (.aload_n 1, 1) := dw_43 wX0_holds_c rfl
theorem dX0_holds_23 : decode cX0_holds 23 = .ok (.iload_n 3, 1) := dw_29 wX0_holds_c rfl
theorem dX0_holds_24 : decode cX0_holds 24 = .ok (.bipush 7, 2) := dw_16 wX0_holds_c 7 rfl rfl rfl
theorem dX0_holds_26 : decode cX0_holds 26 = .ok (.iand, 1) := dw_126 wX0_holds_c rfl
theorem dX0_holds_27 : decode cX0_holds 27 = .ok (.iaload, 1) := dw_46 wX0_holds_c rfl
theorem dX0_holds_28 : decode cX0_holds 28 = .ok (.istore_n 3, 1) := dw_62 wX0_holds_c rfl
theorem dX0_holds_29 : decode cX0_holds 29 = .ok (.iload_n 2, 1) := dw_28 wX0_holds_c rfl
theorem dX0_holds_30 : decode cX0_holds 30 = .ok (.iload_n 3, 1) := dw_29 wX0_holds_c rfl
theorem dX0_holds_31 : decode cX0_holds 31 = .ok (.if_icmp .ge 7, 3) := dw_162 wX0_holds_c 0 7 rfl rfl rfl
theorem dX0_holds_34 : decode cX0_holds 34 = .ok (.iconst 1, 1) := dw_4 wX0_holds_c rfl
theorem dX0_holds_35 : decode cX0_holds 35 = .ok (.goto 13, 3) := dw_167 wX0_holds_c 0 13 rfl rfl rfl
theorem dX0_holds_38 : decode cX0_holds 38 = .ok (.iload_n 2, 1) := dw_28 wX0_holds_c rfl
theorem dX0_holds_39 : decode cX0_holds 39 = .ok (.iload_n 3, 1) := dw_29 wX0_holds_c rfl
theorem dX0_holds_40 : decode cX0_holds 40 = .ok (.if_icmp .ne 7, 3) := dw_160 wX0_holds_c 0 7 rfl rfl rfl
theorem dX0_holds_43 : decode cX0_holds 43 = .ok (.iconst 2, 1) := dw_5 wX0_holds_c rfl
theorem dX0_holds_44 : decode cX0_holds 44 = .ok (.goto 4, 3) := dw_167 wX0_holds_c 0 4 rfl rfl rfl
theorem dX0_holds_47 : decode cX0_holds 47 = .ok (.iconst 4, 1) := dw_7 wX0_holds_c rfl
theorem dX0_holds_48 : decode cX0_holds 48 = .ok (.istore 4, 2) := dw_54 wX0_holds_c 4 rfl
theorem dX0_holds_50 : decode cX0_holds 50 = .ok (.iload_n 0, 1) := dw_26 wX0_holds_c rfl
theorem dX0_holds_51 : decode cX0_holds 51 = .ok (.iconst 3, 1) := dw_6 wX0_holds_c rfl
theorem dX0_holds_52 : decode cX0_holds 52 = .ok (.ishr, 1) := dw_122 wX0_holds_c rfl
theorem dX0_holds_53 : decode cX0_holds 53 = .ok (.iload 4, 2) := dw_21 wX0_holds_c 4 rfl
theorem dX0_holds_55 : decode cX0_holds 55 = .ok (.iand, 1) := dw_126 wX0_holds_c rfl
theorem dX0_holds_56 : decode cX0_holds 56 = .ok (.ifCond .eq 7, 3) := dw_153 wX0_holds_c 0 7 rfl rfl rfl
theorem dX0_holds_59 : decode cX0_holds 59 = .ok (.iconst 1, 1) := dw_4 wX0_holds_c rfl
theorem dX0_holds_60 : decode cX0_holds 60 = .ok (.goto 4, 3) := dw_167 wX0_holds_c 0 4 rfl rfl rfl
theorem dX0_holds_63 : decode cX0_holds 63 = .ok (.iconst 0, 1) := dw_3 wX0_holds_c rfl
theorem dX0_holds_64 : decode cX0_holds 64 = .ok (.ireturn, 1) := dw_172 wX0_holds_c rfl
def wNX0_proves : Nat := 8703892957946804592963184937407257590861671792928700335138377300426991201532595622923064628728048888811818489576123231635051680375993911632056568566435948905029654819830989698294535896792022238112930903112376503431974815009375971546428353642342985142713281655511013011870972054496875420573434785803488477816189996360884501763
theorem wX0_proves_c : hz_cd cX0_proves wNX0_proves 135 := ⟨by decide +kernel, by decide +kernel⟩
theorem dX0_proves_0 : decode cX0_proves 0 = .ok (.iconst 0, 1) := dw_3 wX0_proves_c rfl
theorem dX0_proves_1 : decode cX0_proves 1 = .ok (.istore_n 2, 1) := dw_61 wX0_proves_c rfl
theorem dX0_proves_2 : decode cX0_proves 2 = .ok (.iconst 0, 1) := dw_3 wX0_proves_c rfl
theorem dX0_proves_3 : decode cX0_proves 3 = .ok (.istore_n 3, 1) := dw_62 wX0_proves_c rfl
theorem dX0_proves_4 : decode cX0_proves 4 = .ok (.iload_n 3, 1) := dw_29 wX0_proves_c rfl
theorem dX0_proves_5 : decode cX0_proves 5 = .ok (.aload_n 0, 1) := dw_42 wX0_proves_c rfl
theorem dX0_proves_6 : decode cX0_proves 6 = .ok (.getfield 38, 3) := dw_180 wX0_proves_c 0 38 rfl rfl
theorem dX0_proves_9 : decode cX0_proves 9 = .ok (.if_icmp .ge 113, 3) := dw_162 wX0_proves_c 0 113 rfl rfl rfl
theorem dX0_proves_12 : decode cX0_proves 12 = .ok (.iload_n 2, 1) := dw_28 wX0_proves_c rfl
theorem dX0_proves_13 : decode cX0_proves 13 = .ok (.iconst 1, 1) := dw_4 wX0_proves_c rfl
theorem dX0_proves_14 : decode cX0_proves 14 = .ok (.iand, 1) := dw_126 wX0_proves_c rfl
theorem dX0_proves_15 : decode cX0_proves 15 = .ok (.istore 4, 2) := dw_54 wX0_proves_c 4 rfl
theorem dX0_proves_17 : decode cX0_proves 17 = .ok (.iload_n 2, 1) := dw_28 wX0_proves_c rfl
theorem dX0_proves_18 : decode cX0_proves 18 = .ok (.iconst 1, 1) := dw_4 wX0_proves_c rfl
theorem dX0_proves_19 : decode cX0_proves 19 = .ok (.ishr, 1) := dw_122 wX0_proves_c rfl
theorem dX0_proves_20 : decode cX0_proves 20 = .ok (.iconst 1, 1) := dw_4 wX0_proves_c rfl
theorem dX0_proves_21 : decode cX0_proves 21 = .ok (.iand, 1) := dw_126 wX0_proves_c rfl
theorem dX0_proves_22 : decode cX0_proves 22 = .ok (.istore 5, 2) := dw_54 wX0_proves_c 5 rfl
theorem dX0_proves_24 : decode cX0_proves 24 = .ok (.aload_n 0, 1) := dw_42 wX0_proves_c rfl
theorem dX0_proves_25 : decode cX0_proves 25 = .ok (.getfield 15, 3) := dw_180 wX0_proves_c 0 15 rfl rfl
theorem dX0_proves_28 : decode cX0_proves 28 = .ok (.iload_n 3, 1) := dw_29 wX0_proves_c rfl
theorem dX0_proves_29 : decode cX0_proves 29 = .ok (.iaload, 1) := dw_46 wX0_proves_c rfl
theorem dX0_proves_30 : decode cX0_proves 30 = .ok (.tableswitch 63 (-3) (-1) #[26, 48, 33], 26) := by decide +kernel
theorem dX0_proves_56 : decode cX0_proves 56 = .ok (.iload_n 2, 1) := dw_28 wX0_proves_c rfl
theorem dX0_proves_57 : decode cX0_proves 57 = .ok (.iconst 1, 1) := dw_4 wX0_proves_c rfl
theorem dX0_proves_58 : decode cX0_proves 58 = .ok (.ixor, 1) := dw_130 wX0_proves_c rfl
theorem dX0_proves_59 : decode cX0_proves 59 = .ok (.istore_n 2, 1) := dw_61 wX0_proves_c rfl
theorem dX0_proves_60 : decode cX0_proves 60 = .ok (.goto 56, 3) := dw_167 wX0_proves_c 0 56 rfl rfl rfl
theorem dX0_proves_63 : decode cX0_proves 63 = .ok (.iload_n 2, 1) := dw_28 wX0_proves_c rfl
theorem dX0_proves_64 : decode cX0_proves 64 = .ok (.iconst 2, 1) := dw_5 wX0_proves_c rfl
theorem dX0_proves_65 : decode cX0_proves 65 = .ok (.ishr, 1) := dw_122 wX0_proves_c rfl
theorem dX0_proves_66 : decode cX0_proves 66 = .ok (.iconst 1, 1) := dw_4 wX0_proves_c rfl
theorem dX0_proves_67 : decode cX0_proves 67 = .ok (.ishl, 1) := dw_120 wX0_proves_c rfl
theorem dX0_proves_68 : decode cX0_proves 68 = .ok (.iload 4, 2) := dw_21 wX0_proves_c 4 rfl
theorem dX0_proves_70 : decode cX0_proves 70 = .ok (.iload 5, 2) := dw_21 wX0_proves_c 5 rfl
theorem dX0_proves_72 : decode cX0_proves 72 = .ok (.iand, 1) := dw_126 wX0_proves_c rfl
theorem dX0_proves_73 : decode cX0_proves 73 = .ok (.ior, 1) := dw_128 wX0_proves_c rfl
theorem dX0_proves_74 : decode cX0_proves 74 = .ok (.istore_n 2, 1) := dw_61 wX0_proves_c rfl
theorem dX0_proves_75 : decode cX0_proves 75 = .ok (.goto 41, 3) := dw_167 wX0_proves_c 0 41 rfl rfl rfl
theorem dX0_proves_78 : decode cX0_proves 78 = .ok (.iload_n 2, 1) := dw_28 wX0_proves_c rfl
theorem dX0_proves_79 : decode cX0_proves 79 = .ok (.iconst 2, 1) := dw_5 wX0_proves_c rfl
theorem dX0_proves_80 : decode cX0_proves 80 = .ok (.ishr, 1) := dw_122 wX0_proves_c rfl
theorem dX0_proves_81 : decode cX0_proves 81 = .ok (.iconst 1, 1) := dw_4 wX0_proves_c rfl
theorem dX0_proves_82 : decode cX0_proves 82 = .ok (.ishl, 1) := dw_120 wX0_proves_c rfl
theorem dX0_proves_83 : decode cX0_proves 83 = .ok (.iload 4, 2) := dw_21 wX0_proves_c 4 rfl
theorem dX0_proves_85 : decode cX0_proves 85 = .ok (.ior, 1) := dw_128 wX0_proves_c rfl
theorem dX0_proves_86 : decode cX0_proves 86 = .ok (.iload 5, 2) := dw_21 wX0_proves_c 5 rfl
theorem dX0_proves_88 : decode cX0_proves 88 = .ok (.ior, 1) := dw_128 wX0_proves_c rfl
theorem dX0_proves_89 : decode cX0_proves 89 = .ok (.istore_n 2, 1) := dw_61 wX0_proves_c rfl
theorem dX0_proves_90 : decode cX0_proves 90 = .ok (.goto 26, 3) := dw_167 wX0_proves_c 0 26 rfl rfl rfl
theorem dX0_proves_93 : decode cX0_proves 93 = .ok (.iload_n 2, 1) := dw_28 wX0_proves_c rfl
theorem dX0_proves_94 : decode cX0_proves 94 = .ok (.iconst 1, 1) := dw_4 wX0_proves_c rfl
theorem dX0_proves_95 : decode cX0_proves 95 = .ok (.ishl, 1) := dw_120 wX0_proves_c rfl
theorem dX0_proves_96 : decode cX0_proves 96 = .ok (.aload_n 0, 1) := dw_42 wX0_proves_c rfl
theorem dX0_proves_97 : decode cX0_proves 97 = .ok (.getfield 15, 3) := dw_180 wX0_proves_c 0 15 rfl rfl
theorem dX0_proves_100 : decode cX0_proves 100 = .ok (.iload_n 3, 1) := dw_29 wX0_proves_c rfl
theorem dX0_proves_101 : decode cX0_proves 101 = .ok (.iaload, 1) := dw_46 wX0_proves_c rfl
theorem dX0_proves_102 : decode cX0_proves 102 = .ok (.aload_n 1, 1) := dw_43 wX0_proves_c rfl
theorem dX0_proves_103 : decode cX0_proves 103 = .ok (.invokestatic 41, 3) := dw_184 wX0_proves_c 0 41 rfl rfl
theorem dX0_proves_106 : decode cX0_proves 106 = .ok (.ifCond .eq 7, 3) := dw_153 wX0_proves_c 0 7 rfl rfl rfl
theorem dX0_proves_109 : decode cX0_proves 109 = .ok (.iconst 1, 1) := dw_4 wX0_proves_c rfl
theorem dX0_proves_110 : decode cX0_proves 110 = .ok (.goto 4, 3) := dw_167 wX0_proves_c 0 4 rfl rfl rfl
theorem dX0_proves_113 : decode cX0_proves 113 = .ok (.iconst 0, 1) := dw_3 wX0_proves_c rfl
theorem dX0_proves_114 : decode cX0_proves 114 = .ok (.ior, 1) := dw_128 wX0_proves_c rfl
theorem dX0_proves_115 : decode cX0_proves 115 = .ok (.istore_n 2, 1) := dw_61 wX0_proves_c rfl
theorem dX0_proves_116 : decode cX0_proves 116 = .ok (.iinc 3 1, 3) := dw_132 wX0_proves_c 3 1 rfl rfl rfl
theorem dX0_proves_119 : decode cX0_proves 119 = .ok (.goto (-115), 3) := dn_167 wX0_proves_c 255 141 rfl (by decide)
theorem dX0_proves_122 : decode cX0_proves 122 = .ok (.iload_n 2, 1) := dw_28 wX0_proves_c rfl
theorem dX0_proves_123 : decode cX0_proves 123 = .ok (.iconst 1, 1) := dw_4 wX0_proves_c rfl
theorem dX0_proves_124 : decode cX0_proves 124 = .ok (.iand, 1) := dw_126 wX0_proves_c rfl
theorem dX0_proves_125 : decode cX0_proves 125 = .ok (.iconst 1, 1) := dw_4 wX0_proves_c rfl
theorem dX0_proves_126 : decode cX0_proves 126 = .ok (.if_icmp .ne 7, 3) := dw_160 wX0_proves_c 0 7 rfl rfl rfl
theorem dX0_proves_129 : decode cX0_proves 129 = .ok (.iconst 1, 1) := dw_4 wX0_proves_c rfl
theorem dX0_proves_130 : decode cX0_proves 130 = .ok (.goto 4, 3) := dw_167 wX0_proves_c 0 4 rfl rfl rfl
theorem dX0_proves_133 : decode cX0_proves 133 = .ok (.iconst 0, 1) := dw_3 wX0_proves_c rfl
theorem dX0_proves_134 : decode cX0_proves 134 = .ok (.ireturn, 1) := dw_172 wX0_proves_c rfl
theorem dX4_isKinOf_0 : decode cX4_isKinOf 0 = .ok (.aload_n 0, 1) := by decide +kernel
theorem dX4_isKinOf_1 : decode cX4_isKinOf 1 = .ok (.aload_n 1, 1) := by decide +kernel
theorem dX4_isKinOf_2 : decode cX4_isKinOf 2 = .ok (.if_acmp .eq 22, 3) := by decide +kernel
theorem dX4_isKinOf_5 : decode cX4_isKinOf 5 = .ok (.aload_n 0, 1) := by decide +kernel
theorem dX4_isKinOf_6 : decode cX4_isKinOf 6 = .ok (.getfield 18, 3) := by decide +kernel
theorem dX4_isKinOf_9 : decode cX4_isKinOf 9 = .ok (.iconst (-1), 1) := by decide +kernel
theorem dX4_isKinOf_10 : decode cX4_isKinOf 10 = .ok (.if_icmp .eq 18, 3) := by decide +kernel
theorem dX4_isKinOf_13 : decode cX4_isKinOf 13 = .ok (.aload_n 0, 1) := by decide +kernel
theorem dX4_isKinOf_14 : decode cX4_isKinOf 14 = .ok (.getfield 18, 3) := by decide +kernel
theorem dX4_isKinOf_17 : decode cX4_isKinOf 17 = .ok (.aload_n 1, 1) := by decide +kernel
theorem dX4_isKinOf_18 : decode cX4_isKinOf 18 = .ok (.getfield 18, 3) := by decide +kernel
theorem dX4_isKinOf_21 : decode cX4_isKinOf 21 = .ok (.if_icmp .ne 7, 3) := by decide +kernel
theorem dX4_isKinOf_24 : decode cX4_isKinOf 24 = .ok (.iconst 1, 1) := by decide +kernel
theorem dX4_isKinOf_25 : decode cX4_isKinOf 25 = .ok (.goto 4, 3) := by decide +kernel
theorem dX4_isKinOf_28 : decode cX4_isKinOf 28 = .ok (.iconst 0, 1) := by decide +kernel
theorem dX4_isKinOf_29 : decode cX4_isKinOf 29 = .ok (.ireturn, 1) := by decide +kernel
def wNX4_maySit : Nat := 94058222522838277641674910342174382793377090405616682802501107559314068499555469302400278683696804906
theorem wX4_maySit_c : hz_cd cX4_maySit wNX4_maySit 42 := ⟨by decide +kernel, by decide +kernel⟩
theorem dX4_maySit_0 : decode cX4_maySit 0 = .ok (.aload_n 0, 1) := dw_42 wX4_maySit_c rfl
theorem dX4_maySit_1 : decode cX4_maySit 1 = .ok (.getfield 39, 3) := dw_180 wX4_maySit_c 0 39 rfl rfl
theorem dX4_maySit_4 : decode cX4_maySit 4 = .ok (.ifCond .eq 36, 3) := dw_153 wX4_maySit_c 0 36 rfl rfl rfl
theorem dX4_maySit_7 : decode cX4_maySit 7 = .ok (.aload_n 0, 1) := dw_42 wX4_maySit_c rfl
theorem dX4_maySit_8 : decode cX4_maySit 8 = .ok (.getfield 43, 3) := dw_180 wX4_maySit_c 0 43 rfl rfl
theorem dX4_maySit_11 : decode cX4_maySit 11 = .ok (.ifCond .ne 29, 3) := dw_154 wX4_maySit_c 0 29 rfl rfl rfl
theorem dX4_maySit_14 : decode cX4_maySit 14 = .ok (.aload_n 0, 1) := dw_42 wX4_maySit_c rfl
theorem dX4_maySit_15 : decode cX4_maySit 15 = .ok (.aload_n 1, 1) := dw_43 wX4_maySit_c rfl
theorem dX4_maySit_16 : decode cX4_maySit 16 = .ok (.getfield 46, 3) := dw_180 wX4_maySit_c 0 46 rfl rfl
theorem dX4_maySit_19 : decode cX4_maySit 19 = .ok (.invokevirtual 52, 3) := dw_182 wX4_maySit_c 0 52 rfl rfl
theorem dX4_maySit_22 : decode cX4_maySit 22 = .ok (.ifCond .ne 18, 3) := dw_154 wX4_maySit_c 0 18 rfl rfl rfl
theorem dX4_maySit_25 : decode cX4_maySit 25 = .ok (.aload_n 0, 1) := dw_42 wX4_maySit_c rfl
theorem dX4_maySit_26 : decode cX4_maySit 26 = .ok (.aload_n 1, 1) := dw_43 wX4_maySit_c rfl
theorem dX4_maySit_27 : decode cX4_maySit 27 = .ok (.getfield 56, 3) := dw_180 wX4_maySit_c 0 56 rfl rfl
theorem dX4_maySit_30 : decode cX4_maySit 30 = .ok (.invokevirtual 52, 3) := dw_182 wX4_maySit_c 0 52 rfl rfl
theorem dX4_maySit_33 : decode cX4_maySit 33 = .ok (.ifCond .ne 7, 3) := dw_154 wX4_maySit_c 0 7 rfl rfl rfl
theorem dX4_maySit_36 : decode cX4_maySit 36 = .ok (.iconst 1, 1) := dw_4 wX4_maySit_c rfl
theorem dX4_maySit_37 : decode cX4_maySit 37 = .ok (.goto 4, 3) := dw_167 wX4_maySit_c 0 4 rfl rfl rfl
theorem dX4_maySit_40 : decode cX4_maySit 40 = .ok (.iconst 0, 1) := dw_3 wX4_maySit_c rfl
theorem dX4_maySit_41 : decode cX4_maySit 41 = .ok (.ireturn, 1) := dw_172 wX4_maySit_c rfl
def wNX9_inForce : Nat := 8391941810372434499979959506711523296619829060205781798258735344255463249488955739154097034538923040118703480895495617419853328570021509641258
theorem wX9_inForce_c : hz_cd cX9_inForce wNX9_inForce 59 := ⟨by decide +kernel, by decide +kernel⟩
theorem dX9_inForce_0 : decode cX9_inForce 0 = .ok (.aload_n 0, 1) := dw_42 wX9_inForce_c rfl
theorem dX9_inForce_1 : decode cX9_inForce 1 = .ok (.getfield 25, 3) := dw_180 wX9_inForce_c 0 25 rfl rfl
theorem dX9_inForce_4 : decode cX9_inForce 4 = .ok (.astore_n 2, 1) := dw_77 wX9_inForce_c rfl
theorem dX9_inForce_5 : decode cX9_inForce 5 = .ok (.iconst 0, 1) := dw_3 wX9_inForce_c rfl
theorem dX9_inForce_6 : decode cX9_inForce 6 = .ok (.istore_n 3, 1) := dw_62 wX9_inForce_c rfl
theorem dX9_inForce_7 : decode cX9_inForce 7 = .ok (.iload_n 3, 1) := dw_29 wX9_inForce_c rfl
theorem dX9_inForce_8 : decode cX9_inForce 8 = .ok (.aload_n 0, 1) := dw_42 wX9_inForce_c rfl
theorem dX9_inForce_9 : decode cX9_inForce 9 = .ok (.getfield 105, 3) := dw_180 wX9_inForce_c 0 105 rfl rfl
theorem dX9_inForce_12 : decode cX9_inForce 12 = .ok (.if_icmp .ge 45, 3) := dw_162 wX9_inForce_c 0 45 rfl rfl rfl
theorem dX9_inForce_15 : decode cX9_inForce 15 = .ok (.aload_n 0, 1) := dw_42 wX9_inForce_c rfl
theorem dX9_inForce_16 : decode cX9_inForce 16 = .ok (.getfield 29, 3) := dw_180 wX9_inForce_c 0 29 rfl rfl
theorem dX9_inForce_19 : decode cX9_inForce 19 = .ok (.iload_n 3, 1) := dw_29 wX9_inForce_c rfl
theorem dX9_inForce_20 : decode cX9_inForce 20 = .ok (.aaload, 1) := dw_50 wX9_inForce_c rfl
theorem dX9_inForce_21 : decode cX9_inForce 21 = .ok (.getfield 122, 3) := dw_180 wX9_inForce_c 0 122 rfl rfl
theorem dX9_inForce_24 : decode cX9_inForce 24 = .ok (.iload_n 1, 1) := dw_27 wX9_inForce_c rfl
theorem dX9_inForce_25 : decode cX9_inForce 25 = .ok (.if_icmp .gt 26, 3) := dw_163 wX9_inForce_c 0 26 rfl rfl rfl
theorem dX9_inForce_28 : decode cX9_inForce 28 = .ok (.aload_n 0, 1) := dw_42 wX9_inForce_c rfl
theorem dX9_inForce_29 : decode cX9_inForce 29 = .ok (.getfield 29, 3) := dw_180 wX9_inForce_c 0 29 rfl rfl
theorem dX9_inForce_32 : decode cX9_inForce 32 = .ok (.iload_n 3, 1) := dw_29 wX9_inForce_c rfl
theorem dX9_inForce_33 : decode cX9_inForce 33 = .ok (.aaload, 1) := dw_50 wX9_inForce_c rfl
theorem dX9_inForce_34 : decode cX9_inForce 34 = .ok (.getfield 122, 3) := dw_180 wX9_inForce_c 0 122 rfl rfl
theorem dX9_inForce_37 : decode cX9_inForce 37 = .ok (.aload_n 2, 1) := dw_44 wX9_inForce_c rfl
theorem dX9_inForce_38 : decode cX9_inForce 38 = .ok (.getfield 122, 3) := dw_180 wX9_inForce_c 0 122 rfl rfl
theorem dX9_inForce_41 : decode cX9_inForce 41 = .ok (.if_icmp .lt 10, 3) := dw_161 wX9_inForce_c 0 10 rfl rfl rfl
theorem dX9_inForce_44 : decode cX9_inForce 44 = .ok (.aload_n 0, 1) := dw_42 wX9_inForce_c rfl
theorem dX9_inForce_45 : decode cX9_inForce 45 = .ok (.getfield 29, 3) := dw_180 wX9_inForce_c 0 29 rfl rfl
theorem dX9_inForce_48 : decode cX9_inForce 48 = .ok (.iload_n 3, 1) := dw_29 wX9_inForce_c rfl
theorem dX9_inForce_49 : decode cX9_inForce 49 = .ok (.aaload, 1) := dw_50 wX9_inForce_c rfl
theorem dX9_inForce_50 : decode cX9_inForce 50 = .ok (.astore_n 2, 1) := dw_77 wX9_inForce_c rfl
theorem dX9_inForce_51 : decode cX9_inForce 51 = .ok (.iinc 3 1, 3) := dw_132 wX9_inForce_c 3 1 rfl rfl rfl
theorem dX9_inForce_54 : decode cX9_inForce 54 = .ok (.goto (-47), 3) := dn_167 wX9_inForce_c 255 209 rfl (by decide)
theorem dX9_inForce_57 : decode cX9_inForce 57 = .ok (.aload_n 2, 1) := dw_44 wX9_inForce_c rfl
theorem dX9_inForce_58 : decode cX9_inForce 58 = .ok (.areturn, 1) := dw_176 wX9_inForce_c rfl
def wNX9_force : Nat := 24102470162306568466734026216973662896001344249525753876427200006195827025070173910129436893252346230811
theorem wX9_force_c : hz_cd cX9_force wNX9_force 43 := ⟨by decide +kernel, by decide +kernel⟩
theorem dX9_force_0 : decode cX9_force 0 = .ok (.iload_n 1, 1) := dw_27 wX9_force_c rfl
theorem dX9_force_1 : decode cX9_force 1 = .ok (.invokestatic 90, 3) := dw_184 wX9_force_c 0 90 rfl rfl
theorem dX9_force_4 : decode cX9_force 4 = .ok (.ifCond .eq 13, 3) := dw_153 wX9_force_c 0 13 rfl rfl rfl
theorem dX9_force_7 : decode cX9_force 7 = .ok (.iload_n 2, 1) := dw_28 wX9_force_c rfl
theorem dX9_force_8 : decode cX9_force 8 = .ok (.ifCond .lt 9, 3) := dw_155 wX9_force_c 0 9 rfl rfl rfl
theorem dX9_force_11 : decode cX9_force 11 = .ok (.iload_n 2, 1) := dw_28 wX9_force_c rfl
theorem dX9_force_12 : decode cX9_force 12 = .ok (.bipush 14, 2) := dw_16 wX9_force_c 14 rfl rfl rfl
theorem dX9_force_14 : decode cX9_force 14 = .ok (.if_icmp .lt 5, 3) := dw_161 wX9_force_c 0 5 rfl rfl rfl
theorem dX9_force_17 : decode cX9_force 17 = .ok (.iconst (-1), 1) := dw_2 wX9_force_c rfl
theorem dX9_force_18 : decode cX9_force 18 = .ok (.ireturn, 1) := dw_172 wX9_force_c rfl
theorem dX9_force_19 : decode cX9_force 19 = .ok (.aload_n 0, 1) := dw_42 wX9_force_c rfl
theorem dX9_force_20 : decode cX9_force 20 = .ok (.iload_n 1, 1) := dw_27 wX9_force_c rfl
theorem dX9_force_21 : decode cX9_force 21 = .ok (.invokevirtual 115, 3) := dw_182 wX9_force_c 0 115 rfl rfl
theorem dX9_force_24 : decode cX9_force 24 = .ok (.astore_n 3, 1) := dw_78 wX9_force_c rfl
theorem dX9_force_25 : decode cX9_force 25 = .ok (.iload_n 2, 1) := dw_28 wX9_force_c rfl
theorem dX9_force_26 : decode cX9_force 26 = .ok (.ifCond .ne 10, 3) := dw_154 wX9_force_c 0 10 rfl rfl rfl
theorem dX9_force_29 : decode cX9_force 29 = .ok (.aload_n 3, 1) := dw_45 wX9_force_c rfl
theorem dX9_force_30 : decode cX9_force 30 = .ok (.getfield 112, 3) := dw_180 wX9_force_c 0 112 rfl rfl
theorem dX9_force_33 : decode cX9_force 33 = .ok (.goto 9, 3) := dw_167 wX9_force_c 0 9 rfl rfl rfl
theorem dX9_force_36 : decode cX9_force 36 = .ok (.aload_n 3, 1) := dw_45 wX9_force_c rfl
theorem dX9_force_37 : decode cX9_force 37 = .ok (.getfield 119, 3) := dw_180 wX9_force_c 0 119 rfl rfl
theorem dX9_force_40 : decode cX9_force 40 = .ok (.iload_n 2, 1) := dw_28 wX9_force_c rfl
theorem dX9_force_41 : decode cX9_force 41 = .ok (.iaload, 1) := dw_46 wX9_force_c rfl
theorem dX9_force_42 : decode cX9_force 42 = .ok (.ireturn, 1) := dw_172 wX9_force_c rfl
def wNX9_judgement : Nat := 182740581015442745213101057000350706386139500253608288830640223423748992750027877959281166624637670670695368920767610409713254594688467286717607967050217194141262517477936458954765808683
theorem wX9_judgement_c : hz_cd cX9_judgement wNX9_judgement 77 := ⟨by decide +kernel, by decide +kernel⟩
theorem dX9_judgement_0 : decode cX9_judgement 0 = .ok (.aload_n 1, 1) := dw_43 wX9_judgement_c rfl
theorem dX9_judgement_1 : decode cX9_judgement 1 = .ok (.getfield 190, 3) := dw_180 wX9_judgement_c 0 190 rfl rfl
theorem dX9_judgement_4 : decode cX9_judgement 4 = .ok (.aload_n 1, 1) := dw_43 wX9_judgement_c rfl
theorem dX9_judgement_5 : decode cX9_judgement 5 = .ok (.getfield 212, 3) := dw_180 wX9_judgement_c 0 212 rfl rfl
theorem dX9_judgement_8 : decode cX9_judgement 8 = .ok (.getfield 243, 3) := dw_180 wX9_judgement_c 0 243 rfl rfl
theorem dX9_judgement_11 : decode cX9_judgement 11 = .ok (.sipush 365, 3) := dw_17 wX9_judgement_c 1 109 rfl rfl rfl
theorem dX9_judgement_14 : decode cX9_judgement 14 = .ok (.aload_n 2, 1) := dw_44 wX9_judgement_c rfl
theorem dX9_judgement_15 : decode cX9_judgement 15 = .ok (.getfield 119, 3) := dw_180 wX9_judgement_c 0 119 rfl rfl
theorem dX9_judgement_18 : decode cX9_judgement 18 = .ok (.bipush 9, 2) := dw_16 wX9_judgement_c 9 rfl rfl rfl
theorem dX9_judgement_20 : decode cX9_judgement 20 = .ok (.iaload, 1) := dw_46 wX9_judgement_c rfl
theorem dX9_judgement_21 : decode cX9_judgement 21 = .ok (.imul, 1) := dw_104 wX9_judgement_c rfl
theorem dX9_judgement_22 : decode cX9_judgement 22 = .ok (.iadd, 1) := dw_96 wX9_judgement_c rfl
theorem dX9_judgement_23 : decode cX9_judgement 23 = .ok (.if_icmp .ge 5, 3) := dw_162 wX9_judgement_c 0 5 rfl rfl rfl
theorem dX9_judgement_26 : decode cX9_judgement 26 = .ok (.iconst 1, 1) := dw_4 wX9_judgement_c rfl
theorem dX9_judgement_27 : decode cX9_judgement 27 = .ok (.ireturn, 1) := dw_172 wX9_judgement_c rfl
theorem dX9_judgement_28 : decode cX9_judgement 28 = .ok (.aload_n 1, 1) := dw_43 wX9_judgement_c rfl
theorem dX9_judgement_29 : decode cX9_judgement 29 = .ok (.getfield 187, 3) := dw_180 wX9_judgement_c 0 187 rfl rfl
theorem dX9_judgement_32 : decode cX9_judgement 32 = .ok (.aload_n 2, 1) := dw_44 wX9_judgement_c rfl
theorem dX9_judgement_33 : decode cX9_judgement 33 = .ok (.getfield 119, 3) := dw_180 wX9_judgement_c 0 119 rfl rfl
theorem dX9_judgement_36 : decode cX9_judgement 36 = .ok (.iconst 1, 1) := dw_4 wX9_judgement_c rfl
theorem dX9_judgement_37 : decode cX9_judgement 37 = .ok (.iaload, 1) := dw_46 wX9_judgement_c rfl
theorem dX9_judgement_38 : decode cX9_judgement 38 = .ok (.if_icmp .le 5, 3) := dw_164 wX9_judgement_c 0 5 rfl rfl rfl
theorem dX9_judgement_41 : decode cX9_judgement 41 = .ok (.iconst 2, 1) := dw_5 wX9_judgement_c rfl
theorem dX9_judgement_42 : decode cX9_judgement 42 = .ok (.ireturn, 1) := dw_172 wX9_judgement_c rfl
theorem dX9_judgement_43 : decode cX9_judgement 43 = .ok (.aload_n 0, 1) := dw_42 wX9_judgement_c rfl
theorem dX9_judgement_44 : decode cX9_judgement 44 = .ok (.aload_n 1, 1) := dw_43 wX9_judgement_c rfl
theorem dX9_judgement_45 : decode cX9_judgement 45 = .ok (.aload_n 2, 1) := dw_44 wX9_judgement_c rfl
theorem dX9_judgement_46 : decode cX9_judgement 46 = .ok (.invokevirtual 246, 3) := dw_182 wX9_judgement_c 0 246 rfl rfl
theorem dX9_judgement_49 : decode cX9_judgement 49 = .ok (.aload_n 2, 1) := dw_44 wX9_judgement_c rfl
theorem dX9_judgement_50 : decode cX9_judgement 50 = .ok (.getfield 119, 3) := dw_180 wX9_judgement_c 0 119 rfl rfl
theorem dX9_judgement_53 : decode cX9_judgement 53 = .ok (.iconst 1, 1) := dw_4 wX9_judgement_c rfl
theorem dX9_judgement_54 : decode cX9_judgement 54 = .ok (.iaload, 1) := dw_46 wX9_judgement_c rfl
theorem dX9_judgement_55 : decode cX9_judgement 55 = .ok (.if_icmp .le 5, 3) := dw_164 wX9_judgement_c 0 5 rfl rfl rfl
theorem dX9_judgement_58 : decode cX9_judgement 58 = .ok (.iconst 3, 1) := dw_6 wX9_judgement_c rfl
theorem dX9_judgement_59 : decode cX9_judgement 59 = .ok (.ireturn, 1) := dw_172 wX9_judgement_c rfl
theorem dX9_judgement_60 : decode cX9_judgement 60 = .ok (.aload_n 2, 1) := dw_44 wX9_judgement_c rfl
theorem dX9_judgement_61 : decode cX9_judgement 61 = .ok (.aload_n 1, 1) := dw_43 wX9_judgement_c rfl
theorem dX9_judgement_62 : decode cX9_judgement 62 = .ok (.getfield 196, 3) := dw_180 wX9_judgement_c 0 196 rfl rfl
theorem dX9_judgement_65 : decode cX9_judgement 65 = .ok (.invokevirtual 249, 3) := dw_182 wX9_judgement_c 0 249 rfl rfl
theorem dX9_judgement_68 : decode cX9_judgement 68 = .ok (.ifCond .eq 7, 3) := dw_153 wX9_judgement_c 0 7 rfl rfl rfl
theorem dX9_judgement_71 : decode cX9_judgement 71 = .ok (.iconst 5, 1) := dw_8 wX9_judgement_c rfl
theorem dX9_judgement_72 : decode cX9_judgement 72 = .ok (.goto 4, 3) := dw_167 wX9_judgement_c 0 4 rfl rfl rfl
theorem dX9_judgement_75 : decode cX9_judgement 75 = .ok (.iconst 4, 1) := dw_7 wX9_judgement_c rfl
theorem dX9_judgement_76 : decode cX9_judgement 76 = .ok (.ireturn, 1) := dw_172 wX9_judgement_c rfl
def wNX9_drawBench : Nat := 4759465750476719392140623385921944549163475579762986824844411941278405230456067147902057733729617800884042854138104799329552575380105048408962981566137022231683251014616505995615037469215814595945115946563537172036157906299854413663184416252628552996821973256555517201965356192715857309061804735462963962854011445334461765606514734980882651708173550204707611035923736686233239925083835059737522760049690349387209348758060547
theorem wX9_drawBench_c : hz_cd cX9_drawBench wNX9_drawBench 176 := ⟨by decide +kernel, by decide +kernel⟩
theorem dX9_drawBench_0 : decode cX9_drawBench 0 = .ok (.iconst 0, 1) := dw_3 wX9_drawBench_c rfl
theorem dX9_drawBench_1 : decode cX9_drawBench 1 = .ok (.istore_n 3, 1) := dw_62 wX9_drawBench_c rfl
theorem dX9_drawBench_2 : decode cX9_drawBench 2 = .ok (.iconst 0, 1) := dw_3 wX9_drawBench_c rfl
theorem dX9_drawBench_3 : decode cX9_drawBench 3 = .ok (.istore 4, 2) := dw_54 wX9_drawBench_c 4 rfl
theorem dX9_drawBench_5 : decode cX9_drawBench 5 = .ok (.iload 4, 2) := dw_21 wX9_drawBench_c 4 rfl
theorem dX9_drawBench_7 : decode cX9_drawBench 7 = .ok (.aload_n 0, 1) := dw_42 wX9_drawBench_c rfl
theorem dX9_drawBench_8 : decode cX9_drawBench 8 = .ok (.getfield 125, 3) := dw_180 wX9_drawBench_c 0 125 rfl rfl
theorem dX9_drawBench_11 : decode cX9_drawBench 11 = .ok (.if_icmp .ge 34, 3) := dw_162 wX9_drawBench_c 0 34 rfl rfl rfl
theorem dX9_drawBench_14 : decode cX9_drawBench 14 = .ok (.aload_n 0, 1) := dw_42 wX9_drawBench_c rfl
theorem dX9_drawBench_15 : decode cX9_drawBench 15 = .ok (.getfield 35, 3) := dw_180 wX9_drawBench_c 0 35 rfl rfl
theorem dX9_drawBench_18 : decode cX9_drawBench 18 = .ok (.iload 4, 2) := dw_21 wX9_drawBench_c 4 rfl
theorem dX9_drawBench_20 : decode cX9_drawBench 20 = .ok (.aaload, 1) := dw_50 wX9_drawBench_c rfl
theorem dX9_drawBench_21 : decode cX9_drawBench 21 = .ok (.aload_n 1, 1) := dw_43 wX9_drawBench_c rfl
theorem dX9_drawBench_22 : decode cX9_drawBench 22 = .ok (.invokevirtual 236, 3) := dw_182 wX9_drawBench_c 0 236 rfl rfl
theorem dX9_drawBench_25 : decode cX9_drawBench 25 = .ok (.ifCond .eq 14, 3) := dw_153 wX9_drawBench_c 0 14 rfl rfl rfl
theorem dX9_drawBench_28 : decode cX9_drawBench 28 = .ok (.aload_n 0, 1) := dw_42 wX9_drawBench_c rfl
theorem dX9_drawBench_29 : decode cX9_drawBench 29 = .ok (.getfield 62, 3) := dw_180 wX9_drawBench_c 0 62 rfl rfl
theorem dX9_drawBench_32 : decode cX9_drawBench 32 = .ok (.iload_n 3, 1) := dw_29 wX9_drawBench_c rfl
theorem dX9_drawBench_33 : decode cX9_drawBench 33 = .ok (.iload 4, 2) := dw_21 wX9_drawBench_c 4 rfl
theorem dX9_drawBench_35 : decode cX9_drawBench 35 = .ok (.iastore, 1) := dw_79 wX9_drawBench_c rfl
theorem dX9_drawBench_36 : decode cX9_drawBench 36 = .ok (.iinc 3 1, 3) := dw_132 wX9_drawBench_c 3 1 rfl rfl rfl
theorem dX9_drawBench_39 : decode cX9_drawBench 39 = .ok (.iinc 4 1, 3) := dw_132 wX9_drawBench_c 4 1 rfl rfl rfl
theorem dX9_drawBench_42 : decode cX9_drawBench 42 = .ok (.goto (-37), 3) := dn_167 wX9_drawBench_c 255 219 rfl (by decide)
theorem dX9_drawBench_45 : decode cX9_drawBench 45 = .ok (.iload_n 3, 1) := dw_29 wX9_drawBench_c rfl
theorem dX9_drawBench_46 : decode cX9_drawBench 46 = .ok (.iload_n 3, 1) := dw_29 wX9_drawBench_c rfl
theorem dX9_drawBench_47 : decode cX9_drawBench 47 = .ok (.iconst 1, 1) := dw_4 wX9_drawBench_c rfl
theorem dX9_drawBench_48 : decode cX9_drawBench 48 = .ok (.isub, 1) := dw_100 wX9_drawBench_c rfl
theorem dX9_drawBench_49 : decode cX9_drawBench 49 = .ok (.imul, 1) := dw_104 wX9_drawBench_c rfl
theorem dX9_drawBench_50 : decode cX9_drawBench 50 = .ok (.iload_n 3, 1) := dw_29 wX9_drawBench_c rfl
theorem dX9_drawBench_51 : decode cX9_drawBench 51 = .ok (.iconst 2, 1) := dw_5 wX9_drawBench_c rfl
theorem dX9_drawBench_52 : decode cX9_drawBench 52 = .ok (.isub, 1) := dw_100 wX9_drawBench_c rfl
theorem dX9_drawBench_53 : decode cX9_drawBench 53 = .ok (.imul, 1) := dw_104 wX9_drawBench_c rfl
theorem dX9_drawBench_54 : decode cX9_drawBench 54 = .ok (.bipush 6, 2) := dw_16 wX9_drawBench_c 6 rfl rfl rfl
theorem dX9_drawBench_56 : decode cX9_drawBench 56 = .ok (.idiv, 1) := dw_108 wX9_drawBench_c rfl
theorem dX9_drawBench_57 : decode cX9_drawBench 57 = .ok (.istore 4, 2) := dw_54 wX9_drawBench_c 4 rfl
theorem dX9_drawBench_59 : decode cX9_drawBench 59 = .ok (.iload 4, 2) := dw_21 wX9_drawBench_c 4 rfl
theorem dX9_drawBench_61 : decode cX9_drawBench 61 = .ok (.iconst 1, 1) := dw_4 wX9_drawBench_c rfl
theorem dX9_drawBench_62 : decode cX9_drawBench 62 = .ok (.if_icmp .ge 5, 3) := dw_162 wX9_drawBench_c 0 5 rfl rfl rfl
theorem dX9_drawBench_65 : decode cX9_drawBench 65 = .ok (.iconst 0, 1) := dw_3 wX9_drawBench_c rfl
theorem dX9_drawBench_66 : decode cX9_drawBench 66 = .ok (.ireturn, 1) := dw_172 wX9_drawBench_c rfl
theorem dX9_drawBench_67 : decode cX9_drawBench 67 = .ok (.iload_n 2, 1) := dw_28 wX9_drawBench_c rfl
theorem dX9_drawBench_68 : decode cX9_drawBench 68 = .ok (.iload 4, 2) := dw_21 wX9_drawBench_c 4 rfl
theorem dX9_drawBench_70 : decode cX9_drawBench 70 = .ok (.irem, 1) := dw_112 wX9_drawBench_c rfl
theorem dX9_drawBench_71 : decode cX9_drawBench 71 = .ok (.istore 5, 2) := dw_54 wX9_drawBench_c 5 rfl
theorem dX9_drawBench_73 : decode cX9_drawBench 73 = .ok (.iconst 0, 1) := dw_3 wX9_drawBench_c rfl
theorem dX9_drawBench_74 : decode cX9_drawBench 74 = .ok (.istore 6, 2) := dw_54 wX9_drawBench_c 6 rfl
theorem dX9_drawBench_76 : decode cX9_drawBench 76 = .ok (.iload 6, 2) := dw_21 wX9_drawBench_c 6 rfl
theorem dX9_drawBench_78 : decode cX9_drawBench 78 = .ok (.iload_n 3, 1) := dw_29 wX9_drawBench_c rfl
theorem dX9_drawBench_79 : decode cX9_drawBench 79 = .ok (.if_icmp .ge 95, 3) := dw_162 wX9_drawBench_c 0 95 rfl rfl rfl
theorem dX9_drawBench_82 : decode cX9_drawBench 82 = .ok (.iload 6, 2) := dw_21 wX9_drawBench_c 6 rfl
theorem dX9_drawBench_84 : decode cX9_drawBench 84 = .ok (.iconst 1, 1) := dw_4 wX9_drawBench_c rfl
theorem dX9_drawBench_85 : decode cX9_drawBench 85 = .ok (.iadd, 1) := dw_96 wX9_drawBench_c rfl
theorem dX9_drawBench_86 : decode cX9_drawBench 86 = .ok (.istore 7, 2) := dw_54 wX9_drawBench_c 7 rfl
theorem dX9_drawBench_88 : decode cX9_drawBench 88 = .ok (.iload 7, 2) := dw_21 wX9_drawBench_c 7 rfl
theorem dX9_drawBench_90 : decode cX9_drawBench 90 = .ok (.iload_n 3, 1) := dw_29 wX9_drawBench_c rfl
theorem dX9_drawBench_91 : decode cX9_drawBench 91 = .ok (.if_icmp .ge 77, 3) := dw_162 wX9_drawBench_c 0 77 rfl rfl rfl
theorem dX9_drawBench_94 : decode cX9_drawBench 94 = .ok (.iload_n 3, 1) := dw_29 wX9_drawBench_c rfl
theorem dX9_drawBench_95 : decode cX9_drawBench 95 = .ok (.iload 7, 2) := dw_21 wX9_drawBench_c 7 rfl
theorem dX9_drawBench_97 : decode cX9_drawBench 97 = .ok (.isub, 1) := dw_100 wX9_drawBench_c rfl
theorem dX9_drawBench_98 : decode cX9_drawBench 98 = .ok (.iconst 1, 1) := dw_4 wX9_drawBench_c rfl
theorem dX9_drawBench_99 : decode cX9_drawBench 99 = .ok (.isub, 1) := dw_100 wX9_drawBench_c rfl
theorem dX9_drawBench_100 : decode cX9_drawBench 100 = .ok (.istore 8, 2) := dw_54 wX9_drawBench_c 8 rfl
theorem dX9_drawBench_102 : decode cX9_drawBench 102 = .ok (.iload 5, 2) := dw_21 wX9_drawBench_c 5 rfl
theorem dX9_drawBench_104 : decode cX9_drawBench 104 = .ok (.iload 8, 2) := dw_21 wX9_drawBench_c 8 rfl
theorem dX9_drawBench_106 : decode cX9_drawBench 106 = .ok (.if_icmp .ge 49, 3) := dw_162 wX9_drawBench_c 0 49 rfl rfl rfl
theorem dX9_drawBench_109 : decode cX9_drawBench 109 = .ok (.aload_n 1, 1) := dw_43 wX9_drawBench_c rfl
theorem dX9_drawBench_110 : decode cX9_drawBench 110 = .ok (.getfield 240, 3) := dw_180 wX9_drawBench_c 0 240 rfl rfl
theorem dX9_drawBench_113 : decode cX9_drawBench 113 = .ok (.iconst 0, 1) := dw_3 wX9_drawBench_c rfl
theorem dX9_drawBench_114 : decode cX9_drawBench 114 = .ok (.aload_n 0, 1) := dw_42 wX9_drawBench_c rfl
theorem dX9_drawBench_115 : decode cX9_drawBench 115 = .ok (.getfield 62, 3) := dw_180 wX9_drawBench_c 0 62 rfl rfl
theorem dX9_drawBench_118 : decode cX9_drawBench 118 = .ok (.iload 6, 2) := dw_21 wX9_drawBench_c 6 rfl
theorem dX9_drawBench_120 : decode cX9_drawBench 120 = .ok (.iaload, 1) := dw_46 wX9_drawBench_c rfl
theorem dX9_drawBench_121 : decode cX9_drawBench 121 = .ok (.iastore, 1) := dw_79 wX9_drawBench_c rfl
theorem dX9_drawBench_122 : decode cX9_drawBench 122 = .ok (.aload_n 1, 1) := dw_43 wX9_drawBench_c rfl
theorem dX9_drawBench_123 : decode cX9_drawBench 123 = .ok (.getfield 240, 3) := dw_180 wX9_drawBench_c 0 240 rfl rfl
theorem dX9_drawBench_126 : decode cX9_drawBench 126 = .ok (.iconst 1, 1) := dw_4 wX9_drawBench_c rfl
theorem dX9_drawBench_127 : decode cX9_drawBench 127 = .ok (.aload_n 0, 1) := dw_42 wX9_drawBench_c rfl
theorem dX9_drawBench_128 : decode cX9_drawBench 128 = .ok (.getfield 62, 3) := dw_180 wX9_drawBench_c 0 62 rfl rfl
theorem dX9_drawBench_131 : decode cX9_drawBench 131 = .ok (.iload 7, 2) := dw_21 wX9_drawBench_c 7 rfl
theorem dX9_drawBench_133 : decode cX9_drawBench 133 = .ok (.iaload, 1) := dw_46 wX9_drawBench_c rfl
theorem dX9_drawBench_134 : decode cX9_drawBench 134 = .ok (.iastore, 1) := dw_79 wX9_drawBench_c rfl
theorem dX9_drawBench_135 : decode cX9_drawBench 135 = .ok (.aload_n 1, 1) := dw_43 wX9_drawBench_c rfl
theorem dX9_drawBench_136 : decode cX9_drawBench 136 = .ok (.getfield 240, 3) := dw_180 wX9_drawBench_c 0 240 rfl rfl
theorem dX9_drawBench_139 : decode cX9_drawBench 139 = .ok (.iconst 2, 1) := dw_5 wX9_drawBench_c rfl
theorem dX9_drawBench_140 : decode cX9_drawBench 140 = .ok (.aload_n 0, 1) := dw_42 wX9_drawBench_c rfl
theorem dX9_drawBench_141 : decode cX9_drawBench 141 = .ok (.getfield 62, 3) := dw_180 wX9_drawBench_c 0 62 rfl rfl
theorem dX9_drawBench_144 : decode cX9_drawBench 144 = .ok (.iload 7, 2) := dw_21 wX9_drawBench_c 7 rfl
theorem dX9_drawBench_146 : decode cX9_drawBench 146 = .ok (.iconst 1, 1) := dw_4 wX9_drawBench_c rfl
theorem dX9_drawBench_147 : decode cX9_drawBench 147 = .ok (.iadd, 1) := dw_96 wX9_drawBench_c rfl
theorem dX9_drawBench_148 : decode cX9_drawBench 148 = .ok (.iload 5, 2) := dw_21 wX9_drawBench_c 5 rfl
theorem dX9_drawBench_150 : decode cX9_drawBench 150 = .ok (.iadd, 1) := dw_96 wX9_drawBench_c rfl
theorem dX9_drawBench_151 : decode cX9_drawBench 151 = .ok (.iaload, 1) := dw_46 wX9_drawBench_c rfl
theorem dX9_drawBench_152 : decode cX9_drawBench 152 = .ok (.iastore, 1) := dw_79 wX9_drawBench_c rfl
theorem dX9_drawBench_153 : decode cX9_drawBench 153 = .ok (.iconst 1, 1) := dw_4 wX9_drawBench_c rfl
theorem dX9_drawBench_154 : decode cX9_drawBench 154 = .ok (.ireturn, 1) := dw_172 wX9_drawBench_c rfl
theorem dX9_drawBench_155 : decode cX9_drawBench 155 = .ok (.iload 5, 2) := dw_21 wX9_drawBench_c 5 rfl
theorem dX9_drawBench_157 : decode cX9_drawBench 157 = .ok (.iload 8, 2) := dw_21 wX9_drawBench_c 8 rfl
theorem dX9_drawBench_159 : decode cX9_drawBench 159 = .ok (.isub, 1) := dw_100 wX9_drawBench_c rfl
theorem dX9_drawBench_160 : decode cX9_drawBench 160 = .ok (.istore 5, 2) := dw_54 wX9_drawBench_c 5 rfl
theorem dX9_drawBench_162 : decode cX9_drawBench 162 = .ok (.iinc 7 1, 3) := dw_132 wX9_drawBench_c 7 1 rfl rfl rfl
theorem dX9_drawBench_165 : decode cX9_drawBench 165 = .ok (.goto (-77), 3) := dn_167 wX9_drawBench_c 255 179 rfl (by decide)
theorem dX9_drawBench_168 : decode cX9_drawBench 168 = .ok (.iinc 6 1, 3) := dw_132 wX9_drawBench_c 6 1 rfl rfl rfl
theorem dX9_drawBench_171 : decode cX9_drawBench 171 = .ok (.goto (-95), 3) := dn_167 wX9_drawBench_c 255 161 rfl (by decide)
theorem dX9_drawBench_174 : decode cX9_drawBench 174 = .ok (.iconst 0, 1) := dw_3 wX9_drawBench_c rfl
theorem dX9_drawBench_175 : decode cX9_drawBench 175 = .ok (.ireturn, 1) := dw_172 wX9_drawBench_c rfl