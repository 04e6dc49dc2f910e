def wNX9_init : Nat := 10848052706165764711796104853470512381271067544096824194801260047424121479470840112427614976904938405509892091408717741319131021095005960067571623622255941922934021963300639079046750478129143379266646190784783831065213755323655751858672405079574677304963834446673729432103000174955236815787077629273494902371225468551453677715836207754758860105103146
theorem wX9_init_c : hz_cd cX9_init wNX9_init 145 := ⟨by decide +kernel, by decide +kernel⟩
theorem dX9_init_0 : decode cX9_init 0 = .ok (.aload_n 0, 1) := dw_42 wX9_init_c rfl
theorem dX9_init_1 : decode cX9_init 1 = .ok (.invokespecial 3, 3) := dw_183 wX9_init_c 0 3 rfl rfl
theorem dX9_init_4 : decode cX9_init 4 = .ok (.aload_n 0, 1) := dw_42 wX9_init_c rfl
theorem dX9_init_5 : decode cX9_init 5 = .ok (.sipush 400, 3) := dw_17 wX9_init_c 1 144 rfl rfl rfl
theorem dX9_init_8 : decode cX9_init 8 = .ok (.newarray .byte, 2) := by decide +kernel
theorem dX9_init_10 : decode cX9_init 10 = .ok (.putfield 9, 3) := dw_181 wX9_init_c 0 9 rfl rfl
theorem dX9_init_13 : decode cX9_init 13 = .ok (.aload_n 0, 1) := dw_42 wX9_init_c rfl
theorem dX9_init_14 : decode cX9_init 14 = .ok (.new 13, 3) := dw_187 wX9_init_c 0 13 rfl rfl
theorem dX9_init_17 : decode cX9_init 17 = .ok (.dup, 1) := dw_89 wX9_init_c rfl
theorem dX9_init_18 : decode cX9_init 18 = .ok (.invokespecial 15, 3) := dw_183 wX9_init_c 0 15 rfl rfl
theorem dX9_init_21 : decode cX9_init 21 = .ok (.putfield 16, 3) := dw_181 wX9_init_c 0 16 rfl rfl
theorem dX9_init_24 : decode cX9_init 24 = .ok (.aload_n 0, 1) := dw_42 wX9_init_c rfl
theorem dX9_init_25 : decode cX9_init 25 = .ok (.new 20, 3) := dw_187 wX9_init_c 0 20 rfl rfl
theorem dX9_init_28 : decode cX9_init 28 = .ok (.dup, 1) := dw_89 wX9_init_c rfl
theorem dX9_init_29 : decode cX9_init 29 = .ok (.iconst (-1), 1) := dw_2 wX9_init_c rfl
theorem dX9_init_30 : decode cX9_init 30 = .ok (.iconst (-1), 1) := dw_2 wX9_init_c rfl
theorem dX9_init_31 : decode cX9_init 31 = .ok (.invokespecial 22, 3) := dw_183 wX9_init_c 0 22 rfl rfl
theorem dX9_init_34 : decode cX9_init 34 = .ok (.putfield 25, 3) := dw_181 wX9_init_c 0 25 rfl rfl
theorem dX9_init_37 : decode cX9_init 37 = .ok (.aload_n 0, 1) := dw_42 wX9_init_c rfl
theorem dX9_init_38 : decode cX9_init 38 = .ok (.bipush 8, 2) := dw_16 wX9_init_c 8 rfl rfl rfl
theorem dX9_init_40 : decode cX9_init 40 = .ok (.anewarray 20, 3) := dw_189 wX9_init_c 0 20 rfl rfl
theorem dX9_init_43 : decode cX9_init 43 = .ok (.putfield 29, 3) := dw_181 wX9_init_c 0 29 rfl rfl
theorem dX9_init_46 : decode cX9_init 46 = .ok (.aload_n 0, 1) := dw_42 wX9_init_c rfl
theorem dX9_init_47 : decode cX9_init 47 = .ok (.bipush 40, 2) := dw_16 wX9_init_c 40 rfl rfl rfl
theorem dX9_init_49 : decode cX9_init 49 = .ok (.anewarray 33, 3) := dw_189 wX9_init_c 0 33 rfl rfl
theorem dX9_init_52 : decode cX9_init 52 = .ok (.putfield 35, 3) := dw_181 wX9_init_c 0 35 rfl rfl
theorem dX9_init_55 : decode cX9_init 55 = .ok (.aload_n 0, 1) := dw_42 wX9_init_c rfl
theorem dX9_init_56 : decode cX9_init 56 = .ok (.new 39, 3) := dw_187 wX9_init_c 0 39 rfl rfl
theorem dX9_init_59 : decode cX9_init 59 = .ok (.dup, 1) := dw_89 wX9_init_c rfl
theorem dX9_init_60 : decode cX9_init 60 = .ok (.invokespecial 41, 3) := dw_183 wX9_init_c 0 41 rfl rfl
theorem dX9_init_63 : decode cX9_init 63 = .ok (.putfield 42, 3) := dw_181 wX9_init_c 0 42 rfl rfl
theorem dX9_init_66 : decode cX9_init 66 = .ok (.aload_n 0, 1) := dw_42 wX9_init_c rfl
theorem dX9_init_67 : decode cX9_init 67 = .ok (.bipush 100, 2) := dw_16 wX9_init_c 100 rfl rfl rfl
theorem dX9_init_69 : decode cX9_init 69 = .ok (.anewarray 46, 3) := dw_189 wX9_init_c 0 46 rfl rfl
theorem dX9_init_72 : decode cX9_init 72 = .ok (.putfield 48, 3) := dw_181 wX9_init_c 0 48 rfl rfl
theorem dX9_init_75 : decode cX9_init 75 = .ok (.aload_n 0, 1) := dw_42 wX9_init_c rfl
theorem dX9_init_76 : decode cX9_init 76 = .ok (.bipush 100, 2) := dw_16 wX9_init_c 100 rfl rfl rfl
theorem dX9_init_78 : decode cX9_init 78 = .ok (.anewarray 46, 3) := dw_189 wX9_init_c 0 46 rfl rfl
theorem dX9_init_81 : decode cX9_init 81 = .ok (.putfield 52, 3) := dw_181 wX9_init_c 0 52 rfl rfl
theorem dX9_init_84 : decode cX9_init 84 = .ok (.aload_n 0, 1) := dw_42 wX9_init_c rfl
theorem dX9_init_85 : decode cX9_init 85 = .ok (.new 55, 3) := dw_187 wX9_init_c 0 55 rfl rfl
theorem dX9_init_88 : decode cX9_init 88 = .ok (.dup, 1) := dw_89 wX9_init_c rfl
theorem dX9_init_89 : decode cX9_init 89 = .ok (.invokespecial 57, 3) := dw_183 wX9_init_c 0 57 rfl rfl
theorem dX9_init_92 : decode cX9_init 92 = .ok (.putfield 58, 3) := dw_181 wX9_init_c 0 58 rfl rfl
theorem dX9_init_95 : decode cX9_init 95 = .ok (.aload_n 0, 1) := dw_42 wX9_init_c rfl
theorem dX9_init_96 : decode cX9_init 96 = .ok (.bipush 40, 2) := dw_16 wX9_init_c 40 rfl rfl rfl
theorem dX9_init_98 : decode cX9_init 98 = .ok (.newarray .int, 2) := by decide +kernel
theorem dX9_init_100 : decode cX9_init 100 = .ok (.putfield 62, 3) := dw_181 wX9_init_c 0 62 rfl rfl
theorem dX9_init_103 : decode cX9_init 103 = .ok (.aload_n 0, 1) := dw_42 wX9_init_c rfl
theorem dX9_init_104 : decode cX9_init 104 = .ok (.bipush 100, 2) := dw_16 wX9_init_c 100 rfl rfl rfl
theorem dX9_init_106 : decode cX9_init 106 = .ok (.newarray .int, 2) := by decide +kernel
theorem dX9_init_108 : decode cX9_init 108 = .ok (.putfield 66, 3) := dw_181 wX9_init_c 0 66 rfl rfl
theorem dX9_init_111 : decode cX9_init 111 = .ok (.aload_n 0, 1) := dw_42 wX9_init_c rfl
theorem dX9_init_112 : decode cX9_init 112 = .ok (.new 69, 3) := dw_187 wX9_init_c 0 69 rfl rfl
theorem dX9_init_115 : decode cX9_init 115 = .ok (.dup, 1) := dw_89 wX9_init_c rfl
theorem dX9_init_116 : decode cX9_init 116 = .ok (.invokespecial 71, 3) := dw_183 wX9_init_c 0 71 rfl rfl
theorem dX9_init_119 : decode cX9_init 119 = .ok (.putfield 72, 3) := dw_181 wX9_init_c 0 72 rfl rfl
theorem dX9_init_122 : decode cX9_init 122 = .ok (.aload_n 0, 1) := dw_42 wX9_init_c rfl
theorem dX9_init_123 : decode cX9_init 123 = .ok (.new 76, 3) := dw_187 wX9_init_c 0 76 rfl rfl
theorem dX9_init_126 : decode cX9_init 126 = .ok (.dup, 1) := dw_89 wX9_init_c rfl
theorem dX9_init_127 : decode cX9_init 127 = .ok (.invokespecial 78, 3) := dw_183 wX9_init_c 0 78 rfl rfl
theorem dX9_init_130 : decode cX9_init 130 = .ok (.putfield 79, 3) := dw_181 wX9_init_c 0 79 rfl rfl
theorem dX9_init_133 : decode cX9_init 133 = .ok (.aload_n 0, 1) := dw_42 wX9_init_c rfl
theorem dX9_init_134 : decode cX9_init 134 = .ok (.new 83, 3) := dw_187 wX9_init_c 0 83 rfl rfl
theorem dX9_init_137 : decode cX9_init 137 = .ok (.dup, 1) := dw_89 wX9_init_c rfl
theorem dX9_init_138 : decode cX9_init 138 = .ok (.invokespecial 85, 3) := dw_183 wX9_init_c 0 85 rfl rfl
theorem dX9_init_141 : decode cX9_init 141 = .ok (.putfield 86, 3) := dw_181 wX9_init_c 0 86 rfl rfl
theorem dX9_init_144 : decode cX9_init 144 = .ok (.return_, 1) := dw_177 wX9_init_c rfl