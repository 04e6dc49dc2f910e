def wNX9_ringNeeds : Nat := 68403413460439553587550615381553978039194146179855585811489708927167361139795935745299384240720412762215011579584851213111114646309451946401252249603269874767047967874257489176470350948558845584729539586502779473645502001071431748893699
theorem wX9_ringNeeds_c : hz_cd cX9_ringNeeds wNX9_ringNeeds 98 := ⟨by decide +kernel, by decide +kernel⟩
theorem dX9_ringNeeds_0 : decode cX9_ringNeeds 0 = .ok (.iconst 0, 1) := dw_3 wX9_ringNeeds_c rfl
theorem dX9_ringNeeds_1 : decode cX9_ringNeeds 1 = .ok (.istore_n 1, 1) := dw_60 wX9_ringNeeds_c rfl
theorem dX9_ringNeeds_2 : decode cX9_ringNeeds 2 = .ok (.iconst 0, 1) := dw_3 wX9_ringNeeds_c rfl
theorem dX9_ringNeeds_3 : decode cX9_ringNeeds 3 = .ok (.istore_n 2, 1) := dw_61 wX9_ringNeeds_c rfl
theorem dX9_ringNeeds_4 : decode cX9_ringNeeds 4 = .ok (.iload_n 2, 1) := dw_28 wX9_ringNeeds_c rfl
theorem dX9_ringNeeds_5 : decode cX9_ringNeeds 5 = .ok (.aload_n 0, 1) := dw_42 wX9_ringNeeds_c rfl
theorem dX9_ringNeeds_6 : decode cX9_ringNeeds 6 = .ok (.getfield 79, 3) := dw_180 wX9_ringNeeds_c 0 79 rfl rfl
theorem dX9_ringNeeds_9 : decode cX9_ringNeeds 9 = .ok (.getfield 361, 3) := dw_180 wX9_ringNeeds_c 1 105 rfl rfl
theorem dX9_ringNeeds_12 : decode cX9_ringNeeds 12 = .ok (.if_icmp .ge 84, 3) := dw_162 wX9_ringNeeds_c 0 84 rfl rfl rfl
theorem dX9_ringNeeds_15 : decode cX9_ringNeeds 15 = .ok (.aload_n 0, 1) := dw_42 wX9_ringNeeds_c rfl
theorem dX9_ringNeeds_16 : decode cX9_ringNeeds 16 = .ok (.getfield 79, 3) := dw_180 wX9_ringNeeds_c 0 79 rfl rfl
theorem dX9_ringNeeds_19 : decode cX9_ringNeeds 19 = .ok (.getfield 364, 3) := dw_180 wX9_ringNeeds_c 1 108 rfl rfl
theorem dX9_ringNeeds_22 : decode cX9_ringNeeds 22 = .ok (.istore_n 3, 1) := dw_62 wX9_ringNeeds_c rfl
theorem dX9_ringNeeds_23 : decode cX9_ringNeeds 23 = .ok (.iconst 0, 1) := dw_3 wX9_ringNeeds_c rfl
theorem dX9_ringNeeds_24 : decode cX9_ringNeeds 24 = .ok (.istore 4, 2) := dw_54 wX9_ringNeeds_c 4 rfl
theorem dX9_ringNeeds_26 : decode cX9_ringNeeds 26 = .ok (.iload 4, 2) := dw_21 wX9_ringNeeds_c 4 rfl
theorem dX9_ringNeeds_28 : decode cX9_ringNeeds 28 = .ok (.aload_n 0, 1) := dw_42 wX9_ringNeeds_c rfl
theorem dX9_ringNeeds_29 : decode cX9_ringNeeds 29 = .ok (.getfield 181, 3) := dw_180 wX9_ringNeeds_c 0 181 rfl rfl
theorem dX9_ringNeeds_32 : decode cX9_ringNeeds 32 = .ok (.if_icmp .ge 58, 3) := dw_162 wX9_ringNeeds_c 0 58 rfl rfl rfl
theorem dX9_ringNeeds_35 : decode cX9_ringNeeds 35 = .ok (.iload_n 3, 1) := dw_29 wX9_ringNeeds_c rfl
theorem dX9_ringNeeds_36 : decode cX9_ringNeeds 36 = .ok (.ifCond .le 54, 3) := dw_158 wX9_ringNeeds_c 0 54 rfl rfl rfl
theorem dX9_ringNeeds_39 : decode cX9_ringNeeds 39 = .ok (.aload_n 0, 1) := dw_42 wX9_ringNeeds_c rfl
theorem dX9_ringNeeds_40 : decode cX9_ringNeeds 40 = .ok (.getfield 66, 3) := dw_180 wX9_ringNeeds_c 0 66 rfl rfl
theorem dX9_ringNeeds_43 : decode cX9_ringNeeds 43 = .ok (.iload 4, 2) := dw_21 wX9_ringNeeds_c 4 rfl
theorem dX9_ringNeeds_45 : decode cX9_ringNeeds 45 = .ok (.iaload, 1) := dw_46 wX9_ringNeeds_c rfl
theorem dX9_ringNeeds_46 : decode cX9_ringNeeds 46 = .ok (.ifCond .le 38, 3) := dw_158 wX9_ringNeeds_c 0 38 rfl rfl rfl
theorem dX9_ringNeeds_49 : decode cX9_ringNeeds 49 = .ok (.aload_n 0, 1) := dw_42 wX9_ringNeeds_c rfl
theorem dX9_ringNeeds_50 : decode cX9_ringNeeds 50 = .ok (.getfield 79, 3) := dw_180 wX9_ringNeeds_c 0 79 rfl rfl
theorem dX9_ringNeeds_53 : decode cX9_ringNeeds 53 = .ok (.iload_n 2, 1) := dw_28 wX9_ringNeeds_c rfl
theorem dX9_ringNeeds_54 : decode cX9_ringNeeds 54 = .ok (.aload_n 0, 1) := dw_42 wX9_ringNeeds_c rfl
theorem dX9_ringNeeds_55 : decode cX9_ringNeeds 55 = .ok (.getfield 48, 3) := dw_180 wX9_ringNeeds_c 0 48 rfl rfl
theorem dX9_ringNeeds_58 : decode cX9_ringNeeds 58 = .ok (.iload 4, 2) := dw_21 wX9_ringNeeds_c 4 rfl
theorem dX9_ringNeeds_60 : decode cX9_ringNeeds 60 = .ok (.aaload, 1) := dw_50 wX9_ringNeeds_c rfl
theorem dX9_ringNeeds_61 : decode cX9_ringNeeds 61 = .ok (.invokevirtual 367, 3) := dw_182 wX9_ringNeeds_c 1 111 rfl rfl
theorem dX9_ringNeeds_64 : decode cX9_ringNeeds 64 = .ok (.ifCond .eq 20, 3) := dw_153 wX9_ringNeeds_c 0 20 rfl rfl rfl
theorem dX9_ringNeeds_67 : decode cX9_ringNeeds 67 = .ok (.iload_n 3, 1) := dw_29 wX9_ringNeeds_c rfl
theorem dX9_ringNeeds_68 : decode cX9_ringNeeds 68 = .ok (.iload_n 3, 1) := dw_29 wX9_ringNeeds_c rfl
theorem dX9_ringNeeds_69 : decode cX9_ringNeeds 69 = .ok (.aload_n 0, 1) := dw_42 wX9_ringNeeds_c rfl
theorem dX9_ringNeeds_70 : decode cX9_ringNeeds 70 = .ok (.getfield 66, 3) := dw_180 wX9_ringNeeds_c 0 66 rfl rfl
theorem dX9_ringNeeds_73 : decode cX9_ringNeeds 73 = .ok (.iload 4, 2) := dw_21 wX9_ringNeeds_c 4 rfl
theorem dX9_ringNeeds_75 : decode cX9_ringNeeds 75 = .ok (.iaload, 1) := dw_46 wX9_ringNeeds_c rfl
theorem dX9_ringNeeds_76 : decode cX9_ringNeeds 76 = .ok (.invokestatic 309, 3) := dw_184 wX9_ringNeeds_c 1 53 rfl rfl
theorem dX9_ringNeeds_79 : decode cX9_ringNeeds 79 = .ok (.isub, 1) := dw_100 wX9_ringNeeds_c rfl
theorem dX9_ringNeeds_80 : decode cX9_ringNeeds 80 = .ok (.istore_n 3, 1) := dw_62 wX9_ringNeeds_c rfl
theorem dX9_ringNeeds_81 : decode cX9_ringNeeds 81 = .ok (.iinc 1 1, 3) := dw_132 wX9_ringNeeds_c 1 1 rfl rfl rfl
theorem dX9_ringNeeds_84 : decode cX9_ringNeeds 84 = .ok (.iinc 4 1, 3) := dw_132 wX9_ringNeeds_c 4 1 rfl rfl rfl
theorem dX9_ringNeeds_87 : decode cX9_ringNeeds 87 = .ok (.goto (-61), 3) := dn_167 wX9_ringNeeds_c 255 195 rfl (by decide)
theorem dX9_ringNeeds_90 : decode cX9_ringNeeds 90 = .ok (.iinc 2 1, 3) := dw_132 wX9_ringNeeds_c 2 1 rfl rfl rfl
theorem dX9_ringNeeds_93 : decode cX9_ringNeeds 93 = .ok (.goto (-89), 3) := dn_167 wX9_ringNeeds_c 255 167 rfl (by decide)
theorem dX9_ringNeeds_96 : decode cX9_ringNeeds 96 = .ok (.iload_n 1, 1) := dw_27 wX9_ringNeeds_c rfl
theorem dX9_ringNeeds_97 : decode cX9_ringNeeds 97 = .ok (.ireturn, 1) := dw_172 wX9_ringNeeds_c rfl
def wNX9_takeOffRing : Nat := 176637885198465358398399543646547253465379569281201098922199603245780818955635250340411598092617544529490219031501946203611968915990251350480871853413760301747224747563119295791954235747102220662730949910689090540514915939868053482745869990874253512194649224403361965903360667826306505874836787239713236268691132666628592387443795134024243239752487812510762
theorem wX9_takeOffRing_c : hz_cd cX9_takeOffRing wNX9_takeOffRing 148 := ⟨by decide +kernel, by decide +kernel⟩
theorem dX9_takeOffRing_0 : decode cX9_takeOffRing 0 = .ok (.aload_n 0, 1) := dw_42 wX9_takeOffRing_c rfl
theorem dX9_takeOffRing_1 : decode cX9_takeOffRing 1 = .ok (.getfield 79, 3) := dw_180 wX9_takeOffRing_c 0 79 rfl rfl
theorem dX9_takeOffRing_4 : decode cX9_takeOffRing 4 = .ok (.getfield 364, 3) := dw_180 wX9_takeOffRing_c 1 108 rfl rfl
theorem dX9_takeOffRing_7 : decode cX9_takeOffRing 7 = .ok (.istore_n 1, 1) := dw_60 wX9_takeOffRing_c rfl
theorem dX9_takeOffRing_8 : decode cX9_takeOffRing 8 = .ok (.iconst 0, 1) := dw_3 wX9_takeOffRing_c rfl
theorem dX9_takeOffRing_9 : decode cX9_takeOffRing 9 = .ok (.istore_n 2, 1) := dw_61 wX9_takeOffRing_c rfl
theorem dX9_takeOffRing_10 : decode cX9_takeOffRing 10 = .ok (.iload_n 2, 1) := dw_28 wX9_takeOffRing_c rfl
theorem dX9_takeOffRing_11 : decode cX9_takeOffRing 11 = .ok (.aload_n 0, 1) := dw_42 wX9_takeOffRing_c rfl
theorem dX9_takeOffRing_12 : decode cX9_takeOffRing 12 = .ok (.getfield 79, 3) := dw_180 wX9_takeOffRing_c 0 79 rfl rfl
theorem dX9_takeOffRing_15 : decode cX9_takeOffRing 15 = .ok (.getfield 361, 3) := dw_180 wX9_takeOffRing_c 1 105 rfl rfl
theorem dX9_takeOffRing_18 : decode cX9_takeOffRing 18 = .ok (.if_icmp .ge 111, 3) := dw_162 wX9_takeOffRing_c 0 111 rfl rfl rfl
theorem dX9_takeOffRing_21 : decode cX9_takeOffRing 21 = .ok (.iload_n 1, 1) := dw_27 wX9_takeOffRing_c rfl
theorem dX9_takeOffRing_22 : decode cX9_takeOffRing 22 = .ok (.istore_n 3, 1) := dw_62 wX9_takeOffRing_c rfl
theorem dX9_takeOffRing_23 : decode cX9_takeOffRing 23 = .ok (.iconst 0, 1) := dw_3 wX9_takeOffRing_c rfl
theorem dX9_takeOffRing_24 : decode cX9_takeOffRing 24 = .ok (.istore 4, 2) := dw_54 wX9_takeOffRing_c 4 rfl
theorem dX9_takeOffRing_26 : decode cX9_takeOffRing 26 = .ok (.iload 4, 2) := dw_21 wX9_takeOffRing_c 4 rfl
theorem dX9_takeOffRing_28 : decode cX9_takeOffRing 28 = .ok (.aload_n 0, 1) := dw_42 wX9_takeOffRing_c rfl
theorem dX9_takeOffRing_29 : decode cX9_takeOffRing 29 = .ok (.getfield 181, 3) := dw_180 wX9_takeOffRing_c 0 181 rfl rfl
theorem dX9_takeOffRing_32 : decode cX9_takeOffRing 32 = .ok (.if_icmp .ge 91, 3) := dw_162 wX9_takeOffRing_c 0 91 rfl rfl rfl
theorem dX9_takeOffRing_35 : decode cX9_takeOffRing 35 = .ok (.iload_n 3, 1) := dw_29 wX9_takeOffRing_c rfl
theorem dX9_takeOffRing_36 : decode cX9_takeOffRing 36 = .ok (.ifCond .le 87, 3) := dw_158 wX9_takeOffRing_c 0 87 rfl rfl rfl
theorem dX9_takeOffRing_39 : decode cX9_takeOffRing 39 = .ok (.aload_n 0, 1) := dw_42 wX9_takeOffRing_c rfl
theorem dX9_takeOffRing_40 : decode cX9_takeOffRing 40 = .ok (.getfield 66, 3) := dw_180 wX9_takeOffRing_c 0 66 rfl rfl
theorem dX9_takeOffRing_43 : decode cX9_takeOffRing 43 = .ok (.iload 4, 2) := dw_21 wX9_takeOffRing_c 4 rfl
theorem dX9_takeOffRing_45 : decode cX9_takeOffRing 45 = .ok (.iaload, 1) := dw_46 wX9_takeOffRing_c rfl
theorem dX9_takeOffRing_46 : decode cX9_takeOffRing 46 = .ok (.ifCond .le 71, 3) := dw_158 wX9_takeOffRing_c 0 71 rfl rfl rfl
theorem dX9_takeOffRing_49 : decode cX9_takeOffRing 49 = .ok (.aload_n 0, 1) := dw_42 wX9_takeOffRing_c rfl
theorem dX9_takeOffRing_50 : decode cX9_takeOffRing 50 = .ok (.getfield 79, 3) := dw_180 wX9_takeOffRing_c 0 79 rfl rfl
theorem dX9_takeOffRing_53 : decode cX9_takeOffRing 53 = .ok (.iload_n 2, 1) := dw_28 wX9_takeOffRing_c rfl
theorem dX9_takeOffRing_54 : decode cX9_takeOffRing 54 = .ok (.aload_n 0, 1) := dw_42 wX9_takeOffRing_c rfl
theorem dX9_takeOffRing_55 : decode cX9_takeOffRing 55 = .ok (.getfield 48, 3) := dw_180 wX9_takeOffRing_c 0 48 rfl rfl
theorem dX9_takeOffRing_58 : decode cX9_takeOffRing 58 = .ok (.iload 4, 2) := dw_21 wX9_takeOffRing_c 4 rfl
theorem dX9_takeOffRing_60 : decode cX9_takeOffRing 60 = .ok (.aaload, 1) := dw_50 wX9_takeOffRing_c rfl
theorem dX9_takeOffRing_61 : decode cX9_takeOffRing 61 = .ok (.invokevirtual 367, 3) := dw_182 wX9_takeOffRing_c 1 111 rfl rfl
theorem dX9_takeOffRing_64 : decode cX9_takeOffRing 64 = .ok (.ifCond .eq 53, 3) := dw_153 wX9_takeOffRing_c 0 53 rfl rfl rfl
theorem dX9_takeOffRing_67 : decode cX9_takeOffRing 67 = .ok (.iload_n 3, 1) := dw_29 wX9_takeOffRing_c rfl
theorem dX9_takeOffRing_68 : decode cX9_takeOffRing 68 = .ok (.aload_n 0, 1) := dw_42 wX9_takeOffRing_c rfl
theorem dX9_takeOffRing_69 : decode cX9_takeOffRing 69 = .ok (.getfield 66, 3) := dw_180 wX9_takeOffRing_c 0 66 rfl rfl
theorem dX9_takeOffRing_72 : decode cX9_takeOffRing 72 = .ok (.iload 4, 2) := dw_21 wX9_takeOffRing_c 4 rfl
theorem dX9_takeOffRing_74 : decode cX9_takeOffRing 74 = .ok (.iaload, 1) := dw_46 wX9_takeOffRing_c rfl
theorem dX9_takeOffRing_75 : decode cX9_takeOffRing 75 = .ok (.invokestatic 309, 3) := dw_184 wX9_takeOffRing_c 1 53 rfl rfl
theorem dX9_takeOffRing_78 : decode cX9_takeOffRing 78 = .ok (.istore 5, 2) := dw_54 wX9_takeOffRing_c 5 rfl
theorem dX9_takeOffRing_80 : decode cX9_takeOffRing 80 = .ok (.aload_n 0, 1) := dw_42 wX9_takeOffRing_c rfl
theorem dX9_takeOffRing_81 : decode cX9_takeOffRing 81 = .ok (.getfield 58, 3) := dw_180 wX9_takeOffRing_c 0 58 rfl rfl
theorem dX9_takeOffRing_84 : decode cX9_takeOffRing 84 = .ok (.iload 4, 2) := dw_21 wX9_takeOffRing_c 4 rfl
theorem dX9_takeOffRing_86 : decode cX9_takeOffRing 86 = .ok (.aload_n 0, 1) := dw_42 wX9_takeOffRing_c rfl
theorem dX9_takeOffRing_87 : decode cX9_takeOffRing 87 = .ok (.getfield 94, 3) := dw_180 wX9_takeOffRing_c 0 94 rfl rfl
theorem dX9_takeOffRing_90 : decode cX9_takeOffRing 90 = .ok (.aload_n 0, 1) := dw_42 wX9_takeOffRing_c rfl
theorem dX9_takeOffRing_91 : decode cX9_takeOffRing 91 = .ok (.getfield 94, 3) := dw_180 wX9_takeOffRing_c 0 94 rfl rfl
theorem dX9_takeOffRing_94 : decode cX9_takeOffRing 94 = .ok (.iload 5, 2) := dw_21 wX9_takeOffRing_c 5 rfl
theorem dX9_takeOffRing_96 : decode cX9_takeOffRing 96 = .ok (.invokevirtual 282, 3) := dw_182 wX9_takeOffRing_c 1 26 rfl rfl
theorem dX9_takeOffRing_99 : decode cX9_takeOffRing 99 = .ok (.pop, 1) := dw_87 wX9_takeOffRing_c rfl
theorem dX9_takeOffRing_100 : decode cX9_takeOffRing 100 = .ok (.aload_n 0, 1) := dw_42 wX9_takeOffRing_c rfl
theorem dX9_takeOffRing_101 : decode cX9_takeOffRing 101 = .ok (.getfield 66, 3) := dw_180 wX9_takeOffRing_c 0 66 rfl rfl
theorem dX9_takeOffRing_104 : decode cX9_takeOffRing 104 = .ok (.iload 4, 2) := dw_21 wX9_takeOffRing_c 4 rfl
theorem dX9_takeOffRing_106 : decode cX9_takeOffRing 106 = .ok (.dup2, 1) := dw_92 wX9_takeOffRing_c rfl
theorem dX9_takeOffRing_107 : decode cX9_takeOffRing 107 = .ok (.iaload, 1) := dw_46 wX9_takeOffRing_c rfl
theorem dX9_takeOffRing_108 : decode cX9_takeOffRing 108 = .ok (.iload 5, 2) := dw_21 wX9_takeOffRing_c 5 rfl
theorem dX9_takeOffRing_110 : decode cX9_takeOffRing 110 = .ok (.isub, 1) := dw_100 wX9_takeOffRing_c rfl
theorem dX9_takeOffRing_111 : decode cX9_takeOffRing 111 = .ok (.iastore, 1) := dw_79 wX9_takeOffRing_c rfl
theorem dX9_takeOffRing_112 : decode cX9_takeOffRing 112 = .ok (.iload_n 3, 1) := dw_29 wX9_takeOffRing_c rfl
theorem dX9_takeOffRing_113 : decode cX9_takeOffRing 113 = .ok (.iload 5, 2) := dw_21 wX9_takeOffRing_c 5 rfl
theorem dX9_takeOffRing_115 : decode cX9_takeOffRing 115 = .ok (.isub, 1) := dw_100 wX9_takeOffRing_c rfl
theorem dX9_takeOffRing_116 : decode cX9_takeOffRing 116 = .ok (.istore_n 3, 1) := dw_62 wX9_takeOffRing_c rfl
theorem dX9_takeOffRing_117 : decode cX9_takeOffRing 117 = .ok (.iinc 4 1, 3) := dw_132 wX9_takeOffRing_c 4 1 rfl rfl rfl
theorem dX9_takeOffRing_120 : decode cX9_takeOffRing 120 = .ok (.goto (-94), 3) := dn_167 wX9_takeOffRing_c 255 162 rfl (by decide)
theorem dX9_takeOffRing_123 : decode cX9_takeOffRing 123 = .ok (.iinc 2 1, 3) := dw_132 wX9_takeOffRing_c 2 1 rfl rfl rfl
theorem dX9_takeOffRing_126 : decode cX9_takeOffRing 126 = .ok (.goto (-116), 3) := dn_167 wX9_takeOffRing_c 255 140 rfl (by decide)
theorem dX9_takeOffRing_129 : decode cX9_takeOffRing 129 = .ok (.iload_n 1, 1) := dw_27 wX9_takeOffRing_c rfl
theorem dX9_takeOffRing_130 : decode cX9_takeOffRing 130 = .ok (.aload_n 0, 1) := dw_42 wX9_takeOffRing_c rfl
theorem dX9_takeOffRing_131 : decode cX9_takeOffRing 131 = .ok (.getfield 79, 3) := dw_180 wX9_takeOffRing_c 0 79 rfl rfl
theorem dX9_takeOffRing_134 : decode cX9_takeOffRing 134 = .ok (.getfield 361, 3) := dw_180 wX9_takeOffRing_c 1 105 rfl rfl
theorem dX9_takeOffRing_137 : decode cX9_takeOffRing 137 = .ok (.imul, 1) := dw_104 wX9_takeOffRing_c rfl
theorem dX9_takeOffRing_138 : decode cX9_takeOffRing 138 = .ok (.istore_n 2, 1) := dw_61 wX9_takeOffRing_c rfl
theorem dX9_takeOffRing_139 : decode cX9_takeOffRing 139 = .ok (.aload_n 0, 1) := dw_42 wX9_takeOffRing_c rfl
theorem dX9_takeOffRing_140 : decode cX9_takeOffRing 140 = .ok (.getfield 79, 3) := dw_180 wX9_takeOffRing_c 0 79 rfl rfl
theorem dX9_takeOffRing_143 : decode cX9_takeOffRing 143 = .ok (.invokevirtual 371, 3) := dw_182 wX9_takeOffRing_c 1 115 rfl rfl
theorem dX9_takeOffRing_146 : decode cX9_takeOffRing 146 = .ok (.iload_n 2, 1) := dw_28 wX9_takeOffRing_c rfl
theorem dX9_takeOffRing_147 : decode cX9_takeOffRing 147 = .ok (.ireturn, 1) := dw_172 wX9_takeOffRing_c rfl
def wNX9_net : Nat := 2229452320598240509620504406030441163295737338275923901018118281847251018884835624490480997468710194021191482609164386167218269667963008496162246530453792982637267254962826902730763049414962771832054355544161374132570852698765646711457397544887692553935044758552747241081323889016070243973158760857907038421534729645484998177834
theorem wX9_net_c : hz_cd cX9_net wNX9_net 136 := ⟨by decide +kernel, by decide +kernel⟩
theorem dX9_net_0 : decode cX9_net 0 = .ok (.aload_n 0, 1) := dw_42 wX9_net_c rfl
theorem dX9_net_1 : decode cX9_net 1 = .ok (.getfield 79, 3) := dw_180 wX9_net_c 0 79 rfl rfl
theorem dX9_net_4 : decode cX9_net 4 = .ok (.aload_n 0, 1) := dw_42 wX9_net_c rfl
theorem dX9_net_5 : decode cX9_net 5 = .ok (.getfield 125, 3) := dw_180 wX9_net_c 0 125 rfl rfl
theorem dX9_net_8 : decode cX9_net 8 = .ok (.invokevirtual 346, 3) := dw_182 wX9_net_c 1 90 rfl rfl
theorem dX9_net_11 : decode cX9_net 11 = .ok (.iconst 0, 1) := dw_3 wX9_net_c rfl
theorem dX9_net_12 : decode cX9_net 12 = .ok (.istore_n 1, 1) := dw_60 wX9_net_c rfl
theorem dX9_net_13 : decode cX9_net 13 = .ok (.iload_n 1, 1) := dw_27 wX9_net_c rfl
theorem dX9_net_14 : decode cX9_net 14 = .ok (.aload_n 0, 1) := dw_42 wX9_net_c rfl
theorem dX9_net_15 : decode cX9_net 15 = .ok (.getfield 181, 3) := dw_180 wX9_net_c 0 181 rfl rfl
theorem dX9_net_18 : decode cX9_net 18 = .ok (.if_icmp .ge 65, 3) := dw_162 wX9_net_c 0 65 rfl rfl rfl
theorem dX9_net_21 : decode cX9_net 21 = .ok (.aload_n 0, 1) := dw_42 wX9_net_c rfl
theorem dX9_net_22 : decode cX9_net 22 = .ok (.getfield 48, 3) := dw_180 wX9_net_c 0 48 rfl rfl
theorem dX9_net_25 : decode cX9_net 25 = .ok (.iload_n 1, 1) := dw_27 wX9_net_c rfl
theorem dX9_net_26 : decode cX9_net 26 = .ok (.aaload, 1) := dw_50 wX9_net_c rfl
theorem dX9_net_27 : decode cX9_net 27 = .ok (.astore_n 2, 1) := dw_77 wX9_net_c rfl
theorem dX9_net_28 : decode cX9_net 28 = .ok (.aload_n 0, 1) := dw_42 wX9_net_c rfl
theorem dX9_net_29 : decode cX9_net 29 = .ok (.getfield 66, 3) := dw_180 wX9_net_c 0 66 rfl rfl
theorem dX9_net_32 : decode cX9_net 32 = .ok (.iload_n 1, 1) := dw_27 wX9_net_c rfl
theorem dX9_net_33 : decode cX9_net 33 = .ok (.aload_n 2, 1) := dw_44 wX9_net_c rfl
theorem dX9_net_34 : decode cX9_net 34 = .ok (.aload_n 0, 1) := dw_42 wX9_net_c rfl
theorem dX9_net_35 : decode cX9_net 35 = .ok (.getfield 58, 3) := dw_180 wX9_net_c 0 58 rfl rfl
theorem dX9_net_38 : decode cX9_net 38 = .ok (.aload_n 0, 1) := dw_42 wX9_net_c rfl
theorem dX9_net_39 : decode cX9_net 39 = .ok (.getfield 94, 3) := dw_180 wX9_net_c 0 94 rfl rfl
theorem dX9_net_42 : decode cX9_net 42 = .ok (.aload_n 0, 1) := dw_42 wX9_net_c rfl
theorem dX9_net_43 : decode cX9_net 43 = .ok (.getfield 94, 3) := dw_180 wX9_net_c 0 94 rfl rfl
theorem dX9_net_46 : decode cX9_net 46 = .ok (.invokevirtual 302, 3) := dw_182 wX9_net_c 1 46 rfl rfl
theorem dX9_net_49 : decode cX9_net 49 = .ok (.iastore, 1) := dw_79 wX9_net_c rfl
theorem dX9_net_50 : decode cX9_net 50 = .ok (.aload_n 0, 1) := dw_42 wX9_net_c rfl
theorem dX9_net_51 : decode cX9_net 51 = .ok (.getfield 79, 3) := dw_180 wX9_net_c 0 79 rfl rfl
theorem dX9_net_54 : decode cX9_net 54 = .ok (.aload_n 2, 1) := dw_44 wX9_net_c rfl
theorem dX9_net_55 : decode cX9_net 55 = .ok (.getfield 212, 3) := dw_180 wX9_net_c 0 212 rfl rfl
theorem dX9_net_58 : decode cX9_net 58 = .ok (.getfield 143, 3) := dw_180 wX9_net_c 0 143 rfl rfl
theorem dX9_net_61 : decode cX9_net 61 = .ok (.aload_n 2, 1) := dw_44 wX9_net_c rfl
theorem dX9_net_62 : decode cX9_net 62 = .ok (.getfield 223, 3) := dw_180 wX9_net_c 0 223 rfl rfl
theorem dX9_net_65 : decode cX9_net 65 = .ok (.getfield 143, 3) := dw_180 wX9_net_c 0 143 rfl rfl
theorem dX9_net_68 : decode cX9_net 68 = .ok (.aload_n 0, 1) := dw_42 wX9_net_c rfl
theorem dX9_net_69 : decode cX9_net 69 = .ok (.getfield 66, 3) := dw_180 wX9_net_c 0 66 rfl rfl
theorem dX9_net_72 : decode cX9_net 72 = .ok (.iload_n 1, 1) := dw_27 wX9_net_c rfl
theorem dX9_net_73 : decode cX9_net 73 = .ok (.iaload, 1) := dw_46 wX9_net_c rfl
theorem dX9_net_74 : decode cX9_net 74 = .ok (.invokevirtual 348, 3) := dw_182 wX9_net_c 1 92 rfl rfl
theorem dX9_net_77 : decode cX9_net 77 = .ok (.iinc 1 1, 3) := dw_132 wX9_net_c 1 1 rfl rfl rfl
theorem dX9_net_80 : decode cX9_net 80 = .ok (.goto (-67), 3) := dn_167 wX9_net_c 255 189 rfl (by decide)
theorem dX9_net_83 : decode cX9_net 83 = .ok (.iconst 0, 1) := dw_3 wX9_net_c rfl
theorem dX9_net_84 : decode cX9_net 84 = .ok (.istore_n 1, 1) := dw_60 wX9_net_c rfl
theorem dX9_net_85 : decode cX9_net 85 = .ok (.iconst 0, 1) := dw_3 wX9_net_c rfl
theorem dX9_net_86 : decode cX9_net 86 = .ok (.istore_n 2, 1) := dw_61 wX9_net_c rfl
theorem dX9_net_87 : decode cX9_net 87 = .ok (.iload_n 2, 1) := dw_28 wX9_net_c rfl
theorem dX9_net_88 : decode cX9_net 88 = .ok (.bipush 100, 2) := dw_16 wX9_net_c 100 rfl rfl rfl
theorem dX9_net_90 : decode cX9_net 90 = .ok (.if_icmp .ge 44, 3) := dw_162 wX9_net_c 0 44 rfl rfl rfl
theorem dX9_net_93 : decode cX9_net 93 = .ok (.aload_n 0, 1) := dw_42 wX9_net_c rfl
theorem dX9_net_94 : decode cX9_net 94 = .ok (.getfield 79, 3) := dw_180 wX9_net_c 0 79 rfl rfl
theorem dX9_net_97 : decode cX9_net 97 = .ok (.invokevirtual 351, 3) := dw_182 wX9_net_c 1 95 rfl rfl
theorem dX9_net_100 : decode cX9_net 100 = .ok (.ifCond .eq 34, 3) := dw_153 wX9_net_c 0 34 rfl rfl rfl
theorem dX9_net_103 : decode cX9_net 103 = .ok (.aload_n 0, 1) := dw_42 wX9_net_c rfl
theorem dX9_net_104 : decode cX9_net 104 = .ok (.invokevirtual 355, 3) := dw_182 wX9_net_c 1 99 rfl rfl
theorem dX9_net_107 : decode cX9_net 107 = .ok (.sipush 600, 3) := dw_17 wX9_net_c 2 88 rfl rfl rfl
theorem dX9_net_110 : decode cX9_net 110 = .ok (.aload_n 0, 1) := dw_42 wX9_net_c rfl
theorem dX9_net_111 : decode cX9_net 111 = .ok (.getfield 58, 3) := dw_180 wX9_net_c 0 58 rfl rfl
theorem dX9_net_114 : decode cX9_net 114 = .ok (.getfield 278, 3) := dw_180 wX9_net_c 1 22 rfl rfl
theorem dX9_net_117 : decode cX9_net 117 = .ok (.isub, 1) := dw_100 wX9_net_c rfl
theorem dX9_net_118 : decode cX9_net 118 = .ok (.if_icmp .gt 16, 3) := dw_163 wX9_net_c 0 16 rfl rfl rfl
theorem dX9_net_121 : decode cX9_net 121 = .ok (.iload_n 1, 1) := dw_27 wX9_net_c rfl
theorem dX9_net_122 : decode cX9_net 122 = .ok (.aload_n 0, 1) := dw_42 wX9_net_c rfl
theorem dX9_net_123 : decode cX9_net 123 = .ok (.invokevirtual 358, 3) := dw_182 wX9_net_c 1 102 rfl rfl
theorem dX9_net_126 : decode cX9_net 126 = .ok (.iadd, 1) := dw_96 wX9_net_c rfl
theorem dX9_net_127 : decode cX9_net 127 = .ok (.istore_n 1, 1) := dw_60 wX9_net_c rfl
theorem dX9_net_128 : decode cX9_net 128 = .ok (.iinc 2 1, 3) := dw_132 wX9_net_c 2 1 rfl rfl rfl
theorem dX9_net_131 : decode cX9_net 131 = .ok (.goto (-44), 3) := dn_167 wX9_net_c 255 212 rfl (by decide)
theorem dX9_net_134 : decode cX9_net 134 = .ok (.iload_n 1, 1) := dw_27 wX9_net_c rfl
theorem dX9_net_135 : decode cX9_net 135 = .ok (.ireturn, 1) := dw_172 wX9_net_c rfl