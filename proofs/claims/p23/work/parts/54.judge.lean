def wNX10_isSo : Nat := 3256512975153195686673397396021529570270166237637785652349524487305002611201459294137119498874033615798774307121107917763193095541755438788339454476450513838487573688602347727551807612590000736409433138265481168973677347983458616497326652231336625866144607695643523357613109184749773098575062643391463403300051706451553928293701655981961277706343866628851841837081176133645354
theorem wX10_isSo_c : hz_cd cX10_isSo wNX10_isSo 156 := ⟨by decide +kernel, by decide +kernel⟩
theorem dX10_isSo_0 : decode cX10_isSo 0 = .ok (.aload_n 0, 1) := dw_42 wX10_isSo_c rfl
theorem dX10_isSo_1 : decode cX10_isSo 1 = .ok (.getfield 129, 3) := dw_180 wX10_isSo_c 0 129 rfl rfl
theorem dX10_isSo_4 : decode cX10_isSo 4 = .ok (.bipush 8, 2) := dw_16 wX10_isSo_c 8 rfl rfl rfl
theorem dX10_isSo_6 : decode cX10_isSo 6 = .ok (.iload_n 1, 1) := dw_27 wX10_isSo_c rfl
theorem dX10_isSo_7 : decode cX10_isSo 7 = .ok (.imul, 1) := dw_104 wX10_isSo_c rfl
theorem dX10_isSo_8 : decode cX10_isSo 8 = .ok (.iload_n 2, 1) := dw_28 wX10_isSo_c rfl
theorem dX10_isSo_9 : decode cX10_isSo 9 = .ok (.ldc_w 268, 3) := dw_19 wX10_isSo_c 1 12 rfl rfl
theorem dX10_isSo_12 : decode cX10_isSo 12 = .ok (.idiv, 1) := dw_108 wX10_isSo_c rfl
theorem dX10_isSo_13 : decode cX10_isSo 13 = .ok (.iadd, 1) := dw_96 wX10_isSo_c rfl
theorem dX10_isSo_14 : decode cX10_isSo 14 = .ok (.iconst 1, 1) := dw_4 wX10_isSo_c rfl
theorem dX10_isSo_15 : decode cX10_isSo 15 = .ok (.isub, 1) := dw_100 wX10_isSo_c rfl
theorem dX10_isSo_16 : decode cX10_isSo 16 = .ok (.iaload, 1) := dw_46 wX10_isSo_c rfl
theorem dX10_isSo_17 : decode cX10_isSo 17 = .ok (.istore_n 3, 1) := dw_62 wX10_isSo_c rfl
theorem dX10_isSo_18 : decode cX10_isSo 18 = .ok (.iload_n 2, 1) := dw_28 wX10_isSo_c rfl
theorem dX10_isSo_19 : decode cX10_isSo 19 = .ok (.ldc_w 269, 3) := dw_19 wX10_isSo_c 1 13 rfl rfl
theorem dX10_isSo_22 : decode cX10_isSo 22 = .ok (.irem, 1) := dw_112 wX10_isSo_c rfl
theorem dX10_isSo_23 : decode cX10_isSo 23 = .ok (.istore 4, 2) := dw_54 wX10_isSo_c 4 rfl
theorem dX10_isSo_25 : decode cX10_isSo 25 = .ok (.iload 4, 2) := dw_21 wX10_isSo_c 4 rfl
theorem dX10_isSo_27 : decode cX10_isSo 27 = .ok (.sipush 10000, 3) := dw_17 wX10_isSo_c 39 16 rfl rfl rfl
theorem dX10_isSo_30 : decode cX10_isSo 30 = .ok (.if_icmp .lt 22, 3) := dw_161 wX10_isSo_c 0 22 rfl rfl rfl
theorem dX10_isSo_33 : decode cX10_isSo 33 = .ok (.aload_n 0, 1) := dw_42 wX10_isSo_c rfl
theorem dX10_isSo_34 : decode cX10_isSo 34 = .ok (.getfield 129, 3) := dw_180 wX10_isSo_c 0 129 rfl rfl
theorem dX10_isSo_37 : decode cX10_isSo 37 = .ok (.bipush 8, 2) := dw_16 wX10_isSo_c 8 rfl rfl rfl
theorem dX10_isSo_39 : decode cX10_isSo 39 = .ok (.iload_n 1, 1) := dw_27 wX10_isSo_c rfl
theorem dX10_isSo_40 : decode cX10_isSo 40 = .ok (.imul, 1) := dw_104 wX10_isSo_c rfl
theorem dX10_isSo_41 : decode cX10_isSo 41 = .ok (.iload 4, 2) := dw_21 wX10_isSo_c 4 rfl
theorem dX10_isSo_43 : decode cX10_isSo 43 = .ok (.iadd, 1) := dw_96 wX10_isSo_c rfl
theorem dX10_isSo_44 : decode cX10_isSo 44 = .ok (.sipush 10000, 3) := dw_17 wX10_isSo_c 39 16 rfl rfl rfl
theorem dX10_isSo_47 : decode cX10_isSo 47 = .ok (.isub, 1) := dw_100 wX10_isSo_c rfl
theorem dX10_isSo_48 : decode cX10_isSo 48 = .ok (.iaload, 1) := dw_46 wX10_isSo_c rfl
theorem dX10_isSo_49 : decode cX10_isSo 49 = .ok (.goto 5, 3) := dw_167 wX10_isSo_c 0 5 rfl rfl rfl
theorem dX10_isSo_52 : decode cX10_isSo 52 = .ok (.iload 4, 2) := dw_21 wX10_isSo_c 4 rfl
theorem dX10_isSo_54 : decode cX10_isSo 54 = .ok (.istore 5, 2) := dw_54 wX10_isSo_c 5 rfl
theorem dX10_isSo_56 : decode cX10_isSo 56 = .ok (.iload_n 2, 1) := dw_28 wX10_isSo_c rfl
theorem dX10_isSo_57 : decode cX10_isSo 57 = .ok (.ldc_w 269, 3) := dw_19 wX10_isSo_c 1 13 rfl rfl
theorem dX10_isSo_60 : decode cX10_isSo 60 = .ok (.idiv, 1) := dw_108 wX10_isSo_c rfl
theorem dX10_isSo_61 : decode cX10_isSo 61 = .ok (.bipush 10, 2) := dw_16 wX10_isSo_c 10 rfl rfl rfl
theorem dX10_isSo_63 : decode cX10_isSo 63 = .ok (.irem, 1) := dw_112 wX10_isSo_c rfl
theorem dX10_isSo_64 : decode cX10_isSo 64 = .ok (.tableswitch 80 0 3 #[32, 44, 56, 68], 32) := by decide +kernel
theorem dX10_isSo_96 : decode cX10_isSo 96 = .ok (.iload_n 3, 1) := dw_29 wX10_isSo_c rfl
theorem dX10_isSo_97 : decode cX10_isSo 97 = .ok (.iload 5, 2) := dw_21 wX10_isSo_c 5 rfl
theorem dX10_isSo_99 : decode cX10_isSo 99 = .ok (.if_icmp .ge 7, 3) := dw_162 wX10_isSo_c 0 7 rfl rfl rfl
theorem dX10_isSo_102 : decode cX10_isSo 102 = .ok (.iconst 1, 1) := dw_4 wX10_isSo_c rfl
theorem dX10_isSo_103 : decode cX10_isSo 103 = .ok (.goto 4, 3) := dw_167 wX10_isSo_c 0 4 rfl rfl rfl
theorem dX10_isSo_106 : decode cX10_isSo 106 = .ok (.iconst 0, 1) := dw_3 wX10_isSo_c rfl
theorem dX10_isSo_107 : decode cX10_isSo 107 = .ok (.ireturn, 1) := dw_172 wX10_isSo_c rfl
theorem dX10_isSo_108 : decode cX10_isSo 108 = .ok (.iload_n 3, 1) := dw_29 wX10_isSo_c rfl
theorem dX10_isSo_109 : decode cX10_isSo 109 = .ok (.iload 5, 2) := dw_21 wX10_isSo_c 5 rfl
theorem dX10_isSo_111 : decode cX10_isSo 111 = .ok (.if_icmp .gt 7, 3) := dw_163 wX10_isSo_c 0 7 rfl rfl rfl
theorem dX10_isSo_114 : decode cX10_isSo 114 = .ok (.iconst 1, 1) := dw_4 wX10_isSo_c rfl
theorem dX10_isSo_115 : decode cX10_isSo 115 = .ok (.goto 4, 3) := dw_167 wX10_isSo_c 0 4 rfl rfl rfl
theorem dX10_isSo_118 : decode cX10_isSo 118 = .ok (.iconst 0, 1) := dw_3 wX10_isSo_c rfl
theorem dX10_isSo_119 : decode cX10_isSo 119 = .ok (.ireturn, 1) := dw_172 wX10_isSo_c rfl
theorem dX10_isSo_120 : decode cX10_isSo 120 = .ok (.iload_n 3, 1) := dw_29 wX10_isSo_c rfl
theorem dX10_isSo_121 : decode cX10_isSo 121 = .ok (.iload 5, 2) := dw_21 wX10_isSo_c 5 rfl
theorem dX10_isSo_123 : decode cX10_isSo 123 = .ok (.if_icmp .ne 7, 3) := dw_160 wX10_isSo_c 0 7 rfl rfl rfl
theorem dX10_isSo_126 : decode cX10_isSo 126 = .ok (.iconst 1, 1) := dw_4 wX10_isSo_c rfl
theorem dX10_isSo_127 : decode cX10_isSo 127 = .ok (.goto 4, 3) := dw_167 wX10_isSo_c 0 4 rfl rfl rfl
theorem dX10_isSo_130 : decode cX10_isSo 130 = .ok (.iconst 0, 1) := dw_3 wX10_isSo_c rfl
theorem dX10_isSo_131 : decode cX10_isSo 131 = .ok (.ireturn, 1) := dw_172 wX10_isSo_c rfl
theorem dX10_isSo_132 : decode cX10_isSo 132 = .ok (.iload_n 3, 1) := dw_29 wX10_isSo_c rfl
theorem dX10_isSo_133 : decode cX10_isSo 133 = .ok (.iload 5, 2) := dw_21 wX10_isSo_c 5 rfl
theorem dX10_isSo_135 : decode cX10_isSo 135 = .ok (.if_icmp .lt 7, 3) := dw_161 wX10_isSo_c 0 7 rfl rfl rfl
theorem dX10_isSo_138 : decode cX10_isSo 138 = .ok (.iconst 1, 1) := dw_4 wX10_isSo_c rfl
theorem dX10_isSo_139 : decode cX10_isSo 139 = .ok (.goto 4, 3) := dw_167 wX10_isSo_c 0 4 rfl rfl rfl
theorem dX10_isSo_142 : decode cX10_isSo 142 = .ok (.iconst 0, 1) := dw_3 wX10_isSo_c rfl
theorem dX10_isSo_143 : decode cX10_isSo 143 = .ok (.ireturn, 1) := dw_172 wX10_isSo_c rfl
theorem dX10_isSo_144 : decode cX10_isSo 144 = .ok (.iload_n 3, 1) := dw_29 wX10_isSo_c rfl
theorem dX10_isSo_145 : decode cX10_isSo 145 = .ok (.iload 5, 2) := dw_21 wX10_isSo_c 5 rfl
theorem dX10_isSo_147 : decode cX10_isSo 147 = .ok (.if_icmp .le 7, 3) := dw_164 wX10_isSo_c 0 7 rfl rfl rfl
theorem dX10_isSo_150 : decode cX10_isSo 150 = .ok (.iconst 1, 1) := dw_4 wX10_isSo_c rfl
theorem dX10_isSo_151 : decode cX10_isSo 151 = .ok (.goto 4, 3) := dw_167 wX10_isSo_c 0 4 rfl rfl rfl
theorem dX10_isSo_154 : decode cX10_isSo 154 = .ok (.iconst 0, 1) := dw_3 wX10_isSo_c rfl
theorem dX10_isSo_155 : decode cX10_isSo 155 = .ok (.ireturn, 1) := dw_172 wX10_isSo_c rfl
def wNX10_isProved : Nat := 72701825441719444105398154638704499635968221466233670212003103328922945476931715660904213289124474481078614567975175021660924237818366588923067131835069452323801764778143075751997010706774698940631810181542644971757815502216645752463949682299357914212147884380243071827369738903052864382427525509350178264863266501119729827737595235355339192155785572651701761756471900118083588030582918510211932005224618769665692483075
theorem wX10_isProved_c : hz_cd cX10_isProved wNX10_isProved 174 := ⟨by decide +kernel, by decide +kernel⟩
theorem dX10_isProved_0 : decode cX10_isProved 0 = .ok (.iconst 0, 1) := dw_3 wX10_isProved_c rfl
theorem dX10_isProved_1 : decode cX10_isProved 1 = .ok (.istore_n 3, 1) := dw_62 wX10_isProved_c rfl
theorem dX10_isProved_2 : decode cX10_isProved 2 = .ok (.iconst 0, 1) := dw_3 wX10_isProved_c rfl
theorem dX10_isProved_3 : decode cX10_isProved 3 = .ok (.istore 4, 2) := dw_54 wX10_isProved_c 4 rfl
theorem dX10_isProved_5 : decode cX10_isProved 5 = .ok (.iload 4, 2) := dw_21 wX10_isProved_c 4 rfl
theorem dX10_isProved_7 : decode cX10_isProved 7 = .ok (.aload_n 0, 1) := dw_42 wX10_isProved_c rfl
theorem dX10_isProved_8 : decode cX10_isProved 8 = .ok (.getfield 16, 3) := dw_180 wX10_isProved_c 0 16 rfl rfl
theorem dX10_isProved_11 : decode cX10_isProved 11 = .ok (.iload_n 2, 1) := dw_28 wX10_isProved_c rfl
theorem dX10_isProved_12 : decode cX10_isProved 12 = .ok (.iaload, 1) := dw_46 wX10_isProved_c rfl
theorem dX10_isProved_13 : decode cX10_isProved 13 = .ok (.if_icmp .ge 154, 3) := dw_162 wX10_isProved_c 0 154 rfl rfl rfl
theorem dX10_isProved_16 : decode cX10_isProved 16 = .ok (.aload_n 0, 1) := dw_42 wX10_isProved_c rfl
theorem dX10_isProved_17 : decode cX10_isProved 17 = .ok (.getfield 19, 3) := dw_180 wX10_isProved_c 0 19 rfl rfl
theorem dX10_isProved_20 : decode cX10_isProved 20 = .ok (.sipush 128, 3) := dw_17 wX10_isProved_c 0 128 rfl rfl rfl
theorem dX10_isProved_23 : decode cX10_isProved 23 = .ok (.iload_n 2, 1) := dw_28 wX10_isProved_c rfl
theorem dX10_isProved_24 : decode cX10_isProved 24 = .ok (.imul, 1) := dw_104 wX10_isProved_c rfl
theorem dX10_isProved_25 : decode cX10_isProved 25 = .ok (.iload 4, 2) := dw_21 wX10_isProved_c 4 rfl
theorem dX10_isProved_27 : decode cX10_isProved 27 = .ok (.iadd, 1) := dw_96 wX10_isProved_c rfl
theorem dX10_isProved_28 : decode cX10_isProved 28 = .ok (.iaload, 1) := dw_46 wX10_isProved_c rfl
theorem dX10_isProved_29 : decode cX10_isProved 29 = .ok (.istore 5, 2) := dw_54 wX10_isProved_c 5 rfl
theorem dX10_isProved_31 : decode cX10_isProved 31 = .ok (.iload 5, 2) := dw_21 wX10_isProved_c 5 rfl
theorem dX10_isProved_33 : decode cX10_isProved 33 = .ok (.ldc_w 268, 3) := dw_19 wX10_isProved_c 1 12 rfl rfl
theorem dX10_isProved_36 : decode cX10_isProved 36 = .ok (.if_icmp .lt 22, 3) := dw_161 wX10_isProved_c 0 22 rfl rfl rfl
theorem dX10_isProved_39 : decode cX10_isProved 39 = .ok (.aload_n 0, 1) := dw_42 wX10_isProved_c rfl
theorem dX10_isProved_40 : decode cX10_isProved 40 = .ok (.getfield 162, 3) := dw_180 wX10_isProved_c 0 162 rfl rfl
theorem dX10_isProved_43 : decode cX10_isProved 43 = .ok (.iload_n 3, 1) := dw_29 wX10_isProved_c rfl
theorem dX10_isProved_44 : decode cX10_isProved 44 = .ok (.aload_n 0, 1) := dw_42 wX10_isProved_c rfl
theorem dX10_isProved_45 : decode cX10_isProved 45 = .ok (.iload_n 1, 1) := dw_27 wX10_isProved_c rfl
theorem dX10_isProved_46 : decode cX10_isProved 46 = .ok (.iload 5, 2) := dw_21 wX10_isProved_c 5 rfl
theorem dX10_isProved_48 : decode cX10_isProved 48 = .ok (.invokevirtual 373, 3) := dw_182 wX10_isProved_c 1 117 rfl rfl
theorem dX10_isProved_51 : decode cX10_isProved 51 = .ok (.bastore, 1) := dw_84 wX10_isProved_c rfl
theorem dX10_isProved_52 : decode cX10_isProved 52 = .ok (.iinc 3 1, 3) := dw_132 wX10_isProved_c 3 1 rfl rfl rfl
theorem dX10_isProved_55 : decode cX10_isProved 55 = .ok (.goto 106, 3) := dw_167 wX10_isProved_c 0 106 rfl rfl rfl
theorem dX10_isProved_58 : decode cX10_isProved 58 = .ok (.iload 5, 2) := dw_21 wX10_isProved_c 5 rfl
theorem dX10_isProved_60 : decode cX10_isProved 60 = .ok (.iconst 2, 1) := dw_5 wX10_isProved_c rfl
theorem dX10_isProved_61 : decode cX10_isProved 61 = .ok (.if_icmp .ne 30, 3) := dw_160 wX10_isProved_c 0 30 rfl rfl rfl
theorem dX10_isProved_64 : decode cX10_isProved 64 = .ok (.aload_n 0, 1) := dw_42 wX10_isProved_c rfl
theorem dX10_isProved_65 : decode cX10_isProved 65 = .ok (.getfield 162, 3) := dw_180 wX10_isProved_c 0 162 rfl rfl
theorem dX10_isProved_68 : decode cX10_isProved 68 = .ok (.iload_n 3, 1) := dw_29 wX10_isProved_c rfl
theorem dX10_isProved_69 : decode cX10_isProved 69 = .ok (.iconst 1, 1) := dw_4 wX10_isProved_c rfl
theorem dX10_isProved_70 : decode cX10_isProved 70 = .ok (.isub, 1) := dw_100 wX10_isProved_c rfl
theorem dX10_isProved_71 : decode cX10_isProved 71 = .ok (.aload_n 0, 1) := dw_42 wX10_isProved_c rfl
theorem dX10_isProved_72 : decode cX10_isProved 72 = .ok (.getfield 162, 3) := dw_180 wX10_isProved_c 0 162 rfl rfl
theorem dX10_isProved_75 : decode cX10_isProved 75 = .ok (.iload_n 3, 1) := dw_29 wX10_isProved_c rfl
theorem dX10_isProved_76 : decode cX10_isProved 76 = .ok (.iconst 1, 1) := dw_4 wX10_isProved_c rfl
theorem dX10_isProved_77 : decode cX10_isProved 77 = .ok (.isub, 1) := dw_100 wX10_isProved_c rfl
theorem dX10_isProved_78 : decode cX10_isProved 78 = .ok (.baload, 1) := dw_51 wX10_isProved_c rfl
theorem dX10_isProved_79 : decode cX10_isProved 79 = .ok (.ifCond .ne 7, 3) := dw_154 wX10_isProved_c 0 7 rfl rfl rfl
theorem dX10_isProved_82 : decode cX10_isProved 82 = .ok (.iconst 1, 1) := dw_4 wX10_isProved_c rfl
theorem dX10_isProved_83 : decode cX10_isProved 83 = .ok (.goto 4, 3) := dw_167 wX10_isProved_c 0 4 rfl rfl rfl
theorem dX10_isProved_86 : decode cX10_isProved 86 = .ok (.iconst 0, 1) := dw_3 wX10_isProved_c rfl
theorem dX10_isProved_87 : decode cX10_isProved 87 = .ok (.bastore, 1) := dw_84 wX10_isProved_c rfl
theorem dX10_isProved_88 : decode cX10_isProved 88 = .ok (.goto 73, 3) := dw_167 wX10_isProved_c 0 73 rfl rfl rfl
theorem dX10_isProved_91 : decode cX10_isProved 91 = .ok (.iinc 3 (-1), 3) := dn_132 wX10_isProved_c 3 255 rfl (by decide)
theorem dX10_isProved_94 : decode cX10_isProved 94 = .ok (.aload_n 0, 1) := dw_42 wX10_isProved_c rfl
theorem dX10_isProved_95 : decode cX10_isProved 95 = .ok (.getfield 162, 3) := dw_180 wX10_isProved_c 0 162 rfl rfl
theorem dX10_isProved_98 : decode cX10_isProved 98 = .ok (.iload_n 3, 1) := dw_29 wX10_isProved_c rfl
theorem dX10_isProved_99 : decode cX10_isProved 99 = .ok (.iconst 1, 1) := dw_4 wX10_isProved_c rfl
theorem dX10_isProved_100 : decode cX10_isProved 100 = .ok (.isub, 1) := dw_100 wX10_isProved_c rfl
theorem dX10_isProved_101 : decode cX10_isProved 101 = .ok (.iload 5, 2) := dw_21 wX10_isProved_c 5 rfl
theorem dX10_isProved_103 : decode cX10_isProved 103 = .ok (.iconst 1, 1) := dw_4 wX10_isProved_c rfl
theorem dX10_isProved_104 : decode cX10_isProved 104 = .ok (.if_icmp .ne 31, 3) := dw_160 wX10_isProved_c 0 31 rfl rfl rfl
theorem dX10_isProved_107 : decode cX10_isProved 107 = .ok (.aload_n 0, 1) := dw_42 wX10_isProved_c rfl
theorem dX10_isProved_108 : decode cX10_isProved 108 = .ok (.getfield 162, 3) := dw_180 wX10_isProved_c 0 162 rfl rfl
theorem dX10_isProved_111 : decode cX10_isProved 111 = .ok (.iload_n 3, 1) := dw_29 wX10_isProved_c rfl
theorem dX10_isProved_112 : decode cX10_isProved 112 = .ok (.iconst 1, 1) := dw_4 wX10_isProved_c rfl
theorem dX10_isProved_113 : decode cX10_isProved 113 = .ok (.isub, 1) := dw_100 wX10_isProved_c rfl
theorem dX10_isProved_114 : decode cX10_isProved 114 = .ok (.baload, 1) := dw_51 wX10_isProved_c rfl
theorem dX10_isProved_115 : decode cX10_isProved 115 = .ok (.ifCond .eq 16, 3) := dw_153 wX10_isProved_c 0 16 rfl rfl rfl
theorem dX10_isProved_118 : decode cX10_isProved 118 = .ok (.aload_n 0, 1) := dw_42 wX10_isProved_c rfl
theorem dX10_isProved_119 : decode cX10_isProved 119 = .ok (.getfield 162, 3) := dw_180 wX10_isProved_c 0 162 rfl rfl
theorem dX10_isProved_122 : decode cX10_isProved 122 = .ok (.iload_n 3, 1) := dw_29 wX10_isProved_c rfl
theorem dX10_isProved_123 : decode cX10_isProved 123 = .ok (.baload, 1) := dw_51 wX10_isProved_c rfl
theorem dX10_isProved_124 : decode cX10_isProved 124 = .ok (.ifCond .eq 7, 3) := dw_153 wX10_isProved_c 0 7 rfl rfl rfl
theorem dX10_isProved_127 : decode cX10_isProved 127 = .ok (.iconst 1, 1) := dw_4 wX10_isProved_c rfl
theorem dX10_isProved_128 : decode cX10_isProved 128 = .ok (.goto 32, 3) := dw_167 wX10_isProved_c 0 32 rfl rfl rfl
theorem dX10_isProved_131 : decode cX10_isProved 131 = .ok (.iconst 0, 1) := dw_3 wX10_isProved_c rfl
theorem dX10_isProved_132 : decode cX10_isProved 132 = .ok (.goto 28, 3) := dw_167 wX10_isProved_c 0 28 rfl rfl rfl
theorem dX10_isProved_135 : decode cX10_isProved 135 = .ok (.aload_n 0, 1) := dw_42 wX10_isProved_c rfl
theorem dX10_isProved_136 : decode cX10_isProved 136 = .ok (.getfield 162, 3) := dw_180 wX10_isProved_c 0 162 rfl rfl
theorem dX10_isProved_139 : decode cX10_isProved 139 = .ok (.iload_n 3, 1) := dw_29 wX10_isProved_c rfl
theorem dX10_isProved_140 : decode cX10_isProved 140 = .ok (.iconst 1, 1) := dw_4 wX10_isProved_c rfl
theorem dX10_isProved_141 : decode cX10_isProved 141 = .ok (.isub, 1) := dw_100 wX10_isProved_c rfl
theorem dX10_isProved_142 : decode cX10_isProved 142 = .ok (.baload, 1) := dw_51 wX10_isProved_c rfl
theorem dX10_isProved_143 : decode cX10_isProved 143 = .ok (.ifCond .ne 12, 3) := dw_154 wX10_isProved_c 0 12 rfl rfl rfl
theorem dX10_isProved_146 : decode cX10_isProved 146 = .ok (.aload_n 0, 1) := dw_42 wX10_isProved_c rfl
theorem dX10_isProved_147 : decode cX10_isProved 147 = .ok (.getfield 162, 3) := dw_180 wX10_isProved_c 0 162 rfl rfl
theorem dX10_isProved_150 : decode cX10_isProved 150 = .ok (.iload_n 3, 1) := dw_29 wX10_isProved_c rfl
theorem dX10_isProved_151 : decode cX10_isProved 151 = .ok (.baload, 1) := dw_51 wX10_isProved_c rfl
theorem dX10_isProved_152 : decode cX10_isProved 152 = .ok (.ifCond .eq 7, 3) := dw_153 wX10_isProved_c 0 7 rfl rfl rfl
theorem dX10_isProved_155 : decode cX10_isProved 155 = .ok (.iconst 1, 1) := dw_4 wX10_isProved_c rfl
theorem dX10_isProved_156 : decode cX10_isProved 156 = .ok (.goto 4, 3) := dw_167 wX10_isProved_c 0 4 rfl rfl rfl
theorem dX10_isProved_159 : decode cX10_isProved 159 = .ok (.iconst 0, 1) := dw_3 wX10_isProved_c rfl
theorem dX10_isProved_160 : decode cX10_isProved 160 = .ok (.bastore, 1) := dw_84 wX10_isProved_c rfl
theorem dX10_isProved_161 : decode cX10_isProved 161 = .ok (.iinc 4 1, 3) := dw_132 wX10_isProved_c 4 1 rfl rfl rfl
theorem dX10_isProved_164 : decode cX10_isProved 164 = .ok (.goto (-159), 3) := dn_167 wX10_isProved_c 255 97 rfl (by decide)
theorem dX10_isProved_167 : decode cX10_isProved 167 = .ok (.aload_n 0, 1) := dw_42 wX10_isProved_c rfl
theorem dX10_isProved_168 : decode cX10_isProved 168 = .ok (.getfield 162, 3) := dw_180 wX10_isProved_c 0 162 rfl rfl
theorem dX10_isProved_171 : decode cX10_isProved 171 = .ok (.iconst 0, 1) := dw_3 wX10_isProved_c rfl
theorem dX10_isProved_172 : decode cX10_isProved 172 = .ok (.baload, 1) := dw_51 wX10_isProved_c rfl
theorem dX10_isProved_173 : decode cX10_isProved 173 = .ok (.ireturn, 1) := dw_172 wX10_isProved_c rfl
def wNX10_judges : Nat := 182740581015442745213072714719888058988136060064417008746051770079342849017229028380796720281900729700496283123850790284757473828794763163332290157857459322894591417356105644425414226986
theorem wX10_judges_c : hz_cd cX10_judges wNX10_judges 77 := ⟨by decide +kernel, by decide +kernel⟩
theorem dX10_judges_0 : decode cX10_judges 0 = .ok (.aload_n 0, 1) := dw_42 wX10_judges_c rfl
theorem dX10_judges_1 : decode cX10_judges 1 = .ok (.getfield 90, 3) := dw_180 wX10_judges_c 0 90 rfl rfl
theorem dX10_judges_4 : decode cX10_judges 4 = .ok (.iload_n 1, 1) := dw_27 wX10_judges_c rfl
theorem dX10_judges_5 : decode cX10_judges 5 = .ok (.iaload, 1) := dw_46 wX10_judges_c rfl
theorem dX10_judges_6 : decode cX10_judges 6 = .ok (.aload_n 0, 1) := dw_42 wX10_judges_c rfl
theorem dX10_judges_7 : decode cX10_judges 7 = .ok (.getfield 38, 3) := dw_180 wX10_judges_c 0 38 rfl rfl
theorem dX10_judges_10 : decode cX10_judges 10 = .ok (.aload_n 0, 1) := dw_42 wX10_judges_c rfl
theorem dX10_judges_11 : decode cX10_judges 11 = .ok (.getfield 84, 3) := dw_180 wX10_judges_c 0 84 rfl rfl
theorem dX10_judges_14 : decode cX10_judges 14 = .ok (.iload_n 1, 1) := dw_27 wX10_judges_c rfl
theorem dX10_judges_15 : decode cX10_judges 15 = .ok (.iaload, 1) := dw_46 wX10_judges_c rfl
theorem dX10_judges_16 : decode cX10_judges 16 = .ok (.iaload, 1) := dw_46 wX10_judges_c rfl
theorem dX10_judges_17 : decode cX10_judges 17 = .ok (.isub, 1) := dw_100 wX10_judges_c rfl
theorem dX10_judges_18 : decode cX10_judges 18 = .ok (.sipush 365, 3) := dw_17 wX10_judges_c 1 109 rfl rfl rfl
theorem dX10_judges_21 : decode cX10_judges 21 = .ok (.aload_n 0, 1) := dw_42 wX10_judges_c rfl
theorem dX10_judges_22 : decode cX10_judges 22 = .ok (.iload_n 2, 1) := dw_28 wX10_judges_c rfl
theorem dX10_judges_23 : decode cX10_judges 23 = .ok (.bipush 8, 2) := dw_16 wX10_judges_c 8 rfl rfl rfl
theorem dX10_judges_25 : decode cX10_judges 25 = .ok (.invokevirtual 333, 3) := dw_182 wX10_judges_c 1 77 rfl rfl
theorem dX10_judges_28 : decode cX10_judges 28 = .ok (.imul, 1) := dw_104 wX10_judges_c rfl
theorem dX10_judges_29 : decode cX10_judges 29 = .ok (.if_icmp .ge 5, 3) := dw_162 wX10_judges_c 0 5 rfl rfl rfl
theorem dX10_judges_32 : decode cX10_judges 32 = .ok (.iconst 1, 1) := dw_4 wX10_judges_c rfl
theorem dX10_judges_33 : decode cX10_judges 33 = .ok (.ireturn, 1) := dw_172 wX10_judges_c rfl
theorem dX10_judges_34 : decode cX10_judges 34 = .ok (.aload_n 0, 1) := dw_42 wX10_judges_c rfl
theorem dX10_judges_35 : decode cX10_judges 35 = .ok (.getfield 87, 3) := dw_180 wX10_judges_c 0 87 rfl rfl
theorem dX10_judges_38 : decode cX10_judges 38 = .ok (.iload_n 1, 1) := dw_27 wX10_judges_c rfl
theorem dX10_judges_39 : decode cX10_judges 39 = .ok (.iaload, 1) := dw_46 wX10_judges_c rfl
theorem dX10_judges_40 : decode cX10_judges 40 = .ok (.aload_n 0, 1) := dw_42 wX10_judges_c rfl
theorem dX10_judges_41 : decode cX10_judges 41 = .ok (.iload_n 2, 1) := dw_28 wX10_judges_c rfl
theorem dX10_judges_42 : decode cX10_judges 42 = .ok (.iconst 0, 1) := dw_3 wX10_judges_c rfl
theorem dX10_judges_43 : decode cX10_judges 43 = .ok (.invokevirtual 333, 3) := dw_182 wX10_judges_c 1 77 rfl rfl
theorem dX10_judges_46 : decode cX10_judges 46 = .ok (.if_icmp .le 5, 3) := dw_164 wX10_judges_c 0 5 rfl rfl rfl
theorem dX10_judges_49 : decode cX10_judges 49 = .ok (.iconst 2, 1) := dw_5 wX10_judges_c rfl
theorem dX10_judges_50 : decode cX10_judges 50 = .ok (.ireturn, 1) := dw_172 wX10_judges_c rfl
theorem dX10_judges_51 : decode cX10_judges 51 = .ok (.aload_n 0, 1) := dw_42 wX10_judges_c rfl
theorem dX10_judges_52 : decode cX10_judges 52 = .ok (.iload_n 1, 1) := dw_27 wX10_judges_c rfl
theorem dX10_judges_53 : decode cX10_judges 53 = .ok (.iload_n 2, 1) := dw_28 wX10_judges_c rfl
theorem dX10_judges_54 : decode cX10_judges 54 = .ok (.invokevirtual 376, 3) := dw_182 wX10_judges_c 1 120 rfl rfl
theorem dX10_judges_57 : decode cX10_judges 57 = .ok (.ifCond .eq 5, 3) := dw_153 wX10_judges_c 0 5 rfl rfl rfl
theorem dX10_judges_60 : decode cX10_judges 60 = .ok (.iconst 3, 1) := dw_6 wX10_judges_c rfl
theorem dX10_judges_61 : decode cX10_judges 61 = .ok (.ireturn, 1) := dw_172 wX10_judges_c rfl
theorem dX10_judges_62 : decode cX10_judges 62 = .ok (.aload_n 0, 1) := dw_42 wX10_judges_c rfl
theorem dX10_judges_63 : decode cX10_judges 63 = .ok (.iload_n 1, 1) := dw_27 wX10_judges_c rfl
theorem dX10_judges_64 : decode cX10_judges 64 = .ok (.iload_n 2, 1) := dw_28 wX10_judges_c rfl
theorem dX10_judges_65 : decode cX10_judges 65 = .ok (.invokevirtual 379, 3) := dw_182 wX10_judges_c 1 123 rfl rfl
theorem dX10_judges_68 : decode cX10_judges 68 = .ok (.ifCond .eq 7, 3) := dw_153 wX10_judges_c 0 7 rfl rfl rfl
theorem dX10_judges_71 : decode cX10_judges 71 = .ok (.iconst 5, 1) := dw_8 wX10_judges_c rfl
theorem dX10_judges_72 : decode cX10_judges 72 = .ok (.goto 4, 3) := dw_167 wX10_judges_c 0 4 rfl rfl rfl
theorem dX10_judges_75 : decode cX10_judges 75 = .ok (.iconst 4, 1) := dw_7 wX10_judges_c rfl
theorem dX10_judges_76 : decode cX10_judges 76 = .ok (.ireturn, 1) := dw_172 wX10_judges_c rfl
def wNX10_other : Nat := 176540197597148626048616902131439564136926856743804099131218683073123209428684027342694791103046742090274748267466479213760122856998209391681334374546460401506289909808620479765620285513161713125269252773199371934618529457001145187483773120899546044185424592453623482917151893964131403751920079852712788035123988197449500863976183579981936251891931727659547
theorem wX10_other_c : hz_cd cX10_other wNX10_other 148 := ⟨by decide +kernel, by decide +kernel⟩
theorem dX10_other_0 : decode cX10_other 0 = .ok (.iload_n 1, 1) := dw_27 wX10_other_c rfl
theorem dX10_other_1 : decode cX10_other 1 = .ok (.iconst (-1), 1) := dw_2 wX10_other_c rfl
theorem dX10_other_2 : decode cX10_other 2 = .ok (.aload_n 0, 1) := dw_42 wX10_other_c rfl
theorem dX10_other_3 : decode cX10_other 3 = .ok (.getfield 321, 3) := dw_180 wX10_other_c 1 65 rfl rfl
theorem dX10_other_6 : decode cX10_other 6 = .ok (.iconst 1, 1) := dw_4 wX10_other_c rfl
theorem dX10_other_7 : decode cX10_other 7 = .ok (.isub, 1) := dw_100 wX10_other_c rfl
theorem dX10_other_8 : decode cX10_other 8 = .ok (.invokestatic 228, 3) := dw_184 wX10_other_c 0 228 rfl rfl
theorem dX10_other_11 : decode cX10_other 11 = .ok (.ifCond .eq 13, 3) := dw_153 wX10_other_c 0 13 rfl rfl rfl
theorem dX10_other_14 : decode cX10_other 14 = .ok (.iload_n 2, 1) := dw_28 wX10_other_c rfl
theorem dX10_other_15 : decode cX10_other 15 = .ok (.iconst 1, 1) := dw_4 wX10_other_c rfl
theorem dX10_other_16 : decode cX10_other 16 = .ok (.bipush 6, 2) := dw_16 wX10_other_c 6 rfl rfl rfl
theorem dX10_other_18 : decode cX10_other 18 = .ok (.invokestatic 228, 3) := dw_184 wX10_other_c 0 228 rfl rfl
theorem dX10_other_21 : decode cX10_other 21 = .ok (.ifCond .ne 5, 3) := dw_154 wX10_other_c 0 5 rfl rfl rfl
theorem dX10_other_24 : decode cX10_other 24 = .ok (.iconst (-1), 1) := dw_2 wX10_other_c rfl
theorem dX10_other_25 : decode cX10_other 25 = .ok (.ireturn, 1) := dw_172 wX10_other_c rfl
theorem dX10_other_26 : decode cX10_other 26 = .ok (.iload_n 1, 1) := dw_27 wX10_other_c rfl
theorem dX10_other_27 : decode cX10_other 27 = .ok (.iconst 1, 1) := dw_4 wX10_other_c rfl
theorem dX10_other_28 : decode cX10_other 28 = .ok (.iadd, 1) := dw_96 wX10_other_c rfl
theorem dX10_other_29 : decode cX10_other 29 = .ok (.istore_n 3, 1) := dw_62 wX10_other_c rfl
theorem dX10_other_30 : decode cX10_other 30 = .ok (.iconst 0, 1) := dw_3 wX10_other_c rfl
theorem dX10_other_31 : decode cX10_other 31 = .ok (.istore 4, 2) := dw_54 wX10_other_c 4 rfl
theorem dX10_other_33 : decode cX10_other 33 = .ok (.iconst 0, 1) := dw_3 wX10_other_c rfl
theorem dX10_other_34 : decode cX10_other 34 = .ok (.istore 5, 2) := dw_54 wX10_other_c 5 rfl
theorem dX10_other_36 : decode cX10_other 36 = .ok (.iconst 0, 1) := dw_3 wX10_other_c rfl
theorem dX10_other_37 : decode cX10_other 37 = .ok (.istore 6, 2) := dw_54 wX10_other_c 6 rfl
theorem dX10_other_39 : decode cX10_other 39 = .ok (.iload 6, 2) := dw_21 wX10_other_c 6 rfl
theorem dX10_other_41 : decode cX10_other 41 = .ok (.aload_n 0, 1) := dw_42 wX10_other_c rfl
theorem dX10_other_42 : decode cX10_other 42 = .ok (.getfield 392, 3) := dw_180 wX10_other_c 1 136 rfl rfl
theorem dX10_other_45 : decode cX10_other 45 = .ok (.if_icmp .ge 89, 3) := dw_162 wX10_other_c 0 89 rfl rfl rfl
theorem dX10_other_48 : decode cX10_other 48 = .ok (.aload_n 0, 1) := dw_42 wX10_other_c rfl
theorem dX10_other_49 : decode cX10_other 49 = .ok (.getfield 141, 3) := dw_180 wX10_other_c 0 141 rfl rfl
theorem dX10_other_52 : decode cX10_other 52 = .ok (.iload 6, 2) := dw_21 wX10_other_c 6 rfl
theorem dX10_other_54 : decode cX10_other 54 = .ok (.iaload, 1) := dw_46 wX10_other_c rfl
theorem dX10_other_55 : decode cX10_other 55 = .ok (.istore 7, 2) := dw_54 wX10_other_c 7 rfl
theorem dX10_other_57 : decode cX10_other 57 = .ok (.aload_n 0, 1) := dw_42 wX10_other_c rfl
theorem dX10_other_58 : decode cX10_other 58 = .ok (.iload 7, 2) := dw_21 wX10_other_c 7 rfl
theorem dX10_other_60 : decode cX10_other 60 = .ok (.iload_n 3, 1) := dw_29 wX10_other_c rfl
theorem dX10_other_61 : decode cX10_other 61 = .ok (.invokevirtual 395, 3) := dw_182 wX10_other_c 1 139 rfl rfl
theorem dX10_other_64 : decode cX10_other 64 = .ok (.istore 8, 2) := dw_54 wX10_other_c 8 rfl
theorem dX10_other_66 : decode cX10_other 66 = .ok (.iload 4, 2) := dw_21 wX10_other_c 4 rfl
theorem dX10_other_68 : decode cX10_other 68 = .ok (.iload 8, 2) := dw_21 wX10_other_c 8 rfl
theorem dX10_other_70 : decode cX10_other 70 = .ok (.iload_n 2, 1) := dw_28 wX10_other_c rfl
theorem dX10_other_71 : decode cX10_other 71 = .ok (.if_icmp .ne 7, 3) := dw_160 wX10_other_c 0 7 rfl rfl rfl
theorem dX10_other_74 : decode cX10_other 74 = .ok (.iconst 1, 1) := dw_4 wX10_other_c rfl
theorem dX10_other_75 : decode cX10_other 75 = .ok (.goto 4, 3) := dw_167 wX10_other_c 0 4 rfl rfl rfl
theorem dX10_other_78 : decode cX10_other 78 = .ok (.iconst 0, 1) := dw_3 wX10_other_c rfl
theorem dX10_other_79 : decode cX10_other 79 = .ok (.iadd, 1) := dw_96 wX10_other_c rfl
theorem dX10_other_80 : decode cX10_other 80 = .ok (.istore 4, 2) := dw_54 wX10_other_c 4 rfl
theorem dX10_other_82 : decode cX10_other 82 = .ok (.iload 5, 2) := dw_21 wX10_other_c 5 rfl
theorem dX10_other_84 : decode cX10_other 84 = .ok (.aload_n 0, 1) := dw_42 wX10_other_c rfl
theorem dX10_other_85 : decode cX10_other 85 = .ok (.getfield 105, 3) := dw_180 wX10_other_c 0 105 rfl rfl
theorem dX10_other_88 : decode cX10_other 88 = .ok (.iload 7, 2) := dw_21 wX10_other_c 7 rfl
theorem dX10_other_90 : decode cX10_other 90 = .ok (.iaload, 1) := dw_46 wX10_other_c rfl
theorem dX10_other_91 : decode cX10_other 91 = .ok (.aload_n 0, 1) := dw_42 wX10_other_c rfl
theorem dX10_other_92 : decode cX10_other 92 = .ok (.iload_n 3, 1) := dw_29 wX10_other_c rfl
theorem dX10_other_93 : decode cX10_other 93 = .ok (.bipush 9, 2) := dw_16 wX10_other_c 9 rfl rfl rfl
theorem dX10_other_95 : decode cX10_other 95 = .ok (.invokevirtual 333, 3) := dw_182 wX10_other_c 1 77 rfl rfl
theorem dX10_other_98 : decode cX10_other 98 = .ok (.imul, 1) := dw_104 wX10_other_c rfl
theorem dX10_other_99 : decode cX10_other 99 = .ok (.aload_n 0, 1) := dw_42 wX10_other_c rfl
theorem dX10_other_100 : decode cX10_other 100 = .ok (.iload_n 3, 1) := dw_29 wX10_other_c rfl
theorem dX10_other_101 : decode cX10_other 101 = .ok (.bipush 10, 2) := dw_16 wX10_other_c 10 rfl rfl rfl
theorem dX10_other_103 : decode cX10_other 103 = .ok (.invokevirtual 333, 3) := dw_182 wX10_other_c 1 77 rfl rfl
theorem dX10_other_106 : decode cX10_other 106 = .ok (.iadd, 1) := dw_96 wX10_other_c rfl
theorem dX10_other_107 : decode cX10_other 107 = .ok (.iload 8, 2) := dw_21 wX10_other_c 8 rfl
theorem dX10_other_109 : decode cX10_other 109 = .ok (.iconst 5, 1) := dw_8 wX10_other_c rfl
theorem dX10_other_110 : decode cX10_other 110 = .ok (.if_icmp .ne 13, 3) := dw_160 wX10_other_c 0 13 rfl rfl rfl
theorem dX10_other_113 : decode cX10_other 113 = .ok (.aload_n 0, 1) := dw_42 wX10_other_c rfl
theorem dX10_other_114 : decode cX10_other 114 = .ok (.iload_n 3, 1) := dw_29 wX10_other_c rfl
theorem dX10_other_115 : decode cX10_other 115 = .ok (.bipush 11, 2) := dw_16 wX10_other_c 11 rfl rfl rfl
theorem dX10_other_117 : decode cX10_other 117 = .ok (.invokevirtual 333, 3) := dw_182 wX10_other_c 1 77 rfl rfl
theorem dX10_other_120 : decode cX10_other 120 = .ok (.goto 4, 3) := dw_167 wX10_other_c 0 4 rfl rfl rfl
theorem dX10_other_123 : decode cX10_other 123 = .ok (.iconst 0, 1) := dw_3 wX10_other_c rfl
theorem dX10_other_124 : decode cX10_other 124 = .ok (.iadd, 1) := dw_96 wX10_other_c rfl
theorem dX10_other_125 : decode cX10_other 125 = .ok (.iadd, 1) := dw_96 wX10_other_c rfl
theorem dX10_other_126 : decode cX10_other 126 = .ok (.istore 5, 2) := dw_54 wX10_other_c 5 rfl
theorem dX10_other_128 : decode cX10_other 128 = .ok (.iinc 6 1, 3) := dw_132 wX10_other_c 6 1 rfl rfl rfl
theorem dX10_other_131 : decode cX10_other 131 = .ok (.goto (-92), 3) := dn_167 wX10_other_c 255 164 rfl (by decide)
theorem dX10_other_134 : decode cX10_other 134 = .ok (.iload_n 2, 1) := dw_28 wX10_other_c rfl
theorem dX10_other_135 : decode cX10_other 135 = .ok (.bipush 6, 2) := dw_16 wX10_other_c 6 rfl rfl rfl
theorem dX10_other_137 : decode cX10_other 137 = .ok (.if_icmp .ne 8, 3) := dw_160 wX10_other_c 0 8 rfl rfl rfl
theorem dX10_other_140 : decode cX10_other 140 = .ok (.iload 5, 2) := dw_21 wX10_other_c 5 rfl
theorem dX10_other_142 : decode cX10_other 142 = .ok (.goto 5, 3) := dw_167 wX10_other_c 0 5 rfl rfl rfl
theorem dX10_other_145 : decode cX10_other 145 = .ok (.iload 4, 2) := dw_21 wX10_other_c 4 rfl
theorem dX10_other_147 : decode cX10_other 147 = .ok (.ireturn, 1) := dw_172 wX10_other_c rfl