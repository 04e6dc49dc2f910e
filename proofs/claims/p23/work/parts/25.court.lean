def wNX9_pay : Nat := 221015074458077351955423105153576140195297678663175132375943610428804006371182526411366350212350856996678902963476384322486306989907427811274829630847762581084635045868653131753415040455414573129847887212452650
theorem wX9_pay_c : hz_cd cX9_pay wNX9_pay 87 := ⟨by decide +kernel, by decide +kernel⟩
theorem dX9_pay_0 : decode cX9_pay 0 = .ok (.aload_n 0, 1) := dw_42 wX9_pay_c rfl
theorem dX9_pay_1 : decode cX9_pay 1 = .ok (.iload_n 1, 1) := dw_27 wX9_pay_c rfl
theorem dX9_pay_2 : decode cX9_pay 2 = .ok (.invokevirtual 200, 3) := dw_182 wX9_pay_c 0 200 rfl rfl
theorem dX9_pay_5 : decode cX9_pay 5 = .ok (.astore 4, 2) := dw_58 wX9_pay_c 4 rfl
theorem dX9_pay_7 : decode cX9_pay 7 = .ok (.aload_n 0, 1) := dw_42 wX9_pay_c rfl
theorem dX9_pay_8 : decode cX9_pay 8 = .ok (.getfield 58, 3) := dw_180 wX9_pay_c 0 58 rfl rfl
theorem dX9_pay_11 : decode cX9_pay 11 = .ok (.getfield 278, 3) := dw_180 wX9_pay_c 1 22 rfl rfl
theorem dX9_pay_14 : decode cX9_pay 14 = .ok (.sipush 600, 3) := dw_17 wX9_pay_c 2 88 rfl rfl rfl
theorem dX9_pay_17 : decode cX9_pay 17 = .ok (.if_icmp .ge 53, 3) := dw_162 wX9_pay_c 0 53 rfl rfl rfl
theorem dX9_pay_20 : decode cX9_pay 20 = .ok (.aload 4, 2) := dw_25 wX9_pay_c 4 rfl
theorem dX9_pay_22 : decode cX9_pay 22 = .ok (.ifnull 48, 3) := dw_198 wX9_pay_c 0 48 rfl rfl rfl
theorem dX9_pay_25 : decode cX9_pay 25 = .ok (.aload 4, 2) := dw_25 wX9_pay_c 4 rfl
theorem dX9_pay_27 : decode cX9_pay 27 = .ok (.getfield 253, 3) := dw_180 wX9_pay_c 0 253 rfl rfl
theorem dX9_pay_30 : decode cX9_pay 30 = .ok (.iconst (-1), 1) := dw_2 wX9_pay_c rfl
theorem dX9_pay_31 : decode cX9_pay 31 = .ok (.if_icmp .eq 39, 3) := dw_159 wX9_pay_c 0 39 rfl rfl rfl
theorem dX9_pay_34 : decode cX9_pay 34 = .ok (.aload 4, 2) := dw_25 wX9_pay_c 4 rfl
theorem dX9_pay_36 : decode cX9_pay 36 = .ok (.getfield 279, 3) := dw_180 wX9_pay_c 1 23 rfl rfl
theorem dX9_pay_39 : decode cX9_pay 39 = .ok (.iconst (-1), 1) := dw_2 wX9_pay_c rfl
theorem dX9_pay_40 : decode cX9_pay 40 = .ok (.if_icmp .ne 30, 3) := dw_160 wX9_pay_c 0 30 rfl rfl rfl
theorem dX9_pay_43 : decode cX9_pay 43 = .ok (.iload_n 2, 1) := dw_28 wX9_pay_c rfl
theorem dX9_pay_44 : decode cX9_pay 44 = .ok (.aload 4, 2) := dw_25 wX9_pay_c 4 rfl
theorem dX9_pay_46 : decode cX9_pay 46 = .ok (.getfield 253, 3) := dw_180 wX9_pay_c 0 253 rfl rfl
theorem dX9_pay_49 : decode cX9_pay 49 = .ok (.aload_n 0, 1) := dw_42 wX9_pay_c rfl
theorem dX9_pay_50 : decode cX9_pay 50 = .ok (.getfield 94, 3) := dw_180 wX9_pay_c 0 94 rfl rfl
theorem dX9_pay_53 : decode cX9_pay 53 = .ok (.invokestatic 128, 3) := dw_184 wX9_pay_c 0 128 rfl rfl
theorem dX9_pay_56 : decode cX9_pay 56 = .ok (.ifCond .eq 14, 3) := dw_153 wX9_pay_c 0 14 rfl rfl rfl
theorem dX9_pay_59 : decode cX9_pay 59 = .ok (.iload_n 3, 1) := dw_29 wX9_pay_c rfl
theorem dX9_pay_60 : decode cX9_pay 60 = .ok (.iconst 1, 1) := dw_4 wX9_pay_c rfl
theorem dX9_pay_61 : decode cX9_pay 61 = .ok (.sipush 9999, 3) := dw_17 wX9_pay_c 39 15 rfl rfl rfl
theorem dX9_pay_64 : decode cX9_pay 64 = .ok (.invokestatic 128, 3) := dw_184 wX9_pay_c 0 128 rfl rfl
theorem dX9_pay_67 : decode cX9_pay 67 = .ok (.ifCond .ne 5, 3) := dw_154 wX9_pay_c 0 5 rfl rfl rfl
theorem dX9_pay_70 : decode cX9_pay 70 = .ok (.iconst (-1), 1) := dw_2 wX9_pay_c rfl
theorem dX9_pay_71 : decode cX9_pay 71 = .ok (.ireturn, 1) := dw_172 wX9_pay_c rfl
theorem dX9_pay_72 : decode cX9_pay 72 = .ok (.aload_n 0, 1) := dw_42 wX9_pay_c rfl
theorem dX9_pay_73 : decode cX9_pay 73 = .ok (.getfield 58, 3) := dw_180 wX9_pay_c 0 58 rfl rfl
theorem dX9_pay_76 : decode cX9_pay 76 = .ok (.iload_n 1, 1) := dw_27 wX9_pay_c rfl
theorem dX9_pay_77 : decode cX9_pay 77 = .ok (.iload_n 2, 1) := dw_28 wX9_pay_c rfl
theorem dX9_pay_78 : decode cX9_pay 78 = .ok (.aload_n 0, 1) := dw_42 wX9_pay_c rfl
theorem dX9_pay_79 : decode cX9_pay 79 = .ok (.getfield 94, 3) := dw_180 wX9_pay_c 0 94 rfl rfl
theorem dX9_pay_82 : decode cX9_pay 82 = .ok (.iload_n 3, 1) := dw_29 wX9_pay_c rfl
theorem dX9_pay_83 : decode cX9_pay 83 = .ok (.invokevirtual 282, 3) := dw_182 wX9_pay_c 1 26 rfl rfl
theorem dX9_pay_86 : decode cX9_pay 86 = .ok (.ireturn, 1) := dw_172 wX9_pay_c rfl
def wNX9_strike : Nat := 1578081501606228352992019506559247186182876719656403862916416756981281305983631627586566142119003998371486491
theorem wX9_strike_c : hz_cd cX9_strike wNX9_strike 45 := ⟨by decide +kernel, by decide +kernel⟩
theorem dX9_strike_0 : decode cX9_strike 0 = .ok (.iload_n 1, 1) := dw_27 wX9_strike_c rfl
theorem dX9_strike_1 : decode cX9_strike 1 = .ok (.ifCond .lt 27, 3) := dw_155 wX9_strike_c 0 27 rfl rfl rfl
theorem dX9_strike_4 : decode cX9_strike 4 = .ok (.iload_n 1, 1) := dw_27 wX9_strike_c rfl
theorem dX9_strike_5 : decode cX9_strike 5 = .ok (.aload_n 0, 1) := dw_42 wX9_strike_c rfl
theorem dX9_strike_6 : decode cX9_strike 6 = .ok (.getfield 58, 3) := dw_180 wX9_strike_c 0 58 rfl rfl
theorem dX9_strike_9 : decode cX9_strike 9 = .ok (.getfield 278, 3) := dw_180 wX9_strike_c 1 22 rfl rfl
theorem dX9_strike_12 : decode cX9_strike 12 = .ok (.if_icmp .ge 16, 3) := dw_162 wX9_strike_c 0 16 rfl rfl rfl
theorem dX9_strike_15 : decode cX9_strike 15 = .ok (.aload_n 0, 1) := dw_42 wX9_strike_c rfl
theorem dX9_strike_16 : decode cX9_strike 16 = .ok (.getfield 58, 3) := dw_180 wX9_strike_c 0 58 rfl rfl
theorem dX9_strike_19 : decode cX9_strike 19 = .ok (.getfield 286, 3) := dw_180 wX9_strike_c 1 30 rfl rfl
theorem dX9_strike_22 : decode cX9_strike 22 = .ok (.iload_n 1, 1) := dw_27 wX9_strike_c rfl
theorem dX9_strike_23 : decode cX9_strike 23 = .ok (.iaload, 1) := dw_46 wX9_strike_c rfl
theorem dX9_strike_24 : decode cX9_strike 24 = .ok (.iconst (-1), 1) := dw_2 wX9_strike_c rfl
theorem dX9_strike_25 : decode cX9_strike 25 = .ok (.if_icmp .eq 5, 3) := dw_159 wX9_strike_c 0 5 rfl rfl rfl
theorem dX9_strike_28 : decode cX9_strike 28 = .ok (.iconst 0, 1) := dw_3 wX9_strike_c rfl
theorem dX9_strike_29 : decode cX9_strike 29 = .ok (.ireturn, 1) := dw_172 wX9_strike_c rfl
theorem dX9_strike_30 : decode cX9_strike 30 = .ok (.aload_n 0, 1) := dw_42 wX9_strike_c rfl
theorem dX9_strike_31 : decode cX9_strike 31 = .ok (.getfield 58, 3) := dw_180 wX9_strike_c 0 58 rfl rfl
theorem dX9_strike_34 : decode cX9_strike 34 = .ok (.getfield 286, 3) := dw_180 wX9_strike_c 1 30 rfl rfl
theorem dX9_strike_37 : decode cX9_strike 37 = .ok (.iload_n 1, 1) := dw_27 wX9_strike_c rfl
theorem dX9_strike_38 : decode cX9_strike 38 = .ok (.aload_n 0, 1) := dw_42 wX9_strike_c rfl
theorem dX9_strike_39 : decode cX9_strike 39 = .ok (.getfield 94, 3) := dw_180 wX9_strike_c 0 94 rfl rfl
theorem dX9_strike_42 : decode cX9_strike 42 = .ok (.iastore, 1) := dw_79 wX9_strike_c rfl
theorem dX9_strike_43 : decode cX9_strike 43 = .ok (.iconst 1, 1) := dw_4 wX9_strike_c rfl
theorem dX9_strike_44 : decode cX9_strike 44 = .ok (.ireturn, 1) := dw_172 wX9_strike_c rfl
def wNX9_order : Nat := 2228250752831920282519136570509294518629586107132122016931425887575811949915138675367670739190247730282883092649967865890310107607817769327958627513247989407019547353937696436776726118526107298236900210329935084764039906473882096897400783099351047050792599970055745559594776714574090329265203658105340812676723238298595358022442
theorem wX9_order_c : hz_cd cX9_order wNX9_order 136 := ⟨by decide +kernel, by decide +kernel⟩
theorem dX9_order_0 : decode cX9_order 0 = .ok (.aload_n 0, 1) := dw_42 wX9_order_c rfl
theorem dX9_order_1 : decode cX9_order 1 = .ok (.iload_n 1, 1) := dw_27 wX9_order_c rfl
theorem dX9_order_2 : decode cX9_order 2 = .ok (.invokevirtual 200, 3) := dw_182 wX9_order_c 0 200 rfl rfl
theorem dX9_order_5 : decode cX9_order 5 = .ok (.astore_n 3, 1) := dw_78 wX9_order_c rfl
theorem dX9_order_6 : decode cX9_order 6 = .ok (.aload_n 3, 1) := dw_45 wX9_order_c rfl
theorem dX9_order_7 : decode cX9_order 7 = .ok (.ifnull 40, 3) := dw_198 wX9_order_c 0 40 rfl rfl rfl
theorem dX9_order_10 : decode cX9_order 10 = .ok (.aload_n 3, 1) := dw_45 wX9_order_c rfl
theorem dX9_order_11 : decode cX9_order 11 = .ok (.getfield 233, 3) := dw_180 wX9_order_c 0 233 rfl rfl
theorem dX9_order_14 : decode cX9_order 14 = .ok (.iconst 5, 1) := dw_8 wX9_order_c rfl
theorem dX9_order_15 : decode cX9_order 15 = .ok (.if_icmp .ne 32, 3) := dw_160 wX9_order_c 0 32 rfl rfl rfl
theorem dX9_order_18 : decode cX9_order 18 = .ok (.aload_n 3, 1) := dw_45 wX9_order_c rfl
theorem dX9_order_19 : decode cX9_order 19 = .ok (.getfield 253, 3) := dw_180 wX9_order_c 0 253 rfl rfl
theorem dX9_order_22 : decode cX9_order 22 = .ok (.iconst (-1), 1) := dw_2 wX9_order_c rfl
theorem dX9_order_23 : decode cX9_order 23 = .ok (.if_icmp .ne 24, 3) := dw_160 wX9_order_c 0 24 rfl rfl rfl
theorem dX9_order_26 : decode cX9_order 26 = .ok (.aload_n 3, 1) := dw_45 wX9_order_c rfl
theorem dX9_order_27 : decode cX9_order 27 = .ok (.getfield 212, 3) := dw_180 wX9_order_c 0 212 rfl rfl
theorem dX9_order_30 : decode cX9_order 30 = .ok (.getfield 148, 3) := dw_180 wX9_order_c 0 148 rfl rfl
theorem dX9_order_33 : decode cX9_order 33 = .ok (.ifCond .ne 14, 3) := dw_154 wX9_order_c 0 14 rfl rfl rfl
theorem dX9_order_36 : decode cX9_order 36 = .ok (.iload_n 2, 1) := dw_28 wX9_order_c rfl
theorem dX9_order_37 : decode cX9_order 37 = .ok (.iconst 1, 1) := dw_4 wX9_order_c rfl
theorem dX9_order_38 : decode cX9_order 38 = .ok (.sipush 9999, 3) := dw_17 wX9_order_c 39 15 rfl rfl rfl
theorem dX9_order_41 : decode cX9_order 41 = .ok (.invokestatic 128, 3) := dw_184 wX9_order_c 0 128 rfl rfl
theorem dX9_order_44 : decode cX9_order 44 = .ok (.ifCond .ne 5, 3) := dw_154 wX9_order_c 0 5 rfl rfl rfl
theorem dX9_order_47 : decode cX9_order 47 = .ok (.iconst (-1), 1) := dw_2 wX9_order_c rfl
theorem dX9_order_48 : decode cX9_order 48 = .ok (.ireturn, 1) := dw_172 wX9_order_c rfl
theorem dX9_order_49 : decode cX9_order 49 = .ok (.aload_n 3, 1) := dw_45 wX9_order_c rfl
theorem dX9_order_50 : decode cX9_order 50 = .ok (.getfield 187, 3) := dw_180 wX9_order_c 0 187 rfl rfl
theorem dX9_order_53 : decode cX9_order 53 = .ok (.aload_n 3, 1) := dw_45 wX9_order_c rfl
theorem dX9_order_54 : decode cX9_order 54 = .ok (.aload_n 3, 1) := dw_45 wX9_order_c rfl
theorem dX9_order_55 : decode cX9_order 55 = .ok (.getfield 226, 3) := dw_180 wX9_order_c 0 226 rfl rfl
theorem dX9_order_58 : decode cX9_order 58 = .ok (.iconst 1, 1) := dw_4 wX9_order_c rfl
theorem dX9_order_59 : decode cX9_order 59 = .ok (.invokevirtual 256, 3) := dw_182 wX9_order_c 1 0 rfl rfl
theorem dX9_order_62 : decode cX9_order 62 = .ok (.iadd, 1) := dw_96 wX9_order_c rfl
theorem dX9_order_63 : decode cX9_order 63 = .ok (.istore 4, 2) := dw_54 wX9_order_c 4 rfl
theorem dX9_order_65 : decode cX9_order 65 = .ok (.iload_n 2, 1) := dw_28 wX9_order_c rfl
theorem dX9_order_66 : decode cX9_order 66 = .ok (.aload_n 3, 1) := dw_45 wX9_order_c rfl
theorem dX9_order_67 : decode cX9_order 67 = .ok (.getfield 226, 3) := dw_180 wX9_order_c 0 226 rfl rfl
theorem dX9_order_70 : decode cX9_order 70 = .ok (.getfield 119, 3) := dw_180 wX9_order_c 0 119 rfl rfl
theorem dX9_order_73 : decode cX9_order 73 = .ok (.iconst 3, 1) := dw_6 wX9_order_c rfl
theorem dX9_order_74 : decode cX9_order 74 = .ok (.iaload, 1) := dw_46 wX9_order_c rfl
theorem dX9_order_75 : decode cX9_order 75 = .ok (.if_icmp .ge 12, 3) := dw_162 wX9_order_c 0 12 rfl rfl rfl
theorem dX9_order_78 : decode cX9_order 78 = .ok (.iload_n 2, 1) := dw_28 wX9_order_c rfl
theorem dX9_order_79 : decode cX9_order 79 = .ok (.iload 4, 2) := dw_21 wX9_order_c 4 rfl
theorem dX9_order_81 : decode cX9_order 81 = .ok (.if_icmp .ge 6, 3) := dw_162 wX9_order_c 0 6 rfl rfl rfl
theorem dX9_order_84 : decode cX9_order 84 = .ok (.bipush (-2), 2) := dn_16 wX9_order_c 254 rfl (by decide)
theorem dX9_order_86 : decode cX9_order 86 = .ok (.ireturn, 1) := dw_172 wX9_order_c rfl
theorem dX9_order_87 : decode cX9_order 87 = .ok (.iload_n 2, 1) := dw_28 wX9_order_c rfl
theorem dX9_order_88 : decode cX9_order 88 = .ok (.aload_n 0, 1) := dw_42 wX9_order_c rfl
theorem dX9_order_89 : decode cX9_order 89 = .ok (.aload_n 3, 1) := dw_45 wX9_order_c rfl
theorem dX9_order_90 : decode cX9_order 90 = .ok (.getfield 212, 3) := dw_180 wX9_order_c 0 212 rfl rfl
theorem dX9_order_93 : decode cX9_order 93 = .ok (.invokevirtual 260, 3) := dw_182 wX9_order_c 1 4 rfl rfl
theorem dX9_order_96 : decode cX9_order 96 = .ok (.iadd, 1) := dw_96 wX9_order_c rfl
theorem dX9_order_97 : decode cX9_order 97 = .ok (.aload_n 3, 1) := dw_45 wX9_order_c rfl
theorem dX9_order_98 : decode cX9_order 98 = .ok (.getfield 212, 3) := dw_180 wX9_order_c 0 212 rfl rfl
theorem dX9_order_101 : decode cX9_order 101 = .ok (.aload_n 3, 1) := dw_45 wX9_order_c rfl
theorem dX9_order_102 : decode cX9_order 102 = .ok (.getfield 226, 3) := dw_180 wX9_order_c 0 226 rfl rfl
theorem dX9_order_105 : decode cX9_order 105 = .ok (.invokevirtual 264, 3) := dw_182 wX9_order_c 1 8 rfl rfl
theorem dX9_order_108 : decode cX9_order 108 = .ok (.if_icmp .le 6, 3) := dw_164 wX9_order_c 0 6 rfl rfl rfl
theorem dX9_order_111 : decode cX9_order 111 = .ok (.bipush (-3), 2) := dn_16 wX9_order_c 253 rfl (by decide)
theorem dX9_order_113 : decode cX9_order 113 = .ok (.ireturn, 1) := dw_172 wX9_order_c rfl
theorem dX9_order_114 : decode cX9_order 114 = .ok (.aload_n 3, 1) := dw_45 wX9_order_c rfl
theorem dX9_order_115 : decode cX9_order 115 = .ok (.iload 4, 2) := dw_21 wX9_order_c 4 rfl
theorem dX9_order_117 : decode cX9_order 117 = .ok (.putfield 268, 3) := dw_181 wX9_order_c 1 12 rfl rfl
theorem dX9_order_120 : decode cX9_order 120 = .ok (.aload_n 3, 1) := dw_45 wX9_order_c rfl
theorem dX9_order_121 : decode cX9_order 121 = .ok (.iload_n 2, 1) := dw_28 wX9_order_c rfl
theorem dX9_order_122 : decode cX9_order 122 = .ok (.putfield 271, 3) := dw_181 wX9_order_c 1 15 rfl rfl
theorem dX9_order_125 : decode cX9_order 125 = .ok (.aload_n 3, 1) := dw_45 wX9_order_c rfl
theorem dX9_order_126 : decode cX9_order 126 = .ok (.aload_n 0, 1) := dw_42 wX9_order_c rfl
theorem dX9_order_127 : decode cX9_order 127 = .ok (.getfield 94, 3) := dw_180 wX9_order_c 0 94 rfl rfl
theorem dX9_order_130 : decode cX9_order 130 = .ok (.putfield 253, 3) := dw_181 wX9_order_c 0 253 rfl rfl
theorem dX9_order_133 : decode cX9_order 133 = .ok (.iload 4, 2) := dw_21 wX9_order_c 4 rfl
theorem dX9_order_135 : decode cX9_order 135 = .ok (.ireturn, 1) := dw_172 wX9_order_c rfl
def wNX9_seize : Nat := 1044116902204493585826033419369880603690922746030173007172863239096456529604832489583788241181826974605779378546603067380731759761712965829124809412566988384955784305275663581948438926405624071489531277418782641849556176882630007594
theorem wX9_seize_c : hz_cd cX9_seize wNX9_seize 96 := ⟨by decide +kernel, by decide +kernel⟩
theorem dX9_seize_0 : decode cX9_seize 0 = .ok (.aload_n 0, 1) := dw_42 wX9_seize_c rfl
theorem dX9_seize_1 : decode cX9_seize 1 = .ok (.iload_n 1, 1) := dw_27 wX9_seize_c rfl
theorem dX9_seize_2 : decode cX9_seize 2 = .ok (.invokevirtual 200, 3) := dw_182 wX9_seize_c 0 200 rfl rfl
theorem dX9_seize_5 : decode cX9_seize 5 = .ok (.astore_n 3, 1) := dw_78 wX9_seize_c rfl
theorem dX9_seize_6 : decode cX9_seize 6 = .ok (.aload_n 3, 1) := dw_45 wX9_seize_c rfl
theorem dX9_seize_7 : decode cX9_seize 7 = .ok (.ifnull 22, 3) := dw_198 wX9_seize_c 0 22 rfl rfl rfl
theorem dX9_seize_10 : decode cX9_seize 10 = .ok (.aload_n 3, 1) := dw_45 wX9_seize_c rfl
theorem dX9_seize_11 : decode cX9_seize 11 = .ok (.getfield 289, 3) := dw_180 wX9_seize_c 1 33 rfl rfl
theorem dX9_seize_14 : decode cX9_seize 14 = .ok (.iconst (-1), 1) := dw_2 wX9_seize_c rfl
theorem dX9_seize_15 : decode cX9_seize 15 = .ok (.if_icmp .ne 14, 3) := dw_160 wX9_seize_c 0 14 rfl rfl rfl
theorem dX9_seize_18 : decode cX9_seize 18 = .ok (.iload_n 2, 1) := dw_28 wX9_seize_c rfl
theorem dX9_seize_19 : decode cX9_seize 19 = .ok (.iconst 1, 1) := dw_4 wX9_seize_c rfl
theorem dX9_seize_20 : decode cX9_seize 20 = .ok (.sipush 9999, 3) := dw_17 wX9_seize_c 39 15 rfl rfl rfl
theorem dX9_seize_23 : decode cX9_seize 23 = .ok (.invokestatic 128, 3) := dw_184 wX9_seize_c 0 128 rfl rfl
theorem dX9_seize_26 : decode cX9_seize 26 = .ok (.ifCond .ne 6, 3) := dw_154 wX9_seize_c 0 6 rfl rfl rfl
theorem dX9_seize_29 : decode cX9_seize 29 = .ok (.ldc 169, 2) := dw_18 wX9_seize_c 169 rfl
theorem dX9_seize_31 : decode cX9_seize 31 = .ok (.ireturn, 1) := dw_172 wX9_seize_c rfl
theorem dX9_seize_32 : decode cX9_seize 32 = .ok (.aload_n 3, 1) := dw_45 wX9_seize_c rfl
theorem dX9_seize_33 : decode cX9_seize 33 = .ok (.aload_n 0, 1) := dw_42 wX9_seize_c rfl
theorem dX9_seize_34 : decode cX9_seize 34 = .ok (.getfield 58, 3) := dw_180 wX9_seize_c 0 58 rfl rfl
theorem dX9_seize_37 : decode cX9_seize 37 = .ok (.aload_n 0, 1) := dw_42 wX9_seize_c rfl
theorem dX9_seize_38 : decode cX9_seize 38 = .ok (.getfield 94, 3) := dw_180 wX9_seize_c 0 94 rfl rfl
theorem dX9_seize_41 : decode cX9_seize 41 = .ok (.aload_n 0, 1) := dw_42 wX9_seize_c rfl
theorem dX9_seize_42 : decode cX9_seize 42 = .ok (.getfield 94, 3) := dw_180 wX9_seize_c 0 94 rfl rfl
theorem dX9_seize_45 : decode cX9_seize 45 = .ok (.invokevirtual 292, 3) := dw_182 wX9_seize_c 1 36 rfl rfl
theorem dX9_seize_48 : decode cX9_seize 48 = .ok (.istore 4, 2) := dw_54 wX9_seize_c 4 rfl
theorem dX9_seize_50 : decode cX9_seize 50 = .ok (.iload 4, 2) := dw_21 wX9_seize_c 4 rfl
theorem dX9_seize_52 : decode cX9_seize 52 = .ok (.iconst 5, 1) := dw_8 wX9_seize_c rfl
theorem dX9_seize_53 : decode cX9_seize 53 = .ok (.if_icmp .eq 13, 3) := dw_159 wX9_seize_c 0 13 rfl rfl rfl
theorem dX9_seize_56 : decode cX9_seize 56 = .ok (.iload 4, 2) := dw_21 wX9_seize_c 4 rfl
theorem dX9_seize_58 : decode cX9_seize 58 = .ok (.bipush 6, 2) := dw_16 wX9_seize_c 6 rfl rfl rfl
theorem dX9_seize_60 : decode cX9_seize 60 = .ok (.if_icmp .eq 6, 3) := dw_159 wX9_seize_c 0 6 rfl rfl rfl
theorem dX9_seize_63 : decode cX9_seize 63 = .ok (.ldc 169, 2) := dw_18 wX9_seize_c 169 rfl
theorem dX9_seize_65 : decode cX9_seize 65 = .ok (.ireturn, 1) := dw_172 wX9_seize_c rfl
theorem dX9_seize_66 : decode cX9_seize 66 = .ok (.aload_n 3, 1) := dw_45 wX9_seize_c rfl
theorem dX9_seize_67 : decode cX9_seize 67 = .ok (.aload_n 0, 1) := dw_42 wX9_seize_c rfl
theorem dX9_seize_68 : decode cX9_seize 68 = .ok (.getfield 94, 3) := dw_180 wX9_seize_c 0 94 rfl rfl
theorem dX9_seize_71 : decode cX9_seize 71 = .ok (.putfield 289, 3) := dw_181 wX9_seize_c 1 33 rfl rfl
theorem dX9_seize_74 : decode cX9_seize 74 = .ok (.aload_n 3, 1) := dw_45 wX9_seize_c rfl
theorem dX9_seize_75 : decode cX9_seize 75 = .ok (.iload_n 2, 1) := dw_28 wX9_seize_c rfl
theorem dX9_seize_76 : decode cX9_seize 76 = .ok (.putfield 296, 3) := dw_181 wX9_seize_c 1 40 rfl rfl
theorem dX9_seize_79 : decode cX9_seize 79 = .ok (.aload_n 3, 1) := dw_45 wX9_seize_c rfl
theorem dX9_seize_80 : decode cX9_seize 80 = .ok (.aload_n 0, 1) := dw_42 wX9_seize_c rfl
theorem dX9_seize_81 : decode cX9_seize 81 = .ok (.getfield 58, 3) := dw_180 wX9_seize_c 0 58 rfl rfl
theorem dX9_seize_84 : decode cX9_seize 84 = .ok (.aload_n 0, 1) := dw_42 wX9_seize_c rfl
theorem dX9_seize_85 : decode cX9_seize 85 = .ok (.getfield 94, 3) := dw_180 wX9_seize_c 0 94 rfl rfl
theorem dX9_seize_88 : decode cX9_seize 88 = .ok (.aload_n 0, 1) := dw_42 wX9_seize_c rfl
theorem dX9_seize_89 : decode cX9_seize 89 = .ok (.getfield 94, 3) := dw_180 wX9_seize_c 0 94 rfl rfl
theorem dX9_seize_92 : decode cX9_seize 92 = .ok (.invokevirtual 299, 3) := dw_182 wX9_seize_c 1 43 rfl rfl
theorem dX9_seize_95 : decode cX9_seize 95 = .ok (.ireturn, 1) := dw_172 wX9_seize_c rfl
def wNX9_gaol : Nat := 323211845530199623640834943988842239039000786840324558631385644882929706000158590417178343297701552501672969408552089183274968884660428621815655337938200798909579516651573763157910079997156761489053971158209009349232077847131441819532233768127068321833425706
theorem wX9_gaol_c : hz_cd cX9_gaol wNX9_gaol 107 := ⟨by decide +kernel, by decide +kernel⟩
theorem dX9_gaol_0 : decode cX9_gaol 0 = .ok (.aload_n 0, 1) := dw_42 wX9_gaol_c rfl
theorem dX9_gaol_1 : decode cX9_gaol 1 = .ok (.iload_n 1, 1) := dw_27 wX9_gaol_c rfl
theorem dX9_gaol_2 : decode cX9_gaol 2 = .ok (.invokevirtual 200, 3) := dw_182 wX9_gaol_c 0 200 rfl rfl
theorem dX9_gaol_5 : decode cX9_gaol 5 = .ok (.astore_n 2, 1) := dw_77 wX9_gaol_c rfl
theorem dX9_gaol_6 : decode cX9_gaol 6 = .ok (.aload_n 2, 1) := dw_44 wX9_gaol_c rfl
theorem dX9_gaol_7 : decode cX9_gaol 7 = .ok (.ifnull 42, 3) := dw_198 wX9_gaol_c 0 42 rfl rfl rfl
theorem dX9_gaol_10 : decode cX9_gaol 10 = .ok (.aload_n 2, 1) := dw_44 wX9_gaol_c rfl
theorem dX9_gaol_11 : decode cX9_gaol 11 = .ok (.getfield 289, 3) := dw_180 wX9_gaol_c 1 33 rfl rfl
theorem dX9_gaol_14 : decode cX9_gaol 14 = .ok (.iconst (-1), 1) := dw_2 wX9_gaol_c rfl
theorem dX9_gaol_15 : decode cX9_gaol 15 = .ok (.if_icmp .eq 34, 3) := dw_159 wX9_gaol_c 0 34 rfl rfl rfl
theorem dX9_gaol_18 : decode cX9_gaol 18 = .ok (.aload_n 2, 1) := dw_44 wX9_gaol_c rfl
theorem dX9_gaol_19 : decode cX9_gaol 19 = .ok (.getfield 212, 3) := dw_180 wX9_gaol_c 0 212 rfl rfl
theorem dX9_gaol_22 : decode cX9_gaol 22 = .ok (.getfield 148, 3) := dw_180 wX9_gaol_c 0 148 rfl rfl
theorem dX9_gaol_25 : decode cX9_gaol 25 = .ok (.ifCond .ne 24, 3) := dw_154 wX9_gaol_c 0 24 rfl rfl rfl
theorem dX9_gaol_28 : decode cX9_gaol 28 = .ok (.aload_n 2, 1) := dw_44 wX9_gaol_c rfl
theorem dX9_gaol_29 : decode cX9_gaol 29 = .ok (.aload_n 0, 1) := dw_42 wX9_gaol_c rfl
theorem dX9_gaol_30 : decode cX9_gaol 30 = .ok (.getfield 58, 3) := dw_180 wX9_gaol_c 0 58 rfl rfl
theorem dX9_gaol_33 : decode cX9_gaol 33 = .ok (.aload_n 0, 1) := dw_42 wX9_gaol_c rfl
theorem dX9_gaol_34 : decode cX9_gaol 34 = .ok (.getfield 94, 3) := dw_180 wX9_gaol_c 0 94 rfl rfl
theorem dX9_gaol_37 : decode cX9_gaol 37 = .ok (.aload_n 0, 1) := dw_42 wX9_gaol_c rfl
theorem dX9_gaol_38 : decode cX9_gaol 38 = .ok (.getfield 94, 3) := dw_180 wX9_gaol_c 0 94 rfl rfl
theorem dX9_gaol_41 : decode cX9_gaol 41 = .ok (.invokevirtual 292, 3) := dw_182 wX9_gaol_c 1 36 rfl rfl
theorem dX9_gaol_44 : decode cX9_gaol 44 = .ok (.bipush 6, 2) := dw_16 wX9_gaol_c 6 rfl rfl rfl
theorem dX9_gaol_46 : decode cX9_gaol 46 = .ok (.if_icmp .eq 5, 3) := dw_159 wX9_gaol_c 0 5 rfl rfl rfl
theorem dX9_gaol_49 : decode cX9_gaol 49 = .ok (.iconst (-1), 1) := dw_2 wX9_gaol_c rfl
theorem dX9_gaol_50 : decode cX9_gaol 50 = .ok (.ireturn, 1) := dw_172 wX9_gaol_c rfl
theorem dX9_gaol_51 : decode cX9_gaol 51 = .ok (.aload_n 2, 1) := dw_44 wX9_gaol_c rfl
theorem dX9_gaol_52 : decode cX9_gaol 52 = .ok (.aload_n 0, 1) := dw_42 wX9_gaol_c rfl
theorem dX9_gaol_53 : decode cX9_gaol 53 = .ok (.getfield 58, 3) := dw_180 wX9_gaol_c 0 58 rfl rfl
theorem dX9_gaol_56 : decode cX9_gaol 56 = .ok (.aload_n 0, 1) := dw_42 wX9_gaol_c rfl
theorem dX9_gaol_57 : decode cX9_gaol 57 = .ok (.getfield 94, 3) := dw_180 wX9_gaol_c 0 94 rfl rfl
theorem dX9_gaol_60 : decode cX9_gaol 60 = .ok (.aload_n 0, 1) := dw_42 wX9_gaol_c rfl
theorem dX9_gaol_61 : decode cX9_gaol 61 = .ok (.getfield 94, 3) := dw_180 wX9_gaol_c 0 94 rfl rfl
theorem dX9_gaol_64 : decode cX9_gaol 64 = .ok (.invokevirtual 302, 3) := dw_182 wX9_gaol_c 1 46 rfl rfl
theorem dX9_gaol_67 : decode cX9_gaol 67 = .ok (.bipush 12, 2) := dw_16 wX9_gaol_c 12 rfl rfl rfl
theorem dX9_gaol_69 : decode cX9_gaol 69 = .ok (.invokestatic 305, 3) := dw_184 wX9_gaol_c 1 49 rfl rfl
theorem dX9_gaol_72 : decode cX9_gaol 72 = .ok (.aload_n 2, 1) := dw_44 wX9_gaol_c rfl
theorem dX9_gaol_73 : decode cX9_gaol 73 = .ok (.getfield 226, 3) := dw_180 wX9_gaol_c 0 226 rfl rfl
theorem dX9_gaol_76 : decode cX9_gaol 76 = .ok (.getfield 119, 3) := dw_180 wX9_gaol_c 0 119 rfl rfl
theorem dX9_gaol_79 : decode cX9_gaol 79 = .ok (.bipush 7, 2) := dw_16 wX9_gaol_c 7 rfl rfl rfl
theorem dX9_gaol_81 : decode cX9_gaol 81 = .ok (.iaload, 1) := dw_46 wX9_gaol_c rfl
theorem dX9_gaol_82 : decode cX9_gaol 82 = .ok (.imul, 1) := dw_104 wX9_gaol_c rfl
theorem dX9_gaol_83 : decode cX9_gaol 83 = .ok (.istore_n 3, 1) := dw_62 wX9_gaol_c rfl
theorem dX9_gaol_84 : decode cX9_gaol 84 = .ok (.aload_n 2, 1) := dw_44 wX9_gaol_c rfl
theorem dX9_gaol_85 : decode cX9_gaol 85 = .ok (.aload_n 0, 1) := dw_42 wX9_gaol_c rfl
theorem dX9_gaol_86 : decode cX9_gaol 86 = .ok (.getfield 94, 3) := dw_180 wX9_gaol_c 0 94 rfl rfl
theorem dX9_gaol_89 : decode cX9_gaol 89 = .ok (.putfield 279, 3) := dw_181 wX9_gaol_c 1 23 rfl rfl
theorem dX9_gaol_92 : decode cX9_gaol 92 = .ok (.iload_n 3, 1) := dw_29 wX9_gaol_c rfl
theorem dX9_gaol_93 : decode cX9_gaol 93 = .ok (.aload_n 2, 1) := dw_44 wX9_gaol_c rfl
theorem dX9_gaol_94 : decode cX9_gaol 94 = .ok (.getfield 226, 3) := dw_180 wX9_gaol_c 0 226 rfl rfl
theorem dX9_gaol_97 : decode cX9_gaol 97 = .ok (.getfield 119, 3) := dw_180 wX9_gaol_c 0 119 rfl rfl
theorem dX9_gaol_100 : decode cX9_gaol 100 = .ok (.bipush 8, 2) := dw_16 wX9_gaol_c 8 rfl rfl rfl
theorem dX9_gaol_102 : decode cX9_gaol 102 = .ok (.iaload, 1) := dw_46 wX9_gaol_c rfl
theorem dX9_gaol_103 : decode cX9_gaol 103 = .ok (.invokestatic 309, 3) := dw_184 wX9_gaol_c 1 53 rfl rfl
theorem dX9_gaol_106 : decode cX9_gaol 106 = .ok (.ireturn, 1) := dw_172 wX9_gaol_c rfl
def wNX9_claim : Nat := 20441303699523344464907001424163003909836851238834096577190251572453367212288905681706557088044753007399529958129105019271152303852800957968131472834186567411771459895683062369162864543851923870787360257718084271497766678169725943967175497847743179054602217386216284537421917397010422665283203839458661965855387435714192453295073685975929197699555295084024944295295922585650916976104292370950030687169507864349390711011638771707157290
theorem wX9_claim_c : hz_cd cX9_claim wNX9_claim 180 := ⟨by decide +kernel, by decide +kernel⟩
theorem dX9_claim_0 : decode cX9_claim 0 = .ok (.aload_n 0, 1) := dw_42 wX9_claim_c rfl
theorem dX9_claim_1 : decode cX9_claim 1 = .ok (.iload_n 1, 1) := dw_27 wX9_claim_c rfl
theorem dX9_claim_2 : decode cX9_claim 2 = .ok (.invokevirtual 200, 3) := dw_182 wX9_claim_c 0 200 rfl rfl
theorem dX9_claim_5 : decode cX9_claim 5 = .ok (.astore_n 3, 1) := dw_78 wX9_claim_c rfl
theorem dX9_claim_6 : decode cX9_claim 6 = .ok (.aload_n 3, 1) := dw_45 wX9_claim_c rfl
theorem dX9_claim_7 : decode cX9_claim 7 = .ok (.ifnonnull 5, 3) := dw_199 wX9_claim_c 0 5 rfl rfl rfl
theorem dX9_claim_10 : decode cX9_claim 10 = .ok (.iconst (-1), 1) := dw_2 wX9_claim_c rfl
theorem dX9_claim_11 : decode cX9_claim 11 = .ok (.ireturn, 1) := dw_172 wX9_claim_c rfl
theorem dX9_claim_12 : decode cX9_claim 12 = .ok (.iload_n 2, 1) := dw_28 wX9_claim_c rfl
theorem dX9_claim_13 : decode cX9_claim 13 = .ok (.tableswitch 165 0 13 #[71, 79, 87, 92, 97, 102, 107, 114, 121, 128, 133, 138, 143, 151], 71) := by decide +kernel
theorem dX9_claim_84 : decode cX9_claim 84 = .ok (.aload_n 3, 1) := dw_45 wX9_claim_c rfl
theorem dX9_claim_85 : decode cX9_claim 85 = .ok (.getfield 223, 3) := dw_180 wX9_claim_c 0 223 rfl rfl
theorem dX9_claim_88 : decode cX9_claim 88 = .ok (.getfield 143, 3) := dw_180 wX9_claim_c 0 143 rfl rfl
theorem dX9_claim_91 : decode cX9_claim 91 = .ok (.ireturn, 1) := dw_172 wX9_claim_c rfl
theorem dX9_claim_92 : decode cX9_claim 92 = .ok (.aload_n 3, 1) := dw_45 wX9_claim_c rfl
theorem dX9_claim_93 : decode cX9_claim 93 = .ok (.getfield 212, 3) := dw_180 wX9_claim_c 0 212 rfl rfl
theorem dX9_claim_96 : decode cX9_claim 96 = .ok (.getfield 143, 3) := dw_180 wX9_claim_c 0 143 rfl rfl
theorem dX9_claim_99 : decode cX9_claim 99 = .ok (.ireturn, 1) := dw_172 wX9_claim_c rfl
theorem dX9_claim_100 : decode cX9_claim 100 = .ok (.aload_n 3, 1) := dw_45 wX9_claim_c rfl
theorem dX9_claim_101 : decode cX9_claim 101 = .ok (.getfield 187, 3) := dw_180 wX9_claim_c 0 187 rfl rfl
theorem dX9_claim_104 : decode cX9_claim 104 = .ok (.ireturn, 1) := dw_172 wX9_claim_c rfl
theorem dX9_claim_105 : decode cX9_claim 105 = .ok (.aload_n 3, 1) := dw_45 wX9_claim_c rfl
theorem dX9_claim_106 : decode cX9_claim 106 = .ok (.getfield 193, 3) := dw_180 wX9_claim_c 0 193 rfl rfl
theorem dX9_claim_109 : decode cX9_claim 109 = .ok (.ireturn, 1) := dw_172 wX9_claim_c rfl
theorem dX9_claim_110 : decode cX9_claim 110 = .ok (.aload_n 3, 1) := dw_45 wX9_claim_c rfl
theorem dX9_claim_111 : decode cX9_claim 111 = .ok (.getfield 207, 3) := dw_180 wX9_claim_c 0 207 rfl rfl
theorem dX9_claim_114 : decode cX9_claim 114 = .ok (.ireturn, 1) := dw_172 wX9_claim_c rfl
theorem dX9_claim_115 : decode cX9_claim 115 = .ok (.aload_n 3, 1) := dw_45 wX9_claim_c rfl
theorem dX9_claim_116 : decode cX9_claim 116 = .ok (.getfield 233, 3) := dw_180 wX9_claim_c 0 233 rfl rfl
theorem dX9_claim_119 : decode cX9_claim 119 = .ok (.ireturn, 1) := dw_172 wX9_claim_c rfl
theorem dX9_claim_120 : decode cX9_claim 120 = .ok (.aload_n 3, 1) := dw_45 wX9_claim_c rfl
theorem dX9_claim_121 : decode cX9_claim 121 = .ok (.getfield 240, 3) := dw_180 wX9_claim_c 0 240 rfl rfl
theorem dX9_claim_124 : decode cX9_claim 124 = .ok (.iconst 0, 1) := dw_3 wX9_claim_c rfl
theorem dX9_claim_125 : decode cX9_claim 125 = .ok (.iaload, 1) := dw_46 wX9_claim_c rfl
theorem dX9_claim_126 : decode cX9_claim 126 = .ok (.ireturn, 1) := dw_172 wX9_claim_c rfl
theorem dX9_claim_127 : decode cX9_claim 127 = .ok (.aload_n 3, 1) := dw_45 wX9_claim_c rfl
theorem dX9_claim_128 : decode cX9_claim 128 = .ok (.getfield 240, 3) := dw_180 wX9_claim_c 0 240 rfl rfl
theorem dX9_claim_131 : decode cX9_claim 131 = .ok (.iconst 1, 1) := dw_4 wX9_claim_c rfl
theorem dX9_claim_132 : decode cX9_claim 132 = .ok (.iaload, 1) := dw_46 wX9_claim_c rfl
theorem dX9_claim_133 : decode cX9_claim 133 = .ok (.ireturn, 1) := dw_172 wX9_claim_c rfl
theorem dX9_claim_134 : decode cX9_claim 134 = .ok (.aload_n 3, 1) := dw_45 wX9_claim_c rfl
theorem dX9_claim_135 : decode cX9_claim 135 = .ok (.getfield 240, 3) := dw_180 wX9_claim_c 0 240 rfl rfl
theorem dX9_claim_138 : decode cX9_claim 138 = .ok (.iconst 2, 1) := dw_5 wX9_claim_c rfl
theorem dX9_claim_139 : decode cX9_claim 139 = .ok (.iaload, 1) := dw_46 wX9_claim_c rfl
theorem dX9_claim_140 : decode cX9_claim 140 = .ok (.ireturn, 1) := dw_172 wX9_claim_c rfl
theorem dX9_claim_141 : decode cX9_claim 141 = .ok (.aload_n 3, 1) := dw_45 wX9_claim_c rfl
theorem dX9_claim_142 : decode cX9_claim 142 = .ok (.getfield 253, 3) := dw_180 wX9_claim_c 0 253 rfl rfl
theorem dX9_claim_145 : decode cX9_claim 145 = .ok (.ireturn, 1) := dw_172 wX9_claim_c rfl
theorem dX9_claim_146 : decode cX9_claim 146 = .ok (.aload_n 3, 1) := dw_45 wX9_claim_c rfl
theorem dX9_claim_147 : decode cX9_claim 147 = .ok (.getfield 271, 3) := dw_180 wX9_claim_c 1 15 rfl rfl
theorem dX9_claim_150 : decode cX9_claim 150 = .ok (.ireturn, 1) := dw_172 wX9_claim_c rfl
theorem dX9_claim_151 : decode cX9_claim 151 = .ok (.aload_n 3, 1) := dw_45 wX9_claim_c rfl
theorem dX9_claim_152 : decode cX9_claim 152 = .ok (.getfield 268, 3) := dw_180 wX9_claim_c 1 12 rfl rfl
theorem dX9_claim_155 : decode cX9_claim 155 = .ok (.ireturn, 1) := dw_172 wX9_claim_c rfl
theorem dX9_claim_156 : decode cX9_claim 156 = .ok (.aload_n 3, 1) := dw_45 wX9_claim_c rfl
theorem dX9_claim_157 : decode cX9_claim 157 = .ok (.getfield 226, 3) := dw_180 wX9_claim_c 0 226 rfl rfl
theorem dX9_claim_160 : decode cX9_claim 160 = .ok (.getfield 112, 3) := dw_180 wX9_claim_c 0 112 rfl rfl
theorem dX9_claim_163 : decode cX9_claim 163 = .ok (.ireturn, 1) := dw_172 wX9_claim_c rfl
theorem dX9_claim_164 : decode cX9_claim 164 = .ok (.aload_n 3, 1) := dw_45 wX9_claim_c rfl
theorem dX9_claim_165 : decode cX9_claim 165 = .ok (.getfield 289, 3) := dw_180 wX9_claim_c 1 33 rfl rfl
theorem dX9_claim_168 : decode cX9_claim 168 = .ok (.iconst (-1), 1) := dw_2 wX9_claim_c rfl
theorem dX9_claim_169 : decode cX9_claim 169 = .ok (.if_icmp .ne 7, 3) := dw_160 wX9_claim_c 0 7 rfl rfl rfl
theorem dX9_claim_172 : decode cX9_claim 172 = .ok (.iconst 0, 1) := dw_3 wX9_claim_c rfl
theorem dX9_claim_173 : decode cX9_claim 173 = .ok (.goto 4, 3) := dw_167 wX9_claim_c 0 4 rfl rfl rfl
theorem dX9_claim_176 : decode cX9_claim 176 = .ok (.iconst 1, 1) := dw_4 wX9_claim_c rfl
theorem dX9_claim_177 : decode cX9_claim 177 = .ok (.ireturn, 1) := dw_172 wX9_claim_c rfl
theorem dX9_claim_178 : decode cX9_claim 178 = .ok (.iconst (-1), 1) := dw_2 wX9_claim_c rfl
theorem dX9_claim_179 : decode cX9_claim 179 = .ok (.ireturn, 1) := dw_172 wX9_claim_c rfl
def wNX9_state : Nat := 627176703122072653758726469412211741600686460138945861163695415177981606848957607554086065739755451452438709863260492053962180495917473999059187385558602807844451644552969694160481455845429543030608691851228073959525020855793627565299657722532417121864574979442803405452001350120498527971838197666120038035305995942284561361209046327765637930
theorem wX9_state_c : hz_cd cX9_state wNX9_state 142 := ⟨by decide +kernel, by decide +kernel⟩
theorem dX9_state_0 : decode cX9_state 0 = .ok (.aload_n 0, 1) := dw_42 wX9_state_c rfl
theorem dX9_state_1 : decode cX9_state 1 = .ok (.iload_n 1, 1) := dw_27 wX9_state_c rfl
theorem dX9_state_2 : decode cX9_state 2 = .ok (.invokevirtual 200, 3) := dw_182 wX9_state_c 0 200 rfl rfl
theorem dX9_state_5 : decode cX9_state 5 = .ok (.astore 5, 2) := dw_58 wX9_state_c 5 rfl
theorem dX9_state_7 : decode cX9_state 7 = .ok (.aload 5, 2) := dw_25 wX9_state_c 5 rfl
theorem dX9_state_9 : decode cX9_state 9 = .ok (.ifnull 33, 3) := dw_198 wX9_state_c 0 33 rfl rfl rfl
theorem dX9_state_12 : decode cX9_state 12 = .ok (.iload_n 2, 1) := dw_28 wX9_state_c rfl
theorem dX9_state_13 : decode cX9_state 13 = .ok (.aload 5, 2) := dw_25 wX9_state_c 5 rfl
theorem dX9_state_15 : decode cX9_state 15 = .ok (.getfield 193, 3) := dw_180 wX9_state_c 0 193 rfl rfl
theorem dX9_state_18 : decode cX9_state 18 = .ok (.sipush 7999, 3) := dw_17 wX9_state_c 31 63 rfl rfl rfl
theorem dX9_state_21 : decode cX9_state 21 = .ok (.invokestatic 128, 3) := dw_184 wX9_state_c 0 128 rfl rfl
theorem dX9_state_24 : decode cX9_state 24 = .ok (.ifCond .eq 18, 3) := dw_153 wX9_state_c 0 18 rfl rfl rfl
theorem dX9_state_27 : decode cX9_state 27 = .ok (.iload_n 3, 1) := dw_29 wX9_state_c rfl
theorem dX9_state_28 : decode cX9_state 28 = .ok (.aload 5, 2) := dw_25 wX9_state_c 5 rfl
theorem dX9_state_30 : decode cX9_state 30 = .ok (.getfield 193, 3) := dw_180 wX9_state_c 0 193 rfl rfl
theorem dX9_state_33 : decode cX9_state 33 = .ok (.sipush 7999, 3) := dw_17 wX9_state_c 31 63 rfl rfl rfl
theorem dX9_state_36 : decode cX9_state 36 = .ok (.invokestatic 128, 3) := dw_184 wX9_state_c 0 128 rfl rfl
theorem dX9_state_39 : decode cX9_state 39 = .ok (.ifCond .ne 5, 3) := dw_154 wX9_state_c 0 5 rfl rfl rfl
theorem dX9_state_42 : decode cX9_state 42 = .ok (.iconst (-1), 1) := dw_2 wX9_state_c rfl
theorem dX9_state_43 : decode cX9_state 43 = .ok (.ireturn, 1) := dw_172 wX9_state_c rfl
theorem dX9_state_44 : decode cX9_state 44 = .ok (.iload 4, 2) := dw_21 wX9_state_c 4 rfl
theorem dX9_state_46 : decode cX9_state 46 = .ok (.tableswitch 94 0 4 #[34, 46, 58, 70, 82], 34) := by decide +kernel
theorem dX9_state_80 : decode cX9_state 80 = .ok (.aload 5, 2) := dw_25 wX9_state_c 5 rfl
theorem dX9_state_82 : decode cX9_state 82 = .ok (.aload_n 0, 1) := dw_42 wX9_state_c rfl
theorem dX9_state_83 : decode cX9_state 83 = .ok (.getfield 58, 3) := dw_180 wX9_state_c 0 58 rfl rfl
theorem dX9_state_86 : decode cX9_state 86 = .ok (.iload_n 2, 1) := dw_28 wX9_state_c rfl
theorem dX9_state_87 : decode cX9_state 87 = .ok (.iload_n 3, 1) := dw_29 wX9_state_c rfl
theorem dX9_state_88 : decode cX9_state 88 = .ok (.invokevirtual 292, 3) := dw_182 wX9_state_c 1 36 rfl rfl
theorem dX9_state_91 : decode cX9_state 91 = .ok (.ireturn, 1) := dw_172 wX9_state_c rfl
theorem dX9_state_92 : decode cX9_state 92 = .ok (.aload 5, 2) := dw_25 wX9_state_c 5 rfl
theorem dX9_state_94 : decode cX9_state 94 = .ok (.aload_n 0, 1) := dw_42 wX9_state_c rfl
theorem dX9_state_95 : decode cX9_state 95 = .ok (.getfield 58, 3) := dw_180 wX9_state_c 0 58 rfl rfl
theorem dX9_state_98 : decode cX9_state 98 = .ok (.iload_n 2, 1) := dw_28 wX9_state_c rfl
theorem dX9_state_99 : decode cX9_state 99 = .ok (.iload_n 3, 1) := dw_29 wX9_state_c rfl
theorem dX9_state_100 : decode cX9_state 100 = .ok (.invokevirtual 302, 3) := dw_182 wX9_state_c 1 46 rfl rfl
theorem dX9_state_103 : decode cX9_state 103 = .ok (.ireturn, 1) := dw_172 wX9_state_c rfl
theorem dX9_state_104 : decode cX9_state 104 = .ok (.aload 5, 2) := dw_25 wX9_state_c 5 rfl
theorem dX9_state_106 : decode cX9_state 106 = .ok (.aload_n 0, 1) := dw_42 wX9_state_c rfl
theorem dX9_state_107 : decode cX9_state 107 = .ok (.getfield 58, 3) := dw_180 wX9_state_c 0 58 rfl rfl
theorem dX9_state_110 : decode cX9_state 110 = .ok (.iload_n 2, 1) := dw_28 wX9_state_c rfl
theorem dX9_state_111 : decode cX9_state 111 = .ok (.iload_n 3, 1) := dw_29 wX9_state_c rfl
theorem dX9_state_112 : decode cX9_state 112 = .ok (.invokevirtual 314, 3) := dw_182 wX9_state_c 1 58 rfl rfl
theorem dX9_state_115 : decode cX9_state 115 = .ok (.ireturn, 1) := dw_172 wX9_state_c rfl
theorem dX9_state_116 : decode cX9_state 116 = .ok (.aload 5, 2) := dw_25 wX9_state_c 5 rfl
theorem dX9_state_118 : decode cX9_state 118 = .ok (.aload_n 0, 1) := dw_42 wX9_state_c rfl
theorem dX9_state_119 : decode cX9_state 119 = .ok (.getfield 58, 3) := dw_180 wX9_state_c 0 58 rfl rfl
theorem dX9_state_122 : decode cX9_state 122 = .ok (.iload_n 2, 1) := dw_28 wX9_state_c rfl
theorem dX9_state_123 : decode cX9_state 123 = .ok (.iload_n 3, 1) := dw_29 wX9_state_c rfl
theorem dX9_state_124 : decode cX9_state 124 = .ok (.invokevirtual 317, 3) := dw_182 wX9_state_c 1 61 rfl rfl
theorem dX9_state_127 : decode cX9_state 127 = .ok (.ireturn, 1) := dw_172 wX9_state_c rfl
theorem dX9_state_128 : decode cX9_state 128 = .ok (.aload 5, 2) := dw_25 wX9_state_c 5 rfl
theorem dX9_state_130 : decode cX9_state 130 = .ok (.aload_n 0, 1) := dw_42 wX9_state_c rfl
theorem dX9_state_131 : decode cX9_state 131 = .ok (.getfield 58, 3) := dw_180 wX9_state_c 0 58 rfl rfl
theorem dX9_state_134 : decode cX9_state 134 = .ok (.iload_n 2, 1) := dw_28 wX9_state_c rfl
theorem dX9_state_135 : decode cX9_state 135 = .ok (.iload_n 3, 1) := dw_29 wX9_state_c rfl
theorem dX9_state_136 : decode cX9_state 136 = .ok (.invokevirtual 320, 3) := dw_182 wX9_state_c 1 64 rfl rfl
theorem dX9_state_139 : decode cX9_state 139 = .ok (.ireturn, 1) := dw_172 wX9_state_c rfl
theorem dX9_state_140 : decode cX9_state 140 = .ok (.iconst (-1), 1) := dw_2 wX9_state_c rfl
theorem dX9_state_141 : decode cX9_state 141 = .ok (.ireturn, 1) := dw_172 wX9_state_c rfl
def wNX9_planned : Nat := 713759997793762791258335630146735978465270240305301992987697793576747069931318489794853705281008008590319180192930563579925313770737842115933173629396206059195074913005436389703064347
theorem wX9_planned_c : hz_cd cX9_planned wNX9_planned 76 := ⟨by decide +kernel, by decide +kernel⟩
theorem dX9_planned_0 : decode cX9_planned 0 = .ok (.iload_n 1, 1) := dw_27 wX9_planned_c rfl
theorem dX9_planned_1 : decode cX9_planned 1 = .ok (.ifCond .lt 14, 3) := dw_155 wX9_planned_c 0 14 rfl rfl rfl
theorem dX9_planned_4 : decode cX9_planned 4 = .ok (.iload_n 1, 1) := dw_27 wX9_planned_c rfl
theorem dX9_planned_5 : decode cX9_planned 5 = .ok (.aload_n 0, 1) := dw_42 wX9_planned_c rfl
theorem dX9_planned_6 : decode cX9_planned 6 = .ok (.getfield 72, 3) := dw_180 wX9_planned_c 0 72 rfl rfl
theorem dX9_planned_9 : decode cX9_planned 9 = .ok (.getfield 337, 3) := dw_180 wX9_planned_c 1 81 rfl rfl
theorem dX9_planned_12 : decode cX9_planned 12 = .ok (.if_icmp .lt 5, 3) := dw_161 wX9_planned_c 0 5 rfl rfl rfl
theorem dX9_planned_15 : decode cX9_planned 15 = .ok (.iconst (-1), 1) := dw_2 wX9_planned_c rfl
theorem dX9_planned_16 : decode cX9_planned 16 = .ok (.ireturn, 1) := dw_172 wX9_planned_c rfl
theorem dX9_planned_17 : decode cX9_planned 17 = .ok (.iload_n 2, 1) := dw_28 wX9_planned_c rfl
theorem dX9_planned_18 : decode cX9_planned 18 = .ok (.tableswitch 56 0 2 #[26, 36, 46], 26) := by decide +kernel
theorem dX9_planned_44 : decode cX9_planned 44 = .ok (.aload_n 0, 1) := dw_42 wX9_planned_c rfl
theorem dX9_planned_45 : decode cX9_planned 45 = .ok (.getfield 72, 3) := dw_180 wX9_planned_c 0 72 rfl rfl
theorem dX9_planned_48 : decode cX9_planned 48 = .ok (.getfield 339, 3) := dw_180 wX9_planned_c 1 83 rfl rfl
theorem dX9_planned_51 : decode cX9_planned 51 = .ok (.iload_n 1, 1) := dw_27 wX9_planned_c rfl
theorem dX9_planned_52 : decode cX9_planned 52 = .ok (.iaload, 1) := dw_46 wX9_planned_c rfl
theorem dX9_planned_53 : decode cX9_planned 53 = .ok (.ireturn, 1) := dw_172 wX9_planned_c rfl
theorem dX9_planned_54 : decode cX9_planned 54 = .ok (.aload_n 0, 1) := dw_42 wX9_planned_c rfl
theorem dX9_planned_55 : decode cX9_planned 55 = .ok (.getfield 72, 3) := dw_180 wX9_planned_c 0 72 rfl rfl
theorem dX9_planned_58 : decode cX9_planned 58 = .ok (.getfield 341, 3) := dw_180 wX9_planned_c 1 85 rfl rfl
theorem dX9_planned_61 : decode cX9_planned 61 = .ok (.iload_n 1, 1) := dw_27 wX9_planned_c rfl
theorem dX9_planned_62 : decode cX9_planned 62 = .ok (.iaload, 1) := dw_46 wX9_planned_c rfl
theorem dX9_planned_63 : decode cX9_planned 63 = .ok (.ireturn, 1) := dw_172 wX9_planned_c rfl
theorem dX9_planned_64 : decode cX9_planned 64 = .ok (.aload_n 0, 1) := dw_42 wX9_planned_c rfl
theorem dX9_planned_65 : decode cX9_planned 65 = .ok (.getfield 72, 3) := dw_180 wX9_planned_c 0 72 rfl rfl
theorem dX9_planned_68 : decode cX9_planned 68 = .ok (.getfield 343, 3) := dw_180 wX9_planned_c 1 87 rfl rfl
theorem dX9_planned_71 : decode cX9_planned 71 = .ok (.iload_n 1, 1) := dw_27 wX9_planned_c rfl
theorem dX9_planned_72 : decode cX9_planned 72 = .ok (.iaload, 1) := dw_46 wX9_planned_c rfl
theorem dX9_planned_73 : decode cX9_planned 73 = .ok (.ireturn, 1) := dw_172 wX9_planned_c rfl
theorem dX9_planned_74 : decode cX9_planned 74 = .ok (.iconst (-1), 1) := dw_2 wX9_planned_c rfl
theorem dX9_planned_75 : decode cX9_planned 75 = .ok (.ireturn, 1) := dw_172 wX9_planned_c rfl
def wNX9_netted : Nat := 94150265727938054743412248596894357568321727875765039674447477140972562583131569257261242991704539675
theorem wX9_netted_c : hz_cd cX9_netted wNX9_netted 42 := ⟨by decide +kernel, by decide +kernel⟩
theorem dX9_netted_0 : decode cX9_netted 0 = .ok (.iload_n 1, 1) := dw_27 wX9_netted_c rfl
theorem dX9_netted_1 : decode cX9_netted 1 = .ok (.iconst (-1), 1) := dw_2 wX9_netted_c rfl
theorem dX9_netted_2 : decode cX9_netted 2 = .ok (.if_icmp .ne 11, 3) := dw_160 wX9_netted_c 0 11 rfl rfl rfl
theorem dX9_netted_5 : decode cX9_netted 5 = .ok (.aload_n 0, 1) := dw_42 wX9_netted_c rfl
theorem dX9_netted_6 : decode cX9_netted 6 = .ok (.getfield 79, 3) := dw_180 wX9_netted_c 0 79 rfl rfl
theorem dX9_netted_9 : decode cX9_netted 9 = .ok (.getfield 374, 3) := dw_180 wX9_netted_c 1 118 rfl rfl
theorem dX9_netted_12 : decode cX9_netted 12 = .ok (.ireturn, 1) := dw_172 wX9_netted_c rfl
theorem dX9_netted_13 : decode cX9_netted 13 = .ok (.iload_n 1, 1) := dw_27 wX9_netted_c rfl
theorem dX9_netted_14 : decode cX9_netted 14 = .ok (.ifCond .lt 14, 3) := dw_155 wX9_netted_c 0 14 rfl rfl rfl
theorem dX9_netted_17 : decode cX9_netted 17 = .ok (.iload_n 1, 1) := dw_27 wX9_netted_c rfl
theorem dX9_netted_18 : decode cX9_netted 18 = .ok (.aload_n 0, 1) := dw_42 wX9_netted_c rfl
theorem dX9_netted_19 : decode cX9_netted 19 = .ok (.getfield 79, 3) := dw_180 wX9_netted_c 0 79 rfl rfl
theorem dX9_netted_22 : decode cX9_netted 22 = .ok (.getfield 374, 3) := dw_180 wX9_netted_c 1 118 rfl rfl
theorem dX9_netted_25 : decode cX9_netted 25 = .ok (.if_icmp .lt 7, 3) := dw_161 wX9_netted_c 0 7 rfl rfl rfl
theorem dX9_netted_28 : decode cX9_netted 28 = .ok (.iconst (-1), 1) := dw_2 wX9_netted_c rfl
theorem dX9_netted_29 : decode cX9_netted 29 = .ok (.goto 12, 3) := dw_167 wX9_netted_c 0 12 rfl rfl rfl
theorem dX9_netted_32 : decode cX9_netted 32 = .ok (.aload_n 0, 1) := dw_42 wX9_netted_c rfl
theorem dX9_netted_33 : decode cX9_netted 33 = .ok (.getfield 79, 3) := dw_180 wX9_netted_c 0 79 rfl rfl
theorem dX9_netted_36 : decode cX9_netted 36 = .ok (.getfield 375, 3) := dw_180 wX9_netted_c 1 119 rfl rfl
theorem dX9_netted_39 : decode cX9_netted 39 = .ok (.iload_n 1, 1) := dw_27 wX9_netted_c rfl
theorem dX9_netted_40 : decode cX9_netted 40 = .ok (.iaload, 1) := dw_46 wX9_netted_c rfl
theorem dX9_netted_41 : decode cX9_netted 41 = .ok (.ireturn, 1) := dw_172 wX9_netted_c rfl
theorem dX9_walked_0 : decode cX9_walked 0 = .ok (.iload_n 1, 1) := by decide +kernel
theorem dX9_walked_1 : decode cX9_walked 1 = .ok (.ifCond .lt 14, 3) := by decide +kernel
theorem dX9_walked_4 : decode cX9_walked 4 = .ok (.iload_n 1, 1) := by decide +kernel
theorem dX9_walked_5 : decode cX9_walked 5 = .ok (.aload_n 0, 1) := by decide +kernel
theorem dX9_walked_6 : decode cX9_walked 6 = .ok (.getfield 86, 3) := by decide +kernel
theorem dX9_walked_9 : decode cX9_walked 9 = .ok (.getfield 391, 3) := by decide +kernel
theorem dX9_walked_12 : decode cX9_walked 12 = .ok (.if_icmp .lt 7, 3) := by decide +kernel
theorem dX9_walked_15 : decode cX9_walked 15 = .ok (.iconst (-1), 1) := by decide +kernel
theorem dX9_walked_16 : decode cX9_walked 16 = .ok (.goto 12, 3) := by decide +kernel
theorem dX9_walked_19 : decode cX9_walked 19 = .ok (.aload_n 0, 1) := by decide +kernel
theorem dX9_walked_20 : decode cX9_walked 20 = .ok (.getfield 86, 3) := by decide +kernel
theorem dX9_walked_23 : decode cX9_walked 23 = .ok (.getfield 394, 3) := by decide +kernel
theorem dX9_walked_26 : decode cX9_walked 26 = .ok (.iload_n 1, 1) := by decide +kernel
theorem dX9_walked_27 : decode cX9_walked 27 = .ok (.iaload, 1) := by decide +kernel
theorem dX9_walked_28 : decode cX9_walked 28 = .ok (.ireturn, 1) := by decide +kernel
def wNX9_count : Nat := 82647763618167547205526658140104973587170321627578999172701493708173128118158715399210315500845150730655280597803639725933447765542520618755303612508952587980298912383165102757498914826773099937359341606518056873872087737161944449862743522855411056228589152795
theorem wX9_count_c : hz_cd cX9_count wNX9_count 108 := ⟨by decide +kernel, by decide +kernel⟩
theorem dX9_count_0 : decode cX9_count 0 = .ok (.iload_n 1, 1) := dw_27 wX9_count_c rfl
theorem dX9_count_1 : decode cX9_count 1 = .ok (.tableswitch 105 0 8 #[51, 56, 61, 66, 71, 79, 84, 92, 97], 51) := by decide +kernel
theorem dX9_count_52 : decode cX9_count 52 = .ok (.aload_n 0, 1) := dw_42 wX9_count_c rfl
theorem dX9_count_53 : decode cX9_count 53 = .ok (.getfield 94, 3) := dw_180 wX9_count_c 0 94 rfl rfl
theorem dX9_count_56 : decode cX9_count 56 = .ok (.ireturn, 1) := dw_172 wX9_count_c rfl
theorem dX9_count_57 : decode cX9_count 57 = .ok (.aload_n 0, 1) := dw_42 wX9_count_c rfl
theorem dX9_count_58 : decode cX9_count 58 = .ok (.getfield 105, 3) := dw_180 wX9_count_c 0 105 rfl rfl
theorem dX9_count_61 : decode cX9_count 61 = .ok (.ireturn, 1) := dw_172 wX9_count_c rfl
theorem dX9_count_62 : decode cX9_count 62 = .ok (.aload_n 0, 1) := dw_42 wX9_count_c rfl
theorem dX9_count_63 : decode cX9_count 63 = .ok (.getfield 125, 3) := dw_180 wX9_count_c 0 125 rfl rfl
theorem dX9_count_66 : decode cX9_count 66 = .ok (.ireturn, 1) := dw_172 wX9_count_c rfl
theorem dX9_count_67 : decode cX9_count 67 = .ok (.aload_n 0, 1) := dw_42 wX9_count_c rfl
theorem dX9_count_68 : decode cX9_count 68 = .ok (.invokevirtual 405, 3) := dw_182 wX9_count_c 1 149 rfl rfl
theorem dX9_count_71 : decode cX9_count 71 = .ok (.ireturn, 1) := dw_172 wX9_count_c rfl
theorem dX9_count_72 : decode cX9_count 72 = .ok (.aload_n 0, 1) := dw_42 wX9_count_c rfl
theorem dX9_count_73 : decode cX9_count 73 = .ok (.getfield 42, 3) := dw_180 wX9_count_c 0 42 rfl rfl
theorem dX9_count_76 : decode cX9_count 76 = .ok (.getfield 158, 3) := dw_180 wX9_count_c 0 158 rfl rfl
theorem dX9_count_79 : decode cX9_count 79 = .ok (.ireturn, 1) := dw_172 wX9_count_c rfl
theorem dX9_count_80 : decode cX9_count 80 = .ok (.aload_n 0, 1) := dw_42 wX9_count_c rfl
theorem dX9_count_81 : decode cX9_count 81 = .ok (.getfield 181, 3) := dw_180 wX9_count_c 0 181 rfl rfl
theorem dX9_count_84 : decode cX9_count 84 = .ok (.ireturn, 1) := dw_172 wX9_count_c rfl
theorem dX9_count_85 : decode cX9_count 85 = .ok (.aload_n 0, 1) := dw_42 wX9_count_c rfl
theorem dX9_count_86 : decode cX9_count 86 = .ok (.getfield 58, 3) := dw_180 wX9_count_c 0 58 rfl rfl
theorem dX9_count_89 : decode cX9_count 89 = .ok (.getfield 278, 3) := dw_180 wX9_count_c 1 22 rfl rfl
theorem dX9_count_92 : decode cX9_count 92 = .ok (.ireturn, 1) := dw_172 wX9_count_c rfl
theorem dX9_count_93 : decode cX9_count 93 = .ok (.aload_n 0, 1) := dw_42 wX9_count_c rfl
theorem dX9_count_94 : decode cX9_count 94 = .ok (.getfield 98, 3) := dw_180 wX9_count_c 0 98 rfl rfl
theorem dX9_count_97 : decode cX9_count 97 = .ok (.ireturn, 1) := dw_172 wX9_count_c rfl
theorem dX9_count_98 : decode cX9_count 98 = .ok (.aload_n 0, 1) := dw_42 wX9_count_c rfl
theorem dX9_count_99 : decode cX9_count 99 = .ok (.getfield 86, 3) := dw_180 wX9_count_c 0 86 rfl rfl
theorem dX9_count_102 : decode cX9_count 102 = .ok (.getfield 381, 3) := dw_180 wX9_count_c 1 125 rfl rfl
theorem dX9_count_105 : decode cX9_count 105 = .ok (.ireturn, 1) := dw_172 wX9_count_c rfl
theorem dX9_count_106 : decode cX9_count 106 = .ok (.iconst (-1), 1) := dw_2 wX9_count_c rfl
theorem dX9_count_107 : decode cX9_count 107 = .ok (.ireturn, 1) := dw_172 wX9_count_c rfl
theorem dX9_walk_0 : decode cX9_walk 0 = .ok (.aload_n 0, 1) := by decide +kernel
theorem dX9_walk_1 : decode cX9_walk 1 = .ok (.getfield 86, 3) := by decide +kernel
theorem dX9_walk_4 : decode cX9_walk 4 = .ok (.invokevirtual 388, 3) := by decide +kernel
theorem dX9_walk_7 : decode cX9_walk 7 = .ok (.ireturn, 1) := by decide +kernel