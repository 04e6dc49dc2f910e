theorem dX6_refuse_0 : decode cX6_refuse 0 = .ok (.aload_n 0, 1) := by decide +kernel
theorem dX6_refuse_1 : decode cX6_refuse 1 = .ok (.iconst 1, 1) := by decide +kernel
theorem dX6_refuse_2 : decode cX6_refuse 2 = .ok (.bipush 8, 2) := by decide +kernel
theorem dX6_refuse_4 : decode cX6_refuse 4 = .ok (.iload_n 1, 1) := by decide +kernel
theorem dX6_refuse_5 : decode cX6_refuse 5 = .ok (.imul, 1) := by decide +kernel
theorem dX6_refuse_6 : decode cX6_refuse 6 = .ok (.iadd, 1) := by decide +kernel
theorem dX6_refuse_7 : decode cX6_refuse 7 = .ok (.iload_n 2, 1) := by decide +kernel
theorem dX6_refuse_8 : decode cX6_refuse 8 = .ok (.iadd, 1) := by decide +kernel
theorem dX6_refuse_9 : decode cX6_refuse 9 = .ok (.putfield 22, 3) := by decide +kernel
theorem dX6_refuse_12 : decode cX6_refuse 12 = .ok (.iconst 0, 1) := by decide +kernel
theorem dX6_refuse_13 : decode cX6_refuse 13 = .ok (.ireturn, 1) := by decide +kernel
theorem dX6_tellOnce_0 : decode cX6_tellOnce 0 = .ok (.iconst 1, 1) := by decide +kernel
theorem dX6_tellOnce_1 : decode cX6_tellOnce 1 = .ok (.iload_n 1, 1) := by decide +kernel
theorem dX6_tellOnce_2 : decode cX6_tellOnce 2 = .ok (.ishl, 1) := by decide +kernel
theorem dX6_tellOnce_3 : decode cX6_tellOnce 3 = .ok (.istore_n 3, 1) := by decide +kernel
theorem dX6_tellOnce_4 : decode cX6_tellOnce 4 = .ok (.aload_n 0, 1) := by decide +kernel
theorem dX6_tellOnce_5 : decode cX6_tellOnce 5 = .ok (.getfield 25, 3) := by decide +kernel
theorem dX6_tellOnce_8 : decode cX6_tellOnce 8 = .ok (.iload_n 3, 1) := by decide +kernel
theorem dX6_tellOnce_9 : decode cX6_tellOnce 9 = .ok (.iand, 1) := by decide +kernel
theorem dX6_tellOnce_10 : decode cX6_tellOnce 10 = .ok (.ifCond .eq 10, 3) := by decide +kernel
theorem dX6_tellOnce_13 : decode cX6_tellOnce 13 = .ok (.aload_n 0, 1) := by decide +kernel
theorem dX6_tellOnce_14 : decode cX6_tellOnce 14 = .ok (.iload_n 2, 1) := by decide +kernel
theorem dX6_tellOnce_15 : decode cX6_tellOnce 15 = .ok (.iconst 2, 1) := by decide +kernel
theorem dX6_tellOnce_16 : decode cX6_tellOnce 16 = .ok (.invokevirtual 45, 3) := by decide +kernel
theorem dX6_tellOnce_19 : decode cX6_tellOnce 19 = .ok (.ireturn, 1) := by decide +kernel
theorem dX6_tellOnce_20 : decode cX6_tellOnce 20 = .ok (.aload_n 0, 1) := by decide +kernel
theorem dX6_tellOnce_21 : decode cX6_tellOnce 21 = .ok (.dup, 1) := by decide +kernel
theorem dX6_tellOnce_22 : decode cX6_tellOnce 22 = .ok (.getfield 25, 3) := by decide +kernel
theorem dX6_tellOnce_25 : decode cX6_tellOnce 25 = .ok (.iload_n 3, 1) := by decide +kernel
theorem dX6_tellOnce_26 : decode cX6_tellOnce 26 = .ok (.ior, 1) := by decide +kernel
theorem dX6_tellOnce_27 : decode cX6_tellOnce 27 = .ok (.putfield 25, 3) := by decide +kernel
theorem dX6_tellOnce_30 : decode cX6_tellOnce 30 = .ok (.iconst 1, 1) := by decide +kernel
theorem dX6_tellOnce_31 : decode cX6_tellOnce 31 = .ok (.ireturn, 1) := by decide +kernel
def wNX6_isDigit : Nat := 334161933760548910903559805097884914568286843072277647643901938753053020777300813425179
theorem wX6_isDigit_c : hz_cd cX6_isDigit wNX6_isDigit 36 := ⟨by decide +kernel, by decide +kernel⟩
theorem dX6_isDigit_0 : decode cX6_isDigit 0 = .ok (.iload_n 1, 1) := dw_27 wX6_isDigit_c rfl
theorem dX6_isDigit_1 : decode cX6_isDigit 1 = .ok (.aload_n 0, 1) := dw_42 wX6_isDigit_c rfl
theorem dX6_isDigit_2 : decode cX6_isDigit 2 = .ok (.getfield 15, 3) := dw_180 wX6_isDigit_c 0 15 rfl rfl
theorem dX6_isDigit_5 : decode cX6_isDigit 5 = .ok (.if_icmp .ge 29, 3) := dw_162 wX6_isDigit_c 0 29 rfl rfl rfl
theorem dX6_isDigit_8 : decode cX6_isDigit 8 = .ok (.aload_n 0, 1) := dw_42 wX6_isDigit_c rfl
theorem dX6_isDigit_9 : decode cX6_isDigit 9 = .ok (.getfield 9, 3) := dw_180 wX6_isDigit_c 0 9 rfl rfl
theorem dX6_isDigit_12 : decode cX6_isDigit 12 = .ok (.iload_n 1, 1) := dw_27 wX6_isDigit_c rfl
theorem dX6_isDigit_13 : decode cX6_isDigit 13 = .ok (.baload, 1) := dw_51 wX6_isDigit_c rfl
theorem dX6_isDigit_14 : decode cX6_isDigit 14 = .ok (.bipush 48, 2) := dw_16 wX6_isDigit_c 48 rfl rfl rfl
theorem dX6_isDigit_16 : decode cX6_isDigit 16 = .ok (.if_icmp .lt 18, 3) := dw_161 wX6_isDigit_c 0 18 rfl rfl rfl
theorem dX6_isDigit_19 : decode cX6_isDigit 19 = .ok (.aload_n 0, 1) := dw_42 wX6_isDigit_c rfl
theorem dX6_isDigit_20 : decode cX6_isDigit 20 = .ok (.getfield 9, 3) := dw_180 wX6_isDigit_c 0 9 rfl rfl
theorem dX6_isDigit_23 : decode cX6_isDigit 23 = .ok (.iload_n 1, 1) := dw_27 wX6_isDigit_c rfl
theorem dX6_isDigit_24 : decode cX6_isDigit 24 = .ok (.baload, 1) := dw_51 wX6_isDigit_c rfl
theorem dX6_isDigit_25 : decode cX6_isDigit 25 = .ok (.bipush 57, 2) := dw_16 wX6_isDigit_c 57 rfl rfl rfl
theorem dX6_isDigit_27 : decode cX6_isDigit 27 = .ok (.if_icmp .gt 7, 3) := dw_163 wX6_isDigit_c 0 7 rfl rfl rfl
theorem dX6_isDigit_30 : decode cX6_isDigit 30 = .ok (.iconst 1, 1) := dw_4 wX6_isDigit_c rfl
theorem dX6_isDigit_31 : decode cX6_isDigit 31 = .ok (.goto 4, 3) := dw_167 wX6_isDigit_c 0 4 rfl rfl rfl
theorem dX6_isDigit_34 : decode cX6_isDigit 34 = .ok (.iconst 0, 1) := dw_3 wX6_isDigit_c rfl
theorem dX6_isDigit_35 : decode cX6_isDigit 35 = .ok (.ireturn, 1) := dw_172 wX6_isDigit_c rfl
def wNX6_wordEnd : Nat := 24092498378999115716112534175686652816323951302432477897211280750595609557651485342592515527700513862698
theorem wX6_wordEnd_c : hz_cd cX6_wordEnd wNX6_wordEnd 43 := ⟨by decide +kernel, by decide +kernel⟩
theorem dX6_wordEnd_0 : decode cX6_wordEnd 0 = .ok (.aload_n 0, 1) := dw_42 wX6_wordEnd_c rfl
theorem dX6_wordEnd_1 : decode cX6_wordEnd 1 = .ok (.getfield 19, 3) := dw_180 wX6_wordEnd_c 0 19 rfl rfl
theorem dX6_wordEnd_4 : decode cX6_wordEnd 4 = .ok (.istore_n 1, 1) := dw_60 wX6_wordEnd_c rfl
theorem dX6_wordEnd_5 : decode cX6_wordEnd 5 = .ok (.iload_n 1, 1) := dw_27 wX6_wordEnd_c rfl
theorem dX6_wordEnd_6 : decode cX6_wordEnd 6 = .ok (.aload_n 0, 1) := dw_42 wX6_wordEnd_c rfl
theorem dX6_wordEnd_7 : decode cX6_wordEnd 7 = .ok (.getfield 15, 3) := dw_180 wX6_wordEnd_c 0 15 rfl rfl
theorem dX6_wordEnd_10 : decode cX6_wordEnd 10 = .ok (.if_icmp .ge 31, 3) := dw_162 wX6_wordEnd_c 0 31 rfl rfl rfl
theorem dX6_wordEnd_13 : decode cX6_wordEnd 13 = .ok (.aload_n 0, 1) := dw_42 wX6_wordEnd_c rfl
theorem dX6_wordEnd_14 : decode cX6_wordEnd 14 = .ok (.getfield 9, 3) := dw_180 wX6_wordEnd_c 0 9 rfl rfl
theorem dX6_wordEnd_17 : decode cX6_wordEnd 17 = .ok (.iload_n 1, 1) := dw_27 wX6_wordEnd_c rfl
theorem dX6_wordEnd_18 : decode cX6_wordEnd 18 = .ok (.baload, 1) := dw_51 wX6_wordEnd_c rfl
theorem dX6_wordEnd_19 : decode cX6_wordEnd 19 = .ok (.bipush 97, 2) := dw_16 wX6_wordEnd_c 97 rfl rfl rfl
theorem dX6_wordEnd_21 : decode cX6_wordEnd 21 = .ok (.if_icmp .lt 20, 3) := dw_161 wX6_wordEnd_c 0 20 rfl rfl rfl
theorem dX6_wordEnd_24 : decode cX6_wordEnd 24 = .ok (.aload_n 0, 1) := dw_42 wX6_wordEnd_c rfl
theorem dX6_wordEnd_25 : decode cX6_wordEnd 25 = .ok (.getfield 9, 3) := dw_180 wX6_wordEnd_c 0 9 rfl rfl
theorem dX6_wordEnd_28 : decode cX6_wordEnd 28 = .ok (.iload_n 1, 1) := dw_27 wX6_wordEnd_c rfl
theorem dX6_wordEnd_29 : decode cX6_wordEnd 29 = .ok (.baload, 1) := dw_51 wX6_wordEnd_c rfl
theorem dX6_wordEnd_30 : decode cX6_wordEnd 30 = .ok (.bipush 122, 2) := dw_16 wX6_wordEnd_c 122 rfl rfl rfl
theorem dX6_wordEnd_32 : decode cX6_wordEnd 32 = .ok (.if_icmp .gt 9, 3) := dw_163 wX6_wordEnd_c 0 9 rfl rfl rfl
theorem dX6_wordEnd_35 : decode cX6_wordEnd 35 = .ok (.iinc 1 1, 3) := dw_132 wX6_wordEnd_c 1 1 rfl rfl rfl
theorem dX6_wordEnd_38 : decode cX6_wordEnd 38 = .ok (.goto (-33), 3) := dn_167 wX6_wordEnd_c 255 223 rfl (by decide)
theorem dX6_wordEnd_41 : decode cX6_wordEnd 41 = .ok (.iload_n 1, 1) := dw_27 wX6_wordEnd_c rfl
theorem dX6_wordEnd_42 : decode cX6_wordEnd 42 = .ok (.ireturn, 1) := dw_172 wX6_wordEnd_c rfl