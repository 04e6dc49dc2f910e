theorem dX8_fromCourt_0 : decode cX8_fromCourt 0 = .ok (.aload_n 0, 1) := by decide +kernel
theorem dX8_fromCourt_1 : decode cX8_fromCourt 1 = .ok (.getfield 17, 3) := by decide +kernel
theorem dX8_fromCourt_4 : decode cX8_fromCourt 4 = .ok (.iload_n 1, 1) := by decide +kernel
theorem dX8_fromCourt_5 : decode cX8_fromCourt 5 = .ok (.aaload, 1) := by decide +kernel
theorem dX8_fromCourt_6 : decode cX8_fromCourt 6 = .ok (.getfield 63, 3) := by decide +kernel
theorem dX8_fromCourt_9 : decode cX8_fromCourt 9 = .ok (.astore_n 2, 1) := by decide +kernel
theorem dX8_fromCourt_10 : decode cX8_fromCourt 10 = .ok (.aload_n 2, 1) := by decide +kernel
theorem dX8_fromCourt_11 : decode cX8_fromCourt 11 = .ok (.getfield 71, 3) := by decide +kernel
theorem dX8_fromCourt_14 : decode cX8_fromCourt 14 = .ok (.bipush 50, 2) := by decide +kernel
theorem dX8_fromCourt_16 : decode cX8_fromCourt 16 = .ok (.isub, 1) := by decide +kernel
theorem dX8_fromCourt_17 : decode cX8_fromCourt 17 = .ok (.invokestatic 76, 3) := by decide +kernel
theorem dX8_fromCourt_20 : decode cX8_fromCourt 20 = .ok (.aload_n 2, 1) := by decide +kernel
theorem dX8_fromCourt_21 : decode cX8_fromCourt 21 = .ok (.getfield 79, 3) := by decide +kernel
theorem dX8_fromCourt_24 : decode cX8_fromCourt 24 = .ok (.bipush 50, 2) := by decide +kernel
theorem dX8_fromCourt_26 : decode cX8_fromCourt 26 = .ok (.isub, 1) := by decide +kernel
theorem dX8_fromCourt_27 : decode cX8_fromCourt 27 = .ok (.invokestatic 76, 3) := by decide +kernel
theorem dX8_fromCourt_30 : decode cX8_fromCourt 30 = .ok (.iadd, 1) := by decide +kernel
theorem dX8_fromCourt_31 : decode cX8_fromCourt 31 = .ok (.ireturn, 1) := by decide +kernel
def wNX8_stepsBy : Nat := 1911763602228697926744090585905491200097152083764393579591033216184394085100700405111448855978365228892055022393656935697016514675228
theorem wX8_stepsBy_c : hz_cd cX8_stepsBy wNX8_stepsBy 55 := ⟨by decide +kernel, by decide +kernel⟩
theorem dX8_stepsBy_0 : decode cX8_stepsBy 0 = .ok (.iload_n 2, 1) := dw_28 wX8_stepsBy_c rfl
theorem dX8_stepsBy_1 : decode cX8_stepsBy 1 = .ok (.iconst (-1), 1) := dw_2 wX8_stepsBy_c rfl
theorem dX8_stepsBy_2 : decode cX8_stepsBy 2 = .ok (.if_icmp .ne 11, 3) := dw_160 wX8_stepsBy_c 0 11 rfl rfl rfl
theorem dX8_stepsBy_5 : decode cX8_stepsBy 5 = .ok (.aload_n 0, 1) := dw_42 wX8_stepsBy_c rfl
theorem dX8_stepsBy_6 : decode cX8_stepsBy 6 = .ok (.iload_n 3, 1) := dw_29 wX8_stepsBy_c rfl
theorem dX8_stepsBy_7 : decode cX8_stepsBy 7 = .ok (.invokevirtual 35, 3) := dw_182 wX8_stepsBy_c 0 35 rfl rfl
theorem dX8_stepsBy_10 : decode cX8_stepsBy 10 = .ok (.goto 24, 3) := dw_167 wX8_stepsBy_c 0 24 rfl rfl rfl
theorem dX8_stepsBy_13 : decode cX8_stepsBy 13 = .ok (.aload_n 0, 1) := dw_42 wX8_stepsBy_c rfl
theorem dX8_stepsBy_14 : decode cX8_stepsBy 14 = .ok (.getfield 17, 3) := dw_180 wX8_stepsBy_c 0 17 rfl rfl
theorem dX8_stepsBy_17 : decode cX8_stepsBy 17 = .ok (.iload_n 2, 1) := dw_28 wX8_stepsBy_c rfl
theorem dX8_stepsBy_18 : decode cX8_stepsBy 18 = .ok (.aaload, 1) := dw_50 wX8_stepsBy_c rfl
theorem dX8_stepsBy_19 : decode cX8_stepsBy 19 = .ok (.getfield 63, 3) := dw_180 wX8_stepsBy_c 0 63 rfl rfl
theorem dX8_stepsBy_22 : decode cX8_stepsBy 22 = .ok (.aload_n 0, 1) := dw_42 wX8_stepsBy_c rfl
theorem dX8_stepsBy_23 : decode cX8_stepsBy 23 = .ok (.getfield 17, 3) := dw_180 wX8_stepsBy_c 0 17 rfl rfl
theorem dX8_stepsBy_26 : decode cX8_stepsBy 26 = .ok (.iload_n 3, 1) := dw_29 wX8_stepsBy_c rfl
theorem dX8_stepsBy_27 : decode cX8_stepsBy 27 = .ok (.aaload, 1) := dw_50 wX8_stepsBy_c rfl
theorem dX8_stepsBy_28 : decode cX8_stepsBy 28 = .ok (.getfield 63, 3) := dw_180 wX8_stepsBy_c 0 63 rfl rfl
theorem dX8_stepsBy_31 : decode cX8_stepsBy 31 = .ok (.invokestatic 67, 3) := dw_184 wX8_stepsBy_c 0 67 rfl rfl
theorem dX8_stepsBy_34 : decode cX8_stepsBy 34 = .ok (.istore 4, 2) := dw_54 wX8_stepsBy_c 4 rfl
theorem dX8_stepsBy_36 : decode cX8_stepsBy 36 = .ok (.iload 4, 2) := dw_21 wX8_stepsBy_c 4 rfl
theorem dX8_stepsBy_38 : decode cX8_stepsBy 38 = .ok (.aload_n 0, 1) := dw_42 wX8_stepsBy_c rfl
theorem dX8_stepsBy_39 : decode cX8_stepsBy 39 = .ok (.getfield 21, 3) := dw_180 wX8_stepsBy_c 0 21 rfl rfl
theorem dX8_stepsBy_42 : decode cX8_stepsBy 42 = .ok (.iload_n 1, 1) := dw_27 wX8_stepsBy_c rfl
theorem dX8_stepsBy_43 : decode cX8_stepsBy 43 = .ok (.iconst 1, 1) := dw_4 wX8_stepsBy_c rfl
theorem dX8_stepsBy_44 : decode cX8_stepsBy 44 = .ok (.iload_n 3, 1) := dw_29 wX8_stepsBy_c rfl
theorem dX8_stepsBy_45 : decode cX8_stepsBy 45 = .ok (.ishl, 1) := dw_120 wX8_stepsBy_c rfl
theorem dX8_stepsBy_46 : decode cX8_stepsBy 46 = .ok (.ior, 1) := dw_128 wX8_stepsBy_c rfl
theorem dX8_stepsBy_47 : decode cX8_stepsBy 47 = .ok (.bipush 8, 2) := dw_16 wX8_stepsBy_c 8 rfl rfl rfl
theorem dX8_stepsBy_49 : decode cX8_stepsBy 49 = .ok (.imul, 1) := dw_104 wX8_stepsBy_c rfl
theorem dX8_stepsBy_50 : decode cX8_stepsBy 50 = .ok (.iload_n 3, 1) := dw_29 wX8_stepsBy_c rfl
theorem dX8_stepsBy_51 : decode cX8_stepsBy 51 = .ok (.iadd, 1) := dw_96 wX8_stepsBy_c rfl
theorem dX8_stepsBy_52 : decode cX8_stepsBy 52 = .ok (.iaload, 1) := dw_46 wX8_stepsBy_c rfl
theorem dX8_stepsBy_53 : decode cX8_stepsBy 53 = .ok (.iadd, 1) := dw_96 wX8_stepsBy_c rfl
theorem dX8_stepsBy_54 : decode cX8_stepsBy 54 = .ok (.ireturn, 1) := dw_172 wX8_stepsBy_c rfl
def wNX8_leastOn : Nat := 1578997505613789448997316325332932629197383409524075792898375405516129602376248492570746597433839532342391314
theorem wX8_leastOn_c : hz_cd cX8_leastOn wNX8_leastOn 45 := ⟨by decide +kernel, by decide +kernel⟩
theorem dX8_leastOn_0 : decode cX8_leastOn 0 = .ok (.ldc 50, 2) := dw_18 wX8_leastOn_c 50 rfl
theorem dX8_leastOn_2 : decode cX8_leastOn 2 = .ok (.istore_n 3, 1) := dw_62 wX8_leastOn_c rfl
theorem dX8_leastOn_3 : decode cX8_leastOn 3 = .ok (.iconst 0, 1) := dw_3 wX8_leastOn_c rfl
theorem dX8_leastOn_4 : decode cX8_leastOn 4 = .ok (.istore 4, 2) := dw_54 wX8_leastOn_c 4 rfl
theorem dX8_leastOn_6 : decode cX8_leastOn 6 = .ok (.iload 4, 2) := dw_21 wX8_leastOn_c 4 rfl
theorem dX8_leastOn_8 : decode cX8_leastOn 8 = .ok (.aload_n 0, 1) := dw_42 wX8_leastOn_c rfl
theorem dX8_leastOn_9 : decode cX8_leastOn 9 = .ok (.getfield 24, 3) := dw_180 wX8_leastOn_c 0 24 rfl rfl
theorem dX8_leastOn_12 : decode cX8_leastOn 12 = .ok (.if_icmp .ge 31, 3) := dw_162 wX8_leastOn_c 0 31 rfl rfl rfl
theorem dX8_leastOn_15 : decode cX8_leastOn 15 = .ok (.iload 4, 2) := dw_21 wX8_leastOn_c 4 rfl
theorem dX8_leastOn_17 : decode cX8_leastOn 17 = .ok (.iload_n 1, 1) := dw_27 wX8_leastOn_c rfl
theorem dX8_leastOn_18 : decode cX8_leastOn 18 = .ok (.invokestatic 31, 3) := dw_184 wX8_leastOn_c 0 31 rfl rfl
theorem dX8_leastOn_21 : decode cX8_leastOn 21 = .ok (.ifCond .ne 16, 3) := dw_154 wX8_leastOn_c 0 16 rfl rfl rfl
theorem dX8_leastOn_24 : decode cX8_leastOn 24 = .ok (.iload_n 3, 1) := dw_29 wX8_leastOn_c rfl
theorem dX8_leastOn_25 : decode cX8_leastOn 25 = .ok (.aload_n 0, 1) := dw_42 wX8_leastOn_c rfl
theorem dX8_leastOn_26 : decode cX8_leastOn 26 = .ok (.iload_n 1, 1) := dw_27 wX8_leastOn_c rfl
theorem dX8_leastOn_27 : decode cX8_leastOn 27 = .ok (.iload_n 2, 1) := dw_28 wX8_leastOn_c rfl
theorem dX8_leastOn_28 : decode cX8_leastOn 28 = .ok (.iload 4, 2) := dw_21 wX8_leastOn_c 4 rfl
theorem dX8_leastOn_30 : decode cX8_leastOn 30 = .ok (.invokevirtual 51, 3) := dw_182 wX8_leastOn_c 0 51 rfl rfl
theorem dX8_leastOn_33 : decode cX8_leastOn 33 = .ok (.invokestatic 55, 3) := dw_184 wX8_leastOn_c 0 55 rfl rfl
theorem dX8_leastOn_36 : decode cX8_leastOn 36 = .ok (.istore_n 3, 1) := dw_62 wX8_leastOn_c rfl
theorem dX8_leastOn_37 : decode cX8_leastOn 37 = .ok (.iinc 4 1, 3) := dw_132 wX8_leastOn_c 4 1 rfl rfl rfl
theorem dX8_leastOn_40 : decode cX8_leastOn 40 = .ok (.goto (-34), 3) := dn_167 wX8_leastOn_c 255 222 rfl (by decide)
theorem dX8_leastOn_43 : decode cX8_leastOn 43 = .ok (.iload_n 3, 1) := dw_29 wX8_leastOn_c rfl
theorem dX8_leastOn_44 : decode cX8_leastOn 44 = .ok (.ireturn, 1) := dw_172 wX8_leastOn_c rfl
def wNX8_firstOnWay : Nat := 6164318327472463712010956029815681446497422124651030419443425812225527697253980074795566474045993219536387
theorem wX8_firstOnWay_c : hz_cd cX8_firstOnWay wNX8_firstOnWay 44 := ⟨by decide +kernel, by decide +kernel⟩
theorem dX8_firstOnWay_0 : decode cX8_firstOnWay 0 = .ok (.iconst 0, 1) := dw_3 wX8_firstOnWay_c rfl
theorem dX8_firstOnWay_1 : decode cX8_firstOnWay 1 = .ok (.istore 4, 2) := dw_54 wX8_firstOnWay_c 4 rfl
theorem dX8_firstOnWay_3 : decode cX8_firstOnWay 3 = .ok (.iload 4, 2) := dw_21 wX8_firstOnWay_c 4 rfl
theorem dX8_firstOnWay_5 : decode cX8_firstOnWay 5 = .ok (.aload_n 0, 1) := dw_42 wX8_firstOnWay_c rfl
theorem dX8_firstOnWay_6 : decode cX8_firstOnWay 6 = .ok (.getfield 24, 3) := dw_180 wX8_firstOnWay_c 0 24 rfl rfl
theorem dX8_firstOnWay_9 : decode cX8_firstOnWay 9 = .ok (.if_icmp .ge 33, 3) := dw_162 wX8_firstOnWay_c 0 33 rfl rfl rfl
theorem dX8_firstOnWay_12 : decode cX8_firstOnWay 12 = .ok (.iload 4, 2) := dw_21 wX8_firstOnWay_c 4 rfl
theorem dX8_firstOnWay_14 : decode cX8_firstOnWay 14 = .ok (.iload_n 1, 1) := dw_27 wX8_firstOnWay_c rfl
theorem dX8_firstOnWay_15 : decode cX8_firstOnWay 15 = .ok (.invokestatic 31, 3) := dw_184 wX8_firstOnWay_c 0 31 rfl rfl
theorem dX8_firstOnWay_18 : decode cX8_firstOnWay 18 = .ok (.ifCond .ne 18, 3) := dw_154 wX8_firstOnWay_c 0 18 rfl rfl rfl
theorem dX8_firstOnWay_21 : decode cX8_firstOnWay 21 = .ok (.aload_n 0, 1) := dw_42 wX8_firstOnWay_c rfl
theorem dX8_firstOnWay_22 : decode cX8_firstOnWay 22 = .ok (.iload_n 1, 1) := dw_27 wX8_firstOnWay_c rfl
theorem dX8_firstOnWay_23 : decode cX8_firstOnWay 23 = .ok (.iload_n 2, 1) := dw_28 wX8_firstOnWay_c rfl
theorem dX8_firstOnWay_24 : decode cX8_firstOnWay 24 = .ok (.iload 4, 2) := dw_21 wX8_firstOnWay_c 4 rfl
theorem dX8_firstOnWay_26 : decode cX8_firstOnWay 26 = .ok (.invokevirtual 51, 3) := dw_182 wX8_firstOnWay_c 0 51 rfl rfl
theorem dX8_firstOnWay_29 : decode cX8_firstOnWay 29 = .ok (.iload_n 3, 1) := dw_29 wX8_firstOnWay_c rfl
theorem dX8_firstOnWay_30 : decode cX8_firstOnWay 30 = .ok (.if_icmp .ne 6, 3) := dw_160 wX8_firstOnWay_c 0 6 rfl rfl rfl
theorem dX8_firstOnWay_33 : decode cX8_firstOnWay 33 = .ok (.iload 4, 2) := dw_21 wX8_firstOnWay_c 4 rfl
theorem dX8_firstOnWay_35 : decode cX8_firstOnWay 35 = .ok (.ireturn, 1) := dw_172 wX8_firstOnWay_c rfl
theorem dX8_firstOnWay_36 : decode cX8_firstOnWay 36 = .ok (.iinc 4 1, 3) := dw_132 wX8_firstOnWay_c 4 1 rfl rfl rfl
theorem dX8_firstOnWay_39 : decode cX8_firstOnWay 39 = .ok (.goto (-36), 3) := dn_167 wX8_firstOnWay_c 255 220 rfl (by decide)
theorem dX8_firstOnWay_42 : decode cX8_firstOnWay 42 = .ok (.iconst 0, 1) := dw_3 wX8_firstOnWay_c rfl
theorem dX8_firstOnWay_43 : decode cX8_firstOnWay 43 = .ok (.ireturn, 1) := dw_172 wX8_firstOnWay_c rfl
def wNX8_retrace : Nat := 737624997492750541790295457925290771778101330135416635676604315730726599019342279563012802540874443605184143341436245786148601799659787314029759766770905427666467251316848073673686275
theorem wX8_retrace_c : hz_cd cX8_retrace wNX8_retrace 76 := ⟨by decide +kernel, by decide +kernel⟩
theorem dX8_retrace_0 : decode cX8_retrace 0 = .ok (.iconst 0, 1) := dw_3 wX8_retrace_c rfl
theorem dX8_retrace_1 : decode cX8_retrace 1 = .ok (.istore_n 2, 1) := dw_61 wX8_retrace_c rfl
theorem dX8_retrace_2 : decode cX8_retrace 2 = .ok (.iconst (-1), 1) := dw_2 wX8_retrace_c rfl
theorem dX8_retrace_3 : decode cX8_retrace 3 = .ok (.istore_n 3, 1) := dw_62 wX8_retrace_c rfl
theorem dX8_retrace_4 : decode cX8_retrace 4 = .ok (.iload_n 1, 1) := dw_27 wX8_retrace_c rfl
theorem dX8_retrace_5 : decode cX8_retrace 5 = .ok (.istore 4, 2) := dw_54 wX8_retrace_c 4 rfl
theorem dX8_retrace_7 : decode cX8_retrace 7 = .ok (.iconst 0, 1) := dw_3 wX8_retrace_c rfl
theorem dX8_retrace_8 : decode cX8_retrace 8 = .ok (.istore 5, 2) := dw_54 wX8_retrace_c 5 rfl
theorem dX8_retrace_10 : decode cX8_retrace 10 = .ok (.iload 5, 2) := dw_21 wX8_retrace_c 5 rfl
theorem dX8_retrace_12 : decode cX8_retrace 12 = .ok (.aload_n 0, 1) := dw_42 wX8_retrace_c rfl
theorem dX8_retrace_13 : decode cX8_retrace 13 = .ok (.getfield 24, 3) := dw_180 wX8_retrace_c 0 24 rfl rfl
theorem dX8_retrace_16 : decode cX8_retrace 16 = .ok (.if_icmp .ge 59, 3) := dw_162 wX8_retrace_c 0 59 rfl rfl rfl
theorem dX8_retrace_19 : decode cX8_retrace 19 = .ok (.aload_n 0, 1) := dw_42 wX8_retrace_c rfl
theorem dX8_retrace_20 : decode cX8_retrace 20 = .ok (.iload_n 2, 1) := dw_28 wX8_retrace_c rfl
theorem dX8_retrace_21 : decode cX8_retrace 21 = .ok (.iload_n 3, 1) := dw_29 wX8_retrace_c rfl
theorem dX8_retrace_22 : decode cX8_retrace 22 = .ok (.iload 4, 2) := dw_21 wX8_retrace_c 4 rfl
theorem dX8_retrace_24 : decode cX8_retrace 24 = .ok (.invokevirtual 60, 3) := dw_182 wX8_retrace_c 0 60 rfl rfl
theorem dX8_retrace_27 : decode cX8_retrace 27 = .ok (.istore 6, 2) := dw_54 wX8_retrace_c 6 rfl
theorem dX8_retrace_29 : decode cX8_retrace 29 = .ok (.aload_n 0, 1) := dw_42 wX8_retrace_c rfl
theorem dX8_retrace_30 : decode cX8_retrace 30 = .ok (.getfield 9, 3) := dw_180 wX8_retrace_c 0 9 rfl rfl
theorem dX8_retrace_33 : decode cX8_retrace 33 = .ok (.iload 5, 2) := dw_21 wX8_retrace_c 5 rfl
theorem dX8_retrace_35 : decode cX8_retrace 35 = .ok (.aload_n 0, 1) := dw_42 wX8_retrace_c rfl
theorem dX8_retrace_36 : decode cX8_retrace 36 = .ok (.getfield 17, 3) := dw_180 wX8_retrace_c 0 17 rfl rfl
theorem dX8_retrace_39 : decode cX8_retrace 39 = .ok (.iload 6, 2) := dw_21 wX8_retrace_c 6 rfl
theorem dX8_retrace_41 : decode cX8_retrace 41 = .ok (.aaload, 1) := dw_50 wX8_retrace_c rfl
theorem dX8_retrace_42 : decode cX8_retrace 42 = .ok (.getfield 28, 3) := dw_180 wX8_retrace_c 0 28 rfl rfl
theorem dX8_retrace_45 : decode cX8_retrace 45 = .ok (.iastore, 1) := dw_79 wX8_retrace_c rfl
theorem dX8_retrace_46 : decode cX8_retrace 46 = .ok (.iload_n 2, 1) := dw_28 wX8_retrace_c rfl
theorem dX8_retrace_47 : decode cX8_retrace 47 = .ok (.iconst 1, 1) := dw_4 wX8_retrace_c rfl
theorem dX8_retrace_48 : decode cX8_retrace 48 = .ok (.iload 6, 2) := dw_21 wX8_retrace_c 6 rfl
theorem dX8_retrace_50 : decode cX8_retrace 50 = .ok (.ishl, 1) := dw_120 wX8_retrace_c rfl
theorem dX8_retrace_51 : decode cX8_retrace 51 = .ok (.ior, 1) := dw_128 wX8_retrace_c rfl
theorem dX8_retrace_52 : decode cX8_retrace 52 = .ok (.istore_n 2, 1) := dw_61 wX8_retrace_c rfl
theorem dX8_retrace_53 : decode cX8_retrace 53 = .ok (.iload 6, 2) := dw_21 wX8_retrace_c 6 rfl
theorem dX8_retrace_55 : decode cX8_retrace 55 = .ok (.istore_n 3, 1) := dw_62 wX8_retrace_c rfl
theorem dX8_retrace_56 : decode cX8_retrace 56 = .ok (.aload_n 0, 1) := dw_42 wX8_retrace_c rfl
theorem dX8_retrace_57 : decode cX8_retrace 57 = .ok (.getfield 21, 3) := dw_180 wX8_retrace_c 0 21 rfl rfl
theorem dX8_retrace_60 : decode cX8_retrace 60 = .ok (.iload_n 2, 1) := dw_28 wX8_retrace_c rfl
theorem dX8_retrace_61 : decode cX8_retrace 61 = .ok (.bipush 8, 2) := dw_16 wX8_retrace_c 8 rfl rfl rfl
theorem dX8_retrace_63 : decode cX8_retrace 63 = .ok (.imul, 1) := dw_104 wX8_retrace_c rfl
theorem dX8_retrace_64 : decode cX8_retrace 64 = .ok (.iload_n 3, 1) := dw_29 wX8_retrace_c rfl
theorem dX8_retrace_65 : decode cX8_retrace 65 = .ok (.iadd, 1) := dw_96 wX8_retrace_c rfl
theorem dX8_retrace_66 : decode cX8_retrace 66 = .ok (.iaload, 1) := dw_46 wX8_retrace_c rfl
theorem dX8_retrace_67 : decode cX8_retrace 67 = .ok (.istore 4, 2) := dw_54 wX8_retrace_c 4 rfl
theorem dX8_retrace_69 : decode cX8_retrace 69 = .ok (.iinc 5 1, 3) := dw_132 wX8_retrace_c 5 1 rfl rfl rfl
theorem dX8_retrace_72 : decode cX8_retrace 72 = .ok (.goto (-62), 3) := dn_167 wX8_retrace_c 255 194 rfl (by decide)
theorem dX8_retrace_75 : decode cX8_retrace 75 = .ok (.return_, 1) := dw_177 wX8_retrace_c rfl
def wNX8_walkList : Nat := 90924635059178000876480820767209046619154424394415020912056264934433238016585658948279109355314785311746939477863760634830197359745114102093037621141704443131295520724053590350571346552983086182681806275402591971777052610522480086360239658858316097828995369646882043472388
theorem wX8_walkList_c : hz_cd cX8_walkList wNX8_walkList 113 := ⟨by decide +kernel, by decide +kernel⟩
theorem dX8_walkList_0 : decode cX8_walkList 0 = .ok (.iconst 1, 1) := dw_4 wX8_walkList_c rfl
theorem dX8_walkList_1 : decode cX8_walkList 1 = .ok (.aload_n 0, 1) := dw_42 wX8_walkList_c rfl
theorem dX8_walkList_2 : decode cX8_walkList 2 = .ok (.getfield 24, 3) := dw_180 wX8_walkList_c 0 24 rfl rfl
theorem dX8_walkList_5 : decode cX8_walkList 5 = .ok (.ishl, 1) := dw_120 wX8_walkList_c rfl
theorem dX8_walkList_6 : decode cX8_walkList 6 = .ok (.iconst 1, 1) := dw_4 wX8_walkList_c rfl
theorem dX8_walkList_7 : decode cX8_walkList 7 = .ok (.isub, 1) := dw_100 wX8_walkList_c rfl
theorem dX8_walkList_8 : decode cX8_walkList 8 = .ok (.istore_n 1, 1) := dw_60 wX8_walkList_c rfl
theorem dX8_walkList_9 : decode cX8_walkList 9 = .ok (.iload_n 1, 1) := dw_27 wX8_walkList_c rfl
theorem dX8_walkList_10 : decode cX8_walkList 10 = .ok (.istore_n 2, 1) := dw_61 wX8_walkList_c rfl
theorem dX8_walkList_11 : decode cX8_walkList 11 = .ok (.iload_n 2, 1) := dw_28 wX8_walkList_c rfl
theorem dX8_walkList_12 : decode cX8_walkList 12 = .ok (.ifCond .le 63, 3) := dw_158 wX8_walkList_c 0 63 rfl rfl rfl
theorem dX8_walkList_15 : decode cX8_walkList 15 = .ok (.iconst 0, 1) := dw_3 wX8_walkList_c rfl
theorem dX8_walkList_16 : decode cX8_walkList 16 = .ok (.istore_n 3, 1) := dw_62 wX8_walkList_c rfl
theorem dX8_walkList_17 : decode cX8_walkList 17 = .ok (.iload_n 3, 1) := dw_29 wX8_walkList_c rfl
theorem dX8_walkList_18 : decode cX8_walkList 18 = .ok (.aload_n 0, 1) := dw_42 wX8_walkList_c rfl
theorem dX8_walkList_19 : decode cX8_walkList 19 = .ok (.getfield 24, 3) := dw_180 wX8_walkList_c 0 24 rfl rfl
theorem dX8_walkList_22 : decode cX8_walkList 22 = .ok (.if_icmp .ge 47, 3) := dw_162 wX8_walkList_c 0 47 rfl rfl rfl
theorem dX8_walkList_25 : decode cX8_walkList 25 = .ok (.iload_n 3, 1) := dw_29 wX8_walkList_c rfl
theorem dX8_walkList_26 : decode cX8_walkList 26 = .ok (.iload_n 2, 1) := dw_28 wX8_walkList_c rfl
theorem dX8_walkList_27 : decode cX8_walkList 27 = .ok (.invokestatic 31, 3) := dw_184 wX8_walkList_c 0 31 rfl rfl
theorem dX8_walkList_30 : decode cX8_walkList 30 = .ok (.ifCond .eq 33, 3) := dw_153 wX8_walkList_c 0 33 rfl rfl rfl
theorem dX8_walkList_33 : decode cX8_walkList 33 = .ok (.aload_n 0, 1) := dw_42 wX8_walkList_c rfl
theorem dX8_walkList_34 : decode cX8_walkList 34 = .ok (.getfield 21, 3) := dw_180 wX8_walkList_c 0 21 rfl rfl
theorem dX8_walkList_37 : decode cX8_walkList 37 = .ok (.iload_n 2, 1) := dw_28 wX8_walkList_c rfl
theorem dX8_walkList_38 : decode cX8_walkList 38 = .ok (.bipush 8, 2) := dw_16 wX8_walkList_c 8 rfl rfl rfl
theorem dX8_walkList_40 : decode cX8_walkList 40 = .ok (.imul, 1) := dw_104 wX8_walkList_c rfl
theorem dX8_walkList_41 : decode cX8_walkList 41 = .ok (.iload_n 3, 1) := dw_29 wX8_walkList_c rfl
theorem dX8_walkList_42 : decode cX8_walkList 42 = .ok (.iadd, 1) := dw_96 wX8_walkList_c rfl
theorem dX8_walkList_43 : decode cX8_walkList 43 = .ok (.iload_n 2, 1) := dw_28 wX8_walkList_c rfl
theorem dX8_walkList_44 : decode cX8_walkList 44 = .ok (.iload_n 1, 1) := dw_27 wX8_walkList_c rfl
theorem dX8_walkList_45 : decode cX8_walkList 45 = .ok (.if_icmp .ne 11, 3) := dw_160 wX8_walkList_c 0 11 rfl rfl rfl
theorem dX8_walkList_48 : decode cX8_walkList 48 = .ok (.aload_n 0, 1) := dw_42 wX8_walkList_c rfl
theorem dX8_walkList_49 : decode cX8_walkList 49 = .ok (.iload_n 3, 1) := dw_29 wX8_walkList_c rfl
theorem dX8_walkList_50 : decode cX8_walkList 50 = .ok (.invokevirtual 35, 3) := dw_182 wX8_walkList_c 0 35 rfl rfl
theorem dX8_walkList_53 : decode cX8_walkList 53 = .ok (.goto 9, 3) := dw_167 wX8_walkList_c 0 9 rfl rfl rfl
theorem dX8_walkList_56 : decode cX8_walkList 56 = .ok (.aload_n 0, 1) := dw_42 wX8_walkList_c rfl
theorem dX8_walkList_57 : decode cX8_walkList 57 = .ok (.iload_n 2, 1) := dw_28 wX8_walkList_c rfl
theorem dX8_walkList_58 : decode cX8_walkList 58 = .ok (.iload_n 3, 1) := dw_29 wX8_walkList_c rfl
theorem dX8_walkList_59 : decode cX8_walkList 59 = .ok (.invokevirtual 39, 3) := dw_182 wX8_walkList_c 0 39 rfl rfl
theorem dX8_walkList_62 : decode cX8_walkList 62 = .ok (.iastore, 1) := dw_79 wX8_walkList_c rfl
theorem dX8_walkList_63 : decode cX8_walkList 63 = .ok (.iinc 3 1, 3) := dw_132 wX8_walkList_c 3 1 rfl rfl rfl
theorem dX8_walkList_66 : decode cX8_walkList 66 = .ok (.goto (-49), 3) := dn_167 wX8_walkList_c 255 207 rfl (by decide)
theorem dX8_walkList_69 : decode cX8_walkList 69 = .ok (.iinc 2 (-1), 3) := dn_132 wX8_walkList_c 2 255 rfl (by decide)
theorem dX8_walkList_72 : decode cX8_walkList 72 = .ok (.goto (-61), 3) := dn_167 wX8_walkList_c 255 195 rfl (by decide)
theorem dX8_walkList_75 : decode cX8_walkList 75 = .ok (.aload_n 0, 1) := dw_42 wX8_walkList_c rfl
theorem dX8_walkList_76 : decode cX8_walkList 76 = .ok (.getfield 24, 3) := dw_180 wX8_walkList_c 0 24 rfl rfl
theorem dX8_walkList_79 : decode cX8_walkList 79 = .ok (.ifCond .ne 7, 3) := dw_154 wX8_walkList_c 0 7 rfl rfl rfl
theorem dX8_walkList_82 : decode cX8_walkList 82 = .ok (.iconst 0, 1) := dw_3 wX8_walkList_c rfl
theorem dX8_walkList_83 : decode cX8_walkList 83 = .ok (.goto 9, 3) := dw_167 wX8_walkList_c 0 9 rfl rfl rfl
theorem dX8_walkList_86 : decode cX8_walkList 86 = .ok (.aload_n 0, 1) := dw_42 wX8_walkList_c rfl
theorem dX8_walkList_87 : decode cX8_walkList 87 = .ok (.iconst 0, 1) := dw_3 wX8_walkList_c rfl
theorem dX8_walkList_88 : decode cX8_walkList 88 = .ok (.iconst (-1), 1) := dw_2 wX8_walkList_c rfl
theorem dX8_walkList_89 : decode cX8_walkList 89 = .ok (.invokevirtual 39, 3) := dw_182 wX8_walkList_c 0 39 rfl rfl
theorem dX8_walkList_92 : decode cX8_walkList 92 = .ok (.istore_n 2, 1) := dw_61 wX8_walkList_c rfl
theorem dX8_walkList_93 : decode cX8_walkList 93 = .ok (.aload_n 0, 1) := dw_42 wX8_walkList_c rfl
theorem dX8_walkList_94 : decode cX8_walkList 94 = .ok (.iload_n 2, 1) := dw_28 wX8_walkList_c rfl
theorem dX8_walkList_95 : decode cX8_walkList 95 = .ok (.invokevirtual 43, 3) := dw_182 wX8_walkList_c 0 43 rfl rfl
theorem dX8_walkList_98 : decode cX8_walkList 98 = .ok (.aload_n 0, 1) := dw_42 wX8_walkList_c rfl
theorem dX8_walkList_99 : decode cX8_walkList 99 = .ok (.aload_n 0, 1) := dw_42 wX8_walkList_c rfl
theorem dX8_walkList_100 : decode cX8_walkList 100 = .ok (.getfield 24, 3) := dw_180 wX8_walkList_c 0 24 rfl rfl
theorem dX8_walkList_103 : decode cX8_walkList 103 = .ok (.putfield 47, 3) := dw_181 wX8_walkList_c 0 47 rfl rfl
theorem dX8_walkList_106 : decode cX8_walkList 106 = .ok (.aload_n 0, 1) := dw_42 wX8_walkList_c rfl
theorem dX8_walkList_107 : decode cX8_walkList 107 = .ok (.iconst 0, 1) := dw_3 wX8_walkList_c rfl
theorem dX8_walkList_108 : decode cX8_walkList 108 = .ok (.putfield 24, 3) := dw_181 wX8_walkList_c 0 24 rfl rfl
theorem dX8_walkList_111 : decode cX8_walkList 111 = .ok (.iload_n 2, 1) := dw_28 wX8_walkList_c rfl
theorem dX8_walkList_112 : decode cX8_walkList 112 = .ok (.ireturn, 1) := dw_172 wX8_walkList_c rfl