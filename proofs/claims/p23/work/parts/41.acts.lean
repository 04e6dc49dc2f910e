def wNX10_isNew : Nat := 19918136954360983673052968190982462702272941753005725667357540526264515544855594
theorem wX10_isNew_c : hz_cd cX10_isNew wNX10_isNew 33 := ⟨by decide +kernel, by decide +kernel⟩
theorem dX10_isNew_0 : decode cX10_isNew 0 = .ok (.aload_n 0, 1) := dw_42 wX10_isNew_c rfl
theorem dX10_isNew_1 : decode cX10_isNew 1 = .ok (.getfield 306, 3) := dw_180 wX10_isNew_c 1 50 rfl rfl
theorem dX10_isNew_4 : decode cX10_isNew 4 = .ok (.iload_n 1, 1) := dw_27 wX10_isNew_c rfl
theorem dX10_isNew_5 : decode cX10_isNew 5 = .ok (.ishr, 1) := dw_122 wX10_isNew_c rfl
theorem dX10_isNew_6 : decode cX10_isNew 6 = .ok (.iconst 1, 1) := dw_4 wX10_isNew_c rfl
theorem dX10_isNew_7 : decode cX10_isNew 7 = .ok (.iand, 1) := dw_126 wX10_isNew_c rfl
theorem dX10_isNew_8 : decode cX10_isNew 8 = .ok (.iconst 1, 1) := dw_4 wX10_isNew_c rfl
theorem dX10_isNew_9 : decode cX10_isNew 9 = .ok (.if_icmp .ne 10, 3) := dw_160 wX10_isNew_c 0 10 rfl rfl rfl
theorem dX10_isNew_12 : decode cX10_isNew 12 = .ok (.aload_n 0, 1) := dw_42 wX10_isNew_c rfl
theorem dX10_isNew_13 : decode cX10_isNew 13 = .ok (.iconst 2, 1) := dw_5 wX10_isNew_c rfl
theorem dX10_isNew_14 : decode cX10_isNew 14 = .ok (.iload_n 2, 1) := dw_28 wX10_isNew_c rfl
theorem dX10_isNew_15 : decode cX10_isNew 15 = .ok (.invokevirtual 255, 3) := dw_182 wX10_isNew_c 0 255 rfl rfl
theorem dX10_isNew_18 : decode cX10_isNew 18 = .ok (.ireturn, 1) := dw_172 wX10_isNew_c rfl
theorem dX10_isNew_19 : decode cX10_isNew 19 = .ok (.aload_n 0, 1) := dw_42 wX10_isNew_c rfl
theorem dX10_isNew_20 : decode cX10_isNew 20 = .ok (.dup, 1) := dw_89 wX10_isNew_c rfl
theorem dX10_isNew_21 : decode cX10_isNew 21 = .ok (.getfield 306, 3) := dw_180 wX10_isNew_c 1 50 rfl rfl
theorem dX10_isNew_24 : decode cX10_isNew 24 = .ok (.iconst 1, 1) := dw_4 wX10_isNew_c rfl
theorem dX10_isNew_25 : decode cX10_isNew 25 = .ok (.iload_n 1, 1) := dw_27 wX10_isNew_c rfl
theorem dX10_isNew_26 : decode cX10_isNew 26 = .ok (.ishl, 1) := dw_120 wX10_isNew_c rfl
theorem dX10_isNew_27 : decode cX10_isNew 27 = .ok (.ior, 1) := dw_128 wX10_isNew_c rfl
theorem dX10_isNew_28 : decode cX10_isNew 28 = .ok (.putfield 306, 3) := dw_181 wX10_isNew_c 1 50 rfl rfl
theorem dX10_isNew_31 : decode cX10_isNew 31 = .ok (.iconst 1, 1) := dw_4 wX10_isNew_c rfl
theorem dX10_isNew_32 : decode cX10_isNew 32 = .ok (.ireturn, 1) := dw_172 wX10_isNew_c rfl
def wNX10_inForce : Nat := 444437883989189444458385293749448008361826276192409150602845953366236591750152313684836943948530738930298625786476824378627
theorem wX10_inForce_c : hz_cd cX10_inForce wNX10_inForce 51 := ⟨by decide +kernel, by decide +kernel⟩
theorem dX10_inForce_0 : decode cX10_inForce 0 = .ok (.iconst 0, 1) := dw_3 wX10_inForce_c rfl
theorem dX10_inForce_1 : decode cX10_inForce 1 = .ok (.istore_n 2, 1) := dw_61 wX10_inForce_c rfl
theorem dX10_inForce_2 : decode cX10_inForce 2 = .ok (.iconst 1, 1) := dw_4 wX10_inForce_c rfl
theorem dX10_inForce_3 : decode cX10_inForce 3 = .ok (.istore_n 3, 1) := dw_62 wX10_inForce_c rfl
theorem dX10_inForce_4 : decode cX10_inForce 4 = .ok (.iload_n 3, 1) := dw_29 wX10_inForce_c rfl
theorem dX10_inForce_5 : decode cX10_inForce 5 = .ok (.aload_n 0, 1) := dw_42 wX10_inForce_c rfl
theorem dX10_inForce_6 : decode cX10_inForce 6 = .ok (.getfield 321, 3) := dw_180 wX10_inForce_c 1 65 rfl rfl
theorem dX10_inForce_9 : decode cX10_inForce 9 = .ok (.if_icmp .gt 40, 3) := dw_163 wX10_inForce_c 0 40 rfl rfl rfl
theorem dX10_inForce_12 : decode cX10_inForce 12 = .ok (.aload_n 0, 1) := dw_42 wX10_inForce_c rfl
theorem dX10_inForce_13 : decode cX10_inForce 13 = .ok (.getfield 7, 3) := dw_180 wX10_inForce_c 0 7 rfl rfl
theorem dX10_inForce_16 : decode cX10_inForce 16 = .ok (.iload_n 3, 1) := dw_29 wX10_inForce_c rfl
theorem dX10_inForce_17 : decode cX10_inForce 17 = .ok (.iaload, 1) := dw_46 wX10_inForce_c rfl
theorem dX10_inForce_18 : decode cX10_inForce 18 = .ok (.iload_n 1, 1) := dw_27 wX10_inForce_c rfl
theorem dX10_inForce_19 : decode cX10_inForce 19 = .ok (.if_icmp .gt 24, 3) := dw_163 wX10_inForce_c 0 24 rfl rfl rfl
theorem dX10_inForce_22 : decode cX10_inForce 22 = .ok (.iload_n 2, 1) := dw_28 wX10_inForce_c rfl
theorem dX10_inForce_23 : decode cX10_inForce 23 = .ok (.ifCond .eq 18, 3) := dw_153 wX10_inForce_c 0 18 rfl rfl rfl
theorem dX10_inForce_26 : decode cX10_inForce 26 = .ok (.aload_n 0, 1) := dw_42 wX10_inForce_c rfl
theorem dX10_inForce_27 : decode cX10_inForce 27 = .ok (.getfield 7, 3) := dw_180 wX10_inForce_c 0 7 rfl rfl
theorem dX10_inForce_30 : decode cX10_inForce 30 = .ok (.iload_n 3, 1) := dw_29 wX10_inForce_c rfl
theorem dX10_inForce_31 : decode cX10_inForce 31 = .ok (.iaload, 1) := dw_46 wX10_inForce_c rfl
theorem dX10_inForce_32 : decode cX10_inForce 32 = .ok (.aload_n 0, 1) := dw_42 wX10_inForce_c rfl
theorem dX10_inForce_33 : decode cX10_inForce 33 = .ok (.getfield 7, 3) := dw_180 wX10_inForce_c 0 7 rfl rfl
theorem dX10_inForce_36 : decode cX10_inForce 36 = .ok (.iload_n 2, 1) := dw_28 wX10_inForce_c rfl
theorem dX10_inForce_37 : decode cX10_inForce 37 = .ok (.iaload, 1) := dw_46 wX10_inForce_c rfl
theorem dX10_inForce_38 : decode cX10_inForce 38 = .ok (.if_icmp .lt 5, 3) := dw_161 wX10_inForce_c 0 5 rfl rfl rfl
theorem dX10_inForce_41 : decode cX10_inForce 41 = .ok (.iload_n 3, 1) := dw_29 wX10_inForce_c rfl
theorem dX10_inForce_42 : decode cX10_inForce 42 = .ok (.istore_n 2, 1) := dw_61 wX10_inForce_c rfl
theorem dX10_inForce_43 : decode cX10_inForce 43 = .ok (.iinc 3 1, 3) := dw_132 wX10_inForce_c 3 1 rfl rfl rfl
theorem dX10_inForce_46 : decode cX10_inForce 46 = .ok (.goto (-42), 3) := dn_167 wX10_inForce_c 255 214 rfl (by decide)
theorem dX10_inForce_49 : decode cX10_inForce 49 = .ok (.iload_n 2, 1) := dw_28 wX10_inForce_c rfl
theorem dX10_inForce_50 : decode cX10_inForce 50 = .ok (.ireturn, 1) := dw_172 wX10_inForce_c rfl
theorem dX10_ruleOf_0 : decode cX10_ruleOf 0 = .ok (.aload_n 0, 1) := by decide +kernel
theorem dX10_ruleOf_1 : decode cX10_ruleOf 1 = .ok (.getfield 13, 3) := by decide +kernel
theorem dX10_ruleOf_4 : decode cX10_ruleOf 4 = .ok (.bipush 13, 2) := by decide +kernel
theorem dX10_ruleOf_6 : decode cX10_ruleOf 6 = .ok (.iload_n 1, 1) := by decide +kernel
theorem dX10_ruleOf_7 : decode cX10_ruleOf 7 = .ok (.imul, 1) := by decide +kernel
theorem dX10_ruleOf_8 : decode cX10_ruleOf 8 = .ok (.iload_n 2, 1) := by decide +kernel
theorem dX10_ruleOf_9 : decode cX10_ruleOf 9 = .ok (.iadd, 1) := by decide +kernel
theorem dX10_ruleOf_10 : decode cX10_ruleOf 10 = .ok (.iaload, 1) := by decide +kernel
theorem dX10_ruleOf_11 : decode cX10_ruleOf 11 = .ok (.ireturn, 1) := by decide +kernel
def wNX10_force : Nat := 6174557238441873489102103872308602621072005264036177522641565003666873077842528534119733300891130815166491
theorem wX10_force_c : hz_cd cX10_force wNX10_force 44 := ⟨by decide +kernel, by decide +kernel⟩
theorem dX10_force_0 : decode cX10_force 0 = .ok (.iload_n 1, 1) := dw_27 wX10_force_c rfl
theorem dX10_force_1 : decode cX10_force 1 = .ok (.invokestatic 324, 3) := dw_184 wX10_force_c 1 68 rfl rfl
theorem dX10_force_4 : decode cX10_force 4 = .ok (.ifCond .eq 13, 3) := dw_153 wX10_force_c 0 13 rfl rfl rfl
theorem dX10_force_7 : decode cX10_force 7 = .ok (.iload_n 2, 1) := dw_28 wX10_force_c rfl
theorem dX10_force_8 : decode cX10_force 8 = .ok (.iconst 0, 1) := dw_3 wX10_force_c rfl
theorem dX10_force_9 : decode cX10_force 9 = .ok (.bipush 13, 2) := dw_16 wX10_force_c 13 rfl rfl rfl
theorem dX10_force_11 : decode cX10_force 11 = .ok (.invokestatic 228, 3) := dw_184 wX10_force_c 0 228 rfl rfl
theorem dX10_force_14 : decode cX10_force 14 = .ok (.ifCond .ne 5, 3) := dw_154 wX10_force_c 0 5 rfl rfl rfl
theorem dX10_force_17 : decode cX10_force 17 = .ok (.iconst (-1), 1) := dw_2 wX10_force_c rfl
theorem dX10_force_18 : decode cX10_force 18 = .ok (.ireturn, 1) := dw_172 wX10_force_c rfl
theorem dX10_force_19 : decode cX10_force 19 = .ok (.aload_n 0, 1) := dw_42 wX10_force_c rfl
theorem dX10_force_20 : decode cX10_force 20 = .ok (.iload_n 1, 1) := dw_27 wX10_force_c rfl
theorem dX10_force_21 : decode cX10_force 21 = .ok (.invokevirtual 330, 3) := dw_182 wX10_force_c 1 74 rfl rfl
theorem dX10_force_24 : decode cX10_force 24 = .ok (.istore_n 3, 1) := dw_62 wX10_force_c rfl
theorem dX10_force_25 : decode cX10_force 25 = .ok (.iload_n 2, 1) := dw_28 wX10_force_c rfl
theorem dX10_force_26 : decode cX10_force 26 = .ok (.ifCond .ne 9, 3) := dw_154 wX10_force_c 0 9 rfl rfl rfl
theorem dX10_force_29 : decode cX10_force 29 = .ok (.iload_n 3, 1) := dw_29 wX10_force_c rfl
theorem dX10_force_30 : decode cX10_force 30 = .ok (.iconst 1, 1) := dw_4 wX10_force_c rfl
theorem dX10_force_31 : decode cX10_force 31 = .ok (.isub, 1) := dw_100 wX10_force_c rfl
theorem dX10_force_32 : decode cX10_force 32 = .ok (.goto 11, 3) := dw_167 wX10_force_c 0 11 rfl rfl rfl
theorem dX10_force_35 : decode cX10_force 35 = .ok (.aload_n 0, 1) := dw_42 wX10_force_c rfl
theorem dX10_force_36 : decode cX10_force 36 = .ok (.iload_n 3, 1) := dw_29 wX10_force_c rfl
theorem dX10_force_37 : decode cX10_force 37 = .ok (.iload_n 2, 1) := dw_28 wX10_force_c rfl
theorem dX10_force_38 : decode cX10_force 38 = .ok (.iconst 1, 1) := dw_4 wX10_force_c rfl
theorem dX10_force_39 : decode cX10_force 39 = .ok (.isub, 1) := dw_100 wX10_force_c rfl
theorem dX10_force_40 : decode cX10_force 40 = .ok (.invokevirtual 333, 3) := dw_182 wX10_force_c 1 77 rfl rfl
theorem dX10_force_43 : decode cX10_force 43 = .ok (.ireturn, 1) := dw_172 wX10_force_c rfl