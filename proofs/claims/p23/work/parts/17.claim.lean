def wNX2_paidOn : Nat := 1735067958907665171906773632978485733018647518144754147518940564410604338742815863647620706779845024700674239714203579434
theorem wX2_paidOn_c : hz_cd cX2_paidOn wNX2_paidOn 50 := ⟨by decide +kernel, by decide +kernel⟩
theorem dX2_paidOn_0 : decode cX2_paidOn 0 = .ok (.aload_n 0, 1) := dw_42 wX2_paidOn_c rfl
theorem dX2_paidOn_1 : decode cX2_paidOn 1 = .ok (.getfield 28, 3) := dw_180 wX2_paidOn_c 0 28 rfl rfl
theorem dX2_paidOn_4 : decode cX2_paidOn 4 = .ok (.iload_n 2, 1) := dw_28 wX2_paidOn_c rfl
theorem dX2_paidOn_5 : decode cX2_paidOn 5 = .ok (.invokestatic 60, 3) := dw_184 wX2_paidOn_c 0 60 rfl rfl
theorem dX2_paidOn_8 : decode cX2_paidOn 8 = .ok (.ifCond .eq 10, 3) := dw_153 wX2_paidOn_c 0 10 rfl rfl rfl
theorem dX2_paidOn_11 : decode cX2_paidOn 11 = .ok (.aload_n 0, 1) := dw_42 wX2_paidOn_c rfl
theorem dX2_paidOn_12 : decode cX2_paidOn 12 = .ok (.getfield 98, 3) := dw_180 wX2_paidOn_c 0 98 rfl rfl
theorem dX2_paidOn_15 : decode cX2_paidOn 15 = .ok (.goto 4, 3) := dw_167 wX2_paidOn_c 0 4 rfl rfl rfl
theorem dX2_paidOn_18 : decode cX2_paidOn 18 = .ok (.iconst 0, 1) := dw_3 wX2_paidOn_c rfl
theorem dX2_paidOn_19 : decode cX2_paidOn 19 = .ok (.istore 4, 2) := dw_54 wX2_paidOn_c 4 rfl
theorem dX2_paidOn_21 : decode cX2_paidOn 21 = .ok (.aload_n 0, 1) := dw_42 wX2_paidOn_c rfl
theorem dX2_paidOn_22 : decode cX2_paidOn 22 = .ok (.getfield 25, 3) := dw_180 wX2_paidOn_c 0 25 rfl rfl
theorem dX2_paidOn_25 : decode cX2_paidOn 25 = .ok (.iload_n 2, 1) := dw_28 wX2_paidOn_c rfl
theorem dX2_paidOn_26 : decode cX2_paidOn 26 = .ok (.invokestatic 60, 3) := dw_184 wX2_paidOn_c 0 60 rfl rfl
theorem dX2_paidOn_29 : decode cX2_paidOn 29 = .ok (.ifCond .eq 19, 3) := dw_153 wX2_paidOn_c 0 19 rfl rfl rfl
theorem dX2_paidOn_32 : decode cX2_paidOn 32 = .ok (.aload_n 1, 1) := dw_43 wX2_paidOn_c rfl
theorem dX2_paidOn_33 : decode cX2_paidOn 33 = .ok (.aload_n 0, 1) := dw_42 wX2_paidOn_c rfl
theorem dX2_paidOn_34 : decode cX2_paidOn 34 = .ok (.getfield 34, 3) := dw_180 wX2_paidOn_c 0 34 rfl rfl
theorem dX2_paidOn_37 : decode cX2_paidOn 37 = .ok (.iload_n 2, 1) := dw_28 wX2_paidOn_c rfl
theorem dX2_paidOn_38 : decode cX2_paidOn 38 = .ok (.iload_n 3, 1) := dw_29 wX2_paidOn_c rfl
theorem dX2_paidOn_39 : decode cX2_paidOn 39 = .ok (.invokevirtual 101, 3) := dw_182 wX2_paidOn_c 0 101 rfl rfl
theorem dX2_paidOn_42 : decode cX2_paidOn 42 = .ok (.iload 4, 2) := dw_21 wX2_paidOn_c 4 rfl
theorem dX2_paidOn_44 : decode cX2_paidOn 44 = .ok (.iadd, 1) := dw_96 wX2_paidOn_c rfl
theorem dX2_paidOn_45 : decode cX2_paidOn 45 = .ok (.goto 4, 3) := dw_167 wX2_paidOn_c 0 4 rfl rfl rfl
theorem dX2_paidOn_48 : decode cX2_paidOn 48 = .ok (.iconst 0, 1) := dw_3 wX2_paidOn_c rfl
theorem dX2_paidOn_49 : decode cX2_paidOn 49 = .ok (.ireturn, 1) := dw_172 wX2_paidOn_c rfl
def wNX2_owedOn : Nat := 5110947345168433344956423153242541662466585597099344469747802017354936491305907242
theorem wX2_owedOn_c : hz_cd cX2_owedOn wNX2_owedOn 34 := ⟨by decide +kernel, by decide +kernel⟩
theorem dX2_owedOn_0 : decode cX2_owedOn 0 = .ok (.aload_n 0, 1) := dw_42 wX2_owedOn_c rfl
theorem dX2_owedOn_1 : decode cX2_owedOn 1 = .ok (.getfield 28, 3) := dw_180 wX2_owedOn_c 0 28 rfl rfl
theorem dX2_owedOn_4 : decode cX2_owedOn 4 = .ok (.iload_n 1, 1) := dw_27 wX2_owedOn_c rfl
theorem dX2_owedOn_5 : decode cX2_owedOn 5 = .ok (.invokestatic 60, 3) := dw_184 wX2_owedOn_c 0 60 rfl rfl
theorem dX2_owedOn_8 : decode cX2_owedOn 8 = .ok (.ifCond .eq 21, 3) := dw_153 wX2_owedOn_c 0 21 rfl rfl rfl
theorem dX2_owedOn_11 : decode cX2_owedOn 11 = .ok (.aload_n 0, 1) := dw_42 wX2_owedOn_c rfl
theorem dX2_owedOn_12 : decode cX2_owedOn 12 = .ok (.getfield 107, 3) := dw_180 wX2_owedOn_c 0 107 rfl rfl
theorem dX2_owedOn_15 : decode cX2_owedOn 15 = .ok (.aload_n 0, 1) := dw_42 wX2_owedOn_c rfl
theorem dX2_owedOn_16 : decode cX2_owedOn 16 = .ok (.getfield 44, 3) := dw_180 wX2_owedOn_c 0 44 rfl rfl
theorem dX2_owedOn_19 : decode cX2_owedOn 19 = .ok (.getfield 51, 3) := dw_180 wX2_owedOn_c 0 51 rfl rfl
theorem dX2_owedOn_22 : decode cX2_owedOn 22 = .ok (.bipush 13, 2) := dw_16 wX2_owedOn_c 13 rfl rfl rfl
theorem dX2_owedOn_24 : decode cX2_owedOn 24 = .ok (.iaload, 1) := dw_46 wX2_owedOn_c rfl
theorem dX2_owedOn_25 : decode cX2_owedOn 25 = .ok (.iadd, 1) := dw_96 wX2_owedOn_c rfl
theorem dX2_owedOn_26 : decode cX2_owedOn 26 = .ok (.goto 7, 3) := dw_167 wX2_owedOn_c 0 7 rfl rfl rfl
theorem dX2_owedOn_29 : decode cX2_owedOn 29 = .ok (.aload_n 0, 1) := dw_42 wX2_owedOn_c rfl
theorem dX2_owedOn_30 : decode cX2_owedOn 30 = .ok (.getfield 107, 3) := dw_180 wX2_owedOn_c 0 107 rfl rfl
theorem dX2_owedOn_33 : decode cX2_owedOn 33 = .ok (.ireturn, 1) := dw_172 wX2_owedOn_c rfl
theorem dX2_balanceOn_0 : decode cX2_balanceOn 0 = .ok (.aload_n 0, 1) := by decide +kernel
theorem dX2_balanceOn_1 : decode cX2_balanceOn 1 = .ok (.getfield 25, 3) := by decide +kernel
theorem dX2_balanceOn_4 : decode cX2_balanceOn 4 = .ok (.iload_n 2, 1) := by decide +kernel
theorem dX2_balanceOn_5 : decode cX2_balanceOn 5 = .ok (.invokestatic 60, 3) := by decide +kernel
theorem dX2_balanceOn_8 : decode cX2_balanceOn 8 = .ok (.ifCond .eq 19, 3) := by decide +kernel
theorem dX2_balanceOn_11 : decode cX2_balanceOn 11 = .ok (.aload_n 0, 1) := by decide +kernel
theorem dX2_balanceOn_12 : decode cX2_balanceOn 12 = .ok (.iload_n 2, 1) := by decide +kernel
theorem dX2_balanceOn_13 : decode cX2_balanceOn 13 = .ok (.invokevirtual 83, 3) := by decide +kernel
theorem dX2_balanceOn_16 : decode cX2_balanceOn 16 = .ok (.aload_n 0, 1) := by decide +kernel
theorem dX2_balanceOn_17 : decode cX2_balanceOn 17 = .ok (.aload_n 1, 1) := by decide +kernel
theorem dX2_balanceOn_18 : decode cX2_balanceOn 18 = .ok (.iload_n 2, 1) := by decide +kernel
theorem dX2_balanceOn_19 : decode cX2_balanceOn 19 = .ok (.iload_n 3, 1) := by decide +kernel
theorem dX2_balanceOn_20 : decode cX2_balanceOn 20 = .ok (.invokevirtual 92, 3) := by decide +kernel
theorem dX2_balanceOn_23 : decode cX2_balanceOn 23 = .ok (.isub, 1) := by decide +kernel
theorem dX2_balanceOn_24 : decode cX2_balanceOn 24 = .ok (.goto 4, 3) := by decide +kernel
theorem dX2_balanceOn_27 : decode cX2_balanceOn 27 = .ok (.iconst 0, 1) := by decide +kernel
theorem dX2_balanceOn_28 : decode cX2_balanceOn 28 = .ok (.ireturn, 1) := by decide +kernel
theorem dX2_restOn_0 : decode cX2_restOn 0 = .ok (.aload_n 0, 1) := by decide +kernel
theorem dX2_restOn_1 : decode cX2_restOn 1 = .ok (.getfield 31, 3) := by decide +kernel
theorem dX2_restOn_4 : decode cX2_restOn 4 = .ok (.iload_n 2, 1) := by decide +kernel
theorem dX2_restOn_5 : decode cX2_restOn 5 = .ok (.invokestatic 60, 3) := by decide +kernel
theorem dX2_restOn_8 : decode cX2_restOn 8 = .ok (.ifCond .eq 7, 3) := by decide +kernel
theorem dX2_restOn_11 : decode cX2_restOn 11 = .ok (.iconst 0, 1) := by decide +kernel
theorem dX2_restOn_12 : decode cX2_restOn 12 = .ok (.goto 14, 3) := by decide +kernel
theorem dX2_restOn_15 : decode cX2_restOn 15 = .ok (.iconst 0, 1) := by decide +kernel
theorem dX2_restOn_16 : decode cX2_restOn 16 = .ok (.aload_n 0, 1) := by decide +kernel
theorem dX2_restOn_17 : decode cX2_restOn 17 = .ok (.aload_n 1, 1) := by decide +kernel
theorem dX2_restOn_18 : decode cX2_restOn 18 = .ok (.iload_n 2, 1) := by decide +kernel
theorem dX2_restOn_19 : decode cX2_restOn 19 = .ok (.iload_n 3, 1) := by decide +kernel
theorem dX2_restOn_20 : decode cX2_restOn 20 = .ok (.invokevirtual 74, 3) := by decide +kernel
theorem dX2_restOn_23 : decode cX2_restOn 23 = .ok (.invokestatic 77, 3) := by decide +kernel
theorem dX2_restOn_26 : decode cX2_restOn 26 = .ok (.ireturn, 1) := by decide +kernel
theorem dX2_overOn_0 : decode cX2_overOn 0 = .ok (.aload_n 0, 1) := by decide +kernel
theorem dX2_overOn_1 : decode cX2_overOn 1 = .ok (.getfield 31, 3) := by decide +kernel
theorem dX2_overOn_4 : decode cX2_overOn 4 = .ok (.iload_n 2, 1) := by decide +kernel
theorem dX2_overOn_5 : decode cX2_overOn 5 = .ok (.invokestatic 60, 3) := by decide +kernel
theorem dX2_overOn_8 : decode cX2_overOn 8 = .ok (.ifCond .eq 7, 3) := by decide +kernel
theorem dX2_overOn_11 : decode cX2_overOn 11 = .ok (.iconst 0, 1) := by decide +kernel
theorem dX2_overOn_12 : decode cX2_overOn 12 = .ok (.goto 15, 3) := by decide +kernel
theorem dX2_overOn_15 : decode cX2_overOn 15 = .ok (.iconst 0, 1) := by decide +kernel
theorem dX2_overOn_16 : decode cX2_overOn 16 = .ok (.aload_n 0, 1) := by decide +kernel
theorem dX2_overOn_17 : decode cX2_overOn 17 = .ok (.aload_n 1, 1) := by decide +kernel
theorem dX2_overOn_18 : decode cX2_overOn 18 = .ok (.iload_n 2, 1) := by decide +kernel
theorem dX2_overOn_19 : decode cX2_overOn 19 = .ok (.iload_n 3, 1) := by decide +kernel
theorem dX2_overOn_20 : decode cX2_overOn 20 = .ok (.invokevirtual 74, 3) := by decide +kernel
theorem dX2_overOn_23 : decode cX2_overOn 23 = .ok (.ineg, 1) := by decide +kernel
theorem dX2_overOn_24 : decode cX2_overOn 24 = .ok (.invokestatic 77, 3) := by decide +kernel
theorem dX2_overOn_27 : decode cX2_overOn 27 = .ok (.ireturn, 1) := by decide +kernel
theorem dX2_isOpen_0 : decode cX2_isOpen 0 = .ok (.aload_n 0, 1) := by decide +kernel
theorem dX2_isOpen_1 : decode cX2_isOpen 1 = .ok (.aload_n 1, 1) := by decide +kernel
theorem dX2_isOpen_2 : decode cX2_isOpen 2 = .ok (.iload_n 2, 1) := by decide +kernel
theorem dX2_isOpen_3 : decode cX2_isOpen 3 = .ok (.iload_n 2, 1) := by decide +kernel
theorem dX2_isOpen_4 : decode cX2_isOpen 4 = .ok (.invokevirtual 56, 3) := by decide +kernel
theorem dX2_isOpen_7 : decode cX2_isOpen 7 = .ok (.ifCond .le 7, 3) := by decide +kernel
theorem dX2_isOpen_10 : decode cX2_isOpen 10 = .ok (.iconst 1, 1) := by decide +kernel
theorem dX2_isOpen_11 : decode cX2_isOpen 11 = .ok (.goto 4, 3) := by decide +kernel
theorem dX2_isOpen_14 : decode cX2_isOpen 14 = .ok (.iconst 0, 1) := by decide +kernel
theorem dX2_isOpen_15 : decode cX2_isOpen 15 = .ok (.ireturn, 1) := by decide +kernel
def wNX2_stateAheadOfOrder : Nat := 94058222522838277641646193907377538241598893352020055285483782726425317278965690550730066788735824938
theorem wX2_stateAheadOfOrder_c : hz_cd cX2_stateAheadOfOrder wNX2_stateAheadOfOrder 42 := ⟨by decide +kernel, by decide +kernel⟩
theorem dX2_stateAheadOfOrder_0 : decode cX2_stateAheadOfOrder 0 = .ok (.aload_n 0, 1) := dw_42 wX2_stateAheadOfOrder_c rfl
theorem dX2_stateAheadOfOrder_1 : decode cX2_stateAheadOfOrder 1 = .ok (.getfield 22, 3) := dw_180 wX2_stateAheadOfOrder_c 0 22 rfl rfl
theorem dX2_stateAheadOfOrder_4 : decode cX2_stateAheadOfOrder 4 = .ok (.iload_n 1, 1) := dw_27 wX2_stateAheadOfOrder_c rfl
theorem dX2_stateAheadOfOrder_5 : decode cX2_stateAheadOfOrder 5 = .ok (.invokestatic 60, 3) := dw_184 wX2_stateAheadOfOrder_c 0 60 rfl rfl
theorem dX2_stateAheadOfOrder_8 : decode cX2_stateAheadOfOrder 8 = .ok (.ifCond .eq 17, 3) := dw_153 wX2_stateAheadOfOrder_c 0 17 rfl rfl rfl
theorem dX2_stateAheadOfOrder_11 : decode cX2_stateAheadOfOrder 11 = .ok (.aload_n 0, 1) := dw_42 wX2_stateAheadOfOrder_c rfl
theorem dX2_stateAheadOfOrder_12 : decode cX2_stateAheadOfOrder 12 = .ok (.getfield 71, 3) := dw_180 wX2_stateAheadOfOrder_c 0 71 rfl rfl
theorem dX2_stateAheadOfOrder_15 : decode cX2_stateAheadOfOrder 15 = .ok (.iconst 5, 1) := dw_8 wX2_stateAheadOfOrder_c rfl
theorem dX2_stateAheadOfOrder_16 : decode cX2_stateAheadOfOrder 16 = .ok (.if_icmp .ne 7, 3) := dw_160 wX2_stateAheadOfOrder_c 0 7 rfl rfl rfl
theorem dX2_stateAheadOfOrder_19 : decode cX2_stateAheadOfOrder 19 = .ok (.iconst 3, 1) := dw_6 wX2_stateAheadOfOrder_c rfl
theorem dX2_stateAheadOfOrder_20 : decode cX2_stateAheadOfOrder 20 = .ok (.goto 4, 3) := dw_167 wX2_stateAheadOfOrder_c 0 4 rfl rfl rfl
theorem dX2_stateAheadOfOrder_23 : decode cX2_stateAheadOfOrder 23 = .ok (.iconst 2, 1) := dw_5 wX2_stateAheadOfOrder_c rfl
theorem dX2_stateAheadOfOrder_24 : decode cX2_stateAheadOfOrder 24 = .ok (.ireturn, 1) := dw_172 wX2_stateAheadOfOrder_c rfl
theorem dX2_stateAheadOfOrder_25 : decode cX2_stateAheadOfOrder 25 = .ok (.aload_n 0, 1) := dw_42 wX2_stateAheadOfOrder_c rfl
theorem dX2_stateAheadOfOrder_26 : decode cX2_stateAheadOfOrder 26 = .ok (.getfield 18, 3) := dw_180 wX2_stateAheadOfOrder_c 0 18 rfl rfl
theorem dX2_stateAheadOfOrder_29 : decode cX2_stateAheadOfOrder 29 = .ok (.iload_n 1, 1) := dw_27 wX2_stateAheadOfOrder_c rfl
theorem dX2_stateAheadOfOrder_30 : decode cX2_stateAheadOfOrder 30 = .ok (.invokestatic 60, 3) := dw_184 wX2_stateAheadOfOrder_c 0 60 rfl rfl
theorem dX2_stateAheadOfOrder_33 : decode cX2_stateAheadOfOrder 33 = .ok (.ifCond .eq 7, 3) := dw_153 wX2_stateAheadOfOrder_c 0 7 rfl rfl rfl
theorem dX2_stateAheadOfOrder_36 : decode cX2_stateAheadOfOrder 36 = .ok (.iconst 1, 1) := dw_4 wX2_stateAheadOfOrder_c rfl
theorem dX2_stateAheadOfOrder_37 : decode cX2_stateAheadOfOrder 37 = .ok (.goto 4, 3) := dw_167 wX2_stateAheadOfOrder_c 0 4 rfl rfl rfl
theorem dX2_stateAheadOfOrder_40 : decode cX2_stateAheadOfOrder 40 = .ok (.iconst 0, 1) := dw_3 wX2_stateAheadOfOrder_c rfl
theorem dX2_stateAheadOfOrder_41 : decode cX2_stateAheadOfOrder 41 = .ok (.ireturn, 1) := dw_172 wX2_stateAheadOfOrder_c rfl