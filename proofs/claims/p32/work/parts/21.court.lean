section
def wNX9_livingJudges : Nat := 113773505964440822247201260092231409091734324507497739589281760899776903533363727197442388284982584342245442376393888526187523
theorem wX9_livingJudges_c : hz_cd cX9_livingJudges wNX9_livingJudges 52 := ⟨by decide +kernel, by decide +kernel⟩
theorem dX9_livingJudges_0 : decode cX9_livingJudges 0 = .ok (.iconst 0, 1) := dw_3 wX9_livingJudges_c rfl
theorem dX9_livingJudges_1 : decode cX9_livingJudges 1 = .ok (.istore_n 1, 1) := dw_60 wX9_livingJudges_c rfl
theorem dX9_livingJudges_2 : decode cX9_livingJudges 2 = .ok (.iconst 0, 1) := dw_3 wX9_livingJudges_c rfl
theorem dX9_livingJudges_3 : decode cX9_livingJudges 3 = .ok (.istore_n 2, 1) := dw_61 wX9_livingJudges_c rfl
theorem dX9_livingJudges_4 : decode cX9_livingJudges 4 = .ok (.iload_n 2, 1) := dw_28 wX9_livingJudges_c rfl
theorem dX9_livingJudges_5 : decode cX9_livingJudges 5 = .ok (.aload_n 0, 1) := dw_42 wX9_livingJudges_c rfl
theorem dX9_livingJudges_6 : decode cX9_livingJudges 6 = .ok (.getfield 125, 3) := dw_180 wX9_livingJudges_c 0 125 rfl rfl
theorem dX9_livingJudges_9 : decode cX9_livingJudges 9 = .ok (.if_icmp .ge 41, 3) := dw_162 wX9_livingJudges_c 0 41 rfl rfl rfl
theorem dX9_livingJudges_12 : decode cX9_livingJudges 12 = .ok (.iload_n 1, 1) := dw_27 wX9_livingJudges_c rfl
theorem dX9_livingJudges_13 : decode cX9_livingJudges 13 = .ok (.aload_n 0, 1) := dw_42 wX9_livingJudges_c rfl
theorem dX9_livingJudges_14 : decode cX9_livingJudges 14 = .ok (.getfield 35, 3) := dw_180 wX9_livingJudges_c 0 35 rfl rfl
theorem dX9_livingJudges_17 : decode cX9_livingJudges 17 = .ok (.iload_n 2, 1) := dw_28 wX9_livingJudges_c rfl
theorem dX9_livingJudges_18 : decode cX9_livingJudges 18 = .ok (.aaload, 1) := dw_50 wX9_livingJudges_c rfl
theorem dX9_livingJudges_19 : decode cX9_livingJudges 19 = .ok (.getfield 152, 3) := dw_180 wX9_livingJudges_c 0 152 rfl rfl
theorem dX9_livingJudges_22 : decode cX9_livingJudges 22 = .ok (.ifCond .eq 19, 3) := dw_153 wX9_livingJudges_c 0 19 rfl rfl rfl
theorem dX9_livingJudges_25 : decode cX9_livingJudges 25 = .ok (.aload_n 0, 1) := dw_42 wX9_livingJudges_c rfl
theorem dX9_livingJudges_26 : decode cX9_livingJudges 26 = .ok (.getfield 35, 3) := dw_180 wX9_livingJudges_c 0 35 rfl rfl
theorem dX9_livingJudges_29 : decode cX9_livingJudges 29 = .ok (.iload_n 2, 1) := dw_28 wX9_livingJudges_c rfl
theorem dX9_livingJudges_30 : decode cX9_livingJudges 30 = .ok (.aaload, 1) := dw_50 wX9_livingJudges_c rfl
theorem dX9_livingJudges_31 : decode cX9_livingJudges 31 = .ok (.getfield 148, 3) := dw_180 wX9_livingJudges_c 0 148 rfl rfl
theorem dX9_livingJudges_34 : decode cX9_livingJudges 34 = .ok (.ifCond .ne 7, 3) := dw_154 wX9_livingJudges_c 0 7 rfl rfl rfl
theorem dX9_livingJudges_37 : decode cX9_livingJudges 37 = .ok (.iconst 1, 1) := dw_4 wX9_livingJudges_c rfl
theorem dX9_livingJudges_38 : decode cX9_livingJudges 38 = .ok (.goto 4, 3) := dw_167 wX9_livingJudges_c 0 4 rfl rfl rfl
theorem dX9_livingJudges_41 : decode cX9_livingJudges 41 = .ok (.iconst 0, 1) := dw_3 wX9_livingJudges_c rfl
theorem dX9_livingJudges_42 : decode cX9_livingJudges 42 = .ok (.iadd, 1) := dw_96 wX9_livingJudges_c rfl
theorem dX9_livingJudges_43 : decode cX9_livingJudges 43 = .ok (.istore_n 1, 1) := dw_60 wX9_livingJudges_c rfl
theorem dX9_livingJudges_44 : decode cX9_livingJudges 44 = .ok (.iinc 2 1, 3) := dw_132 wX9_livingJudges_c 2 1 rfl rfl rfl
theorem dX9_livingJudges_47 : decode cX9_livingJudges 47 = .ok (.goto (-43), 3) := dn_167 wX9_livingJudges_c 255 213 rfl (by decide)
theorem dX9_livingJudges_50 : decode cX9_livingJudges 50 = .ok (.iload_n 1, 1) := dw_27 wX9_livingJudges_c rfl
theorem dX9_livingJudges_51 : decode cX9_livingJudges 51 = .ok (.ireturn, 1) := dw_172 wX9_livingJudges_c rfl
def wNX9_sumOfSplit : Nat := 201028993105077307028979116907778365146398622862028239460986702149411364568757936744867429198336326095346988309411855550472206093356536340831239240634919714900307032668060068178681341830962377604611
theorem wX9_sumOfSplit_c : hz_cd cX9_sumOfSplit wNX9_sumOfSplit 82 := ⟨by decide +kernel, by decide +kernel⟩
theorem dX9_sumOfSplit_0 : decode cX9_sumOfSplit 0 = .ok (.iconst 0, 1) := dw_3 wX9_sumOfSplit_c rfl
theorem dX9_sumOfSplit_1 : decode cX9_sumOfSplit 1 = .ok (.istore_n 3, 1) := dw_62 wX9_sumOfSplit_c rfl
theorem dX9_sumOfSplit_2 : decode cX9_sumOfSplit 2 = .ok (.iconst 0, 1) := dw_3 wX9_sumOfSplit_c rfl
theorem dX9_sumOfSplit_3 : decode cX9_sumOfSplit 3 = .ok (.istore 4, 2) := dw_54 wX9_sumOfSplit_c 4 rfl
theorem dX9_sumOfSplit_5 : decode cX9_sumOfSplit 5 = .ok (.iload 4, 2) := dw_21 wX9_sumOfSplit_c 4 rfl
theorem dX9_sumOfSplit_7 : decode cX9_sumOfSplit 7 = .ok (.aload_n 0, 1) := dw_42 wX9_sumOfSplit_c rfl
theorem dX9_sumOfSplit_8 : decode cX9_sumOfSplit 8 = .ok (.getfield 181, 3) := dw_180 wX9_sumOfSplit_c 0 181 rfl rfl
theorem dX9_sumOfSplit_11 : decode cX9_sumOfSplit 11 = .ok (.if_icmp .ge 69, 3) := dw_162 wX9_sumOfSplit_c 0 69 rfl rfl rfl
theorem dX9_sumOfSplit_14 : decode cX9_sumOfSplit 14 = .ok (.aload_n 0, 1) := dw_42 wX9_sumOfSplit_c rfl
theorem dX9_sumOfSplit_15 : decode cX9_sumOfSplit 15 = .ok (.getfield 48, 3) := dw_180 wX9_sumOfSplit_c 0 48 rfl rfl
theorem dX9_sumOfSplit_18 : decode cX9_sumOfSplit 18 = .ok (.iload 4, 2) := dw_21 wX9_sumOfSplit_c 4 rfl
theorem dX9_sumOfSplit_20 : decode cX9_sumOfSplit 20 = .ok (.aaload, 1) := dw_50 wX9_sumOfSplit_c rfl
theorem dX9_sumOfSplit_21 : decode cX9_sumOfSplit 21 = .ok (.astore 5, 2) := dw_58 wX9_sumOfSplit_c 5 rfl
theorem dX9_sumOfSplit_23 : decode cX9_sumOfSplit 23 = .ok (.aload 5, 2) := dw_25 wX9_sumOfSplit_c 5 rfl
theorem dX9_sumOfSplit_25 : decode cX9_sumOfSplit 25 = .ok (.getfield 223, 3) := dw_180 wX9_sumOfSplit_c 0 223 rfl rfl
theorem dX9_sumOfSplit_28 : decode cX9_sumOfSplit 28 = .ok (.aload_n 1, 1) := dw_43 wX9_sumOfSplit_c rfl
theorem dX9_sumOfSplit_29 : decode cX9_sumOfSplit 29 = .ok (.getfield 223, 3) := dw_180 wX9_sumOfSplit_c 0 223 rfl rfl
theorem dX9_sumOfSplit_32 : decode cX9_sumOfSplit 32 = .ok (.if_acmp .ne 42, 3) := dw_166 wX9_sumOfSplit_c 0 42 rfl rfl rfl
theorem dX9_sumOfSplit_35 : decode cX9_sumOfSplit 35 = .ok (.aload 5, 2) := dw_25 wX9_sumOfSplit_c 5 rfl
theorem dX9_sumOfSplit_37 : decode cX9_sumOfSplit 37 = .ok (.getfield 212, 3) := dw_180 wX9_sumOfSplit_c 0 212 rfl rfl
theorem dX9_sumOfSplit_40 : decode cX9_sumOfSplit 40 = .ok (.aload_n 1, 1) := dw_43 wX9_sumOfSplit_c rfl
theorem dX9_sumOfSplit_41 : decode cX9_sumOfSplit 41 = .ok (.getfield 212, 3) := dw_180 wX9_sumOfSplit_c 0 212 rfl rfl
theorem dX9_sumOfSplit_44 : decode cX9_sumOfSplit 44 = .ok (.if_acmp .ne 30, 3) := dw_166 wX9_sumOfSplit_c 0 30 rfl rfl rfl
theorem dX9_sumOfSplit_47 : decode cX9_sumOfSplit 47 = .ok (.aload 5, 2) := dw_25 wX9_sumOfSplit_c 5 rfl
theorem dX9_sumOfSplit_49 : decode cX9_sumOfSplit 49 = .ok (.getfield 193, 3) := dw_180 wX9_sumOfSplit_c 0 193 rfl rfl
theorem dX9_sumOfSplit_52 : decode cX9_sumOfSplit 52 = .ok (.aload_n 1, 1) := dw_43 wX9_sumOfSplit_c rfl
theorem dX9_sumOfSplit_53 : decode cX9_sumOfSplit 53 = .ok (.getfield 193, 3) := dw_180 wX9_sumOfSplit_c 0 193 rfl rfl
theorem dX9_sumOfSplit_56 : decode cX9_sumOfSplit 56 = .ok (.aload_n 2, 1) := dw_44 wX9_sumOfSplit_c rfl
theorem dX9_sumOfSplit_57 : decode cX9_sumOfSplit 57 = .ok (.getfield 119, 3) := dw_180 wX9_sumOfSplit_c 0 119 rfl rfl
theorem dX9_sumOfSplit_60 : decode cX9_sumOfSplit 60 = .ok (.iconst 2, 1) := dw_5 wX9_sumOfSplit_c rfl
theorem dX9_sumOfSplit_61 : decode cX9_sumOfSplit 61 = .ok (.iaload, 1) := dw_46 wX9_sumOfSplit_c rfl
theorem dX9_sumOfSplit_62 : decode cX9_sumOfSplit 62 = .ok (.isub, 1) := dw_100 wX9_sumOfSplit_c rfl
theorem dX9_sumOfSplit_63 : decode cX9_sumOfSplit 63 = .ok (.if_icmp .lt 11, 3) := dw_161 wX9_sumOfSplit_c 0 11 rfl rfl rfl
theorem dX9_sumOfSplit_66 : decode cX9_sumOfSplit 66 = .ok (.iload_n 3, 1) := dw_29 wX9_sumOfSplit_c rfl
theorem dX9_sumOfSplit_67 : decode cX9_sumOfSplit 67 = .ok (.aload 5, 2) := dw_25 wX9_sumOfSplit_c 5 rfl
theorem dX9_sumOfSplit_69 : decode cX9_sumOfSplit 69 = .ok (.getfield 187, 3) := dw_180 wX9_sumOfSplit_c 0 187 rfl rfl
theorem dX9_sumOfSplit_72 : decode cX9_sumOfSplit 72 = .ok (.iadd, 1) := dw_96 wX9_sumOfSplit_c rfl
theorem dX9_sumOfSplit_73 : decode cX9_sumOfSplit 73 = .ok (.istore_n 3, 1) := dw_62 wX9_sumOfSplit_c rfl
theorem dX9_sumOfSplit_74 : decode cX9_sumOfSplit 74 = .ok (.iinc 4 1, 3) := dw_132 wX9_sumOfSplit_c 4 1 rfl rfl rfl
theorem dX9_sumOfSplit_77 : decode cX9_sumOfSplit 77 = .ok (.goto (-72), 3) := dn_167 wX9_sumOfSplit_c 255 184 rfl (by decide)
theorem dX9_sumOfSplit_80 : decode cX9_sumOfSplit 80 = .ok (.iload_n 3, 1) := dw_29 wX9_sumOfSplit_c rfl
theorem dX9_sumOfSplit_81 : decode cX9_sumOfSplit 81 = .ok (.ireturn, 1) := dw_172 wX9_sumOfSplit_c rfl
def wNX9_openInstalments : Nat := 2307650564634152608827143583468312029874520384063943556603229127726087932440173511135178340680932262499060559431159169940587140577504696742319382890358717699
theorem wX9_openInstalments_c : hz_cd cX9_openInstalments wNX9_openInstalments 65 := ⟨by decide +kernel, by decide +kernel⟩
theorem dX9_openInstalments_0 : decode cX9_openInstalments 0 = .ok (.iconst 0, 1) := dw_3 wX9_openInstalments_c rfl
theorem dX9_openInstalments_1 : decode cX9_openInstalments 1 = .ok (.istore_n 2, 1) := dw_61 wX9_openInstalments_c rfl
theorem dX9_openInstalments_2 : decode cX9_openInstalments 2 = .ok (.iconst 0, 1) := dw_3 wX9_openInstalments_c rfl
theorem dX9_openInstalments_3 : decode cX9_openInstalments 3 = .ok (.istore_n 3, 1) := dw_62 wX9_openInstalments_c rfl
theorem dX9_openInstalments_4 : decode cX9_openInstalments 4 = .ok (.iload_n 3, 1) := dw_29 wX9_openInstalments_c rfl
theorem dX9_openInstalments_5 : decode cX9_openInstalments 5 = .ok (.aload_n 0, 1) := dw_42 wX9_openInstalments_c rfl
theorem dX9_openInstalments_6 : decode cX9_openInstalments 6 = .ok (.getfield 181, 3) := dw_180 wX9_openInstalments_c 0 181 rfl rfl
theorem dX9_openInstalments_9 : decode cX9_openInstalments 9 = .ok (.if_icmp .ge 54, 3) := dw_162 wX9_openInstalments_c 0 54 rfl rfl rfl
theorem dX9_openInstalments_12 : decode cX9_openInstalments 12 = .ok (.aload_n 0, 1) := dw_42 wX9_openInstalments_c rfl
theorem dX9_openInstalments_13 : decode cX9_openInstalments 13 = .ok (.getfield 48, 3) := dw_180 wX9_openInstalments_c 0 48 rfl rfl
theorem dX9_openInstalments_16 : decode cX9_openInstalments 16 = .ok (.iload_n 3, 1) := dw_29 wX9_openInstalments_c rfl
theorem dX9_openInstalments_17 : decode cX9_openInstalments 17 = .ok (.aaload, 1) := dw_50 wX9_openInstalments_c rfl
theorem dX9_openInstalments_18 : decode cX9_openInstalments 18 = .ok (.getfield 212, 3) := dw_180 wX9_openInstalments_c 0 212 rfl rfl
theorem dX9_openInstalments_21 : decode cX9_openInstalments 21 = .ok (.aload_n 1, 1) := dw_43 wX9_openInstalments_c rfl
theorem dX9_openInstalments_22 : decode cX9_openInstalments 22 = .ok (.if_acmp .ne 35, 3) := dw_166 wX9_openInstalments_c 0 35 rfl rfl rfl
theorem dX9_openInstalments_25 : decode cX9_openInstalments 25 = .ok (.aload_n 0, 1) := dw_42 wX9_openInstalments_c rfl
theorem dX9_openInstalments_26 : decode cX9_openInstalments 26 = .ok (.getfield 48, 3) := dw_180 wX9_openInstalments_c 0 48 rfl rfl
theorem dX9_openInstalments_29 : decode cX9_openInstalments 29 = .ok (.iload_n 3, 1) := dw_29 wX9_openInstalments_c rfl
theorem dX9_openInstalments_30 : decode cX9_openInstalments 30 = .ok (.aaload, 1) := dw_50 wX9_openInstalments_c rfl
theorem dX9_openInstalments_31 : decode cX9_openInstalments 31 = .ok (.aload_n 0, 1) := dw_42 wX9_openInstalments_c rfl
theorem dX9_openInstalments_32 : decode cX9_openInstalments 32 = .ok (.getfield 58, 3) := dw_180 wX9_openInstalments_c 0 58 rfl rfl
theorem dX9_openInstalments_35 : decode cX9_openInstalments 35 = .ok (.aload_n 0, 1) := dw_42 wX9_openInstalments_c rfl
theorem dX9_openInstalments_36 : decode cX9_openInstalments 36 = .ok (.getfield 94, 3) := dw_180 wX9_openInstalments_c 0 94 rfl rfl
theorem dX9_openInstalments_39 : decode cX9_openInstalments 39 = .ok (.invokevirtual 274, 3) := dw_182 wX9_openInstalments_c 1 18 rfl rfl
theorem dX9_openInstalments_42 : decode cX9_openInstalments 42 = .ok (.ifCond .eq 15, 3) := dw_153 wX9_openInstalments_c 0 15 rfl rfl rfl
theorem dX9_openInstalments_45 : decode cX9_openInstalments 45 = .ok (.iload_n 2, 1) := dw_28 wX9_openInstalments_c rfl
theorem dX9_openInstalments_46 : decode cX9_openInstalments 46 = .ok (.aload_n 0, 1) := dw_42 wX9_openInstalments_c rfl
theorem dX9_openInstalments_47 : decode cX9_openInstalments 47 = .ok (.getfield 48, 3) := dw_180 wX9_openInstalments_c 0 48 rfl rfl
theorem dX9_openInstalments_50 : decode cX9_openInstalments 50 = .ok (.iload_n 3, 1) := dw_29 wX9_openInstalments_c rfl
theorem dX9_openInstalments_51 : decode cX9_openInstalments 51 = .ok (.aaload, 1) := dw_50 wX9_openInstalments_c rfl
theorem dX9_openInstalments_52 : decode cX9_openInstalments 52 = .ok (.getfield 271, 3) := dw_180 wX9_openInstalments_c 1 15 rfl rfl
theorem dX9_openInstalments_55 : decode cX9_openInstalments 55 = .ok (.iadd, 1) := dw_96 wX9_openInstalments_c rfl
theorem dX9_openInstalments_56 : decode cX9_openInstalments 56 = .ok (.istore_n 2, 1) := dw_61 wX9_openInstalments_c rfl
theorem dX9_openInstalments_57 : decode cX9_openInstalments 57 = .ok (.iinc 3 1, 3) := dw_132 wX9_openInstalments_c 3 1 rfl rfl rfl
theorem dX9_openInstalments_60 : decode cX9_openInstalments 60 = .ok (.goto (-56), 3) := dn_167 wX9_openInstalments_c 255 200 rfl (by decide)
theorem dX9_openInstalments_63 : decode cX9_openInstalments 63 = .ok (.iload_n 2, 1) := dw_28 wX9_openInstalments_c rfl
theorem dX9_openInstalments_64 : decode cX9_openInstalments 64 = .ok (.ireturn, 1) := dw_172 wX9_openInstalments_c rfl
end
section
/-! further small facts -/
theorem hx_or8 {x y : Int32} (a0 : 0 ≤ x.toInt) (a1 : x.toInt ≤ 255) (b0 : 0 ≤ y.toInt) (b1 : y.toInt ≤ 255) : 0 ≤ (x ||| y).toInt ∧ (x ||| y).toInt ≤ 255 := by
  have e : (x ||| y).toInt = (x.toBitVec ||| y.toBitVec).toInt := rfl
  have ex : x.toInt = x.toBitVec.toInt := rfl
  have ey : y.toInt = y.toBitVec.toInt := rfl
  have bx := x.toBitVec.isLt
  have by' := y.toBitVec.isLt
  rw [ex] at a0 a1
  rw [ey] at b0 b1
  rw [e]
  rw [BitVec.toInt_eq_toNat_cond] at a0 a1 b0 b1 ⊢
  have nx : x.toBitVec.toNat < 2 ^ 8 := by split at a0 <;> split at a1 <;> omega
  have ny : y.toBitVec.toNat < 2 ^ 8 := by split at b0 <;> split at b1 <;> omega
  have nn : (x.toBitVec ||| y.toBitVec).toNat < 2 ^ 8 := by rw [BitVec.toNat_or]; exact Nat.or_lt_two_pow nx ny
  split <;> omega
theorem hx_cs {n : Int32} {k : Int} (k' : Int32) (h : n.toInt = k) (e : k'.toInt = k) : n = k' := Int32.toInt_inj.mp (h.trans e.symm)
theorem hx_shl8 {n : Int32} (h0 : 0 ≤ n.toInt) (h1 : n.toInt ≤ 8) : 1 ≤ ((1 : Int32) <<< (n &&& 31)).toInt ∧ ((1 : Int32) <<< (n &&& 31)).toInt ≤ 256 := by
  rcases (show n.toInt = 0 ∨ n.toInt = 1 ∨ n.toInt = 2 ∨ n.toInt = 3 ∨ n.toInt = 4 ∨ n.toInt = 5 ∨ n.toInt = 6 ∨ n.toInt = 7 ∨ n.toInt = 8 by omega) with z | z | z | z | z | z | z | z | z
  · rw [hx_cs 0 z rfl]; decide
  · rw [hx_cs 1 z rfl]; decide
  · rw [hx_cs 2 z rfl]; decide
  · rw [hx_cs 3 z rfl]; decide
  · rw [hx_cs 4 z rfl]; decide
  · rw [hx_cs 5 z rfl]; decide
  · rw [hx_cs 6 z rfl]; decide
  · rw [hx_cs 7 z rfl]; decide
  · rw [hx_cs 8 z rfl]; decide
theorem hx_shl7 {n : Int32} (h0 : 0 ≤ n.toInt) (h1 : n.toInt ≤ 7) : 1 ≤ ((1 : Int32) <<< (n &&& 31)).toInt ∧ ((1 : Int32) <<< (n &&& 31)).toInt ≤ 128 := by
  rcases (show n.toInt = 0 ∨ n.toInt = 1 ∨ n.toInt = 2 ∨ n.toInt = 3 ∨ n.toInt = 4 ∨ n.toInt = 5 ∨ n.toInt = 6 ∨ n.toInt = 7 by omega) with z | z | z | z | z | z | z | z
  · rw [hx_cs 0 z rfl]; decide
  · rw [hx_cs 1 z rfl]; decide
  · rw [hx_cs 2 z rfl]; decide
  · rw [hx_cs 3 z rfl]; decide
  · rw [hx_cs 4 z rfl]; decide
  · rw [hx_cs 5 z rfl]; decide
  · rw [hx_cs 6 z rfl]; decide
  · rw [hx_cs 7 z rfl]; decide
theorem hx_dv {x y : Int32} (h0 : 0 ≤ x.toInt) (h1 : 1 ≤ y.toInt) : (x / y).toInt = x.toInt / y.toInt := by
  rw [Int32.toInt_div]
  have b := Int32.toInt_lt x
  have e : x.toInt.tdiv y.toInt = x.toInt / y.toInt := Int.tdiv_eq_ediv_of_nonneg h0
  rw [e]
  have p0 : 0 ≤ x.toInt / y.toInt := Int.ediv_nonneg h0 (by omega)
  have p1 : x.toInt / y.toInt ≤ x.toInt := Int.ediv_le_self _ h0
  rw [Int.bmod_def]
  omega
theorem hx_rem {x y : Int32} (h0 : 0 ≤ x.toInt) (h1 : 1 ≤ y.toInt) : 0 ≤ (x - x / y * y).toInt ∧ (x - x / y * y).toInt < y.toInt := by
  have d := hx_dv h0 h1
  have b := Int32.toInt_lt x
  have p0 : 0 ≤ x.toInt / y.toInt := Int.ediv_nonneg h0 (by omega)
  have q0 := Int.emod_nonneg x.toInt (show y.toInt ≠ 0 by omega)
  have q1 := Int.emod_lt_of_pos x.toInt (show 0 < y.toInt by omega)
  have q2 := Int.mul_ediv_add_emod x.toInt y.toInt
  have q3 : x.toInt / y.toInt * y.toInt = x.toInt - x.toInt % y.toInt := by rw [Int.mul_comm]; omega
  have q4 : 0 ≤ x.toInt / y.toInt * y.toInt := Int.mul_nonneg p0 (by omega)
  have m : (x / y * y).toInt = x.toInt / y.toInt * y.toInt := by
    rw [Int32.toInt_mul, d]; exact Int.bmod_eq_of_le (by omega) (by omega)
  have s : (x - x / y * y).toInt = x.toInt % y.toInt := by
    rw [Int32.toInt_sub, m]
    have z : x.toInt - x.toInt / y.toInt * y.toInt = x.toInt % y.toInt := by omega
    rw [z]; exact Int.bmod_eq_of_le (by omega) (by omega)
  rw [s]; exact ⟨q0, q1⟩
theorem hx_mulb {x y : Int32} {A B : Int} (h0 : 0 ≤ x.toInt) (h1 : x.toInt ≤ A) (h2 : 0 ≤ y.toInt) (h3 : y.toInt ≤ B) (hc : A * B ≤ 2147483647) : 0 ≤ (x * y).toInt ∧ (x * y).toInt ≤ A * B := by
  have p0 : 0 ≤ x.toInt * y.toInt := Int.mul_nonneg h0 h2
  have p1 : x.toInt * y.toInt ≤ A * B := Int.mul_le_mul h1 h3 h2 (by omega)
  have m : (x * y).toInt = x.toInt * y.toInt := by rw [Int32.toInt_mul, Int.bmod_def]; omega
  rw [m]; exact ⟨p0, p1⟩
theorem hx_l0 {x : Int32} (h : 1 ≤ x.toInt) : ¬ x.toInt64 = 0 := fun z => by
  have : x.toInt64.toInt = 0 := by rw [z]; rfl
  rw [Int32.toInt_toInt64] at this; omega
theorem hx_pfk {h h1 : hx_h} {x kc q i v : Nat} (hp : ∀ j : Nat, (j : Int) < (h.2.1 x kc).toInt → h.2.2 q j ≠ none) (eh : h1 = hx_pr h q i (some v)) : ∀ j : Nat, (j : Int) < (h1.2.1 x kc).toInt → h1.2.2 q j ≠ none := by
  subst eh
  intro j hj
  by_cases z : j = i
  · subst z; rw [hx_pr_at]; nofun
  · rw [hx_pr_ne _ _ (fun w => z w.2)]; exact hp j hj
theorem hx_pfx {h h1 : hx_h} {x kc q v : Nat} {i : Int32} (hp : ∀ j : Nat, (j : Int) < (h.2.1 x kc).toInt → h.2.2 q j ≠ none) (e : h1.2.1 x kc = i) (h0 : 0 ≤ i.toInt) (eh : h1 = hx_pr h q i.toNatClampNeg (some v)) : ∀ j : Nat, (j : Int) < i.toInt + 1 → h1.2.2 q j ≠ none := by
  subst eh
  intro j hj
  by_cases z : j = i.toNatClampNeg
  · subst z; rw [hx_pr_at]; nofun
  · rw [hx_pr_ne _ _ (fun w => z w.2)]
    refine hp j ?_
    have e2 : h.2.1 x kc = i := e
    rw [e2]; unfold Int32.toNatClampNeg at z; omega
theorem hx_fz {x : Int32} (h : x.toInt = 0 ∨ x.toInt = 1) : fits .boolean (.int x) = true := by
  rcases h with h | h
  · have : x = 0 := Int32.toInt_inj.mp (h.trans (by decide))
    subst this; rfl
  · have : x = 1 := Int32.toInt_inj.mp (h.trans (by decide))
    subst this; rfl
theorem hx_nb (x : Int32) : -128 ≤ (vp_nar .byte x).toInt ∧ (vp_nar .byte x).toInt ≤ 127 := by
  show -128 ≤ (x.toInt8.toInt32).toInt ∧ (x.toInt8.toInt32).toInt ≤ 127
  rw [Int8.toInt_toInt32]
  exact ⟨Int8.le_toInt _, by have := Int8.toInt_lt x.toInt8; omega⟩
theorem hx_zr {tb : List hx_d} {M : hx_m} {L L1 : List Nat} {h h1 : hx_h} {a t : Nat} {l : List Nat} (l' : List Nat) (fz : ∀ j, l.contains j = false → h.2.1 a j = 0 ∧ h.2.2 a j = none) (hs : hx_S tb M L h L1 h1) (g : hx_g L h a t) (ho : match tb[t]? with | some (.inr _) => False | _ => True) (ok : (l.all (fun j => l'.contains j) && M.all (fun q => !(q.1 == t) || l'.contains q.2)) = true) : ∀ j, l'.contains j = false → h1.2.1 a j = 0 ∧ h1.2.2 a j = none := by
  intro j hj
  rw [Bool.and_eq_true, List.all_eq_true, List.all_eq_true] at ok
  have h2 : l.contains j = false := by
    cases hc : l.contains j with
    | false => rfl
    | true => have := ok.1 j (List.contains_iff_mem.mp hc); rw [this] at hj; cases hj
  have h3 : M.contains (t, j) = false := by
    cases hc : M.contains (t, j) with
    | false => rfl
    | true =>
      have := ok.2 _ (List.contains_iff_mem.mp hc)
      simp only [beq_self_eq_true, Bool.not_true, Bool.false_or] at this
      rw [this] at hj; cases hj
  obtain ⟨u1, u2⟩ := hs.o g ho h3
  obtain ⟨v1, v2⟩ := fz j h2
  exact ⟨u1.trans v1, u2.trans v2⟩
theorem hx_divb {x y : Int32} (h : 2 ≤ y.toInt) : -1073741824 ≤ (x / y).toInt ∧ (x / y).toInt ≤ 1073741824 := by
  have b1 := Int32.le_toInt x
  have b2 := Int32.toInt_lt x
  have hn : (x.toInt.tdiv y.toInt).natAbs ≤ 1073741824 := by
    rw [Int.natAbs_tdiv]
    show x.toInt.natAbs / y.toInt.natAbs ≤ 1073741824
    have : x.toInt.natAbs / y.toInt.natAbs ≤ x.toInt.natAbs / 2 := Nat.div_le_div_left (by omega) (by decide)
    omega
  have e : (x / y).toInt = x.toInt.tdiv y.toInt := by
    rw [Int32.toInt_div]; exact Int.bmod_eq_of_le (by omega) (by omega)
  rw [e]; omega
theorem hx_mul0 {x y : Int32} (h : x.toInt = 0) : (x * y).toInt = 0 := by
  have : x = 0 := Int32.toInt_inj.mp (h.trans (by decide))
  subst this
  rw [Int32.zero_mul]; rfl
theorem hx_pix {h h1 : hx_h} {x kc q : Nat} {i v : Int32} {lo : Int} (hp : ∀ j : Nat, (j : Int) < (h.2.1 x kc).toInt → lo ≤ (h.2.1 q j).toInt) (e : h1.2.1 x kc = i) (h0 : 0 ≤ i.toInt) (hv : lo ≤ v.toInt) (eh : h1 = hx_pi h q i.toNatClampNeg v) (hn : x ≠ q) : ∀ j : Nat, (j : Int) < i.toInt + 1 → lo ≤ (h1.2.1 q j).toInt := by
  subst eh
  intro j hj
  by_cases z : j = i.toNatClampNeg
  · subst z; rw [hx_pi_at]; exact hv
  · rw [hx_pi_ne _ _ (fun w => z w.2)]
    refine hp j ?_
    have e2 : h.2.1 x kc = i := by rw [← e]; exact (hx_pi_ne h v (fun w => hn w.1)).symm
    rw [e2]; unfold Int32.toNatClampNeg at z; omega
end
section
theorem dX8_fromCourt_0 : decode cX8_fromCourt 0 = .ok (.aload_n 0, 1) := by decide +kernel
theorem dX8_fromCourt_1 : decode cX8_fromCourt 1 = .ok (.getfield 17, 3) := by decide +kernel
theorem dX8_fromCourt_4 : decode cX8_fromCourt 4 = .ok (.iload_n 1, 1) := by decide +kernel
theorem dX8_fromCourt_5 : decode cX8_fromCourt 5 = .ok (.aaload, 1) := by decide +kernel
theorem dX8_fromCourt_6 : decode cX8_fromCourt 6 = .ok (.getfield 63, 3) := by decide +kernel
theorem dX8_fromCourt_9 : decode cX8_fromCourt 9 = .ok (.astore_n 2, 1) := by decide +kernel
theorem dX8_fromCourt_10 : decode cX8_fromCourt 10 = .ok (.aload_n 2, 1) := by decide +kernel
theorem dX8_fromCourt_11 : decode cX8_fromCourt 11 = .ok (.getfield 71, 3) := by decide +kernel
theorem dX8_fromCourt_14 : decode cX8_fromCourt 14 = .ok (.bipush 50, 2) := by decide +kernel
theorem dX8_fromCourt_16 : decode cX8_fromCourt 16 = .ok (.isub, 1) := by decide +kernel
theorem dX8_fromCourt_17 : decode cX8_fromCourt 17 = .ok (.invokestatic 76, 3) := by decide +kernel
theorem dX8_fromCourt_20 : decode cX8_fromCourt 20 = .ok (.aload_n 2, 1) := by decide +kernel
theorem dX8_fromCourt_21 : decode cX8_fromCourt 21 = .ok (.getfield 79, 3) := by decide +kernel
theorem dX8_fromCourt_24 : decode cX8_fromCourt 24 = .ok (.bipush 50, 2) := by decide +kernel
theorem dX8_fromCourt_26 : decode cX8_fromCourt 26 = .ok (.isub, 1) := by decide +kernel
theorem dX8_fromCourt_27 : decode cX8_fromCourt 27 = .ok (.invokestatic 76, 3) := by decide +kernel
theorem dX8_fromCourt_30 : decode cX8_fromCourt 30 = .ok (.iadd, 1) := by decide +kernel
theorem dX8_fromCourt_31 : decode cX8_fromCourt 31 = .ok (.ireturn, 1) := by decide +kernel
def wNX8_stepsBy : Nat := 1911763602228697926744090585905491200097152083764393579591033216184394085100700405111448855978365228892055022393656935697016514675228
theorem wX8_stepsBy_c : hz_cd cX8_stepsBy wNX8_stepsBy 55 := ⟨by decide +kernel, by decide +kernel⟩
theorem dX8_stepsBy_0 : decode cX8_stepsBy 0 = .ok (.iload_n 2, 1) := dw_28 wX8_stepsBy_c rfl
theorem dX8_stepsBy_1 : decode cX8_stepsBy 1 = .ok (.iconst (-1), 1) := dw_2 wX8_stepsBy_c rfl
theorem dX8_stepsBy_2 : decode cX8_stepsBy 2 = .ok (.if_icmp .ne 11, 3) := dw_160 wX8_stepsBy_c 0 11 rfl rfl rfl
theorem dX8_stepsBy_5 : decode cX8_stepsBy 5 = .ok (.aload_n 0, 1) := dw_42 wX8_stepsBy_c rfl
theorem dX8_stepsBy_6 : decode cX8_stepsBy 6 = .ok (.iload_n 3, 1) := dw_29 wX8_stepsBy_c rfl
theorem dX8_stepsBy_7 : decode cX8_stepsBy 7 = .ok (.invokevirtual 35, 3) := dw_182 wX8_stepsBy_c 0 35 rfl rfl
theorem dX8_stepsBy_10 : decode cX8_stepsBy 10 = .ok (.goto 24, 3) := dw_167 wX8_stepsBy_c 0 24 rfl rfl rfl
theorem dX8_stepsBy_13 : decode cX8_stepsBy 13 = .ok (.aload_n 0, 1) := dw_42 wX8_stepsBy_c rfl
theorem dX8_stepsBy_14 : decode cX8_stepsBy 14 = .ok (.getfield 17, 3) := dw_180 wX8_stepsBy_c 0 17 rfl rfl
theorem dX8_stepsBy_17 : decode cX8_stepsBy 17 = .ok (.iload_n 2, 1) := dw_28 wX8_stepsBy_c rfl
theorem dX8_stepsBy_18 : decode cX8_stepsBy 18 = .ok (.aaload, 1) := dw_50 wX8_stepsBy_c rfl
theorem dX8_stepsBy_19 : decode cX8_stepsBy 19 = .ok (.getfield 63, 3) := dw_180 wX8_stepsBy_c 0 63 rfl rfl
theorem dX8_stepsBy_22 : decode cX8_stepsBy 22 = .ok (.aload_n 0, 1) := dw_42 wX8_stepsBy_c rfl
theorem dX8_stepsBy_23 : decode cX8_stepsBy 23 = .ok (.getfield 17, 3) := dw_180 wX8_stepsBy_c 0 17 rfl rfl
theorem dX8_stepsBy_26 : decode cX8_stepsBy 26 = .ok (.iload_n 3, 1) := dw_29 wX8_stepsBy_c rfl
theorem dX8_stepsBy_27 : decode cX8_stepsBy 27 = .ok (.aaload, 1) := dw_50 wX8_stepsBy_c rfl
theorem dX8_stepsBy_28 : decode cX8_stepsBy 28 = .ok (.getfield 63, 3) := dw_180 wX8_stepsBy_c 0 63 rfl rfl
theorem dX8_stepsBy_31 : decode cX8_stepsBy 31 = .ok (.invokestatic 67, 3) := dw_184 wX8_stepsBy_c 0 67 rfl rfl
theorem dX8_stepsBy_34 : decode cX8_stepsBy 34 = .ok (.istore 4, 2) := dw_54 wX8_stepsBy_c 4 rfl
theorem dX8_stepsBy_36 : decode cX8_stepsBy 36 = .ok (.iload 4, 2) := dw_21 wX8_stepsBy_c 4 rfl
theorem dX8_stepsBy_38 : decode cX8_stepsBy 38 = .ok (.aload_n 0, 1) := dw_42 wX8_stepsBy_c rfl
theorem dX8_stepsBy_39 : decode cX8_stepsBy 39 = .ok (.getfield 21, 3) := dw_180 wX8_stepsBy_c 0 21 rfl rfl
theorem dX8_stepsBy_42 : decode cX8_stepsBy 42 = .ok (.iload_n 1, 1) := dw_27 wX8_stepsBy_c rfl
theorem dX8_stepsBy_43 : decode cX8_stepsBy 43 = .ok (.iconst 1, 1) := dw_4 wX8_stepsBy_c rfl
theorem dX8_stepsBy_44 : decode cX8_stepsBy 44 = .ok (.iload_n 3, 1) := dw_29 wX8_stepsBy_c rfl
theorem dX8_stepsBy_45 : decode cX8_stepsBy 45 = .ok (.ishl, 1) := dw_120 wX8_stepsBy_c rfl
theorem dX8_stepsBy_46 : decode cX8_stepsBy 46 = .ok (.ior, 1) := dw_128 wX8_stepsBy_c rfl
theorem dX8_stepsBy_47 : decode cX8_stepsBy 47 = .ok (.bipush 8, 2) := dw_16 wX8_stepsBy_c 8 rfl rfl rfl
theorem dX8_stepsBy_49 : decode cX8_stepsBy 49 = .ok (.imul, 1) := dw_104 wX8_stepsBy_c rfl
theorem dX8_stepsBy_50 : decode cX8_stepsBy 50 = .ok (.iload_n 3, 1) := dw_29 wX8_stepsBy_c rfl
theorem dX8_stepsBy_51 : decode cX8_stepsBy 51 = .ok (.iadd, 1) := dw_96 wX8_stepsBy_c rfl
theorem dX8_stepsBy_52 : decode cX8_stepsBy 52 = .ok (.iaload, 1) := dw_46 wX8_stepsBy_c rfl
theorem dX8_stepsBy_53 : decode cX8_stepsBy 53 = .ok (.iadd, 1) := dw_96 wX8_stepsBy_c rfl
theorem dX8_stepsBy_54 : decode cX8_stepsBy 54 = .ok (.ireturn, 1) := dw_172 wX8_stepsBy_c rfl
def wNX8_leastOn : Nat := 1578997505613789448997316325332932629197383409524075792898375405516129602376248492570746597433839532342391314
theorem wX8_leastOn_c : hz_cd cX8_leastOn wNX8_leastOn 45 := ⟨by decide +kernel, by decide +kernel⟩
theorem dX8_leastOn_0 : decode cX8_leastOn 0 = .ok (.ldc 50, 2) := dw_18 wX8_leastOn_c 50 rfl
theorem dX8_leastOn_2 : decode cX8_leastOn 2 = .ok (.istore_n 3, 1) := dw_62 wX8_leastOn_c rfl
theorem dX8_leastOn_3 : decode cX8_leastOn 3 = .ok (.iconst 0, 1) := dw_3 wX8_leastOn_c rfl
theorem dX8_leastOn_4 : decode cX8_leastOn 4 = .ok (.istore 4, 2) := dw_54 wX8_leastOn_c 4 rfl
theorem dX8_leastOn_6 : decode cX8_leastOn 6 = .ok (.iload 4, 2) := dw_21 wX8_leastOn_c 4 rfl
theorem dX8_leastOn_8 : decode cX8_leastOn 8 = .ok (.aload_n 0, 1) := dw_42 wX8_leastOn_c rfl
theorem dX8_leastOn_9 : decode cX8_leastOn 9 = .ok (.getfield 24, 3) := dw_180 wX8_leastOn_c 0 24 rfl rfl
theorem dX8_leastOn_12 : decode cX8_leastOn 12 = .ok (.if_icmp .ge 31, 3) := dw_162 wX8_leastOn_c 0 31 rfl rfl rfl
theorem dX8_leastOn_15 : decode cX8_leastOn 15 = .ok (.iload 4, 2) := dw_21 wX8_leastOn_c 4 rfl
theorem dX8_leastOn_17 : decode cX8_leastOn 17 = .ok (.iload_n 1, 1) := dw_27 wX8_leastOn_c rfl
theorem dX8_leastOn_18 : decode cX8_leastOn 18 = .ok (.invokestatic 31, 3) := dw_184 wX8_leastOn_c 0 31 rfl rfl
theorem dX8_leastOn_21 : decode cX8_leastOn 21 = .ok (.ifCond .ne 16, 3) := dw_154 wX8_leastOn_c 0 16 rfl rfl rfl
theorem dX8_leastOn_24 : decode cX8_leastOn 24 = .ok (.iload_n 3, 1) := dw_29 wX8_leastOn_c rfl
theorem dX8_leastOn_25 : decode cX8_leastOn 25 = .ok (.aload_n 0, 1) := dw_42 wX8_leastOn_c rfl
theorem dX8_leastOn_26 : decode cX8_leastOn 26 = .ok (.iload_n 1, 1) := dw_27 wX8_leastOn_c rfl
theorem dX8_leastOn_27 : decode cX8_leastOn 27 = .ok (.iload_n 2, 1) := dw_28 wX8_leastOn_c rfl
theorem dX8_leastOn_28 : decode cX8_leastOn 28 = .ok (.iload 4, 2) := dw_21 wX8_leastOn_c 4 rfl
theorem dX8_leastOn_30 : decode cX8_leastOn 30 = .ok (.invokevirtual 51, 3) := dw_182 wX8_leastOn_c 0 51 rfl rfl
theorem dX8_leastOn_33 : decode cX8_leastOn 33 = .ok (.invokestatic 55, 3) := dw_184 wX8_leastOn_c 0 55 rfl rfl
theorem dX8_leastOn_36 : decode cX8_leastOn 36 = .ok (.istore_n 3, 1) := dw_62 wX8_leastOn_c rfl
theorem dX8_leastOn_37 : decode cX8_leastOn 37 = .ok (.iinc 4 1, 3) := dw_132 wX8_leastOn_c 4 1 rfl rfl rfl
theorem dX8_leastOn_40 : decode cX8_leastOn 40 = .ok (.goto (-34), 3) := dn_167 wX8_leastOn_c 255 222 rfl (by decide)
theorem dX8_leastOn_43 : decode cX8_leastOn 43 = .ok (.iload_n 3, 1) := dw_29 wX8_leastOn_c rfl
theorem dX8_leastOn_44 : decode cX8_leastOn 44 = .ok (.ireturn, 1) := dw_172 wX8_leastOn_c rfl
def wNX8_firstOnWay : Nat := 6164318327472463712010956029815681446497422124651030419443425812225527697253980074795566474045993219536387
theorem wX8_firstOnWay_c : hz_cd cX8_firstOnWay wNX8_firstOnWay 44 := ⟨by decide +kernel, by decide +kernel⟩
theorem dX8_firstOnWay_0 : decode cX8_firstOnWay 0 = .ok (.iconst 0, 1) := dw_3 wX8_firstOnWay_c rfl
theorem dX8_firstOnWay_1 : decode cX8_firstOnWay 1 = .ok (.istore 4, 2) := dw_54 wX8_firstOnWay_c 4 rfl
theorem dX8_firstOnWay_3 : decode cX8_firstOnWay 3 = .ok (.iload 4, 2) := dw_21 wX8_firstOnWay_c 4 rfl
theorem dX8_firstOnWay_5 : decode cX8_firstOnWay 5 = .ok (.aload_n 0, 1) := dw_42 wX8_firstOnWay_c rfl
theorem dX8_firstOnWay_6 : decode cX8_firstOnWay 6 = .ok (.getfield 24, 3) := dw_180 wX8_firstOnWay_c 0 24 rfl rfl
theorem dX8_firstOnWay_9 : decode cX8_firstOnWay 9 = .ok (.if_icmp .ge 33, 3) := dw_162 wX8_firstOnWay_c 0 33 rfl rfl rfl
theorem dX8_firstOnWay_12 : decode cX8_firstOnWay 12 = .ok (.iload 4, 2) := dw_21 wX8_firstOnWay_c 4 rfl
theorem dX8_firstOnWay_14 : decode cX8_firstOnWay 14 = .ok (.iload_n 1, 1) := dw_27 wX8_firstOnWay_c rfl
theorem dX8_firstOnWay_15 : decode cX8_firstOnWay 15 = .ok (.invokestatic 31, 3) := dw_184 wX8_firstOnWay_c 0 31 rfl rfl
theorem dX8_firstOnWay_18 : decode cX8_firstOnWay 18 = .ok (.ifCond .ne 18, 3) := dw_154 wX8_firstOnWay_c 0 18 rfl rfl rfl
theorem dX8_firstOnWay_21 : decode cX8_firstOnWay 21 = .ok (.aload_n 0, 1) := dw_42 wX8_firstOnWay_c rfl
theorem dX8_firstOnWay_22 : decode cX8_firstOnWay 22 = .ok (.iload_n 1, 1) := dw_27 wX8_firstOnWay_c rfl
theorem dX8_firstOnWay_23 : decode cX8_firstOnWay 23 = .ok (.iload_n 2, 1) := dw_28 wX8_firstOnWay_c rfl
theorem dX8_firstOnWay_24 : decode cX8_firstOnWay 24 = .ok (.iload 4, 2) := dw_21 wX8_firstOnWay_c 4 rfl
theorem dX8_firstOnWay_26 : decode cX8_firstOnWay 26 = .ok (.invokevirtual 51, 3) := dw_182 wX8_firstOnWay_c 0 51 rfl rfl
theorem dX8_firstOnWay_29 : decode cX8_firstOnWay 29 = .ok (.iload_n 3, 1) := dw_29 wX8_firstOnWay_c rfl
theorem dX8_firstOnWay_30 : decode cX8_firstOnWay 30 = .ok (.if_icmp .ne 6, 3) := dw_160 wX8_firstOnWay_c 0 6 rfl rfl rfl
theorem dX8_firstOnWay_33 : decode cX8_firstOnWay 33 = .ok (.iload 4, 2) := dw_21 wX8_firstOnWay_c 4 rfl
theorem dX8_firstOnWay_35 : decode cX8_firstOnWay 35 = .ok (.ireturn, 1) := dw_172 wX8_firstOnWay_c rfl
theorem dX8_firstOnWay_36 : decode cX8_firstOnWay 36 = .ok (.iinc 4 1, 3) := dw_132 wX8_firstOnWay_c 4 1 rfl rfl rfl
theorem dX8_firstOnWay_39 : decode cX8_firstOnWay 39 = .ok (.goto (-36), 3) := dn_167 wX8_firstOnWay_c 255 220 rfl (by decide)
theorem dX8_firstOnWay_42 : decode cX8_firstOnWay 42 = .ok (.iconst 0, 1) := dw_3 wX8_firstOnWay_c rfl
theorem dX8_firstOnWay_43 : decode cX8_firstOnWay 43 = .ok (.ireturn, 1) := dw_172 wX8_firstOnWay_c rfl
def wNX8_retrace : Nat := 737624997492750541790295457925290771778101330135416635676604315730726599019342279563012802540874443605184143341436245786148601799659787314029759766770905427666467251316848073673686275
theorem wX8_retrace_c : hz_cd cX8_retrace wNX8_retrace 76 := ⟨by decide +kernel, by decide +kernel⟩
theorem dX8_retrace_0 : decode cX8_retrace 0 = .ok (.iconst 0, 1) := dw_3 wX8_retrace_c rfl
theorem dX8_retrace_1 : decode cX8_retrace 1 = .ok (.istore_n 2, 1) := dw_61 wX8_retrace_c rfl
theorem dX8_retrace_2 : decode cX8_retrace 2 = .ok (.iconst (-1), 1) := dw_2 wX8_retrace_c rfl
theorem dX8_retrace_3 : decode cX8_retrace 3 = .ok (.istore_n 3, 1) := dw_62 wX8_retrace_c rfl
theorem dX8_retrace_4 : decode cX8_retrace 4 = .ok (.iload_n 1, 1) := dw_27 wX8_retrace_c rfl
theorem dX8_retrace_5 : decode cX8_retrace 5 = .ok (.istore 4, 2) := dw_54 wX8_retrace_c 4 rfl
theorem dX8_retrace_7 : decode cX8_retrace 7 = .ok (.iconst 0, 1) := dw_3 wX8_retrace_c rfl
theorem dX8_retrace_8 : decode cX8_retrace 8 = .ok (.istore 5, 2) := dw_54 wX8_retrace_c 5 rfl
theorem dX8_retrace_10 : decode cX8_retrace 10 = .ok (.iload 5, 2) := dw_21 wX8_retrace_c 5 rfl
theorem dX8_retrace_12 : decode cX8_retrace 12 = .ok (.aload_n 0, 1) := dw_42 wX8_retrace_c rfl
theorem dX8_retrace_13 : decode cX8_retrace 13 = .ok (.getfield 24, 3) := dw_180 wX8_retrace_c 0 24 rfl rfl
theorem dX8_retrace_16 : decode cX8_retrace 16 = .ok (.if_icmp .ge 59, 3) := dw_162 wX8_retrace_c 0 59 rfl rfl rfl
theorem dX8_retrace_19 : decode cX8_retrace 19 = .ok (.aload_n 0, 1) := dw_42 wX8_retrace_c rfl
theorem dX8_retrace_20 : decode cX8_retrace 20 = .ok (.iload_n 2, 1) := dw_28 wX8_retrace_c rfl
theorem dX8_retrace_21 : decode cX8_retrace 21 = .ok (.iload_n 3, 1) := dw_29 wX8_retrace_c rfl
theorem dX8_retrace_22 : decode cX8_retrace 22 = .ok (.iload 4, 2) := dw_21 wX8_retrace_c 4 rfl
theorem dX8_retrace_24 : decode cX8_retrace 24 = .ok (.invokevirtual 60, 3) := dw_182 wX8_retrace_c 0 60 rfl rfl
theorem dX8_retrace_27 : decode cX8_retrace 27 = .ok (.istore 6, 2) := dw_54 wX8_retrace_c 6 rfl
theorem dX8_retrace_29 : decode cX8_retrace 29 = .ok (.aload_n 0, 1) := dw_42 wX8_retrace_c rfl
theorem dX8_retrace_30 : decode cX8_retrace 30 = .ok (.getfield 9, 3) := dw_180 wX8_retrace_c 0 9 rfl rfl
theorem dX8_retrace_33 : decode cX8_retrace 33 = .ok (.iload 5, 2) := dw_21 wX8_retrace_c 5 rfl
theorem dX8_retrace_35 : decode cX8_retrace 35 = .ok (.aload_n 0, 1) := dw_42 wX8_retrace_c rfl
theorem dX8_retrace_36 : decode cX8_retrace 36 = .ok (.getfield 17, 3) := dw_180 wX8_retrace_c 0 17 rfl rfl
theorem dX8_retrace_39 : decode cX8_retrace 39 = .ok (.iload 6, 2) := dw_21 wX8_retrace_c 6 rfl
theorem dX8_retrace_41 : decode cX8_retrace 41 = .ok (.aaload, 1) := dw_50 wX8_retrace_c rfl
theorem dX8_retrace_42 : decode cX8_retrace 42 = .ok (.getfield 28, 3) := dw_180 wX8_retrace_c 0 28 rfl rfl
theorem dX8_retrace_45 : decode cX8_retrace 45 = .ok (.iastore, 1) := dw_79 wX8_retrace_c rfl
theorem dX8_retrace_46 : decode cX8_retrace 46 = .ok (.iload_n 2, 1) := dw_28 wX8_retrace_c rfl
theorem dX8_retrace_47 : decode cX8_retrace 47 = .ok (.iconst 1, 1) := dw_4 wX8_retrace_c rfl
theorem dX8_retrace_48 : decode cX8_retrace 48 = .ok (.iload 6, 2) := dw_21 wX8_retrace_c 6 rfl
theorem dX8_retrace_50 : decode cX8_retrace 50 = .ok (.ishl, 1) := dw_120 wX8_retrace_c rfl
theorem dX8_retrace_51 : decode cX8_retrace 51 = .ok (.ior, 1) := dw_128 wX8_retrace_c rfl
theorem dX8_retrace_52 : decode cX8_retrace 52 = .ok (.istore_n 2, 1) := dw_61 wX8_retrace_c rfl
theorem dX8_retrace_53 : decode cX8_retrace 53 = .ok (.iload 6, 2) := dw_21 wX8_retrace_c 6 rfl
theorem dX8_retrace_55 : decode cX8_retrace 55 = .ok (.istore_n 3, 1) := dw_62 wX8_retrace_c rfl
theorem dX8_retrace_56 : decode cX8_retrace 56 = .ok (.aload_n 0, 1) := dw_42 wX8_retrace_c rfl
theorem dX8_retrace_57 : decode cX8_retrace 57 = .ok (.getfield 21, 3) := dw_180 wX8_retrace_c 0 21 rfl rfl
theorem dX8_retrace_60 : decode cX8_retrace 60 = .ok (.iload_n 2, 1) := dw_28 wX8_retrace_c rfl
theorem dX8_retrace_61 : decode cX8_retrace 61 = .ok (.bipush 8, 2) := dw_16 wX8_retrace_c 8 rfl rfl rfl
theorem dX8_retrace_63 : decode cX8_retrace 63 = .ok (.imul, 1) := dw_104 wX8_retrace_c rfl
theorem dX8_retrace_64 : decode cX8_retrace 64 = .ok (.iload_n 3, 1) := dw_29 wX8_retrace_c rfl
theorem dX8_retrace_65 : decode cX8_retrace 65 = .ok (.iadd, 1) := dw_96 wX8_retrace_c rfl
theorem dX8_retrace_66 : decode cX8_retrace 66 = .ok (.iaload, 1) := dw_46 wX8_retrace_c rfl
theorem dX8_retrace_67 : decode cX8_retrace 67 = .ok (.istore 4, 2) := dw_54 wX8_retrace_c 4 rfl
theorem dX8_retrace_69 : decode cX8_retrace 69 = .ok (.iinc 5 1, 3) := dw_132 wX8_retrace_c 5 1 rfl rfl rfl
theorem dX8_retrace_72 : decode cX8_retrace 72 = .ok (.goto (-62), 3) := dn_167 wX8_retrace_c 255 194 rfl (by decide)
theorem dX8_retrace_75 : decode cX8_retrace 75 = .ok (.return_, 1) := dw_177 wX8_retrace_c rfl
def wNX8_walkList : Nat := 90924635059178000876480820767209046619154424394415020912056264934433238016585658948279109355314785311746939477863760634830197359745114102093037621141704443131295520724053590350571346552983086182681806275402591971777052610522480086360239658858316097828995369646882043472388
theorem wX8_walkList_c : hz_cd cX8_walkList wNX8_walkList 113 := ⟨by decide +kernel, by decide +kernel⟩
theorem dX8_walkList_0 : decode cX8_walkList 0 = .ok (.iconst 1, 1) := dw_4 wX8_walkList_c rfl
theorem dX8_walkList_1 : decode cX8_walkList 1 = .ok (.aload_n 0, 1) := dw_42 wX8_walkList_c rfl
theorem dX8_walkList_2 : decode cX8_walkList 2 = .ok (.getfield 24, 3) := dw_180 wX8_walkList_c 0 24 rfl rfl
theorem dX8_walkList_5 : decode cX8_walkList 5 = .ok (.ishl, 1) := dw_120 wX8_walkList_c rfl
theorem dX8_walkList_6 : decode cX8_walkList 6 = .ok (.iconst 1, 1) := dw_4 wX8_walkList_c rfl
theorem dX8_walkList_7 : decode cX8_walkList 7 = .ok (.isub, 1) := dw_100 wX8_walkList_c rfl
theorem dX8_walkList_8 : decode cX8_walkList 8 = .ok (.istore_n 1, 1) := dw_60 wX8_walkList_c rfl
theorem dX8_walkList_9 : decode cX8_walkList 9 = .ok (.iload_n 1, 1) := dw_27 wX8_walkList_c rfl
theorem dX8_walkList_10 : decode cX8_walkList 10 = .ok (.istore_n 2, 1) := dw_61 wX8_walkList_c rfl
theorem dX8_walkList_11 : decode cX8_walkList 11 = .ok (.iload_n 2, 1) := dw_28 wX8_walkList_c rfl
theorem dX8_walkList_12 : decode cX8_walkList 12 = .ok (.ifCond .le 63, 3) := dw_158 wX8_walkList_c 0 63 rfl rfl rfl
theorem dX8_walkList_15 : decode cX8_walkList 15 = .ok (.iconst 0, 1) := dw_3 wX8_walkList_c rfl
theorem dX8_walkList_16 : decode cX8_walkList 16 = .ok (.istore_n 3, 1) := dw_62 wX8_walkList_c rfl
theorem dX8_walkList_17 : decode cX8_walkList 17 = .ok (.iload_n 3, 1) := dw_29 wX8_walkList_c rfl
theorem dX8_walkList_18 : decode cX8_walkList 18 = .ok (.aload_n 0, 1) := dw_42 wX8_walkList_c rfl
theorem dX8_walkList_19 : decode cX8_walkList 19 = .ok (.getfield 24, 3) := dw_180 wX8_walkList_c 0 24 rfl rfl
theorem dX8_walkList_22 : decode cX8_walkList 22 = .ok (.if_icmp .ge 47, 3) := dw_162 wX8_walkList_c 0 47 rfl rfl rfl
theorem dX8_walkList_25 : decode cX8_walkList 25 = .ok (.iload_n 3, 1) := dw_29 wX8_walkList_c rfl
theorem dX8_walkList_26 : decode cX8_walkList 26 = .ok (.iload_n 2, 1) := dw_28 wX8_walkList_c rfl
theorem dX8_walkList_27 : decode cX8_walkList 27 = .ok (.invokestatic 31, 3) := dw_184 wX8_walkList_c 0 31 rfl rfl
theorem dX8_walkList_30 : decode cX8_walkList 30 = .ok (.ifCond .eq 33, 3) := dw_153 wX8_walkList_c 0 33 rfl rfl rfl
theorem dX8_walkList_33 : decode cX8_walkList 33 = .ok (.aload_n 0, 1) := dw_42 wX8_walkList_c rfl
theorem dX8_walkList_34 : decode cX8_walkList 34 = .ok (.getfield 21, 3) := dw_180 wX8_walkList_c 0 21 rfl rfl
theorem dX8_walkList_37 : decode cX8_walkList 37 = .ok (.iload_n 2, 1) := dw_28 wX8_walkList_c rfl
theorem dX8_walkList_38 : decode cX8_walkList 38 = .ok (.bipush 8, 2) := dw_16 wX8_walkList_c 8 rfl rfl rfl
theorem dX8_walkList_40 : decode cX8_walkList 40 = .ok (.imul, 1) := dw_104 wX8_walkList_c rfl
theorem dX8_walkList_41 : decode cX8_walkList 41 = .ok (.iload_n 3, 1) := dw_29 wX8_walkList_c rfl
theorem dX8_walkList_42 : decode cX8_walkList 42 = .ok (.iadd, 1) := dw_96 wX8_walkList_c rfl
theorem dX8_walkList_43 : decode cX8_walkList 43 = .ok (.iload_n 2, 1) := dw_28 wX8_walkList_c rfl
theorem dX8_walkList_44 : decode cX8_walkList 44 = .ok (.iload_n 1, 1) := dw_27 wX8_walkList_c rfl
theorem dX8_walkList_45 : decode cX8_walkList 45 = .ok (.if_icmp .ne 11, 3) := dw_160 wX8_walkList_c 0 11 rfl rfl rfl
theorem dX8_walkList_48 : decode cX8_walkList 48 = .ok (.aload_n 0, 1) := dw_42 wX8_walkList_c rfl
theorem dX8_walkList_49 : decode cX8_walkList 49 = .ok (.iload_n 3, 1) := dw_29 wX8_walkList_c rfl
theorem dX8_walkList_50 : decode cX8_walkList 50 = .ok (.invokevirtual 35, 3) := dw_182 wX8_walkList_c 0 35 rfl rfl
theorem dX8_walkList_53 : decode cX8_walkList 53 = .ok (.goto 9, 3) := dw_167 wX8_walkList_c 0 9 rfl rfl rfl
theorem dX8_walkList_56 : decode cX8_walkList 56 = .ok (.aload_n 0, 1) := dw_42 wX8_walkList_c rfl
theorem dX8_walkList_57 : decode cX8_walkList 57 = .ok (.iload_n 2, 1) := dw_28 wX8_walkList_c rfl
theorem dX8_walkList_58 : decode cX8_walkList 58 = .ok (.iload_n 3, 1) := dw_29 wX8_walkList_c rfl
theorem dX8_walkList_59 : decode cX8_walkList 59 = .ok (.invokevirtual 39, 3) := dw_182 wX8_walkList_c 0 39 rfl rfl
theorem dX8_walkList_62 : decode cX8_walkList 62 = .ok (.iastore, 1) := dw_79 wX8_walkList_c rfl
theorem dX8_walkList_63 : decode cX8_walkList 63 = .ok (.iinc 3 1, 3) := dw_132 wX8_walkList_c 3 1 rfl rfl rfl
theorem dX8_walkList_66 : decode cX8_walkList 66 = .ok (.goto (-49), 3) := dn_167 wX8_walkList_c 255 207 rfl (by decide)
theorem dX8_walkList_69 : decode cX8_walkList 69 = .ok (.iinc 2 (-1), 3) := dn_132 wX8_walkList_c 2 255 rfl (by decide)
theorem dX8_walkList_72 : decode cX8_walkList 72 = .ok (.goto (-61), 3) := dn_167 wX8_walkList_c 255 195 rfl (by decide)
theorem dX8_walkList_75 : decode cX8_walkList 75 = .ok (.aload_n 0, 1) := dw_42 wX8_walkList_c rfl
theorem dX8_walkList_76 : decode cX8_walkList 76 = .ok (.getfield 24, 3) := dw_180 wX8_walkList_c 0 24 rfl rfl
theorem dX8_walkList_79 : decode cX8_walkList 79 = .ok (.ifCond .ne 7, 3) := dw_154 wX8_walkList_c 0 7 rfl rfl rfl
theorem dX8_walkList_82 : decode cX8_walkList 82 = .ok (.iconst 0, 1) := dw_3 wX8_walkList_c rfl
theorem dX8_walkList_83 : decode cX8_walkList 83 = .ok (.goto 9, 3) := dw_167 wX8_walkList_c 0 9 rfl rfl rfl
theorem dX8_walkList_86 : decode cX8_walkList 86 = .ok (.aload_n 0, 1) := dw_42 wX8_walkList_c rfl
theorem dX8_walkList_87 : decode cX8_walkList 87 = .ok (.iconst 0, 1) := dw_3 wX8_walkList_c rfl
theorem dX8_walkList_88 : decode cX8_walkList 88 = .ok (.iconst (-1), 1) := dw_2 wX8_walkList_c rfl
theorem dX8_walkList_89 : decode cX8_walkList 89 = .ok (.invokevirtual 39, 3) := dw_182 wX8_walkList_c 0 39 rfl rfl
theorem dX8_walkList_92 : decode cX8_walkList 92 = .ok (.istore_n 2, 1) := dw_61 wX8_walkList_c rfl
theorem dX8_walkList_93 : decode cX8_walkList 93 = .ok (.aload_n 0, 1) := dw_42 wX8_walkList_c rfl
theorem dX8_walkList_94 : decode cX8_walkList 94 = .ok (.iload_n 2, 1) := dw_28 wX8_walkList_c rfl
theorem dX8_walkList_95 : decode cX8_walkList 95 = .ok (.invokevirtual 43, 3) := dw_182 wX8_walkList_c 0 43 rfl rfl
theorem dX8_walkList_98 : decode cX8_walkList 98 = .ok (.aload_n 0, 1) := dw_42 wX8_walkList_c rfl
theorem dX8_walkList_99 : decode cX8_walkList 99 = .ok (.aload_n 0, 1) := dw_42 wX8_walkList_c rfl
theorem dX8_walkList_100 : decode cX8_walkList 100 = .ok (.getfield 24, 3) := dw_180 wX8_walkList_c 0 24 rfl rfl
theorem dX8_walkList_103 : decode cX8_walkList 103 = .ok (.putfield 47, 3) := dw_181 wX8_walkList_c 0 47 rfl rfl
theorem dX8_walkList_106 : decode cX8_walkList 106 = .ok (.aload_n 0, 1) := dw_42 wX8_walkList_c rfl
theorem dX8_walkList_107 : decode cX8_walkList 107 = .ok (.iconst 0, 1) := dw_3 wX8_walkList_c rfl
theorem dX8_walkList_108 : decode cX8_walkList 108 = .ok (.putfield 24, 3) := dw_181 wX8_walkList_c 0 24 rfl rfl
theorem dX8_walkList_111 : decode cX8_walkList 111 = .ok (.iload_n 2, 1) := dw_28 wX8_walkList_c rfl
theorem dX8_walkList_112 : decode cX8_walkList 112 = .ok (.ireturn, 1) := dw_172 wX8_walkList_c rfl
end
section
theorem dX9_personAt_0 : decode cX9_personAt 0 = .ok (.iload_n 1, 1) := by decide +kernel
theorem dX9_personAt_1 : decode cX9_personAt 1 = .ok (.ifCond .lt 11, 3) := by decide +kernel
theorem dX9_personAt_4 : decode cX9_personAt 4 = .ok (.iload_n 1, 1) := by decide +kernel
theorem dX9_personAt_5 : decode cX9_personAt 5 = .ok (.aload_n 0, 1) := by decide +kernel
theorem dX9_personAt_6 : decode cX9_personAt 6 = .ok (.getfield 125, 3) := by decide +kernel
theorem dX9_personAt_9 : decode cX9_personAt 9 = .ok (.if_icmp .lt 7, 3) := by decide +kernel
theorem dX9_personAt_12 : decode cX9_personAt 12 = .ok (.aconst_null, 1) := by decide +kernel
theorem dX9_personAt_13 : decode cX9_personAt 13 = .ok (.goto 9, 3) := by decide +kernel
theorem dX9_personAt_16 : decode cX9_personAt 16 = .ok (.aload_n 0, 1) := by decide +kernel
theorem dX9_personAt_17 : decode cX9_personAt 17 = .ok (.getfield 35, 3) := by decide +kernel
theorem dX9_personAt_20 : decode cX9_personAt 20 = .ok (.iload_n 1, 1) := by decide +kernel
theorem dX9_personAt_21 : decode cX9_personAt 21 = .ok (.aaload, 1) := by decide +kernel
theorem dX9_personAt_22 : decode cX9_personAt 22 = .ok (.areturn, 1) := by decide +kernel
set_option maxHeartbeats 4000000 in
set_option maxRecDepth 100000 in
theorem t_X9_personAt (l : Launch) (dC : Nat → ClassId) (dI : Nat → Nat → Nat) (dA : Nat → ClassId) (L : List Nat) (h : hx_h) (sz : Nat) (x : Nat) (i1 : Int32) (hT : hx_T T_tb L h) (gx : hx_g L h x 9) (qp : Nat) (gqp : hx_g L h qp 44) (f_x_7 : h.2.2 x 7 = some qp) (pf_x_8 : ∀ j : Nat, (j : Int) < (h.2.1 x 8).toInt → h.2.2 qp j ≠ none) : Met l yX9_personAt (Cond.code yX9_personAt cX9_personAt 2 (some (.object "SmallCourt$Person")) :: hx_all) ({ frames := 0, cells := 0, slots := 0, locals := 0 }) (va_Pc [.ref x, .int i1] (hx_B T_tb (P_ty dA) (dC, dI) vwCl L h sz)) (va_Qq (fun (r : Option Nat) (u : List Nat × hx_h) => ((∀ q, r = some q → hx_g u.1 u.2 q 4)) ∧ hx_T T_tb u.1 u.2 ∧ hx_S T_tb [] L h u.1 u.2) (hx_E T_tb (P_ty dA) (dC, dI) vwCl (hx_A L sz)) (hx_A L sz)) 0 0 (hx_A L sz) := by
  refine hx_met (lv := [(0, .ref x), (1, .int i1)]) (by decide +kernel) rfl (Nat.le_of_ble_eq_true rfl) rfl ?_
  intro p e s m below meth c hx hb hml hr hlk hts0 hown hin hsz hW ls hl
  have hts : ∀ w ∈ hx_all, w.before _ s = true := fun w hw => hts0 w (List.mem_cons_of_mem _ hw)
  have hown : s.vm.findClass "SmallCourt" = some m.cls := hown
  have hM : hx_S T_tb [] L h L h := hx_S.rf
  refine lv_iload_n hx hb dX9_personAt_0 rfl (lv_at hl 1 rfl) ?_
  refine hb_if_lt (zx := i1.toInt) (tgt := 12) hx hb rfl dX9_personAt_1 ?o0 (fun c_1 => ?_) (fun c_1 => ?_)
  case o0 => decide
  · skip
    refine lv_null hx hb dX9_personAt_12 ?_
    refine lv_goto (tgt := 22) hx hb dX9_personAt_13 ?o1 ?_
    case o1 => decide
    exact hx_retq (v := none) hx hb hr (Or.inl ⟨_, rfl⟩) hlk hW ⟨(fun q hq => by cases hq), hT, hM⟩ dX9_personAt_22
  · skip
    refine lv_iload_n hx hb dX9_personAt_4 rfl (lv_at hl 1 rfl) ?_
    refine lv_aload_n hx hb dX9_personAt_5 rfl (lv_at hl 0 rfl) ?_
    refine hx_geti hx hb hts hC_9 hown hW hT (gx.S hM) tt_9 8 ?o2 rfl kw_372 ⟨rfl, rfl, rfl⟩ dX9_personAt_6 (fun x_2 ex_2 lx_2 ux_2 => ?_)
    case o2 => decide
    have fx_2 := ex_2.symm
    refine hb_icmp_lt (zx := i1.toInt) (zy := x_2.toInt) (tgt := 16) hx hb rfl rfl dX9_personAt_9 ?o3 (fun c_3 => ?_) (fun c_3 => ?_)
    case o3 => decide
    · skip
      refine lv_aload_n hx hb dX9_personAt_16 rfl (lv_at hl 0 rfl) ?_
      refine hk_getr hx hb hts hC_9 hown hW (gx.S hM) tt_9 7 ?o4 rfl kw_371 ⟨rfl, rfl, rfl⟩ ((hM.o gx trivial rfl).2.trans f_x_7) dX9_personAt_17 ?_
      case o4 => decide
      refine lv_iload_n hx hb dX9_personAt_20 rfl (lv_at hl 1 rfl) ?_
      refine hx_aaldN hx hb hW hT (gqp.S hM) tt_44 (t1 := 4) rfl ⟨?o5, ?o6⟩ (pf_x_8 _ (by rw [fx_2]; exact hx_tnI (by omega) (by omega))) dX9_personAt_21 (fun q_4 fq_4 gq_4 => ?_)
      case o5 => omega
      case o6 => omega
      exact hx_retq (v := (some q_4)) hx hb hr (Or.inl ⟨_, rfl⟩) hlk hW ⟨(fun q hq => by cases hq; exact gq_4), hT, hM⟩ dX9_personAt_22
    · skip
      refine lv_null hx hb dX9_personAt_12 ?_
      refine lv_goto (tgt := 22) hx hb dX9_personAt_13 ?o7 ?_
      case o7 => decide
      exact hx_retq (v := none) hx hb hr (Or.inl ⟨_, rfl⟩) hlk hW ⟨(fun q hq => by cases hq), hT, hM⟩ dX9_personAt_22

theorem dX9_claimAt_0 : decode cX9_claimAt 0 = .ok (.iload_n 1, 1) := by decide +kernel
theorem dX9_claimAt_1 : decode cX9_claimAt 1 = .ok (.ifCond .lt 11, 3) := by decide +kernel
theorem dX9_claimAt_4 : decode cX9_claimAt 4 = .ok (.iload_n 1, 1) := by decide +kernel
theorem dX9_claimAt_5 : decode cX9_claimAt 5 = .ok (.aload_n 0, 1) := by decide +kernel
theorem dX9_claimAt_6 : decode cX9_claimAt 6 = .ok (.getfield 181, 3) := by decide +kernel
theorem dX9_claimAt_9 : decode cX9_claimAt 9 = .ok (.if_icmp .lt 7, 3) := by decide +kernel
theorem dX9_claimAt_12 : decode cX9_claimAt 12 = .ok (.aconst_null, 1) := by decide +kernel
theorem dX9_claimAt_13 : decode cX9_claimAt 13 = .ok (.goto 9, 3) := by decide +kernel
theorem dX9_claimAt_16 : decode cX9_claimAt 16 = .ok (.aload_n 0, 1) := by decide +kernel
theorem dX9_claimAt_17 : decode cX9_claimAt 17 = .ok (.getfield 48, 3) := by decide +kernel
theorem dX9_claimAt_20 : decode cX9_claimAt 20 = .ok (.iload_n 1, 1) := by decide +kernel
theorem dX9_claimAt_21 : decode cX9_claimAt 21 = .ok (.aaload, 1) := by decide +kernel
theorem dX9_claimAt_22 : decode cX9_claimAt 22 = .ok (.areturn, 1) := by decide +kernel
theorem dX9_areTwo_0 : decode cX9_areTwo 0 = .ok (.iload_n 1, 1) := by decide +kernel
theorem dX9_areTwo_1 : decode cX9_areTwo 1 = .ok (.iload_n 2, 1) := by decide +kernel
theorem dX9_areTwo_2 : decode cX9_areTwo 2 = .ok (.if_icmp .eq 23, 3) := by decide +kernel
theorem dX9_areTwo_5 : decode cX9_areTwo 5 = .ok (.aload_n 0, 1) := by decide +kernel
theorem dX9_areTwo_6 : decode cX9_areTwo 6 = .ok (.iload_n 1, 1) := by decide +kernel
theorem dX9_areTwo_7 : decode cX9_areTwo 7 = .ok (.invokevirtual 144, 3) := by decide +kernel
theorem dX9_areTwo_10 : decode cX9_areTwo 10 = .ok (.ifnull 15, 3) := by decide +kernel
theorem dX9_areTwo_13 : decode cX9_areTwo 13 = .ok (.aload_n 0, 1) := by decide +kernel
theorem dX9_areTwo_14 : decode cX9_areTwo 14 = .ok (.iload_n 2, 1) := by decide +kernel
theorem dX9_areTwo_15 : decode cX9_areTwo 15 = .ok (.invokevirtual 144, 3) := by decide +kernel
theorem dX9_areTwo_18 : decode cX9_areTwo 18 = .ok (.ifnull 7, 3) := by decide +kernel
theorem dX9_areTwo_21 : decode cX9_areTwo 21 = .ok (.iconst 1, 1) := by decide +kernel
theorem dX9_areTwo_22 : decode cX9_areTwo 22 = .ok (.goto 4, 3) := by decide +kernel
theorem dX9_areTwo_25 : decode cX9_areTwo 25 = .ok (.iconst 0, 1) := by decide +kernel
theorem dX9_areTwo_26 : decode cX9_areTwo 26 = .ok (.ireturn, 1) := by decide +kernel
def wNX9_feedBytes : Nat := 106926792096430760068499693496658080250040039507979479087248313367429784101262711490432646294184071232740646524944
theorem wX9_feedBytes_c : hz_cd cX9_feedBytes wNX9_feedBytes 47 := ⟨by decide +kernel, by decide +kernel⟩
theorem dX9_feedBytes_0 : decode cX9_feedBytes 0 = .ok (.bipush 24, 2) := dw_16 wX9_feedBytes_c 24 rfl rfl rfl
theorem dX9_feedBytes_2 : decode cX9_feedBytes 2 = .ok (.istore_n 2, 1) := dw_61 wX9_feedBytes_c rfl
theorem dX9_feedBytes_3 : decode cX9_feedBytes 3 = .ok (.iload_n 2, 1) := dw_28 wX9_feedBytes_c rfl
theorem dX9_feedBytes_4 : decode cX9_feedBytes 4 = .ok (.ifCond .lt 42, 3) := dw_155 wX9_feedBytes_c 0 42 rfl rfl rfl
theorem dX9_feedBytes_7 : decode cX9_feedBytes 7 = .ok (.aload_n 0, 1) := dw_42 wX9_feedBytes_c rfl
theorem dX9_feedBytes_8 : decode cX9_feedBytes 8 = .ok (.getfield 98, 3) := dw_180 wX9_feedBytes_c 0 98 rfl rfl
theorem dX9_feedBytes_11 : decode cX9_feedBytes 11 = .ok (.sipush 400, 3) := dw_17 wX9_feedBytes_c 1 144 rfl rfl rfl
theorem dX9_feedBytes_14 : decode cX9_feedBytes 14 = .ok (.if_icmp .ge 32, 3) := dw_162 wX9_feedBytes_c 0 32 rfl rfl rfl
theorem dX9_feedBytes_17 : decode cX9_feedBytes 17 = .ok (.aload_n 0, 1) := dw_42 wX9_feedBytes_c rfl
theorem dX9_feedBytes_18 : decode cX9_feedBytes 18 = .ok (.getfield 9, 3) := dw_180 wX9_feedBytes_c 0 9 rfl rfl
theorem dX9_feedBytes_21 : decode cX9_feedBytes 21 = .ok (.aload_n 0, 1) := dw_42 wX9_feedBytes_c rfl
theorem dX9_feedBytes_22 : decode cX9_feedBytes 22 = .ok (.getfield 98, 3) := dw_180 wX9_feedBytes_c 0 98 rfl rfl
theorem dX9_feedBytes_25 : decode cX9_feedBytes 25 = .ok (.iload_n 1, 1) := dw_27 wX9_feedBytes_c rfl
theorem dX9_feedBytes_26 : decode cX9_feedBytes 26 = .ok (.iload_n 2, 1) := dw_28 wX9_feedBytes_c rfl
theorem dX9_feedBytes_27 : decode cX9_feedBytes 27 = .ok (.ishr, 1) := dw_122 wX9_feedBytes_c rfl
theorem dX9_feedBytes_28 : decode cX9_feedBytes 28 = .ok (.i2b, 1) := dw_145 wX9_feedBytes_c rfl
theorem dX9_feedBytes_29 : decode cX9_feedBytes 29 = .ok (.bastore, 1) := dw_84 wX9_feedBytes_c rfl
theorem dX9_feedBytes_30 : decode cX9_feedBytes 30 = .ok (.aload_n 0, 1) := dw_42 wX9_feedBytes_c rfl
theorem dX9_feedBytes_31 : decode cX9_feedBytes 31 = .ok (.dup, 1) := dw_89 wX9_feedBytes_c rfl
theorem dX9_feedBytes_32 : decode cX9_feedBytes 32 = .ok (.getfield 98, 3) := dw_180 wX9_feedBytes_c 0 98 rfl rfl
theorem dX9_feedBytes_35 : decode cX9_feedBytes 35 = .ok (.iconst 1, 1) := dw_4 wX9_feedBytes_c rfl
theorem dX9_feedBytes_36 : decode cX9_feedBytes 36 = .ok (.iadd, 1) := dw_96 wX9_feedBytes_c rfl
theorem dX9_feedBytes_37 : decode cX9_feedBytes 37 = .ok (.putfield 98, 3) := dw_181 wX9_feedBytes_c 0 98 rfl rfl
theorem dX9_feedBytes_40 : decode cX9_feedBytes 40 = .ok (.iinc 2 (-8), 3) := dn_132 wX9_feedBytes_c 2 248 rfl (by decide)
theorem dX9_feedBytes_43 : decode cX9_feedBytes 43 = .ok (.goto (-40), 3) := dn_167 wX9_feedBytes_c 255 216 rfl (by decide)
theorem dX9_feedBytes_46 : decode cX9_feedBytes 46 = .ok (.return_, 1) := dw_177 wX9_feedBytes_c rfl
def wNX9_feed : Nat := 103641190634208677366575353167189495109136908430053597656568722545926797974806146427338782791637635849279978386474
theorem wX9_feed_c : hz_cd cX9_feed wNX9_feed 47 := ⟨by decide +kernel, by decide +kernel⟩
theorem dX9_feed_0 : decode cX9_feed 0 = .ok (.aload_n 0, 1) := dw_42 wX9_feed_c rfl
theorem dX9_feed_1 : decode cX9_feed 1 = .ok (.getfield 98, 3) := dw_180 wX9_feed_c 0 98 rfl rfl
theorem dX9_feed_4 : decode cX9_feed 4 = .ok (.bipush 20, 2) := dw_16 wX9_feed_c 20 rfl rfl rfl
theorem dX9_feed_6 : decode cX9_feed 6 = .ok (.iadd, 1) := dw_96 wX9_feed_c rfl
theorem dX9_feed_7 : decode cX9_feed 7 = .ok (.sipush 400, 3) := dw_17 wX9_feed_c 1 144 rfl rfl rfl
theorem dX9_feed_10 : decode cX9_feed 10 = .ok (.if_icmp .le 5, 3) := dw_164 wX9_feed_c 0 5 rfl rfl rfl
theorem dX9_feed_13 : decode cX9_feed 13 = .ok (.iconst (-1), 1) := dw_2 wX9_feed_c rfl
theorem dX9_feed_14 : decode cX9_feed 14 = .ok (.ireturn, 1) := dw_172 wX9_feed_c rfl
theorem dX9_feed_15 : decode cX9_feed 15 = .ok (.aload_n 0, 1) := dw_42 wX9_feed_c rfl
theorem dX9_feed_16 : decode cX9_feed 16 = .ok (.iload_n 1, 1) := dw_27 wX9_feed_c rfl
theorem dX9_feed_17 : decode cX9_feed 17 = .ok (.invokevirtual 101, 3) := dw_182 wX9_feed_c 0 101 rfl rfl
theorem dX9_feed_20 : decode cX9_feed 20 = .ok (.aload_n 0, 1) := dw_42 wX9_feed_c rfl
theorem dX9_feed_21 : decode cX9_feed 21 = .ok (.iload_n 2, 1) := dw_28 wX9_feed_c rfl
theorem dX9_feed_22 : decode cX9_feed 22 = .ok (.invokevirtual 101, 3) := dw_182 wX9_feed_c 0 101 rfl rfl
theorem dX9_feed_25 : decode cX9_feed 25 = .ok (.aload_n 0, 1) := dw_42 wX9_feed_c rfl
theorem dX9_feed_26 : decode cX9_feed 26 = .ok (.iload_n 3, 1) := dw_29 wX9_feed_c rfl
theorem dX9_feed_27 : decode cX9_feed 27 = .ok (.invokevirtual 101, 3) := dw_182 wX9_feed_c 0 101 rfl rfl
theorem dX9_feed_30 : decode cX9_feed 30 = .ok (.aload_n 0, 1) := dw_42 wX9_feed_c rfl
theorem dX9_feed_31 : decode cX9_feed 31 = .ok (.iload 4, 2) := dw_21 wX9_feed_c 4 rfl
theorem dX9_feed_33 : decode cX9_feed 33 = .ok (.invokevirtual 101, 3) := dw_182 wX9_feed_c 0 101 rfl rfl
theorem dX9_feed_36 : decode cX9_feed 36 = .ok (.aload_n 0, 1) := dw_42 wX9_feed_c rfl
theorem dX9_feed_37 : decode cX9_feed 37 = .ok (.iload 5, 2) := dw_21 wX9_feed_c 5 rfl
theorem dX9_feed_39 : decode cX9_feed 39 = .ok (.invokevirtual 101, 3) := dw_182 wX9_feed_c 0 101 rfl rfl
theorem dX9_feed_42 : decode cX9_feed 42 = .ok (.aload_n 0, 1) := dw_42 wX9_feed_c rfl
theorem dX9_feed_43 : decode cX9_feed 43 = .ok (.getfield 98, 3) := dw_180 wX9_feed_c 0 98 rfl rfl
theorem dX9_feed_46 : decode cX9_feed 46 = .ok (.ireturn, 1) := dw_172 wX9_feed_c rfl
theorem dX9_end_0 : decode cX9_end 0 = .ok (.iload_n 1, 1) := by decide +kernel
theorem dX9_end_1 : decode cX9_end 1 = .ok (.ifCond .lt 11, 3) := by decide +kernel
theorem dX9_end_4 : decode cX9_end 4 = .ok (.iload_n 1, 1) := by decide +kernel
theorem dX9_end_5 : decode cX9_end 5 = .ok (.aload_n 0, 1) := by decide +kernel
theorem dX9_end_6 : decode cX9_end 6 = .ok (.getfield 98, 3) := by decide +kernel
theorem dX9_end_9 : decode cX9_end 9 = .ok (.if_icmp .le 5, 3) := by decide +kernel
theorem dX9_end_12 : decode cX9_end 12 = .ok (.iconst (-1), 1) := by decide +kernel
theorem dX9_end_13 : decode cX9_end 13 = .ok (.ireturn, 1) := by decide +kernel
theorem dX9_end_14 : decode cX9_end 14 = .ok (.aload_n 0, 1) := by decide +kernel
theorem dX9_end_15 : decode cX9_end 15 = .ok (.iload_n 1, 1) := by decide +kernel
theorem dX9_end_16 : decode cX9_end 16 = .ok (.putfield 98, 3) := by decide +kernel
theorem dX9_end_19 : decode cX9_end 19 = .ok (.iload_n 1, 1) := by decide +kernel
theorem dX9_end_20 : decode cX9_end 20 = .ok (.ireturn, 1) := by decide +kernel
def wNX9_anew : Nat := 103421696385738885898570826764662294274299162852920186222004547079581059415148296231806071651142868801524621253418
theorem wX9_anew_c : hz_cd cX9_anew wNX9_anew 47 := ⟨by decide +kernel, by decide +kernel⟩
theorem dX9_anew_0 : decode cX9_anew 0 = .ok (.aload_n 0, 1) := dw_42 wX9_anew_c rfl
theorem dX9_anew_1 : decode cX9_anew 1 = .ok (.iload_n 1, 1) := dw_27 wX9_anew_c rfl
theorem dX9_anew_2 : decode cX9_anew 2 = .ok (.invokevirtual 144, 3) := dw_182 wX9_anew_c 0 144 rfl rfl
theorem dX9_anew_5 : decode cX9_anew 5 = .ok (.astore 6, 2) := dw_58 wX9_anew_c 6 rfl
theorem dX9_anew_7 : decode cX9_anew 7 = .ok (.aload 6, 2) := dw_25 wX9_anew_c 6 rfl
theorem dX9_anew_9 : decode cX9_anew 9 = .ok (.ifnull 23, 3) := dw_198 wX9_anew_c 0 23 rfl rfl rfl
theorem dX9_anew_12 : decode cX9_anew 12 = .ok (.aload 6, 2) := dw_25 wX9_anew_c 6 rfl
theorem dX9_anew_14 : decode cX9_anew 14 = .ok (.getfield 148, 3) := dw_180 wX9_anew_c 0 148 rfl rfl
theorem dX9_anew_17 : decode cX9_anew 17 = .ok (.ifCond .ne 15, 3) := dw_154 wX9_anew_c 0 15 rfl rfl rfl
theorem dX9_anew_20 : decode cX9_anew 20 = .ok (.iload_n 2, 1) := dw_28 wX9_anew_c rfl
theorem dX9_anew_21 : decode cX9_anew 21 = .ok (.iload_n 3, 1) := dw_29 wX9_anew_c rfl
theorem dX9_anew_22 : decode cX9_anew 22 = .ok (.iload 4, 2) := dw_21 wX9_anew_c 4 rfl
theorem dX9_anew_24 : decode cX9_anew 24 = .ok (.iload 5, 2) := dw_21 wX9_anew_c 5 rfl
theorem dX9_anew_26 : decode cX9_anew 26 = .ok (.invokestatic 132, 3) := dw_184 wX9_anew_c 0 132 rfl rfl
theorem dX9_anew_29 : decode cX9_anew 29 = .ok (.ifCond .ne 5, 3) := dw_154 wX9_anew_c 0 5 rfl rfl rfl
theorem dX9_anew_32 : decode cX9_anew 32 = .ok (.iconst 0, 1) := dw_3 wX9_anew_c rfl
theorem dX9_anew_33 : decode cX9_anew 33 = .ok (.ireturn, 1) := dw_172 wX9_anew_c rfl
theorem dX9_anew_34 : decode cX9_anew 34 = .ok (.aload 6, 2) := dw_25 wX9_anew_c 6 rfl
theorem dX9_anew_36 : decode cX9_anew 36 = .ok (.iload_n 2, 1) := dw_28 wX9_anew_c rfl
theorem dX9_anew_37 : decode cX9_anew 37 = .ok (.iload_n 3, 1) := dw_29 wX9_anew_c rfl
theorem dX9_anew_38 : decode cX9_anew 38 = .ok (.iload 4, 2) := dw_21 wX9_anew_c 4 rfl
theorem dX9_anew_40 : decode cX9_anew 40 = .ok (.iload 5, 2) := dw_21 wX9_anew_c 5 rfl
theorem dX9_anew_42 : decode cX9_anew 42 = .ok (.invokevirtual 139, 3) := dw_182 wX9_anew_c 0 139 rfl rfl
theorem dX9_anew_45 : decode cX9_anew 45 = .ok (.iconst 1, 1) := dw_4 wX9_anew_c rfl
theorem dX9_anew_46 : decode cX9_anew 46 = .ok (.ireturn, 1) := dw_172 wX9_anew_c rfl
theorem dX9_dies_0 : decode cX9_dies 0 = .ok (.aload_n 0, 1) := by decide +kernel
theorem dX9_dies_1 : decode cX9_dies 1 = .ok (.iload_n 1, 1) := by decide +kernel
theorem dX9_dies_2 : decode cX9_dies 2 = .ok (.invokevirtual 144, 3) := by decide +kernel
theorem dX9_dies_5 : decode cX9_dies 5 = .ok (.astore_n 2, 1) := by decide +kernel
theorem dX9_dies_6 : decode cX9_dies 6 = .ok (.aload_n 2, 1) := by decide +kernel
theorem dX9_dies_7 : decode cX9_dies 7 = .ok (.ifnull 10, 3) := by decide +kernel
theorem dX9_dies_10 : decode cX9_dies 10 = .ok (.aload_n 2, 1) := by decide +kernel
theorem dX9_dies_11 : decode cX9_dies 11 = .ok (.getfield 148, 3) := by decide +kernel
theorem dX9_dies_14 : decode cX9_dies 14 = .ok (.ifCond .eq 5, 3) := by decide +kernel
theorem dX9_dies_17 : decode cX9_dies 17 = .ok (.iconst 0, 1) := by decide +kernel
theorem dX9_dies_18 : decode cX9_dies 18 = .ok (.ireturn, 1) := by decide +kernel
theorem dX9_dies_19 : decode cX9_dies 19 = .ok (.aload_n 2, 1) := by decide +kernel
theorem dX9_dies_20 : decode cX9_dies 20 = .ok (.iconst 1, 1) := by decide +kernel
theorem dX9_dies_21 : decode cX9_dies 21 = .ok (.putfield 148, 3) := by decide +kernel
theorem dX9_dies_24 : decode cX9_dies 24 = .ok (.iconst 1, 1) := by decide +kernel
theorem dX9_dies_25 : decode cX9_dies 25 = .ok (.ireturn, 1) := by decide +kernel
theorem dX9_judge_0 : decode cX9_judge 0 = .ok (.aload_n 0, 1) := by decide +kernel
theorem dX9_judge_1 : decode cX9_judge 1 = .ok (.iload_n 1, 1) := by decide +kernel
theorem dX9_judge_2 : decode cX9_judge 2 = .ok (.invokevirtual 144, 3) := by decide +kernel
theorem dX9_judge_5 : decode cX9_judge 5 = .ok (.astore_n 3, 1) := by decide +kernel
theorem dX9_judge_6 : decode cX9_judge 6 = .ok (.aload_n 3, 1) := by decide +kernel
theorem dX9_judge_7 : decode cX9_judge 7 = .ok (.ifnull 11, 3) := by decide +kernel
theorem dX9_judge_10 : decode cX9_judge 10 = .ok (.aload_n 3, 1) := by decide +kernel
theorem dX9_judge_11 : decode cX9_judge 11 = .ok (.getfield 152, 3) := by decide +kernel
theorem dX9_judge_14 : decode cX9_judge 14 = .ok (.iload_n 2, 1) := by decide +kernel
theorem dX9_judge_15 : decode cX9_judge 15 = .ok (.if_icmp .ne 5, 3) := by decide +kernel
theorem dX9_judge_18 : decode cX9_judge 18 = .ok (.iconst 0, 1) := by decide +kernel
theorem dX9_judge_19 : decode cX9_judge 19 = .ok (.ireturn, 1) := by decide +kernel
theorem dX9_judge_20 : decode cX9_judge 20 = .ok (.aload_n 3, 1) := by decide +kernel
theorem dX9_judge_21 : decode cX9_judge 21 = .ok (.iload_n 2, 1) := by decide +kernel
theorem dX9_judge_22 : decode cX9_judge 22 = .ok (.putfield 152, 3) := by decide +kernel
theorem dX9_judge_25 : decode cX9_judge 25 = .ok (.aload_n 3, 1) := by decide +kernel
theorem dX9_judge_26 : decode cX9_judge 26 = .ok (.iconst 1, 1) := by decide +kernel
theorem dX9_judge_27 : decode cX9_judge 27 = .ok (.putfield 155, 3) := by decide +kernel
theorem dX9_judge_30 : decode cX9_judge 30 = .ok (.iconst 1, 1) := by decide +kernel
theorem dX9_judge_31 : decode cX9_judge 31 = .ok (.ireturn, 1) := by decide +kernel
def wNX9_line : Nat := 3076389517750008616937077793239670630970568582324508541170828322638136848833716460985172066341143413992015561292087492459249836589838734311668447232264772025610450133549299870116922783661339690
theorem wX9_line_c : hz_cd cX9_line wNX9_line 80 := ⟨by decide +kernel, by decide +kernel⟩
theorem dX9_line_0 : decode cX9_line 0 = .ok (.aload_n 0, 1) := dw_42 wX9_line_c rfl
theorem dX9_line_1 : decode cX9_line 1 = .ok (.getfield 42, 3) := dw_180 wX9_line_c 0 42 rfl rfl
theorem dX9_line_4 : decode cX9_line 4 = .ok (.getfield 158, 3) := dw_180 wX9_line_c 0 158 rfl rfl
theorem dX9_line_7 : decode cX9_line 7 = .ok (.sipush 400, 3) := dw_17 wX9_line_c 1 144 rfl rfl rfl
theorem dX9_line_10 : decode cX9_line 10 = .ok (.if_icmp .ge 46, 3) := dw_162 wX9_line_c 0 46 rfl rfl rfl
theorem dX9_line_13 : decode cX9_line 13 = .ok (.aload_n 0, 1) := dw_42 wX9_line_c rfl
theorem dX9_line_14 : decode cX9_line 14 = .ok (.iload_n 1, 1) := dw_27 wX9_line_c rfl
theorem dX9_line_15 : decode cX9_line 15 = .ok (.iload_n 2, 1) := dw_28 wX9_line_c rfl
theorem dX9_line_16 : decode cX9_line 16 = .ok (.invokevirtual 161, 3) := dw_182 wX9_line_c 0 161 rfl rfl
theorem dX9_line_19 : decode cX9_line 19 = .ok (.ifCond .eq 37, 3) := dw_153 wX9_line_c 0 37 rfl rfl rfl
theorem dX9_line_22 : decode cX9_line 22 = .ok (.iload_n 3, 1) := dw_29 wX9_line_c rfl
theorem dX9_line_23 : decode cX9_line 23 = .ok (.iconst 0, 1) := dw_3 wX9_line_c rfl
theorem dX9_line_24 : decode cX9_line 24 = .ok (.aload_n 0, 1) := dw_42 wX9_line_c rfl
theorem dX9_line_25 : decode cX9_line 25 = .ok (.getfield 94, 3) := dw_180 wX9_line_c 0 94 rfl rfl
theorem dX9_line_28 : decode cX9_line 28 = .ok (.invokestatic 128, 3) := dw_184 wX9_line_c 0 128 rfl rfl
theorem dX9_line_31 : decode cX9_line 31 = .ok (.ifCond .eq 25, 3) := dw_153 wX9_line_c 0 25 rfl rfl rfl
theorem dX9_line_34 : decode cX9_line 34 = .ok (.iload 4, 2) := dw_21 wX9_line_c 4 rfl
theorem dX9_line_36 : decode cX9_line 36 = .ok (.iconst 0, 1) := dw_3 wX9_line_c rfl
theorem dX9_line_37 : decode cX9_line 37 = .ok (.iconst 3, 1) := dw_6 wX9_line_c rfl
theorem dX9_line_38 : decode cX9_line 38 = .ok (.invokestatic 128, 3) := dw_184 wX9_line_c 0 128 rfl rfl
theorem dX9_line_41 : decode cX9_line 41 = .ok (.ifCond .eq 15, 3) := dw_153 wX9_line_c 0 15 rfl rfl rfl
theorem dX9_line_44 : decode cX9_line 44 = .ok (.iload 5, 2) := dw_21 wX9_line_c 5 rfl
theorem dX9_line_46 : decode cX9_line 46 = .ok (.iconst 1, 1) := dw_4 wX9_line_c rfl
theorem dX9_line_47 : decode cX9_line 47 = .ok (.sipush 9999, 3) := dw_17 wX9_line_c 39 15 rfl rfl rfl
theorem dX9_line_50 : decode cX9_line 50 = .ok (.invokestatic 128, 3) := dw_184 wX9_line_c 0 128 rfl rfl
theorem dX9_line_53 : decode cX9_line 53 = .ok (.ifCond .ne 5, 3) := dw_154 wX9_line_c 0 5 rfl rfl rfl
theorem dX9_line_56 : decode cX9_line 56 = .ok (.iconst (-1), 1) := dw_2 wX9_line_c rfl
theorem dX9_line_57 : decode cX9_line 57 = .ok (.ireturn, 1) := dw_172 wX9_line_c rfl
theorem dX9_line_58 : decode cX9_line 58 = .ok (.aload_n 0, 1) := dw_42 wX9_line_c rfl
theorem dX9_line_59 : decode cX9_line 59 = .ok (.getfield 42, 3) := dw_180 wX9_line_c 0 42 rfl rfl
theorem dX9_line_62 : decode cX9_line 62 = .ok (.iload_n 1, 1) := dw_27 wX9_line_c rfl
theorem dX9_line_63 : decode cX9_line 63 = .ok (.iload_n 2, 1) := dw_28 wX9_line_c rfl
theorem dX9_line_64 : decode cX9_line 64 = .ok (.iload_n 3, 1) := dw_29 wX9_line_c rfl
theorem dX9_line_65 : decode cX9_line 65 = .ok (.iload 4, 2) := dw_21 wX9_line_c 4 rfl
theorem dX9_line_67 : decode cX9_line 67 = .ok (.iload 5, 2) := dw_21 wX9_line_c 5 rfl
theorem dX9_line_69 : decode cX9_line 69 = .ok (.invokevirtual 165, 3) := dw_182 wX9_line_c 0 165 rfl rfl
theorem dX9_line_72 : decode cX9_line 72 = .ok (.aload_n 0, 1) := dw_42 wX9_line_c rfl
theorem dX9_line_73 : decode cX9_line 73 = .ok (.getfield 42, 3) := dw_180 wX9_line_c 0 42 rfl rfl
theorem dX9_line_76 : decode cX9_line 76 = .ok (.getfield 158, 3) := dw_180 wX9_line_c 0 158 rfl rfl
theorem dX9_line_79 : decode cX9_line 79 = .ok (.ireturn, 1) := dw_172 wX9_line_c rfl
def wNX9_book : Nat := 201664770558438049583362776864570778739807076415187799402720615914561100772242324588061334129498815638901925622068274566763386684636767472525587443557127023937819954949989083310938087637085677427498
theorem wX9_book_c : hz_cd cX9_book wNX9_book 82 := ⟨by decide +kernel, by decide +kernel⟩
theorem dX9_book_0 : decode cX9_book 0 = .ok (.aload_n 0, 1) := dw_42 wX9_book_c rfl
theorem dX9_book_1 : decode cX9_book 1 = .ok (.iload_n 1, 1) := dw_27 wX9_book_c rfl
theorem dX9_book_2 : decode cX9_book 2 = .ok (.iload_n 2, 1) := dw_28 wX9_book_c rfl
theorem dX9_book_3 : decode cX9_book 3 = .ok (.invokevirtual 161, 3) := dw_182 wX9_book_c 0 161 rfl rfl
theorem dX9_book_6 : decode cX9_book 6 = .ok (.ifCond .eq 10, 3) := dw_153 wX9_book_c 0 10 rfl rfl rfl
theorem dX9_book_9 : decode cX9_book 9 = .ok (.iload_n 3, 1) := dw_29 wX9_book_c rfl
theorem dX9_book_10 : decode cX9_book 10 = .ok (.invokestatic 90, 3) := dw_184 wX9_book_c 0 90 rfl rfl
theorem dX9_book_13 : decode cX9_book 13 = .ok (.ifCond .ne 6, 3) := dw_154 wX9_book_c 0 6 rfl rfl rfl
theorem dX9_book_16 : decode cX9_book 16 = .ok (.ldc 169, 2) := dw_18 wX9_book_c 169 rfl
theorem dX9_book_18 : decode cX9_book 18 = .ok (.ireturn, 1) := dw_172 wX9_book_c rfl
theorem dX9_book_19 : decode cX9_book 19 = .ok (.iload 4, 2) := dw_21 wX9_book_c 4 rfl
theorem dX9_book_21 : decode cX9_book 21 = .ok (.tableswitch 58 0 2 #[27, 38, 49], 27) := by decide +kernel
theorem dX9_book_48 : decode cX9_book 48 = .ok (.aload_n 0, 1) := dw_42 wX9_book_c rfl
theorem dX9_book_49 : decode cX9_book 49 = .ok (.getfield 42, 3) := dw_180 wX9_book_c 0 42 rfl rfl
theorem dX9_book_52 : decode cX9_book 52 = .ok (.iload_n 1, 1) := dw_27 wX9_book_c rfl
theorem dX9_book_53 : decode cX9_book 53 = .ok (.iload_n 2, 1) := dw_28 wX9_book_c rfl
theorem dX9_book_54 : decode cX9_book 54 = .ok (.iload_n 3, 1) := dw_29 wX9_book_c rfl
theorem dX9_book_55 : decode cX9_book 55 = .ok (.invokevirtual 170, 3) := dw_182 wX9_book_c 0 170 rfl rfl
theorem dX9_book_58 : decode cX9_book 58 = .ok (.ireturn, 1) := dw_172 wX9_book_c rfl
theorem dX9_book_59 : decode cX9_book 59 = .ok (.aload_n 0, 1) := dw_42 wX9_book_c rfl
theorem dX9_book_60 : decode cX9_book 60 = .ok (.getfield 42, 3) := dw_180 wX9_book_c 0 42 rfl rfl
theorem dX9_book_63 : decode cX9_book 63 = .ok (.iload_n 1, 1) := dw_27 wX9_book_c rfl
theorem dX9_book_64 : decode cX9_book 64 = .ok (.iload_n 2, 1) := dw_28 wX9_book_c rfl
theorem dX9_book_65 : decode cX9_book 65 = .ok (.iload_n 3, 1) := dw_29 wX9_book_c rfl
theorem dX9_book_66 : decode cX9_book 66 = .ok (.invokevirtual 174, 3) := dw_182 wX9_book_c 0 174 rfl rfl
theorem dX9_book_69 : decode cX9_book 69 = .ok (.ireturn, 1) := dw_172 wX9_book_c rfl
theorem dX9_book_70 : decode cX9_book 70 = .ok (.aload_n 0, 1) := dw_42 wX9_book_c rfl
theorem dX9_book_71 : decode cX9_book 71 = .ok (.getfield 42, 3) := dw_180 wX9_book_c 0 42 rfl rfl
theorem dX9_book_74 : decode cX9_book 74 = .ok (.iload_n 1, 1) := dw_27 wX9_book_c rfl
theorem dX9_book_75 : decode cX9_book 75 = .ok (.invokevirtual 177, 3) := dw_182 wX9_book_c 0 177 rfl rfl
theorem dX9_book_78 : decode cX9_book 78 = .ok (.ireturn, 1) := dw_172 wX9_book_c rfl
theorem dX9_book_79 : decode cX9_book 79 = .ok (.ldc 169, 2) := dw_18 wX9_book_c 169 rfl
theorem dX9_book_81 : decode cX9_book 81 = .ok (.ireturn, 1) := dw_172 wX9_book_c rfl
def wNX9_summons : Nat := 103897181776207299028291242176612534727042843898627486090979967820701081876271653506184495532557447582581746178858
theorem wX9_summons_c : hz_cd cX9_summons wNX9_summons 47 := ⟨by decide +kernel, by decide +kernel⟩
theorem dX9_summons_0 : decode cX9_summons 0 = .ok (.aload_n 0, 1) := dw_42 wX9_summons_c rfl
theorem dX9_summons_1 : decode cX9_summons 1 = .ok (.iload_n 1, 1) := dw_27 wX9_summons_c rfl
theorem dX9_summons_2 : decode cX9_summons 2 = .ok (.invokevirtual 200, 3) := dw_182 wX9_summons_c 0 200 rfl rfl
theorem dX9_summons_5 : decode cX9_summons 5 = .ok (.astore_n 3, 1) := dw_78 wX9_summons_c rfl
theorem dX9_summons_6 : decode cX9_summons 6 = .ok (.aload_n 3, 1) := dw_45 wX9_summons_c rfl
theorem dX9_summons_7 : decode cX9_summons 7 = .ok (.ifnull 11, 3) := dw_198 wX9_summons_c 0 11 rfl rfl rfl
theorem dX9_summons_10 : decode cX9_summons 10 = .ok (.aload_n 3, 1) := dw_45 wX9_summons_c rfl
theorem dX9_summons_11 : decode cX9_summons 11 = .ok (.getfield 204, 3) := dw_180 wX9_summons_c 0 204 rfl rfl
theorem dX9_summons_14 : decode cX9_summons 14 = .ok (.iconst (-1), 1) := dw_2 wX9_summons_c rfl
theorem dX9_summons_15 : decode cX9_summons 15 = .ok (.if_icmp .eq 5, 3) := dw_159 wX9_summons_c 0 5 rfl rfl rfl
theorem dX9_summons_18 : decode cX9_summons 18 = .ok (.iconst (-1), 1) := dw_2 wX9_summons_c rfl
theorem dX9_summons_19 : decode cX9_summons 19 = .ok (.ireturn, 1) := dw_172 wX9_summons_c rfl
theorem dX9_summons_20 : decode cX9_summons 20 = .ok (.aload_n 3, 1) := dw_45 wX9_summons_c rfl
theorem dX9_summons_21 : decode cX9_summons 21 = .ok (.dup, 1) := dw_89 wX9_summons_c rfl
theorem dX9_summons_22 : decode cX9_summons 22 = .ok (.getfield 207, 3) := dw_180 wX9_summons_c 0 207 rfl rfl
theorem dX9_summons_25 : decode cX9_summons 25 = .ok (.iconst 1, 1) := dw_4 wX9_summons_c rfl
theorem dX9_summons_26 : decode cX9_summons 26 = .ok (.iadd, 1) := dw_96 wX9_summons_c rfl
theorem dX9_summons_27 : decode cX9_summons 27 = .ok (.putfield 207, 3) := dw_181 wX9_summons_c 0 207 rfl rfl
theorem dX9_summons_30 : decode cX9_summons 30 = .ok (.iload_n 2, 1) := dw_28 wX9_summons_c rfl
theorem dX9_summons_31 : decode cX9_summons 31 = .ok (.ifCond .eq 11, 3) := dw_153 wX9_summons_c 0 11 rfl rfl rfl
theorem dX9_summons_34 : decode cX9_summons 34 = .ok (.aload_n 3, 1) := dw_45 wX9_summons_c rfl
theorem dX9_summons_35 : decode cX9_summons 35 = .ok (.aload_n 0, 1) := dw_42 wX9_summons_c rfl
theorem dX9_summons_36 : decode cX9_summons 36 = .ok (.getfield 94, 3) := dw_180 wX9_summons_c 0 94 rfl rfl
theorem dX9_summons_39 : decode cX9_summons 39 = .ok (.putfield 204, 3) := dw_181 wX9_summons_c 0 204 rfl rfl
theorem dX9_summons_42 : decode cX9_summons 42 = .ok (.aload_n 3, 1) := dw_45 wX9_summons_c rfl
theorem dX9_summons_43 : decode cX9_summons 43 = .ok (.getfield 207, 3) := dw_180 wX9_summons_c 0 207 rfl rfl
theorem dX9_summons_46 : decode cX9_summons 46 = .ok (.ireturn, 1) := dw_172 wX9_summons_c rfl
end
section
def wNX9_pay : Nat := 221015074458077351955423105153576140195297678663175132375943610428804006371182526411366350212350856996678902963476384322486306989907427811274829630847762581084635045868653131753415040455414573129847887212452650
theorem wX9_pay_c : hz_cd cX9_pay wNX9_pay 87 := ⟨by decide +kernel, by decide +kernel⟩
theorem dX9_pay_0 : decode cX9_pay 0 = .ok (.aload_n 0, 1) := dw_42 wX9_pay_c rfl
theorem dX9_pay_1 : decode cX9_pay 1 = .ok (.iload_n 1, 1) := dw_27 wX9_pay_c rfl
theorem dX9_pay_2 : decode cX9_pay 2 = .ok (.invokevirtual 200, 3) := dw_182 wX9_pay_c 0 200 rfl rfl
theorem dX9_pay_5 : decode cX9_pay 5 = .ok (.astore 4, 2) := dw_58 wX9_pay_c 4 rfl
theorem dX9_pay_7 : decode cX9_pay 7 = .ok (.aload_n 0, 1) := dw_42 wX9_pay_c rfl
theorem dX9_pay_8 : decode cX9_pay 8 = .ok (.getfield 58, 3) := dw_180 wX9_pay_c 0 58 rfl rfl
theorem dX9_pay_11 : decode cX9_pay 11 = .ok (.getfield 278, 3) := dw_180 wX9_pay_c 1 22 rfl rfl
theorem dX9_pay_14 : decode cX9_pay 14 = .ok (.sipush 600, 3) := dw_17 wX9_pay_c 2 88 rfl rfl rfl
theorem dX9_pay_17 : decode cX9_pay 17 = .ok (.if_icmp .ge 53, 3) := dw_162 wX9_pay_c 0 53 rfl rfl rfl
theorem dX9_pay_20 : decode cX9_pay 20 = .ok (.aload 4, 2) := dw_25 wX9_pay_c 4 rfl
theorem dX9_pay_22 : decode cX9_pay 22 = .ok (.ifnull 48, 3) := dw_198 wX9_pay_c 0 48 rfl rfl rfl
theorem dX9_pay_25 : decode cX9_pay 25 = .ok (.aload 4, 2) := dw_25 wX9_pay_c 4 rfl
theorem dX9_pay_27 : decode cX9_pay 27 = .ok (.getfield 253, 3) := dw_180 wX9_pay_c 0 253 rfl rfl
theorem dX9_pay_30 : decode cX9_pay 30 = .ok (.iconst (-1), 1) := dw_2 wX9_pay_c rfl
theorem dX9_pay_31 : decode cX9_pay 31 = .ok (.if_icmp .eq 39, 3) := dw_159 wX9_pay_c 0 39 rfl rfl rfl
theorem dX9_pay_34 : decode cX9_pay 34 = .ok (.aload 4, 2) := dw_25 wX9_pay_c 4 rfl
theorem dX9_pay_36 : decode cX9_pay 36 = .ok (.getfield 279, 3) := dw_180 wX9_pay_c 1 23 rfl rfl
theorem dX9_pay_39 : decode cX9_pay 39 = .ok (.iconst (-1), 1) := dw_2 wX9_pay_c rfl
theorem dX9_pay_40 : decode cX9_pay 40 = .ok (.if_icmp .ne 30, 3) := dw_160 wX9_pay_c 0 30 rfl rfl rfl
theorem dX9_pay_43 : decode cX9_pay 43 = .ok (.iload_n 2, 1) := dw_28 wX9_pay_c rfl
theorem dX9_pay_44 : decode cX9_pay 44 = .ok (.aload 4, 2) := dw_25 wX9_pay_c 4 rfl
theorem dX9_pay_46 : decode cX9_pay 46 = .ok (.getfield 253, 3) := dw_180 wX9_pay_c 0 253 rfl rfl
theorem dX9_pay_49 : decode cX9_pay 49 = .ok (.aload_n 0, 1) := dw_42 wX9_pay_c rfl
theorem dX9_pay_50 : decode cX9_pay 50 = .ok (.getfield 94, 3) := dw_180 wX9_pay_c 0 94 rfl rfl
theorem dX9_pay_53 : decode cX9_pay 53 = .ok (.invokestatic 128, 3) := dw_184 wX9_pay_c 0 128 rfl rfl
theorem dX9_pay_56 : decode cX9_pay 56 = .ok (.ifCond .eq 14, 3) := dw_153 wX9_pay_c 0 14 rfl rfl rfl
theorem dX9_pay_59 : decode cX9_pay 59 = .ok (.iload_n 3, 1) := dw_29 wX9_pay_c rfl
theorem dX9_pay_60 : decode cX9_pay 60 = .ok (.iconst 1, 1) := dw_4 wX9_pay_c rfl
theorem dX9_pay_61 : decode cX9_pay 61 = .ok (.sipush 9999, 3) := dw_17 wX9_pay_c 39 15 rfl rfl rfl
theorem dX9_pay_64 : decode cX9_pay 64 = .ok (.invokestatic 128, 3) := dw_184 wX9_pay_c 0 128 rfl rfl
theorem dX9_pay_67 : decode cX9_pay 67 = .ok (.ifCond .ne 5, 3) := dw_154 wX9_pay_c 0 5 rfl rfl rfl
theorem dX9_pay_70 : decode cX9_pay 70 = .ok (.iconst (-1), 1) := dw_2 wX9_pay_c rfl
theorem dX9_pay_71 : decode cX9_pay 71 = .ok (.ireturn, 1) := dw_172 wX9_pay_c rfl
theorem dX9_pay_72 : decode cX9_pay 72 = .ok (.aload_n 0, 1) := dw_42 wX9_pay_c rfl
theorem dX9_pay_73 : decode cX9_pay 73 = .ok (.getfield 58, 3) := dw_180 wX9_pay_c 0 58 rfl rfl
theorem dX9_pay_76 : decode cX9_pay 76 = .ok (.iload_n 1, 1) := dw_27 wX9_pay_c rfl
theorem dX9_pay_77 : decode cX9_pay 77 = .ok (.iload_n 2, 1) := dw_28 wX9_pay_c rfl
theorem dX9_pay_78 : decode cX9_pay 78 = .ok (.aload_n 0, 1) := dw_42 wX9_pay_c rfl
theorem dX9_pay_79 : decode cX9_pay 79 = .ok (.getfield 94, 3) := dw_180 wX9_pay_c 0 94 rfl rfl
theorem dX9_pay_82 : decode cX9_pay 82 = .ok (.iload_n 3, 1) := dw_29 wX9_pay_c rfl
theorem dX9_pay_83 : decode cX9_pay 83 = .ok (.invokevirtual 282, 3) := dw_182 wX9_pay_c 1 26 rfl rfl
theorem dX9_pay_86 : decode cX9_pay 86 = .ok (.ireturn, 1) := dw_172 wX9_pay_c rfl
def wNX9_strike : Nat := 1578081501606228352992019506559247186182876719656403862916416756981281305983631627586566142119003998371486491
theorem wX9_strike_c : hz_cd cX9_strike wNX9_strike 45 := ⟨by decide +kernel, by decide +kernel⟩
theorem dX9_strike_0 : decode cX9_strike 0 = .ok (.iload_n 1, 1) := dw_27 wX9_strike_c rfl
theorem dX9_strike_1 : decode cX9_strike 1 = .ok (.ifCond .lt 27, 3) := dw_155 wX9_strike_c 0 27 rfl rfl rfl
theorem dX9_strike_4 : decode cX9_strike 4 = .ok (.iload_n 1, 1) := dw_27 wX9_strike_c rfl
theorem dX9_strike_5 : decode cX9_strike 5 = .ok (.aload_n 0, 1) := dw_42 wX9_strike_c rfl
theorem dX9_strike_6 : decode cX9_strike 6 = .ok (.getfield 58, 3) := dw_180 wX9_strike_c 0 58 rfl rfl
theorem dX9_strike_9 : decode cX9_strike 9 = .ok (.getfield 278, 3) := dw_180 wX9_strike_c 1 22 rfl rfl
theorem dX9_strike_12 : decode cX9_strike 12 = .ok (.if_icmp .ge 16, 3) := dw_162 wX9_strike_c 0 16 rfl rfl rfl
theorem dX9_strike_15 : decode cX9_strike 15 = .ok (.aload_n 0, 1) := dw_42 wX9_strike_c rfl
theorem dX9_strike_16 : decode cX9_strike 16 = .ok (.getfield 58, 3) := dw_180 wX9_strike_c 0 58 rfl rfl
theorem dX9_strike_19 : decode cX9_strike 19 = .ok (.getfield 286, 3) := dw_180 wX9_strike_c 1 30 rfl rfl
theorem dX9_strike_22 : decode cX9_strike 22 = .ok (.iload_n 1, 1) := dw_27 wX9_strike_c rfl
theorem dX9_strike_23 : decode cX9_strike 23 = .ok (.iaload, 1) := dw_46 wX9_strike_c rfl
theorem dX9_strike_24 : decode cX9_strike 24 = .ok (.iconst (-1), 1) := dw_2 wX9_strike_c rfl
theorem dX9_strike_25 : decode cX9_strike 25 = .ok (.if_icmp .eq 5, 3) := dw_159 wX9_strike_c 0 5 rfl rfl rfl
theorem dX9_strike_28 : decode cX9_strike 28 = .ok (.iconst 0, 1) := dw_3 wX9_strike_c rfl
theorem dX9_strike_29 : decode cX9_strike 29 = .ok (.ireturn, 1) := dw_172 wX9_strike_c rfl
theorem dX9_strike_30 : decode cX9_strike 30 = .ok (.aload_n 0, 1) := dw_42 wX9_strike_c rfl
theorem dX9_strike_31 : decode cX9_strike 31 = .ok (.getfield 58, 3) := dw_180 wX9_strike_c 0 58 rfl rfl
theorem dX9_strike_34 : decode cX9_strike 34 = .ok (.getfield 286, 3) := dw_180 wX9_strike_c 1 30 rfl rfl
theorem dX9_strike_37 : decode cX9_strike 37 = .ok (.iload_n 1, 1) := dw_27 wX9_strike_c rfl
theorem dX9_strike_38 : decode cX9_strike 38 = .ok (.aload_n 0, 1) := dw_42 wX9_strike_c rfl
theorem dX9_strike_39 : decode cX9_strike 39 = .ok (.getfield 94, 3) := dw_180 wX9_strike_c 0 94 rfl rfl
theorem dX9_strike_42 : decode cX9_strike 42 = .ok (.iastore, 1) := dw_79 wX9_strike_c rfl
theorem dX9_strike_43 : decode cX9_strike 43 = .ok (.iconst 1, 1) := dw_4 wX9_strike_c rfl
theorem dX9_strike_44 : decode cX9_strike 44 = .ok (.ireturn, 1) := dw_172 wX9_strike_c rfl
def wNX9_order : Nat := 2228250752831920282519136570509294518629586107132122016931425887575811949915138675367670739190247730282883092649967865890310107607817769327958627513247989407019547353937696436776726118526107298236900210329935084764039906473882096897400783099351047050792599970055745559594776714574090329265203658105340812676723238298595358022442
theorem wX9_order_c : hz_cd cX9_order wNX9_order 136 := ⟨by decide +kernel, by decide +kernel⟩
theorem dX9_order_0 : decode cX9_order 0 = .ok (.aload_n 0, 1) := dw_42 wX9_order_c rfl
theorem dX9_order_1 : decode cX9_order 1 = .ok (.iload_n 1, 1) := dw_27 wX9_order_c rfl
theorem dX9_order_2 : decode cX9_order 2 = .ok (.invokevirtual 200, 3) := dw_182 wX9_order_c 0 200 rfl rfl
theorem dX9_order_5 : decode cX9_order 5 = .ok (.astore_n 3, 1) := dw_78 wX9_order_c rfl
theorem dX9_order_6 : decode cX9_order 6 = .ok (.aload_n 3, 1) := dw_45 wX9_order_c rfl
theorem dX9_order_7 : decode cX9_order 7 = .ok (.ifnull 40, 3) := dw_198 wX9_order_c 0 40 rfl rfl rfl
theorem dX9_order_10 : decode cX9_order 10 = .ok (.aload_n 3, 1) := dw_45 wX9_order_c rfl
theorem dX9_order_11 : decode cX9_order 11 = .ok (.getfield 233, 3) := dw_180 wX9_order_c 0 233 rfl rfl
theorem dX9_order_14 : decode cX9_order 14 = .ok (.iconst 5, 1) := dw_8 wX9_order_c rfl
theorem dX9_order_15 : decode cX9_order 15 = .ok (.if_icmp .ne 32, 3) := dw_160 wX9_order_c 0 32 rfl rfl rfl
theorem dX9_order_18 : decode cX9_order 18 = .ok (.aload_n 3, 1) := dw_45 wX9_order_c rfl
theorem dX9_order_19 : decode cX9_order 19 = .ok (.getfield 253, 3) := dw_180 wX9_order_c 0 253 rfl rfl
theorem dX9_order_22 : decode cX9_order 22 = .ok (.iconst (-1), 1) := dw_2 wX9_order_c rfl
theorem dX9_order_23 : decode cX9_order 23 = .ok (.if_icmp .ne 24, 3) := dw_160 wX9_order_c 0 24 rfl rfl rfl
theorem dX9_order_26 : decode cX9_order 26 = .ok (.aload_n 3, 1) := dw_45 wX9_order_c rfl
theorem dX9_order_27 : decode cX9_order 27 = .ok (.getfield 212, 3) := dw_180 wX9_order_c 0 212 rfl rfl
theorem dX9_order_30 : decode cX9_order 30 = .ok (.getfield 148, 3) := dw_180 wX9_order_c 0 148 rfl rfl
theorem dX9_order_33 : decode cX9_order 33 = .ok (.ifCond .ne 14, 3) := dw_154 wX9_order_c 0 14 rfl rfl rfl
theorem dX9_order_36 : decode cX9_order 36 = .ok (.iload_n 2, 1) := dw_28 wX9_order_c rfl
theorem dX9_order_37 : decode cX9_order 37 = .ok (.iconst 1, 1) := dw_4 wX9_order_c rfl
theorem dX9_order_38 : decode cX9_order 38 = .ok (.sipush 9999, 3) := dw_17 wX9_order_c 39 15 rfl rfl rfl
theorem dX9_order_41 : decode cX9_order 41 = .ok (.invokestatic 128, 3) := dw_184 wX9_order_c 0 128 rfl rfl
theorem dX9_order_44 : decode cX9_order 44 = .ok (.ifCond .ne 5, 3) := dw_154 wX9_order_c 0 5 rfl rfl rfl
theorem dX9_order_47 : decode cX9_order 47 = .ok (.iconst (-1), 1) := dw_2 wX9_order_c rfl
theorem dX9_order_48 : decode cX9_order 48 = .ok (.ireturn, 1) := dw_172 wX9_order_c rfl
theorem dX9_order_49 : decode cX9_order 49 = .ok (.aload_n 3, 1) := dw_45 wX9_order_c rfl
theorem dX9_order_50 : decode cX9_order 50 = .ok (.getfield 187, 3) := dw_180 wX9_order_c 0 187 rfl rfl
theorem dX9_order_53 : decode cX9_order 53 = .ok (.aload_n 3, 1) := dw_45 wX9_order_c rfl
theorem dX9_order_54 : decode cX9_order 54 = .ok (.aload_n 3, 1) := dw_45 wX9_order_c rfl
theorem dX9_order_55 : decode cX9_order 55 = .ok (.getfield 226, 3) := dw_180 wX9_order_c 0 226 rfl rfl
theorem dX9_order_58 : decode cX9_order 58 = .ok (.iconst 1, 1) := dw_4 wX9_order_c rfl
theorem dX9_order_59 : decode cX9_order 59 = .ok (.invokevirtual 256, 3) := dw_182 wX9_order_c 1 0 rfl rfl
theorem dX9_order_62 : decode cX9_order 62 = .ok (.iadd, 1) := dw_96 wX9_order_c rfl
theorem dX9_order_63 : decode cX9_order 63 = .ok (.istore 4, 2) := dw_54 wX9_order_c 4 rfl
theorem dX9_order_65 : decode cX9_order 65 = .ok (.iload_n 2, 1) := dw_28 wX9_order_c rfl
theorem dX9_order_66 : decode cX9_order 66 = .ok (.aload_n 3, 1) := dw_45 wX9_order_c rfl
theorem dX9_order_67 : decode cX9_order 67 = .ok (.getfield 226, 3) := dw_180 wX9_order_c 0 226 rfl rfl
theorem dX9_order_70 : decode cX9_order 70 = .ok (.getfield 119, 3) := dw_180 wX9_order_c 0 119 rfl rfl
theorem dX9_order_73 : decode cX9_order 73 = .ok (.iconst 3, 1) := dw_6 wX9_order_c rfl
theorem dX9_order_74 : decode cX9_order 74 = .ok (.iaload, 1) := dw_46 wX9_order_c rfl
theorem dX9_order_75 : decode cX9_order 75 = .ok (.if_icmp .ge 12, 3) := dw_162 wX9_order_c 0 12 rfl rfl rfl
theorem dX9_order_78 : decode cX9_order 78 = .ok (.iload_n 2, 1) := dw_28 wX9_order_c rfl
theorem dX9_order_79 : decode cX9_order 79 = .ok (.iload 4, 2) := dw_21 wX9_order_c 4 rfl
theorem dX9_order_81 : decode cX9_order 81 = .ok (.if_icmp .ge 6, 3) := dw_162 wX9_order_c 0 6 rfl rfl rfl
theorem dX9_order_84 : decode cX9_order 84 = .ok (.bipush (-2), 2) := dn_16 wX9_order_c 254 rfl (by decide)
theorem dX9_order_86 : decode cX9_order 86 = .ok (.ireturn, 1) := dw_172 wX9_order_c rfl
theorem dX9_order_87 : decode cX9_order 87 = .ok (.iload_n 2, 1) := dw_28 wX9_order_c rfl
theorem dX9_order_88 : decode cX9_order 88 = .ok (.aload_n 0, 1) := dw_42 wX9_order_c rfl
theorem dX9_order_89 : decode cX9_order 89 = .ok (.aload_n 3, 1) := dw_45 wX9_order_c rfl
theorem dX9_order_90 : decode cX9_order 90 = .ok (.getfield 212, 3) := dw_180 wX9_order_c 0 212 rfl rfl
theorem dX9_order_93 : decode cX9_order 93 = .ok (.invokevirtual 260, 3) := dw_182 wX9_order_c 1 4 rfl rfl
theorem dX9_order_96 : decode cX9_order 96 = .ok (.iadd, 1) := dw_96 wX9_order_c rfl
theorem dX9_order_97 : decode cX9_order 97 = .ok (.aload_n 3, 1) := dw_45 wX9_order_c rfl
theorem dX9_order_98 : decode cX9_order 98 = .ok (.getfield 212, 3) := dw_180 wX9_order_c 0 212 rfl rfl
theorem dX9_order_101 : decode cX9_order 101 = .ok (.aload_n 3, 1) := dw_45 wX9_order_c rfl
theorem dX9_order_102 : decode cX9_order 102 = .ok (.getfield 226, 3) := dw_180 wX9_order_c 0 226 rfl rfl
theorem dX9_order_105 : decode cX9_order 105 = .ok (.invokevirtual 264, 3) := dw_182 wX9_order_c 1 8 rfl rfl
theorem dX9_order_108 : decode cX9_order 108 = .ok (.if_icmp .le 6, 3) := dw_164 wX9_order_c 0 6 rfl rfl rfl
theorem dX9_order_111 : decode cX9_order 111 = .ok (.bipush (-3), 2) := dn_16 wX9_order_c 253 rfl (by decide)
theorem dX9_order_113 : decode cX9_order 113 = .ok (.ireturn, 1) := dw_172 wX9_order_c rfl
theorem dX9_order_114 : decode cX9_order 114 = .ok (.aload_n 3, 1) := dw_45 wX9_order_c rfl
theorem dX9_order_115 : decode cX9_order 115 = .ok (.iload 4, 2) := dw_21 wX9_order_c 4 rfl
theorem dX9_order_117 : decode cX9_order 117 = .ok (.putfield 268, 3) := dw_181 wX9_order_c 1 12 rfl rfl
theorem dX9_order_120 : decode cX9_order 120 = .ok (.aload_n 3, 1) := dw_45 wX9_order_c rfl
theorem dX9_order_121 : decode cX9_order 121 = .ok (.iload_n 2, 1) := dw_28 wX9_order_c rfl
theorem dX9_order_122 : decode cX9_order 122 = .ok (.putfield 271, 3) := dw_181 wX9_order_c 1 15 rfl rfl
theorem dX9_order_125 : decode cX9_order 125 = .ok (.aload_n 3, 1) := dw_45 wX9_order_c rfl
theorem dX9_order_126 : decode cX9_order 126 = .ok (.aload_n 0, 1) := dw_42 wX9_order_c rfl
theorem dX9_order_127 : decode cX9_order 127 = .ok (.getfield 94, 3) := dw_180 wX9_order_c 0 94 rfl rfl
theorem dX9_order_130 : decode cX9_order 130 = .ok (.putfield 253, 3) := dw_181 wX9_order_c 0 253 rfl rfl
theorem dX9_order_133 : decode cX9_order 133 = .ok (.iload 4, 2) := dw_21 wX9_order_c 4 rfl
theorem dX9_order_135 : decode cX9_order 135 = .ok (.ireturn, 1) := dw_172 wX9_order_c rfl
def wNX9_seize : Nat := 1044116902204493585826033419369880603690922746030173007172863239096456529604832489583788241181826974605779378546603067380731759761712965829124809412566988384955784305275663581948438926405624071489531277418782641849556176882630007594
theorem wX9_seize_c : hz_cd cX9_seize wNX9_seize 96 := ⟨by decide +kernel, by decide +kernel⟩
theorem dX9_seize_0 : decode cX9_seize 0 = .ok (.aload_n 0, 1) := dw_42 wX9_seize_c rfl
theorem dX9_seize_1 : decode cX9_seize 1 = .ok (.iload_n 1, 1) := dw_27 wX9_seize_c rfl
theorem dX9_seize_2 : decode cX9_seize 2 = .ok (.invokevirtual 200, 3) := dw_182 wX9_seize_c 0 200 rfl rfl
theorem dX9_seize_5 : decode cX9_seize 5 = .ok (.astore_n 3, 1) := dw_78 wX9_seize_c rfl
theorem dX9_seize_6 : decode cX9_seize 6 = .ok (.aload_n 3, 1) := dw_45 wX9_seize_c rfl
theorem dX9_seize_7 : decode cX9_seize 7 = .ok (.ifnull 22, 3) := dw_198 wX9_seize_c 0 22 rfl rfl rfl
theorem dX9_seize_10 : decode cX9_seize 10 = .ok (.aload_n 3, 1) := dw_45 wX9_seize_c rfl
theorem dX9_seize_11 : decode cX9_seize 11 = .ok (.getfield 289, 3) := dw_180 wX9_seize_c 1 33 rfl rfl
theorem dX9_seize_14 : decode cX9_seize 14 = .ok (.iconst (-1), 1) := dw_2 wX9_seize_c rfl
theorem dX9_seize_15 : decode cX9_seize 15 = .ok (.if_icmp .ne 14, 3) := dw_160 wX9_seize_c 0 14 rfl rfl rfl
theorem dX9_seize_18 : decode cX9_seize 18 = .ok (.iload_n 2, 1) := dw_28 wX9_seize_c rfl
theorem dX9_seize_19 : decode cX9_seize 19 = .ok (.iconst 1, 1) := dw_4 wX9_seize_c rfl
theorem dX9_seize_20 : decode cX9_seize 20 = .ok (.sipush 9999, 3) := dw_17 wX9_seize_c 39 15 rfl rfl rfl
theorem dX9_seize_23 : decode cX9_seize 23 = .ok (.invokestatic 128, 3) := dw_184 wX9_seize_c 0 128 rfl rfl
theorem dX9_seize_26 : decode cX9_seize 26 = .ok (.ifCond .ne 6, 3) := dw_154 wX9_seize_c 0 6 rfl rfl rfl
theorem dX9_seize_29 : decode cX9_seize 29 = .ok (.ldc 169, 2) := dw_18 wX9_seize_c 169 rfl
theorem dX9_seize_31 : decode cX9_seize 31 = .ok (.ireturn, 1) := dw_172 wX9_seize_c rfl
theorem dX9_seize_32 : decode cX9_seize 32 = .ok (.aload_n 3, 1) := dw_45 wX9_seize_c rfl
theorem dX9_seize_33 : decode cX9_seize 33 = .ok (.aload_n 0, 1) := dw_42 wX9_seize_c rfl
theorem dX9_seize_34 : decode cX9_seize 34 = .ok (.getfield 58, 3) := dw_180 wX9_seize_c 0 58 rfl rfl
theorem dX9_seize_37 : decode cX9_seize 37 = .ok (.aload_n 0, 1) := dw_42 wX9_seize_c rfl
theorem dX9_seize_38 : decode cX9_seize 38 = .ok (.getfield 94, 3) := dw_180 wX9_seize_c 0 94 rfl rfl
theorem dX9_seize_41 : decode cX9_seize 41 = .ok (.aload_n 0, 1) := dw_42 wX9_seize_c rfl
theorem dX9_seize_42 : decode cX9_seize 42 = .ok (.getfield 94, 3) := dw_180 wX9_seize_c 0 94 rfl rfl
theorem dX9_seize_45 : decode cX9_seize 45 = .ok (.invokevirtual 292, 3) := dw_182 wX9_seize_c 1 36 rfl rfl
theorem dX9_seize_48 : decode cX9_seize 48 = .ok (.istore 4, 2) := dw_54 wX9_seize_c 4 rfl
theorem dX9_seize_50 : decode cX9_seize 50 = .ok (.iload 4, 2) := dw_21 wX9_seize_c 4 rfl
theorem dX9_seize_52 : decode cX9_seize 52 = .ok (.iconst 5, 1) := dw_8 wX9_seize_c rfl
theorem dX9_seize_53 : decode cX9_seize 53 = .ok (.if_icmp .eq 13, 3) := dw_159 wX9_seize_c 0 13 rfl rfl rfl
theorem dX9_seize_56 : decode cX9_seize 56 = .ok (.iload 4, 2) := dw_21 wX9_seize_c 4 rfl
theorem dX9_seize_58 : decode cX9_seize 58 = .ok (.bipush 6, 2) := dw_16 wX9_seize_c 6 rfl rfl rfl
theorem dX9_seize_60 : decode cX9_seize 60 = .ok (.if_icmp .eq 6, 3) := dw_159 wX9_seize_c 0 6 rfl rfl rfl
theorem dX9_seize_63 : decode cX9_seize 63 = .ok (.ldc 169, 2) := dw_18 wX9_seize_c 169 rfl
theorem dX9_seize_65 : decode cX9_seize 65 = .ok (.ireturn, 1) := dw_172 wX9_seize_c rfl
theorem dX9_seize_66 : decode cX9_seize 66 = .ok (.aload_n 3, 1) := dw_45 wX9_seize_c rfl
theorem dX9_seize_67 : decode cX9_seize 67 = .ok (.aload_n 0, 1) := dw_42 wX9_seize_c rfl
theorem dX9_seize_68 : decode cX9_seize 68 = .ok (.getfield 94, 3) := dw_180 wX9_seize_c 0 94 rfl rfl
theorem dX9_seize_71 : decode cX9_seize 71 = .ok (.putfield 289, 3) := dw_181 wX9_seize_c 1 33 rfl rfl
theorem dX9_seize_74 : decode cX9_seize 74 = .ok (.aload_n 3, 1) := dw_45 wX9_seize_c rfl
theorem dX9_seize_75 : decode cX9_seize 75 = .ok (.iload_n 2, 1) := dw_28 wX9_seize_c rfl
theorem dX9_seize_76 : decode cX9_seize 76 = .ok (.putfield 296, 3) := dw_181 wX9_seize_c 1 40 rfl rfl
theorem dX9_seize_79 : decode cX9_seize 79 = .ok (.aload_n 3, 1) := dw_45 wX9_seize_c rfl
theorem dX9_seize_80 : decode cX9_seize 80 = .ok (.aload_n 0, 1) := dw_42 wX9_seize_c rfl
theorem dX9_seize_81 : decode cX9_seize 81 = .ok (.getfield 58, 3) := dw_180 wX9_seize_c 0 58 rfl rfl
theorem dX9_seize_84 : decode cX9_seize 84 = .ok (.aload_n 0, 1) := dw_42 wX9_seize_c rfl
theorem dX9_seize_85 : decode cX9_seize 85 = .ok (.getfield 94, 3) := dw_180 wX9_seize_c 0 94 rfl rfl
theorem dX9_seize_88 : decode cX9_seize 88 = .ok (.aload_n 0, 1) := dw_42 wX9_seize_c rfl
theorem dX9_seize_89 : decode cX9_seize 89 = .ok (.getfield 94, 3) := dw_180 wX9_seize_c 0 94 rfl rfl
theorem dX9_seize_92 : decode cX9_seize 92 = .ok (.invokevirtual 299, 3) := dw_182 wX9_seize_c 1 43 rfl rfl
theorem dX9_seize_95 : decode cX9_seize 95 = .ok (.ireturn, 1) := dw_172 wX9_seize_c rfl
def wNX9_gaol : Nat := 323211845530199623640834943988842239039000786840324558631385644882929706000158590417178343297701552501672969408552089183274968884660428621815655337938200798909579516651573763157910079997156761489053971158209009349232077847131441819532233768127068321833425706
theorem wX9_gaol_c : hz_cd cX9_gaol wNX9_gaol 107 := ⟨by decide +kernel, by decide +kernel⟩
theorem dX9_gaol_0 : decode cX9_gaol 0 = .ok (.aload_n 0, 1) := dw_42 wX9_gaol_c rfl
theorem dX9_gaol_1 : decode cX9_gaol 1 = .ok (.iload_n 1, 1) := dw_27 wX9_gaol_c rfl
theorem dX9_gaol_2 : decode cX9_gaol 2 = .ok (.invokevirtual 200, 3) := dw_182 wX9_gaol_c 0 200 rfl rfl
theorem dX9_gaol_5 : decode cX9_gaol 5 = .ok (.astore_n 2, 1) := dw_77 wX9_gaol_c rfl
theorem dX9_gaol_6 : decode cX9_gaol 6 = .ok (.aload_n 2, 1) := dw_44 wX9_gaol_c rfl
theorem dX9_gaol_7 : decode cX9_gaol 7 = .ok (.ifnull 42, 3) := dw_198 wX9_gaol_c 0 42 rfl rfl rfl
theorem dX9_gaol_10 : decode cX9_gaol 10 = .ok (.aload_n 2, 1) := dw_44 wX9_gaol_c rfl
theorem dX9_gaol_11 : decode cX9_gaol 11 = .ok (.getfield 289, 3) := dw_180 wX9_gaol_c 1 33 rfl rfl
theorem dX9_gaol_14 : decode cX9_gaol 14 = .ok (.iconst (-1), 1) := dw_2 wX9_gaol_c rfl
theorem dX9_gaol_15 : decode cX9_gaol 15 = .ok (.if_icmp .eq 34, 3) := dw_159 wX9_gaol_c 0 34 rfl rfl rfl
theorem dX9_gaol_18 : decode cX9_gaol 18 = .ok (.aload_n 2, 1) := dw_44 wX9_gaol_c rfl
theorem dX9_gaol_19 : decode cX9_gaol 19 = .ok (.getfield 212, 3) := dw_180 wX9_gaol_c 0 212 rfl rfl
theorem dX9_gaol_22 : decode cX9_gaol 22 = .ok (.getfield 148, 3) := dw_180 wX9_gaol_c 0 148 rfl rfl
theorem dX9_gaol_25 : decode cX9_gaol 25 = .ok (.ifCond .ne 24, 3) := dw_154 wX9_gaol_c 0 24 rfl rfl rfl
theorem dX9_gaol_28 : decode cX9_gaol 28 = .ok (.aload_n 2, 1) := dw_44 wX9_gaol_c rfl
theorem dX9_gaol_29 : decode cX9_gaol 29 = .ok (.aload_n 0, 1) := dw_42 wX9_gaol_c rfl
theorem dX9_gaol_30 : decode cX9_gaol 30 = .ok (.getfield 58, 3) := dw_180 wX9_gaol_c 0 58 rfl rfl
theorem dX9_gaol_33 : decode cX9_gaol 33 = .ok (.aload_n 0, 1) := dw_42 wX9_gaol_c rfl
theorem dX9_gaol_34 : decode cX9_gaol 34 = .ok (.getfield 94, 3) := dw_180 wX9_gaol_c 0 94 rfl rfl
theorem dX9_gaol_37 : decode cX9_gaol 37 = .ok (.aload_n 0, 1) := dw_42 wX9_gaol_c rfl
theorem dX9_gaol_38 : decode cX9_gaol 38 = .ok (.getfield 94, 3) := dw_180 wX9_gaol_c 0 94 rfl rfl
theorem dX9_gaol_41 : decode cX9_gaol 41 = .ok (.invokevirtual 292, 3) := dw_182 wX9_gaol_c 1 36 rfl rfl
theorem dX9_gaol_44 : decode cX9_gaol 44 = .ok (.bipush 6, 2) := dw_16 wX9_gaol_c 6 rfl rfl rfl
theorem dX9_gaol_46 : decode cX9_gaol 46 = .ok (.if_icmp .eq 5, 3) := dw_159 wX9_gaol_c 0 5 rfl rfl rfl
theorem dX9_gaol_49 : decode cX9_gaol 49 = .ok (.iconst (-1), 1) := dw_2 wX9_gaol_c rfl
theorem dX9_gaol_50 : decode cX9_gaol 50 = .ok (.ireturn, 1) := dw_172 wX9_gaol_c rfl
theorem dX9_gaol_51 : decode cX9_gaol 51 = .ok (.aload_n 2, 1) := dw_44 wX9_gaol_c rfl
theorem dX9_gaol_52 : decode cX9_gaol 52 = .ok (.aload_n 0, 1) := dw_42 wX9_gaol_c rfl
theorem dX9_gaol_53 : decode cX9_gaol 53 = .ok (.getfield 58, 3) := dw_180 wX9_gaol_c 0 58 rfl rfl
theorem dX9_gaol_56 : decode cX9_gaol 56 = .ok (.aload_n 0, 1) := dw_42 wX9_gaol_c rfl
theorem dX9_gaol_57 : decode cX9_gaol 57 = .ok (.getfield 94, 3) := dw_180 wX9_gaol_c 0 94 rfl rfl
theorem dX9_gaol_60 : decode cX9_gaol 60 = .ok (.aload_n 0, 1) := dw_42 wX9_gaol_c rfl
theorem dX9_gaol_61 : decode cX9_gaol 61 = .ok (.getfield 94, 3) := dw_180 wX9_gaol_c 0 94 rfl rfl
theorem dX9_gaol_64 : decode cX9_gaol 64 = .ok (.invokevirtual 302, 3) := dw_182 wX9_gaol_c 1 46 rfl rfl
theorem dX9_gaol_67 : decode cX9_gaol 67 = .ok (.bipush 12, 2) := dw_16 wX9_gaol_c 12 rfl rfl rfl
theorem dX9_gaol_69 : decode cX9_gaol 69 = .ok (.invokestatic 305, 3) := dw_184 wX9_gaol_c 1 49 rfl rfl
theorem dX9_gaol_72 : decode cX9_gaol 72 = .ok (.aload_n 2, 1) := dw_44 wX9_gaol_c rfl
theorem dX9_gaol_73 : decode cX9_gaol 73 = .ok (.getfield 226, 3) := dw_180 wX9_gaol_c 0 226 rfl rfl
theorem dX9_gaol_76 : decode cX9_gaol 76 = .ok (.getfield 119, 3) := dw_180 wX9_gaol_c 0 119 rfl rfl
theorem dX9_gaol_79 : decode cX9_gaol 79 = .ok (.bipush 7, 2) := dw_16 wX9_gaol_c 7 rfl rfl rfl
theorem dX9_gaol_81 : decode cX9_gaol 81 = .ok (.iaload, 1) := dw_46 wX9_gaol_c rfl
theorem dX9_gaol_82 : decode cX9_gaol 82 = .ok (.imul, 1) := dw_104 wX9_gaol_c rfl
theorem dX9_gaol_83 : decode cX9_gaol 83 = .ok (.istore_n 3, 1) := dw_62 wX9_gaol_c rfl
theorem dX9_gaol_84 : decode cX9_gaol 84 = .ok (.aload_n 2, 1) := dw_44 wX9_gaol_c rfl
theorem dX9_gaol_85 : decode cX9_gaol 85 = .ok (.aload_n 0, 1) := dw_42 wX9_gaol_c rfl
theorem dX9_gaol_86 : decode cX9_gaol 86 = .ok (.getfield 94, 3) := dw_180 wX9_gaol_c 0 94 rfl rfl
theorem dX9_gaol_89 : decode cX9_gaol 89 = .ok (.putfield 279, 3) := dw_181 wX9_gaol_c 1 23 rfl rfl
theorem dX9_gaol_92 : decode cX9_gaol 92 = .ok (.iload_n 3, 1) := dw_29 wX9_gaol_c rfl
theorem dX9_gaol_93 : decode cX9_gaol 93 = .ok (.aload_n 2, 1) := dw_44 wX9_gaol_c rfl
theorem dX9_gaol_94 : decode cX9_gaol 94 = .ok (.getfield 226, 3) := dw_180 wX9_gaol_c 0 226 rfl rfl
theorem dX9_gaol_97 : decode cX9_gaol 97 = .ok (.getfield 119, 3) := dw_180 wX9_gaol_c 0 119 rfl rfl
theorem dX9_gaol_100 : decode cX9_gaol 100 = .ok (.bipush 8, 2) := dw_16 wX9_gaol_c 8 rfl rfl rfl
theorem dX9_gaol_102 : decode cX9_gaol 102 = .ok (.iaload, 1) := dw_46 wX9_gaol_c rfl
theorem dX9_gaol_103 : decode cX9_gaol 103 = .ok (.invokestatic 309, 3) := dw_184 wX9_gaol_c 1 53 rfl rfl
theorem dX9_gaol_106 : decode cX9_gaol 106 = .ok (.ireturn, 1) := dw_172 wX9_gaol_c rfl
def wNX9_claim : Nat := 20441303699523344464907001424163003909836851238834096577190251572453367212288905681706557088044753007399529958129105019271152303852800957968131472834186567411771459895683062369162864543851923870787360257718084271497766678169725943967175497847743179054602217386216284537421917397010422665283203839458661965855387435714192453295073685975929197699555295084024944295295922585650916976104292370950030687169507864349390711011638771707157290
theorem wX9_claim_c : hz_cd cX9_claim wNX9_claim 180 := ⟨by decide +kernel, by decide +kernel⟩
theorem dX9_claim_0 : decode cX9_claim 0 = .ok (.aload_n 0, 1) := dw_42 wX9_claim_c rfl
theorem dX9_claim_1 : decode cX9_claim 1 = .ok (.iload_n 1, 1) := dw_27 wX9_claim_c rfl
theorem dX9_claim_2 : decode cX9_claim 2 = .ok (.invokevirtual 200, 3) := dw_182 wX9_claim_c 0 200 rfl rfl
theorem dX9_claim_5 : decode cX9_claim 5 = .ok (.astore_n 3, 1) := dw_78 wX9_claim_c rfl
theorem dX9_claim_6 : decode cX9_claim 6 = .ok (.aload_n 3, 1) := dw_45 wX9_claim_c rfl
theorem dX9_claim_7 : decode cX9_claim 7 = .ok (.ifnonnull 5, 3) := dw_199 wX9_claim_c 0 5 rfl rfl rfl
theorem dX9_claim_10 : decode cX9_claim 10 = .ok (.iconst (-1), 1) := dw_2 wX9_claim_c rfl
theorem dX9_claim_11 : decode cX9_claim 11 = .ok (.ireturn, 1) := dw_172 wX9_claim_c rfl
theorem dX9_claim_12 : decode cX9_claim 12 = .ok (.iload_n 2, 1) := dw_28 wX9_claim_c rfl
theorem dX9_claim_13 : decode cX9_claim 13 = .ok (.tableswitch 165 0 13 #[71, 79, 87, 92, 97, 102, 107, 114, 121, 128, 133, 138, 143, 151], 71) := by decide +kernel
theorem dX9_claim_84 : decode cX9_claim 84 = .ok (.aload_n 3, 1) := dw_45 wX9_claim_c rfl
theorem dX9_claim_85 : decode cX9_claim 85 = .ok (.getfield 223, 3) := dw_180 wX9_claim_c 0 223 rfl rfl
theorem dX9_claim_88 : decode cX9_claim 88 = .ok (.getfield 143, 3) := dw_180 wX9_claim_c 0 143 rfl rfl
theorem dX9_claim_91 : decode cX9_claim 91 = .ok (.ireturn, 1) := dw_172 wX9_claim_c rfl
theorem dX9_claim_92 : decode cX9_claim 92 = .ok (.aload_n 3, 1) := dw_45 wX9_claim_c rfl
theorem dX9_claim_93 : decode cX9_claim 93 = .ok (.getfield 212, 3) := dw_180 wX9_claim_c 0 212 rfl rfl
theorem dX9_claim_96 : decode cX9_claim 96 = .ok (.getfield 143, 3) := dw_180 wX9_claim_c 0 143 rfl rfl
theorem dX9_claim_99 : decode cX9_claim 99 = .ok (.ireturn, 1) := dw_172 wX9_claim_c rfl
theorem dX9_claim_100 : decode cX9_claim 100 = .ok (.aload_n 3, 1) := dw_45 wX9_claim_c rfl
theorem dX9_claim_101 : decode cX9_claim 101 = .ok (.getfield 187, 3) := dw_180 wX9_claim_c 0 187 rfl rfl
theorem dX9_claim_104 : decode cX9_claim 104 = .ok (.ireturn, 1) := dw_172 wX9_claim_c rfl
theorem dX9_claim_105 : decode cX9_claim 105 = .ok (.aload_n 3, 1) := dw_45 wX9_claim_c rfl
theorem dX9_claim_106 : decode cX9_claim 106 = .ok (.getfield 193, 3) := dw_180 wX9_claim_c 0 193 rfl rfl
theorem dX9_claim_109 : decode cX9_claim 109 = .ok (.ireturn, 1) := dw_172 wX9_claim_c rfl
theorem dX9_claim_110 : decode cX9_claim 110 = .ok (.aload_n 3, 1) := dw_45 wX9_claim_c rfl
theorem dX9_claim_111 : decode cX9_claim 111 = .ok (.getfield 207, 3) := dw_180 wX9_claim_c 0 207 rfl rfl
theorem dX9_claim_114 : decode cX9_claim 114 = .ok (.ireturn, 1) := dw_172 wX9_claim_c rfl
theorem dX9_claim_115 : decode cX9_claim 115 = .ok (.aload_n 3, 1) := dw_45 wX9_claim_c rfl
theorem dX9_claim_116 : decode cX9_claim 116 = .ok (.getfield 233, 3) := dw_180 wX9_claim_c 0 233 rfl rfl
theorem dX9_claim_119 : decode cX9_claim 119 = .ok (.ireturn, 1) := dw_172 wX9_claim_c rfl
theorem dX9_claim_120 : decode cX9_claim 120 = .ok (.aload_n 3, 1) := dw_45 wX9_claim_c rfl
theorem dX9_claim_121 : decode cX9_claim 121 = .ok (.getfield 240, 3) := dw_180 wX9_claim_c 0 240 rfl rfl
theorem dX9_claim_124 : decode cX9_claim 124 = .ok (.iconst 0, 1) := dw_3 wX9_claim_c rfl
theorem dX9_claim_125 : decode cX9_claim 125 = .ok (.iaload, 1) := dw_46 wX9_claim_c rfl
theorem dX9_claim_126 : decode cX9_claim 126 = .ok (.ireturn, 1) := dw_172 wX9_claim_c rfl
theorem dX9_claim_127 : decode cX9_claim 127 = .ok (.aload_n 3, 1) := dw_45 wX9_claim_c rfl
theorem dX9_claim_128 : decode cX9_claim 128 = .ok (.getfield 240, 3) := dw_180 wX9_claim_c 0 240 rfl rfl
theorem dX9_claim_131 : decode cX9_claim 131 = .ok (.iconst 1, 1) := dw_4 wX9_claim_c rfl
theorem dX9_claim_132 : decode cX9_claim 132 = .ok (.iaload, 1) := dw_46 wX9_claim_c rfl
theorem dX9_claim_133 : decode cX9_claim 133 = .ok (.ireturn, 1) := dw_172 wX9_claim_c rfl
theorem dX9_claim_134 : decode cX9_claim 134 = .ok (.aload_n 3, 1) := dw_45 wX9_claim_c rfl
theorem dX9_claim_135 : decode cX9_claim 135 = .ok (.getfield 240, 3) := dw_180 wX9_claim_c 0 240 rfl rfl
theorem dX9_claim_138 : decode cX9_claim 138 = .ok (.iconst 2, 1) := dw_5 wX9_claim_c rfl
theorem dX9_claim_139 : decode cX9_claim 139 = .ok (.iaload, 1) := dw_46 wX9_claim_c rfl
theorem dX9_claim_140 : decode cX9_claim 140 = .ok (.ireturn, 1) := dw_172 wX9_claim_c rfl
theorem dX9_claim_141 : decode cX9_claim 141 = .ok (.aload_n 3, 1) := dw_45 wX9_claim_c rfl
theorem dX9_claim_142 : decode cX9_claim 142 = .ok (.getfield 253, 3) := dw_180 wX9_claim_c 0 253 rfl rfl
theorem dX9_claim_145 : decode cX9_claim 145 = .ok (.ireturn, 1) := dw_172 wX9_claim_c rfl
theorem dX9_claim_146 : decode cX9_claim 146 = .ok (.aload_n 3, 1) := dw_45 wX9_claim_c rfl
theorem dX9_claim_147 : decode cX9_claim 147 = .ok (.getfield 271, 3) := dw_180 wX9_claim_c 1 15 rfl rfl
theorem dX9_claim_150 : decode cX9_claim 150 = .ok (.ireturn, 1) := dw_172 wX9_claim_c rfl
theorem dX9_claim_151 : decode cX9_claim 151 = .ok (.aload_n 3, 1) := dw_45 wX9_claim_c rfl
theorem dX9_claim_152 : decode cX9_claim 152 = .ok (.getfield 268, 3) := dw_180 wX9_claim_c 1 12 rfl rfl
theorem dX9_claim_155 : decode cX9_claim 155 = .ok (.ireturn, 1) := dw_172 wX9_claim_c rfl
theorem dX9_claim_156 : decode cX9_claim 156 = .ok (.aload_n 3, 1) := dw_45 wX9_claim_c rfl
theorem dX9_claim_157 : decode cX9_claim 157 = .ok (.getfield 226, 3) := dw_180 wX9_claim_c 0 226 rfl rfl
theorem dX9_claim_160 : decode cX9_claim 160 = .ok (.getfield 112, 3) := dw_180 wX9_claim_c 0 112 rfl rfl
theorem dX9_claim_163 : decode cX9_claim 163 = .ok (.ireturn, 1) := dw_172 wX9_claim_c rfl
theorem dX9_claim_164 : decode cX9_claim 164 = .ok (.aload_n 3, 1) := dw_45 wX9_claim_c rfl
theorem dX9_claim_165 : decode cX9_claim 165 = .ok (.getfield 289, 3) := dw_180 wX9_claim_c 1 33 rfl rfl
theorem dX9_claim_168 : decode cX9_claim 168 = .ok (.iconst (-1), 1) := dw_2 wX9_claim_c rfl
theorem dX9_claim_169 : decode cX9_claim 169 = .ok (.if_icmp .ne 7, 3) := dw_160 wX9_claim_c 0 7 rfl rfl rfl
theorem dX9_claim_172 : decode cX9_claim 172 = .ok (.iconst 0, 1) := dw_3 wX9_claim_c rfl
theorem dX9_claim_173 : decode cX9_claim 173 = .ok (.goto 4, 3) := dw_167 wX9_claim_c 0 4 rfl rfl rfl
theorem dX9_claim_176 : decode cX9_claim 176 = .ok (.iconst 1, 1) := dw_4 wX9_claim_c rfl
theorem dX9_claim_177 : decode cX9_claim 177 = .ok (.ireturn, 1) := dw_172 wX9_claim_c rfl
theorem dX9_claim_178 : decode cX9_claim 178 = .ok (.iconst (-1), 1) := dw_2 wX9_claim_c rfl
theorem dX9_claim_179 : decode cX9_claim 179 = .ok (.ireturn, 1) := dw_172 wX9_claim_c rfl
def wNX9_state : Nat := 627176703122072653758726469412211741600686460138945861163695415177981606848957607554086065739755451452438709863260492053962180495917473999059187385558602807844451644552969694160481455845429543030608691851228073959525020855793627565299657722532417121864574979442803405452001350120498527971838197666120038035305995942284561361209046327765637930
theorem wX9_state_c : hz_cd cX9_state wNX9_state 142 := ⟨by decide +kernel, by decide +kernel⟩
theorem dX9_state_0 : decode cX9_state 0 = .ok (.aload_n 0, 1) := dw_42 wX9_state_c rfl
theorem dX9_state_1 : decode cX9_state 1 = .ok (.iload_n 1, 1) := dw_27 wX9_state_c rfl
theorem dX9_state_2 : decode cX9_state 2 = .ok (.invokevirtual 200, 3) := dw_182 wX9_state_c 0 200 rfl rfl
theorem dX9_state_5 : decode cX9_state 5 = .ok (.astore 5, 2) := dw_58 wX9_state_c 5 rfl
theorem dX9_state_7 : decode cX9_state 7 = .ok (.aload 5, 2) := dw_25 wX9_state_c 5 rfl
theorem dX9_state_9 : decode cX9_state 9 = .ok (.ifnull 33, 3) := dw_198 wX9_state_c 0 33 rfl rfl rfl
theorem dX9_state_12 : decode cX9_state 12 = .ok (.iload_n 2, 1) := dw_28 wX9_state_c rfl
theorem dX9_state_13 : decode cX9_state 13 = .ok (.aload 5, 2) := dw_25 wX9_state_c 5 rfl
theorem dX9_state_15 : decode cX9_state 15 = .ok (.getfield 193, 3) := dw_180 wX9_state_c 0 193 rfl rfl
theorem dX9_state_18 : decode cX9_state 18 = .ok (.sipush 7999, 3) := dw_17 wX9_state_c 31 63 rfl rfl rfl
theorem dX9_state_21 : decode cX9_state 21 = .ok (.invokestatic 128, 3) := dw_184 wX9_state_c 0 128 rfl rfl
theorem dX9_state_24 : decode cX9_state 24 = .ok (.ifCond .eq 18, 3) := dw_153 wX9_state_c 0 18 rfl rfl rfl
theorem dX9_state_27 : decode cX9_state 27 = .ok (.iload_n 3, 1) := dw_29 wX9_state_c rfl
theorem dX9_state_28 : decode cX9_state 28 = .ok (.aload 5, 2) := dw_25 wX9_state_c 5 rfl
theorem dX9_state_30 : decode cX9_state 30 = .ok (.getfield 193, 3) := dw_180 wX9_state_c 0 193 rfl rfl
theorem dX9_state_33 : decode cX9_state 33 = .ok (.sipush 7999, 3) := dw_17 wX9_state_c 31 63 rfl rfl rfl
theorem dX9_state_36 : decode cX9_state 36 = .ok (.invokestatic 128, 3) := dw_184 wX9_state_c 0 128 rfl rfl
theorem dX9_state_39 : decode cX9_state 39 = .ok (.ifCond .ne 5, 3) := dw_154 wX9_state_c 0 5 rfl rfl rfl
theorem dX9_state_42 : decode cX9_state 42 = .ok (.iconst (-1), 1) := dw_2 wX9_state_c rfl
theorem dX9_state_43 : decode cX9_state 43 = .ok (.ireturn, 1) := dw_172 wX9_state_c rfl
theorem dX9_state_44 : decode cX9_state 44 = .ok (.iload 4, 2) := dw_21 wX9_state_c 4 rfl
theorem dX9_state_46 : decode cX9_state 46 = .ok (.tableswitch 94 0 4 #[34, 46, 58, 70, 82], 34) := by decide +kernel
theorem dX9_state_80 : decode cX9_state 80 = .ok (.aload 5, 2) := dw_25 wX9_state_c 5 rfl
theorem dX9_state_82 : decode cX9_state 82 = .ok (.aload_n 0, 1) := dw_42 wX9_state_c rfl
theorem dX9_state_83 : decode cX9_state 83 = .ok (.getfield 58, 3) := dw_180 wX9_state_c 0 58 rfl rfl
theorem dX9_state_86 : decode cX9_state 86 = .ok (.iload_n 2, 1) := dw_28 wX9_state_c rfl
theorem dX9_state_87 : decode cX9_state 87 = .ok (.iload_n 3, 1) := dw_29 wX9_state_c rfl
theorem dX9_state_88 : decode cX9_state 88 = .ok (.invokevirtual 292, 3) := dw_182 wX9_state_c 1 36 rfl rfl
theorem dX9_state_91 : decode cX9_state 91 = .ok (.ireturn, 1) := dw_172 wX9_state_c rfl
theorem dX9_state_92 : decode cX9_state 92 = .ok (.aload 5, 2) := dw_25 wX9_state_c 5 rfl
theorem dX9_state_94 : decode cX9_state 94 = .ok (.aload_n 0, 1) := dw_42 wX9_state_c rfl
theorem dX9_state_95 : decode cX9_state 95 = .ok (.getfield 58, 3) := dw_180 wX9_state_c 0 58 rfl rfl
theorem dX9_state_98 : decode cX9_state 98 = .ok (.iload_n 2, 1) := dw_28 wX9_state_c rfl
theorem dX9_state_99 : decode cX9_state 99 = .ok (.iload_n 3, 1) := dw_29 wX9_state_c rfl
theorem dX9_state_100 : decode cX9_state 100 = .ok (.invokevirtual 302, 3) := dw_182 wX9_state_c 1 46 rfl rfl
theorem dX9_state_103 : decode cX9_state 103 = .ok (.ireturn, 1) := dw_172 wX9_state_c rfl
theorem dX9_state_104 : decode cX9_state 104 = .ok (.aload 5, 2) := dw_25 wX9_state_c 5 rfl
theorem dX9_state_106 : decode cX9_state 106 = .ok (.aload_n 0, 1) := dw_42 wX9_state_c rfl
theorem dX9_state_107 : decode cX9_state 107 = .ok (.getfield 58, 3) := dw_180 wX9_state_c 0 58 rfl rfl
theorem dX9_state_110 : decode cX9_state 110 = .ok (.iload_n 2, 1) := dw_28 wX9_state_c rfl
theorem dX9_state_111 : decode cX9_state 111 = .ok (.iload_n 3, 1) := dw_29 wX9_state_c rfl
theorem dX9_state_112 : decode cX9_state 112 = .ok (.invokevirtual 314, 3) := dw_182 wX9_state_c 1 58 rfl rfl
theorem dX9_state_115 : decode cX9_state 115 = .ok (.ireturn, 1) := dw_172 wX9_state_c rfl
theorem dX9_state_116 : decode cX9_state 116 = .ok (.aload 5, 2) := dw_25 wX9_state_c 5 rfl
theorem dX9_state_118 : decode cX9_state 118 = .ok (.aload_n 0, 1) := dw_42 wX9_state_c rfl
theorem dX9_state_119 : decode cX9_state 119 = .ok (.getfield 58, 3) := dw_180 wX9_state_c 0 58 rfl rfl
theorem dX9_state_122 : decode cX9_state 122 = .ok (.iload_n 2, 1) := dw_28 wX9_state_c rfl
theorem dX9_state_123 : decode cX9_state 123 = .ok (.iload_n 3, 1) := dw_29 wX9_state_c rfl
theorem dX9_state_124 : decode cX9_state 124 = .ok (.invokevirtual 317, 3) := dw_182 wX9_state_c 1 61 rfl rfl
theorem dX9_state_127 : decode cX9_state 127 = .ok (.ireturn, 1) := dw_172 wX9_state_c rfl
theorem dX9_state_128 : decode cX9_state 128 = .ok (.aload 5, 2) := dw_25 wX9_state_c 5 rfl
theorem dX9_state_130 : decode cX9_state 130 = .ok (.aload_n 0, 1) := dw_42 wX9_state_c rfl
theorem dX9_state_131 : decode cX9_state 131 = .ok (.getfield 58, 3) := dw_180 wX9_state_c 0 58 rfl rfl
theorem dX9_state_134 : decode cX9_state 134 = .ok (.iload_n 2, 1) := dw_28 wX9_state_c rfl
theorem dX9_state_135 : decode cX9_state 135 = .ok (.iload_n 3, 1) := dw_29 wX9_state_c rfl
theorem dX9_state_136 : decode cX9_state 136 = .ok (.invokevirtual 320, 3) := dw_182 wX9_state_c 1 64 rfl rfl
theorem dX9_state_139 : decode cX9_state 139 = .ok (.ireturn, 1) := dw_172 wX9_state_c rfl
theorem dX9_state_140 : decode cX9_state 140 = .ok (.iconst (-1), 1) := dw_2 wX9_state_c rfl
theorem dX9_state_141 : decode cX9_state 141 = .ok (.ireturn, 1) := dw_172 wX9_state_c rfl
def wNX9_planned : Nat := 713759997793762791258335630146735978465270240305301992987697793576747069931318489794853705281008008590319180192930563579925313770737842115933173629396206059195074913005436389703064347
theorem wX9_planned_c : hz_cd cX9_planned wNX9_planned 76 := ⟨by decide +kernel, by decide +kernel⟩
theorem dX9_planned_0 : decode cX9_planned 0 = .ok (.iload_n 1, 1) := dw_27 wX9_planned_c rfl
theorem dX9_planned_1 : decode cX9_planned 1 = .ok (.ifCond .lt 14, 3) := dw_155 wX9_planned_c 0 14 rfl rfl rfl
theorem dX9_planned_4 : decode cX9_planned 4 = .ok (.iload_n 1, 1) := dw_27 wX9_planned_c rfl
theorem dX9_planned_5 : decode cX9_planned 5 = .ok (.aload_n 0, 1) := dw_42 wX9_planned_c rfl
theorem dX9_planned_6 : decode cX9_planned 6 = .ok (.getfield 72, 3) := dw_180 wX9_planned_c 0 72 rfl rfl
theorem dX9_planned_9 : decode cX9_planned 9 = .ok (.getfield 337, 3) := dw_180 wX9_planned_c 1 81 rfl rfl
theorem dX9_planned_12 : decode cX9_planned 12 = .ok (.if_icmp .lt 5, 3) := dw_161 wX9_planned_c 0 5 rfl rfl rfl
theorem dX9_planned_15 : decode cX9_planned 15 = .ok (.iconst (-1), 1) := dw_2 wX9_planned_c rfl
theorem dX9_planned_16 : decode cX9_planned 16 = .ok (.ireturn, 1) := dw_172 wX9_planned_c rfl
theorem dX9_planned_17 : decode cX9_planned 17 = .ok (.iload_n 2, 1) := dw_28 wX9_planned_c rfl
theorem dX9_planned_18 : decode cX9_planned 18 = .ok (.tableswitch 56 0 2 #[26, 36, 46], 26) := by decide +kernel
theorem dX9_planned_44 : decode cX9_planned 44 = .ok (.aload_n 0, 1) := dw_42 wX9_planned_c rfl
theorem dX9_planned_45 : decode cX9_planned 45 = .ok (.getfield 72, 3) := dw_180 wX9_planned_c 0 72 rfl rfl
theorem dX9_planned_48 : decode cX9_planned 48 = .ok (.getfield 339, 3) := dw_180 wX9_planned_c 1 83 rfl rfl
theorem dX9_planned_51 : decode cX9_planned 51 = .ok (.iload_n 1, 1) := dw_27 wX9_planned_c rfl
theorem dX9_planned_52 : decode cX9_planned 52 = .ok (.iaload, 1) := dw_46 wX9_planned_c rfl
theorem dX9_planned_53 : decode cX9_planned 53 = .ok (.ireturn, 1) := dw_172 wX9_planned_c rfl
theorem dX9_planned_54 : decode cX9_planned 54 = .ok (.aload_n 0, 1) := dw_42 wX9_planned_c rfl
theorem dX9_planned_55 : decode cX9_planned 55 = .ok (.getfield 72, 3) := dw_180 wX9_planned_c 0 72 rfl rfl
theorem dX9_planned_58 : decode cX9_planned 58 = .ok (.getfield 341, 3) := dw_180 wX9_planned_c 1 85 rfl rfl
theorem dX9_planned_61 : decode cX9_planned 61 = .ok (.iload_n 1, 1) := dw_27 wX9_planned_c rfl
theorem dX9_planned_62 : decode cX9_planned 62 = .ok (.iaload, 1) := dw_46 wX9_planned_c rfl
theorem dX9_planned_63 : decode cX9_planned 63 = .ok (.ireturn, 1) := dw_172 wX9_planned_c rfl
theorem dX9_planned_64 : decode cX9_planned 64 = .ok (.aload_n 0, 1) := dw_42 wX9_planned_c rfl
theorem dX9_planned_65 : decode cX9_planned 65 = .ok (.getfield 72, 3) := dw_180 wX9_planned_c 0 72 rfl rfl
theorem dX9_planned_68 : decode cX9_planned 68 = .ok (.getfield 343, 3) := dw_180 wX9_planned_c 1 87 rfl rfl
theorem dX9_planned_71 : decode cX9_planned 71 = .ok (.iload_n 1, 1) := dw_27 wX9_planned_c rfl
theorem dX9_planned_72 : decode cX9_planned 72 = .ok (.iaload, 1) := dw_46 wX9_planned_c rfl
theorem dX9_planned_73 : decode cX9_planned 73 = .ok (.ireturn, 1) := dw_172 wX9_planned_c rfl
theorem dX9_planned_74 : decode cX9_planned 74 = .ok (.iconst (-1), 1) := dw_2 wX9_planned_c rfl
theorem dX9_planned_75 : decode cX9_planned 75 = .ok (.ireturn, 1) := dw_172 wX9_planned_c rfl
set_option maxHeartbeats 4000000 in
set_option maxRecDepth 100000 in
theorem t_X9_planned (l : Launch) (dC : Nat → ClassId) (dI : Nat → Nat → Nat) (dA : Nat → ClassId) (L : List Nat) (h : hx_h) (sz : Nat) (x : Nat) (i1 : Int32) (i2 : Int32) (hT : hx_T T_tb L h) (gx : hx_g L h x 9)  : Met l yX9_planned (Cond.code yX9_planned cX9_planned 3 (some .int) :: hx_all) ({ frames := 0, cells := 0, slots := 0, locals := 0 }) (va_Pc [.ref x, .int i1, .int i2] (hx_B T_tb (P_ty dA) (dC, dI) vwCl L h sz)) (va_Qi (fun (r : Int32) (u : List Nat × hx_h) => (True) ∧ hx_T T_tb u.1 u.2 ∧ hx_S T_tb [] L h u.1 u.2) (hx_E T_tb (P_ty dA) (dC, dI) vwCl (hx_A L sz)) (hx_A L sz)) 0 0 (hx_A L sz) := by
  refine hx_met (lv := [(0, .ref x), (1, .int i1), (2, .int i2)]) (by decide +kernel) rfl (Nat.le_of_ble_eq_true rfl) rfl ?_
  intro p e s m below meth c hx hb hml hr hlk hts0 hown hin hsz hW ls hl
  have hts : ∀ w ∈ hx_all, w.before _ s = true := fun w hw => hts0 w (List.mem_cons_of_mem _ hw)
  have hown : s.vm.findClass "SmallCourt" = some m.cls := hown
  have hM : hx_S T_tb [] L h L h := hx_S.rf
  refine lv_iload_n hx hb dX9_planned_0 rfl (lv_at hl 1 rfl) ?_
  refine hb_if_lt (zx := i1.toInt) (tgt := 15) hx hb rfl dX9_planned_1 ?o0 (fun c_1 => ?_) (fun c_1 => ?_)
  case o0 => decide
  · skip
    refine lv_iconst (v := -1) hx hb dX9_planned_15 ?o1 ?_
    case o1 => decide
    exact hx_reti hx hb hr hlk hW ⟨trivial, hT, hM⟩ dX9_planned_16
  · skip
    refine lv_iload_n hx hb dX9_planned_4 rfl (lv_at hl 1 rfl) ?_
    refine lv_aload_n hx hb dX9_planned_5 rfl (lv_at hl 0 rfl) ?_
    refine hx_getn hx hb hts hC_9 hown hW hT (gx.S hM) tt_9 17 ?o2 rfl kw_381 ⟨rfl, rfl, rfl⟩ dX9_planned_6 (fun q_2 fq_2 gq_2 => ?_)
    case o2 => decide
    refine hx_geti hx hb hts hC_5 hown hW hT gq_2 tt_5 1 ?o3 rfl kw_261 ⟨rfl, rfl, rfl⟩ dX9_planned_9 (fun x_3 ex_3 lx_3 ux_3 => ?_)
    case o3 => decide
    have fx_3 := ex_3.symm
    refine hb_icmp_lt (zx := i1.toInt) (zy := x_3.toInt) (tgt := 17) hx hb rfl rfl dX9_planned_12 ?o4 (fun c_4 => ?_) (fun c_4 => ?_)
    case o4 => decide
    · skip
      refine lv_iload_n hx hb dX9_planned_17 rfl (lv_at hl 2 rfl) ?_
      rcases (show (i2.toInt < 0 ∨ 2 < i2.toInt) ∨ i2.toInt = 0 ∨ i2.toInt = 1 ∨ i2.toInt = 2 from by omega) with c_5 | c_5 | c_5 | c_5
      · refine lv_tableOut (tgt := 74) hx hb dX9_planned_18 c_5 ?o5 ?_
        case o5 => decide
        refine lv_iconst (v := -1) hx hb dX9_planned_74 ?o6 ?_
        case o6 => decide
        exact hx_reti hx hb hr hlk hW ⟨trivial, hT, hM⟩ dX9_planned_75
      · refine lv_tableIn (off := 26) (tgt := 44) hx hb dX9_planned_18 ?o7 ?o8 (by rw [c_5]; rfl) ?o9 ?_
        case o7 => omega
        case o8 => omega
        case o9 => decide
        refine lv_aload_n hx hb dX9_planned_44 rfl (lv_at hl 0 rfl) ?_
        refine hk_getr hx hb hts hC_9 hown hW (gx.S hM) tt_9 17 ?o10 rfl kw_381 ⟨rfl, rfl, rfl⟩ fq_2 dX9_planned_45 ?_
        case o10 => decide
        refine hx_getn hx hb hts hC_5 hown hW hT gq_2 tt_5 2 ?o11 rfl kw_263 ⟨rfl, rfl, rfl⟩ dX9_planned_48 (fun q_6 fq_6 gq_6 => ?_)
        case o11 => decide
        refine lv_iload_n hx hb dX9_planned_51 rfl (lv_at hl 1 rfl) ?_
        refine hx_iald hx hb hW hT gq_6 tt_27 rfl ⟨?o12, ?o13⟩ dX9_planned_52 (fun x_7 ex_7 lx_7 ux_7 => ?_)
        case o12 => omega
        case o13 => omega
        exact hx_reti hx hb hr hlk hW ⟨trivial, hT, hM⟩ dX9_planned_53
      · refine lv_tableIn (off := 36) (tgt := 54) hx hb dX9_planned_18 ?o14 ?o15 (by rw [c_5]; rfl) ?o16 ?_
        case o14 => omega
        case o15 => omega
        case o16 => decide
        refine lv_aload_n hx hb dX9_planned_54 rfl (lv_at hl 0 rfl) ?_
        refine hk_getr hx hb hts hC_9 hown hW (gx.S hM) tt_9 17 ?o17 rfl kw_381 ⟨rfl, rfl, rfl⟩ fq_2 dX9_planned_55 ?_
        case o17 => decide
        refine hx_getn hx hb hts hC_5 hown hW hT gq_2 tt_5 3 ?o18 rfl kw_265 ⟨rfl, rfl, rfl⟩ dX9_planned_58 (fun q_8 fq_8 gq_8 => ?_)
        case o18 => decide
        refine lv_iload_n hx hb dX9_planned_61 rfl (lv_at hl 1 rfl) ?_
        refine hx_iald hx hb hW hT gq_8 tt_28 rfl ⟨?o19, ?o20⟩ dX9_planned_62 (fun x_9 ex_9 lx_9 ux_9 => ?_)
        case o19 => omega
        case o20 => omega
        exact hx_reti hx hb hr hlk hW ⟨trivial, hT, hM⟩ dX9_planned_63
      · refine lv_tableIn (off := 46) (tgt := 64) hx hb dX9_planned_18 ?o21 ?o22 (by rw [c_5]; rfl) ?o23 ?_
        case o21 => omega
        case o22 => omega
        case o23 => decide
        refine lv_aload_n hx hb dX9_planned_64 rfl (lv_at hl 0 rfl) ?_
        refine hk_getr hx hb hts hC_9 hown hW (gx.S hM) tt_9 17 ?o24 rfl kw_381 ⟨rfl, rfl, rfl⟩ fq_2 dX9_planned_65 ?_
        case o24 => decide
        refine hx_getn hx hb hts hC_5 hown hW hT gq_2 tt_5 4 ?o25 rfl kw_267 ⟨rfl, rfl, rfl⟩ dX9_planned_68 (fun q_10 fq_10 gq_10 => ?_)
        case o25 => decide
        refine lv_iload_n hx hb dX9_planned_71 rfl (lv_at hl 1 rfl) ?_
        refine hx_iald hx hb hW hT gq_10 tt_29 rfl ⟨?o26, ?o27⟩ dX9_planned_72 (fun x_11 ex_11 lx_11 ux_11 => ?_)
        case o26 => omega
        case o27 => omega
        exact hx_reti hx hb hr hlk hW ⟨trivial, hT, hM⟩ dX9_planned_73
    · skip
      refine lv_iconst (v := -1) hx hb dX9_planned_15 ?o28 ?_
      case o28 => decide
      exact hx_reti hx hb hr hlk hW ⟨trivial, hT, hM⟩ dX9_planned_16

def wNX9_netted : Nat := 94150265727938054743412248596894357568321727875765039674447477140972562583131569257261242991704539675
theorem wX9_netted_c : hz_cd cX9_netted wNX9_netted 42 := ⟨by decide +kernel, by decide +kernel⟩
theorem dX9_netted_0 : decode cX9_netted 0 = .ok (.iload_n 1, 1) := dw_27 wX9_netted_c rfl
theorem dX9_netted_1 : decode cX9_netted 1 = .ok (.iconst (-1), 1) := dw_2 wX9_netted_c rfl
theorem dX9_netted_2 : decode cX9_netted 2 = .ok (.if_icmp .ne 11, 3) := dw_160 wX9_netted_c 0 11 rfl rfl rfl
theorem dX9_netted_5 : decode cX9_netted 5 = .ok (.aload_n 0, 1) := dw_42 wX9_netted_c rfl
theorem dX9_netted_6 : decode cX9_netted 6 = .ok (.getfield 79, 3) := dw_180 wX9_netted_c 0 79 rfl rfl
theorem dX9_netted_9 : decode cX9_netted 9 = .ok (.getfield 374, 3) := dw_180 wX9_netted_c 1 118 rfl rfl
theorem dX9_netted_12 : decode cX9_netted 12 = .ok (.ireturn, 1) := dw_172 wX9_netted_c rfl
theorem dX9_netted_13 : decode cX9_netted 13 = .ok (.iload_n 1, 1) := dw_27 wX9_netted_c rfl
theorem dX9_netted_14 : decode cX9_netted 14 = .ok (.ifCond .lt 14, 3) := dw_155 wX9_netted_c 0 14 rfl rfl rfl
theorem dX9_netted_17 : decode cX9_netted 17 = .ok (.iload_n 1, 1) := dw_27 wX9_netted_c rfl
theorem dX9_netted_18 : decode cX9_netted 18 = .ok (.aload_n 0, 1) := dw_42 wX9_netted_c rfl
theorem dX9_netted_19 : decode cX9_netted 19 = .ok (.getfield 79, 3) := dw_180 wX9_netted_c 0 79 rfl rfl
theorem dX9_netted_22 : decode cX9_netted 22 = .ok (.getfield 374, 3) := dw_180 wX9_netted_c 1 118 rfl rfl
theorem dX9_netted_25 : decode cX9_netted 25 = .ok (.if_icmp .lt 7, 3) := dw_161 wX9_netted_c 0 7 rfl rfl rfl
theorem dX9_netted_28 : decode cX9_netted 28 = .ok (.iconst (-1), 1) := dw_2 wX9_netted_c rfl
theorem dX9_netted_29 : decode cX9_netted 29 = .ok (.goto 12, 3) := dw_167 wX9_netted_c 0 12 rfl rfl rfl
theorem dX9_netted_32 : decode cX9_netted 32 = .ok (.aload_n 0, 1) := dw_42 wX9_netted_c rfl
theorem dX9_netted_33 : decode cX9_netted 33 = .ok (.getfield 79, 3) := dw_180 wX9_netted_c 0 79 rfl rfl
theorem dX9_netted_36 : decode cX9_netted 36 = .ok (.getfield 375, 3) := dw_180 wX9_netted_c 1 119 rfl rfl
theorem dX9_netted_39 : decode cX9_netted 39 = .ok (.iload_n 1, 1) := dw_27 wX9_netted_c rfl
theorem dX9_netted_40 : decode cX9_netted 40 = .ok (.iaload, 1) := dw_46 wX9_netted_c rfl
theorem dX9_netted_41 : decode cX9_netted 41 = .ok (.ireturn, 1) := dw_172 wX9_netted_c rfl
theorem dX9_walked_0 : decode cX9_walked 0 = .ok (.iload_n 1, 1) := by decide +kernel
theorem dX9_walked_1 : decode cX9_walked 1 = .ok (.ifCond .lt 14, 3) := by decide +kernel
theorem dX9_walked_4 : decode cX9_walked 4 = .ok (.iload_n 1, 1) := by decide +kernel
theorem dX9_walked_5 : decode cX9_walked 5 = .ok (.aload_n 0, 1) := by decide +kernel
theorem dX9_walked_6 : decode cX9_walked 6 = .ok (.getfield 86, 3) := by decide +kernel
theorem dX9_walked_9 : decode cX9_walked 9 = .ok (.getfield 391, 3) := by decide +kernel
theorem dX9_walked_12 : decode cX9_walked 12 = .ok (.if_icmp .lt 7, 3) := by decide +kernel
theorem dX9_walked_15 : decode cX9_walked 15 = .ok (.iconst (-1), 1) := by decide +kernel
theorem dX9_walked_16 : decode cX9_walked 16 = .ok (.goto 12, 3) := by decide +kernel
theorem dX9_walked_19 : decode cX9_walked 19 = .ok (.aload_n 0, 1) := by decide +kernel
theorem dX9_walked_20 : decode cX9_walked 20 = .ok (.getfield 86, 3) := by decide +kernel
theorem dX9_walked_23 : decode cX9_walked 23 = .ok (.getfield 394, 3) := by decide +kernel
theorem dX9_walked_26 : decode cX9_walked 26 = .ok (.iload_n 1, 1) := by decide +kernel
theorem dX9_walked_27 : decode cX9_walked 27 = .ok (.iaload, 1) := by decide +kernel
theorem dX9_walked_28 : decode cX9_walked 28 = .ok (.ireturn, 1) := by decide +kernel
def wNX9_count : Nat := 82647763618167547205526658140104973587170321627578999172701493708173128118158715399210315500845150730655280597803639725933447765542520618755303612508952587980298912383165102757498914826773099937359341606518056873872087737161944449862743522855411056228589152795
theorem wX9_count_c : hz_cd cX9_count wNX9_count 108 := ⟨by decide +kernel, by decide +kernel⟩
theorem dX9_count_0 : decode cX9_count 0 = .ok (.iload_n 1, 1) := dw_27 wX9_count_c rfl
theorem dX9_count_1 : decode cX9_count 1 = .ok (.tableswitch 105 0 8 #[51, 56, 61, 66, 71, 79, 84, 92, 97], 51) := by decide +kernel
theorem dX9_count_52 : decode cX9_count 52 = .ok (.aload_n 0, 1) := dw_42 wX9_count_c rfl
theorem dX9_count_53 : decode cX9_count 53 = .ok (.getfield 94, 3) := dw_180 wX9_count_c 0 94 rfl rfl
theorem dX9_count_56 : decode cX9_count 56 = .ok (.ireturn, 1) := dw_172 wX9_count_c rfl
theorem dX9_count_57 : decode cX9_count 57 = .ok (.aload_n 0, 1) := dw_42 wX9_count_c rfl
theorem dX9_count_58 : decode cX9_count 58 = .ok (.getfield 105, 3) := dw_180 wX9_count_c 0 105 rfl rfl
theorem dX9_count_61 : decode cX9_count 61 = .ok (.ireturn, 1) := dw_172 wX9_count_c rfl
theorem dX9_count_62 : decode cX9_count 62 = .ok (.aload_n 0, 1) := dw_42 wX9_count_c rfl
theorem dX9_count_63 : decode cX9_count 63 = .ok (.getfield 125, 3) := dw_180 wX9_count_c 0 125 rfl rfl
theorem dX9_count_66 : decode cX9_count 66 = .ok (.ireturn, 1) := dw_172 wX9_count_c rfl
theorem dX9_count_67 : decode cX9_count 67 = .ok (.aload_n 0, 1) := dw_42 wX9_count_c rfl
theorem dX9_count_68 : decode cX9_count 68 = .ok (.invokevirtual 405, 3) := dw_182 wX9_count_c 1 149 rfl rfl
theorem dX9_count_71 : decode cX9_count 71 = .ok (.ireturn, 1) := dw_172 wX9_count_c rfl
theorem dX9_count_72 : decode cX9_count 72 = .ok (.aload_n 0, 1) := dw_42 wX9_count_c rfl
theorem dX9_count_73 : decode cX9_count 73 = .ok (.getfield 42, 3) := dw_180 wX9_count_c 0 42 rfl rfl
theorem dX9_count_76 : decode cX9_count 76 = .ok (.getfield 158, 3) := dw_180 wX9_count_c 0 158 rfl rfl
theorem dX9_count_79 : decode cX9_count 79 = .ok (.ireturn, 1) := dw_172 wX9_count_c rfl
theorem dX9_count_80 : decode cX9_count 80 = .ok (.aload_n 0, 1) := dw_42 wX9_count_c rfl
theorem dX9_count_81 : decode cX9_count 81 = .ok (.getfield 181, 3) := dw_180 wX9_count_c 0 181 rfl rfl
theorem dX9_count_84 : decode cX9_count 84 = .ok (.ireturn, 1) := dw_172 wX9_count_c rfl
theorem dX9_count_85 : decode cX9_count 85 = .ok (.aload_n 0, 1) := dw_42 wX9_count_c rfl
theorem dX9_count_86 : decode cX9_count 86 = .ok (.getfield 58, 3) := dw_180 wX9_count_c 0 58 rfl rfl
theorem dX9_count_89 : decode cX9_count 89 = .ok (.getfield 278, 3) := dw_180 wX9_count_c 1 22 rfl rfl
theorem dX9_count_92 : decode cX9_count 92 = .ok (.ireturn, 1) := dw_172 wX9_count_c rfl
theorem dX9_count_93 : decode cX9_count 93 = .ok (.aload_n 0, 1) := dw_42 wX9_count_c rfl
theorem dX9_count_94 : decode cX9_count 94 = .ok (.getfield 98, 3) := dw_180 wX9_count_c 0 98 rfl rfl
theorem dX9_count_97 : decode cX9_count 97 = .ok (.ireturn, 1) := dw_172 wX9_count_c rfl
theorem dX9_count_98 : decode cX9_count 98 = .ok (.aload_n 0, 1) := dw_42 wX9_count_c rfl
theorem dX9_count_99 : decode cX9_count 99 = .ok (.getfield 86, 3) := dw_180 wX9_count_c 0 86 rfl rfl
theorem dX9_count_102 : decode cX9_count 102 = .ok (.getfield 381, 3) := dw_180 wX9_count_c 1 125 rfl rfl
theorem dX9_count_105 : decode cX9_count 105 = .ok (.ireturn, 1) := dw_172 wX9_count_c rfl
theorem dX9_count_106 : decode cX9_count 106 = .ok (.iconst (-1), 1) := dw_2 wX9_count_c rfl
theorem dX9_count_107 : decode cX9_count 107 = .ok (.ireturn, 1) := dw_172 wX9_count_c rfl
theorem dX9_walk_0 : decode cX9_walk 0 = .ok (.aload_n 0, 1) := by decide +kernel
theorem dX9_walk_1 : decode cX9_walk 1 = .ok (.getfield 86, 3) := by decide +kernel
theorem dX9_walk_4 : decode cX9_walk 4 = .ok (.invokevirtual 388, 3) := by decide +kernel
theorem dX9_walk_7 : decode cX9_walk 7 = .ok (.ireturn, 1) := by decide +kernel
end
section
theorem dX4_init_0 : decode cX4_init 0 = .ok (.aload_n 0, 1) := by decide +kernel
theorem dX4_init_1 : decode cX4_init 1 = .ok (.invokespecial 3, 3) := by decide +kernel
theorem dX4_init_4 : decode cX4_init 4 = .ok (.aload_n 0, 1) := by decide +kernel
theorem dX4_init_5 : decode cX4_init 5 = .ok (.iload_n 1, 1) := by decide +kernel
theorem dX4_init_6 : decode cX4_init 6 = .ok (.putfield 9, 3) := by decide +kernel
theorem dX4_init_9 : decode cX4_init 9 = .ok (.aload_n 0, 1) := by decide +kernel
theorem dX4_init_10 : decode cX4_init 10 = .ok (.iload_n 2, 1) := by decide +kernel
theorem dX4_init_11 : decode cX4_init 11 = .ok (.putfield 15, 3) := by decide +kernel
theorem dX4_init_14 : decode cX4_init 14 = .ok (.aload_n 0, 1) := by decide +kernel
theorem dX4_init_15 : decode cX4_init 15 = .ok (.iload_n 3, 1) := by decide +kernel
theorem dX4_init_16 : decode cX4_init 16 = .ok (.putfield 18, 3) := by decide +kernel
theorem dX4_init_19 : decode cX4_init 19 = .ok (.return_, 1) := by decide +kernel
set_option maxHeartbeats 4000000 in
set_option maxRecDepth 100000 in
theorem t_X4_init (l : Launch) (dC : Nat → ClassId) (dI : Nat → Nat → Nat) (dA : Nat → ClassId) (L : List Nat) (h : hx_h) (sz : Nat) (x : Nat) (i1 : Int32) (i2 : Int32) (i3 : Int32) (hT : hx_T T_tb L h) (gx : hx_g L h x 120) (hz : ∀ j, h.2.1 x j = 0 ∧ h.2.2 x j = none) (hi1 : 0 ≤ i1.toInt ∧ i1.toInt ≤ 39) (hi2 : -30000 ≤ i2.toInt ∧ i2.toInt ≤ 7999) (hi3 : -1 ≤ i3.toInt ∧ i3.toInt ≤ 19) : Met l yX4_init (Cond.code yX4_init cX4_init 4 none :: hx_all) ({ frames := 1, cells := 0, slots := 0, locals := 12 }) (va_Pc [.ref x, .int i1, .int i2, .int i3] (hx_B T_tb (P_ty dA) (dC, dI) vwCl L h sz)) (va_Qv (fun (u : List Nat × hx_h) => hx_T T_tb u.1 u.2 ∧ hx_S T_tb [(120, 0), (120, 1), (120, 2)] (hx_X L x) h u.1 u.2 ∧ hx_g u.1 u.2 x 4 ∧ u.2.2.1 x 0 = i1 ∧ u.2.2.1 x 7 = 0 ∧ u.2.2.1 x 8 = 0 ∧ u.2.2.1 x 1 = i2 ∧ u.2.2.1 x 2 = i3) (hx_E T_tb (P_ty dA) (dC, dI) vwCl (hx_A L sz)) (hx_A L sz)) 0 0 (hx_A L sz) := by
  refine hx_met (lv := [(0, .ref x), (1, .int i1), (2, .int i2), (3, .int i3)]) (by decide +kernel) rfl (Nat.le_of_ble_eq_true rfl) rfl ?_
  intro p e s m below meth c hx hb hml hr hlk hts0 hown hin hsz hW ls hl
  have hts : ∀ w ∈ hx_all, w.before _ s = true := fun w hw => hts0 w (List.mem_cons_of_mem _ hw)
  have hown : s.vm.findClass "SmallCourt$Person" = some m.cls := hown
  have hin : meth.name = "<init>" := hin
  have hM : hx_S T_tb [(120, 0), (120, 1), (120, 2)] (hx_X L x) h L h := hx_SX_rf
  have hz : ∀ j, ([] : List Nat).contains j = false → h.2.1 x j = 0 ∧ h.2.2 x j = none := fun j _ => hz j
  refine lv_aload_n hx hb dX4_init_0 rfl (lv_at hl 0 rfl) ?_
  refine W.objInit hx hb hown (hts _ kw_609) (hts _ kw_117) (hts _ kw_118) rfl (by rw [hml]; exact hl.1) rfl dX4_init_1 (Nat.le_of_ble_eq_true rfl) (Nat.le_of_ble_eq_true rfl) ?_
  refine W.eq (g2 := F0 m 4 ls []) rfl ?_
  refine lv_aload_n hx hb dX4_init_4 rfl (lv_at hl 0 rfl) ?_
  refine lv_iload_n hx hb dX4_init_5 rfl (lv_at hl 1 rfl) ?_
  refine hx_putiF hx hb hts hC_4 hown hW hT (hx_S.rf (M := [(120, 0)])) gx tt_120 0 ?o0 rfl kw_610 ⟨rfl, rfl, rfl⟩ rfl hin rfl (x := i1) ⟨?o1, ?o2⟩ rfl rfl rfl (List.mem_singleton.mpr rfl) dX4_init_6 (fun H locs h_1 eh_1 hW hT hs => ?_)
  case o0 => decide
  case o1 => omega
  case o2 => omega
  replace hz := hx_zr [0] hz hs gx trivial rfl
  replace hM := hM.tr (hs.mono ?o3)
  case o3 => decide
  replace gx := gx.S hs
  have f_2 : h_1.2.1 x 0 = i1 := ?o4
  case o4 =>
    rw [eh_1]
    exact hx_pi_at _ _ _ _
  refine lv_aload_n hx hb dX4_init_9 rfl (lv_at hl 0 rfl) ?_
  refine lv_iload_n hx hb dX4_init_10 rfl (lv_at hl 2 rfl) ?_
  refine hx_putiF hx hb hts hC_4 hown hW hT (hx_S.rf (M := [(120, 1)])) gx tt_120 1 ?o5 rfl kw_613 ⟨rfl, rfl, rfl⟩ rfl hin rfl (x := i2) ⟨?o6, ?o7⟩ rfl rfl rfl (List.mem_singleton.mpr rfl) dX4_init_11 (fun H locs h_3 eh_3 hW hT hs => ?_)
  case o5 => decide
  case o6 => omega
  case o7 => omega
  replace f_2 := (hs.o gx trivial rfl).1.trans f_2
  replace hz := hx_zr [0, 1] hz hs gx trivial rfl
  replace hM := hM.tr (hs.mono ?o8)
  case o8 => decide
  replace gx := gx.S hs
  have f_4 : h_3.2.1 x 1 = i2 := ?o9
  case o9 =>
    rw [eh_3]
    exact hx_pi_at _ _ _ _
  refine lv_aload_n hx hb dX4_init_14 rfl (lv_at hl 0 rfl) ?_
  refine lv_iload_n hx hb dX4_init_15 rfl (lv_at hl 3 rfl) ?_
  refine hx_putiF hx hb hts hC_4 hown hW hT (hx_S.rf (M := [(120, 2)])) gx tt_120 2 ?o10 rfl kw_615 ⟨rfl, rfl, rfl⟩ rfl hin rfl (x := i3) ⟨?o11, ?o12⟩ rfl rfl rfl (List.mem_singleton.mpr rfl) dX4_init_16 (fun H locs h_5 eh_5 hW hT hs => ?_)
  case o10 => decide
  case o11 => omega
  case o12 => omega
  replace f_2 := (hs.o gx trivial rfl).1.trans f_2
  replace f_4 := (hs.o gx trivial rfl).1.trans f_4
  replace hz := hx_zr [0, 1, 2] hz hs gx trivial rfl
  replace hM := hM.tr (hs.mono ?o13)
  case o13 => decide
  replace gx := gx.S hs
  have f_6 : h_5.2.1 x 2 = i3 := ?o14
  case o14 =>
    rw [eh_5]
    exact hx_pi_at _ _ _ _
  have f_7 : h_5.2.1 x 7 = 0 := (hz 7 rfl).1
  have f_8 : h_5.2.1 x 8 = 0 := (hz 8 rfl).1
  have hF : hx_F (fun k f => hx_o L h_5 f (h_5.2.1 x k) (h_5.2.2 x k)) T_f4 0 := ⟨hx_oi f_2 ⟨?o15, ?o16⟩, hx_oi f_4 ⟨?o17, ?o18⟩, hx_oi f_6 ⟨?o19, ?o20⟩, hx_oi (hz 3 rfl).1 ?o21, hx_oi (hz 4 rfl).1 ?o22, hx_oi (hz 5 rfl).1 ?o23, hx_oi (hz 6 rfl).1 ?o24, hx_oi f_7 ?o25, hx_oi f_8 ?o26, hx_oi (hz 9 rfl).1 ?o27, trivial⟩
  case o15 => omega
  case o16 => omega
  case o17 => omega
  case o18 => omega
  case o19 => omega
  case o20 => omega
  case o21 => decide
  case o22 => decide
  case o23 => decide
  case o24 => decide
  case o25 => decide
  case o26 => decide
  case o27 => decide
  have hT := hx_T_rt hT gx tt_4 rfl (hx_F_all hF)
  have hW := hx_W_rt hW gx tt_120 tt_4 (fun _ _ => rfl)
  have hM := hx_SX_rt (x := x) (t := 4) hM
  have gx := hx_rt_g (t := 4) gx
  have f_2 : (hx_rt h_5 x 4).2.1 x 0 = i1 := f_2
  have f_4 : (hx_rt h_5 x 4).2.1 x 1 = i2 := f_4
  have f_6 : (hx_rt h_5 x 4).2.1 x 2 = i3 := f_6
  have f_7 : (hx_rt h_5 x 4).2.1 x 7 = (0 : Int32) := f_7
  have f_8 : (hx_rt h_5 x 4).2.1 x 8 = (0 : Int32) := f_8
  generalize eh : hx_rt h_5 x 4 = h_9 at hT hW hM gx f_2 f_4 f_6 f_7 f_8
  exact hx_retv hx hb hr hlk hW ⟨hT, hM, gx, f_2, f_7, f_8, f_4, f_6⟩ dX4_init_19

def wNX1_init : Nat := 39841750331783499270806620732098434485851373765604512523155126574011154829922973741509671251130328067055022248666517854388823777687793486566497689622334536243263274
theorem wX1_init_c : hz_cd cX1_init wNX1_init 68 := ⟨by decide +kernel, by decide +kernel⟩
theorem dX1_init_0 : decode cX1_init 0 = .ok (.aload_n 0, 1) := dw_42 wX1_init_c rfl
theorem dX1_init_1 : decode cX1_init 1 = .ok (.invokespecial 3, 3) := dw_183 wX1_init_c 0 3 rfl rfl
theorem dX1_init_4 : decode cX1_init 4 = .ok (.aload_n 0, 1) := dw_42 wX1_init_c rfl
theorem dX1_init_5 : decode cX1_init 5 = .ok (.sipush 400, 3) := dw_17 wX1_init_c 1 144 rfl rfl rfl
theorem dX1_init_8 : decode cX1_init 8 = .ok (.newarray .int, 2) := by decide +kernel
theorem dX1_init_10 : decode cX1_init 10 = .ok (.putfield 9, 3) := dw_181 wX1_init_c 0 9 rfl rfl
theorem dX1_init_13 : decode cX1_init 13 = .ok (.aload_n 0, 1) := dw_42 wX1_init_c rfl
theorem dX1_init_14 : decode cX1_init 14 = .ok (.sipush 400, 3) := dw_17 wX1_init_c 1 144 rfl rfl rfl
theorem dX1_init_17 : decode cX1_init 17 = .ok (.newarray .int, 2) := by decide +kernel
theorem dX1_init_19 : decode cX1_init 19 = .ok (.putfield 15, 3) := dw_181 wX1_init_c 0 15 rfl rfl
theorem dX1_init_22 : decode cX1_init 22 = .ok (.aload_n 0, 1) := dw_42 wX1_init_c rfl
theorem dX1_init_23 : decode cX1_init 23 = .ok (.sipush 400, 3) := dw_17 wX1_init_c 1 144 rfl rfl rfl
theorem dX1_init_26 : decode cX1_init 26 = .ok (.newarray .int, 2) := by decide +kernel
theorem dX1_init_28 : decode cX1_init 28 = .ok (.putfield 18, 3) := dw_181 wX1_init_c 0 18 rfl rfl
theorem dX1_init_31 : decode cX1_init 31 = .ok (.aload_n 0, 1) := dw_42 wX1_init_c rfl
theorem dX1_init_32 : decode cX1_init 32 = .ok (.sipush 400, 3) := dw_17 wX1_init_c 1 144 rfl rfl rfl
theorem dX1_init_35 : decode cX1_init 35 = .ok (.newarray .int, 2) := by decide +kernel
theorem dX1_init_37 : decode cX1_init 37 = .ok (.putfield 21, 3) := dw_181 wX1_init_c 0 21 rfl rfl
theorem dX1_init_40 : decode cX1_init 40 = .ok (.aload_n 0, 1) := dw_42 wX1_init_c rfl
theorem dX1_init_41 : decode cX1_init 41 = .ok (.sipush 400, 3) := dw_17 wX1_init_c 1 144 rfl rfl rfl
theorem dX1_init_44 : decode cX1_init 44 = .ok (.newarray .int, 2) := by decide +kernel
theorem dX1_init_46 : decode cX1_init 46 = .ok (.putfield 24, 3) := dw_181 wX1_init_c 0 24 rfl rfl
theorem dX1_init_49 : decode cX1_init 49 = .ok (.aload_n 0, 1) := dw_42 wX1_init_c rfl
theorem dX1_init_50 : decode cX1_init 50 = .ok (.sipush 400, 3) := dw_17 wX1_init_c 1 144 rfl rfl rfl
theorem dX1_init_53 : decode cX1_init 53 = .ok (.newarray .int, 2) := by decide +kernel
theorem dX1_init_55 : decode cX1_init 55 = .ok (.putfield 27, 3) := dw_181 wX1_init_c 0 27 rfl rfl
theorem dX1_init_58 : decode cX1_init 58 = .ok (.aload_n 0, 1) := dw_42 wX1_init_c rfl
theorem dX1_init_59 : decode cX1_init 59 = .ok (.sipush 400, 3) := dw_17 wX1_init_c 1 144 rfl rfl rfl
theorem dX1_init_62 : decode cX1_init 62 = .ok (.newarray .boolean, 2) := by decide +kernel
theorem dX1_init_64 : decode cX1_init 64 = .ok (.putfield 30, 3) := dw_181 wX1_init_c 0 30 rfl rfl
theorem dX1_init_67 : decode cX1_init 67 = .ok (.return_, 1) := dw_177 wX1_init_c rfl
set_option maxHeartbeats 4000000 in
set_option maxRecDepth 100000 in
theorem t_X1_init (l : Launch) (dC : Nat → ClassId) (dI : Nat → Nat → Nat) (dA : Nat → ClassId) (L : List Nat) (h : hx_h) (sz : Nat) (x : Nat) (hT : hx_T T_tb L h) (gx : hx_g L h x 117) (hz : ∀ j, h.2.1 x j = 0 ∧ h.2.2 x j = none) : Met l yX1_init (Cond.code yX1_init cX1_init 1 none :: hx_all) ({ frames := 1, cells := 7, slots := 2800, locals := 12 }) (va_Pc [.ref x] (hx_B T_tb (P_ty dA) (dC, dI) vwCl L h sz)) (va_Qv (fun (u : List Nat × hx_h) => hx_T T_tb u.1 u.2 ∧ hx_S T_tb [(117, 1), (117, 2), (117, 3), (117, 4), (117, 5), (117, 6), (117, 7)] (hx_X L x) h u.1 u.2 ∧ hx_g u.1 u.2 x 1 ∧ u.2.2.1 x 0 = 0) (hx_E T_tb (P_ty dA) (dC, dI) vwCl (hx_A L sz)) (hx_A L sz)) 7 2800 (hx_A L sz) := by
  refine hx_met (lv := [(0, .ref x)]) (by decide +kernel) rfl (Nat.le_of_ble_eq_true rfl) rfl ?_
  intro p e s m below meth c hx hb hml hr hlk hts0 hown hin hsz hW ls hl
  have hts : ∀ w ∈ hx_all, w.before _ s = true := fun w hw => hts0 w (List.mem_cons_of_mem _ hw)
  have hown : s.vm.findClass "SmallCourt$Books" = some m.cls := hown
  have hin : meth.name = "<init>" := hin
  have hM : hx_S T_tb [(117, 1), (117, 2), (117, 3), (117, 4), (117, 5), (117, 6), (117, 7)] (hx_X L x) h L h := hx_SX_rf
  have hz : ∀ j, ([] : List Nat).contains j = false → h.2.1 x j = 0 ∧ h.2.2 x j = none := fun j _ => hz j
  refine lv_aload_n hx hb dX1_init_0 rfl (lv_at hl 0 rfl) ?_
  refine W.objInit hx hb hown (hts _ kw_195) (hts _ kw_117) (hts _ kw_118) rfl (by rw [hml]; exact hl.1) rfl dX1_init_1 (Nat.le_of_ble_eq_true rfl) (Nat.le_of_ble_eq_true rfl) ?_
  refine W.eq (g2 := F0 m 4 ls []) rfl ?_
  refine lv_aload_n hx hb dX1_init_4 rfl (lv_at hl 0 rfl) ?_
  refine lv_sipush (v := 400) hx hb dX1_init_5 ?o0 ?_
  case o0 => decide
  refine hk_newa hx hb hts hW 13 tt_13 (atype := .int) rfl kw_186 (tys := P_ty dA) (t0 := 0) rfl (fun _ => Iff.rfl) rfl (i := (400 : Int32)) ?o1 (Nat.le_of_ble_eq_true rfl) (Nat.le_of_ble_eq_true rfl) (Nat.le_of_ble_eq_true rfl) dX1_init_8 (fun q_2 H h_1 eh_1 hqq_2 hW hs gq_2 => ?_)
  case o1 => decide
  have nq_q_2 : ∀ a ∈ (hx_X L x), a ≠ q_2 := fun a ha z => hqq_2 (z ▸ (hM.1 a ha).1)
  have hT : hx_T T_tb (L ++ [q_2]) h_1 := ?o2
  case o2 =>
    rw [eh_1]
    exact hx_T_nw hT hqq_2 tt_13 rfl
  replace hz := hx_zr [] hz hs gx trivial rfl
  replace hM := hM.tr (hs.mono ?o3)
  case o3 => decide
  replace gx := gx.S hs
  refine hx_putrF hx hb hts hC_1 hown hW hT (hx_S.rf (M := [(117, 1)])) gx tt_117 1 ?o4 rfl kw_198 ⟨rfl, rfl, rfl⟩ rfl hin rfl (x := (some q_2)) ⟨fun _ z => (by cases z), fun q hq => (by cases hq; exact ⟨gq_2.1, by rw [gq_2.2]; decide⟩)⟩ rfl rfl rfl (List.mem_singleton.mpr rfl) dX1_init_10 (fun H locs h_3 eh_3 hW hT hs => ?_)
  case o4 => decide
  replace hz := hx_zr [1] hz hs gx trivial rfl
  replace hM := hM.tr (hs.mono ?o5)
  case o5 => decide
  replace gx := gx.S hs
  replace gq_2 := gq_2.S hs
  have f_4 : h_3.2.2 x 1 = (some q_2) := ?o6
  case o6 =>
    rw [eh_3]
    exact hx_pr_at _ _ _ _
  refine lv_aload_n hx hb dX1_init_13 rfl (lv_at hl 0 rfl) ?_
  refine lv_sipush (v := 400) hx hb dX1_init_14 ?o7 ?_
  case o7 => decide
  refine hk_newa hx hb hts hW 14 tt_14 (atype := .int) rfl kw_186 (tys := P_ty dA) (t0 := 0) rfl (fun _ => Iff.rfl) rfl (i := (400 : Int32)) ?o8 (Nat.le_of_ble_eq_true rfl) (Nat.le_of_ble_eq_true rfl) (Nat.le_of_ble_eq_true rfl) dX1_init_17 (fun q_6 H h_5 eh_5 hqq_6 hW hs gq_6 => ?_)
  case o8 => decide
  have nq_q_6 : ∀ a ∈ (hx_X L x), a ≠ q_6 := fun a ha z => hqq_6 (z ▸ (hM.1 a ha).1)
  have hT : hx_T T_tb ((L ++ [q_2]) ++ [q_6]) h_5 := ?o9
  case o9 =>
    rw [eh_5]
    exact hx_T_nw hT hqq_6 tt_14 rfl
  replace f_4 := (hs.o gx trivial rfl).2.trans f_4
  replace hz := hx_zr [1] hz hs gx trivial rfl
  replace hM := hM.tr (hs.mono ?o10)
  case o10 => decide
  replace gx := gx.S hs
  replace gq_2 := gq_2.S hs
  refine hx_putrF hx hb hts hC_1 hown hW hT (hx_S.rf (M := [(117, 2)])) gx tt_117 2 ?o11 rfl kw_199 ⟨rfl, rfl, rfl⟩ rfl hin rfl (x := (some q_6)) ⟨fun _ z => (by cases z), fun q hq => (by cases hq; exact ⟨gq_6.1, by rw [gq_6.2]; decide⟩)⟩ rfl rfl rfl (List.mem_singleton.mpr rfl) dX1_init_19 (fun H locs h_7 eh_7 hW hT hs => ?_)
  case o11 => decide
  replace f_4 := (hs.o gx trivial rfl).2.trans f_4
  replace hz := hx_zr [1, 2] hz hs gx trivial rfl
  replace hM := hM.tr (hs.mono ?o12)
  case o12 => decide
  replace gx := gx.S hs
  replace gq_2 := gq_2.S hs
  replace gq_6 := gq_6.S hs
  have f_8 : h_7.2.2 x 2 = (some q_6) := ?o13
  case o13 =>
    rw [eh_7]
    exact hx_pr_at _ _ _ _
  refine lv_aload_n hx hb dX1_init_22 rfl (lv_at hl 0 rfl) ?_
  refine lv_sipush (v := 400) hx hb dX1_init_23 ?o14 ?_
  case o14 => decide
  refine hk_newa hx hb hts hW 15 tt_15 (atype := .int) rfl kw_186 (tys := P_ty dA) (t0 := 0) rfl (fun _ => Iff.rfl) rfl (i := (400 : Int32)) ?o15 (Nat.le_of_ble_eq_true rfl) (Nat.le_of_ble_eq_true rfl) (Nat.le_of_ble_eq_true rfl) dX1_init_26 (fun q_10 H h_9 eh_9 hqq_10 hW hs gq_10 => ?_)
  case o15 => decide
  have nq_q_10 : ∀ a ∈ (hx_X L x), a ≠ q_10 := fun a ha z => hqq_10 (z ▸ (hM.1 a ha).1)
  have hT : hx_T T_tb (((L ++ [q_2]) ++ [q_6]) ++ [q_10]) h_9 := ?o16
  case o16 =>
    rw [eh_9]
    exact hx_T_nw hT hqq_10 tt_15 rfl
  replace f_4 := (hs.o gx trivial rfl).2.trans f_4
  replace f_8 := (hs.o gx trivial rfl).2.trans f_8
  replace hz := hx_zr [1, 2] hz hs gx trivial rfl
  replace hM := hM.tr (hs.mono ?o17)
  case o17 => decide
  replace gx := gx.S hs
  replace gq_2 := gq_2.S hs
  replace gq_6 := gq_6.S hs
  refine hx_putrF hx hb hts hC_1 hown hW hT (hx_S.rf (M := [(117, 3)])) gx tt_117 3 ?o18 rfl kw_200 ⟨rfl, rfl, rfl⟩ rfl hin rfl (x := (some q_10)) ⟨fun _ z => (by cases z), fun q hq => (by cases hq; exact ⟨gq_10.1, by rw [gq_10.2]; decide⟩)⟩ rfl rfl rfl (List.mem_singleton.mpr rfl) dX1_init_28 (fun H locs h_11 eh_11 hW hT hs => ?_)
  case o18 => decide
  replace f_4 := (hs.o gx trivial rfl).2.trans f_4
  replace f_8 := (hs.o gx trivial rfl).2.trans f_8
  replace hz := hx_zr [1, 2, 3] hz hs gx trivial rfl
  replace hM := hM.tr (hs.mono ?o19)
  case o19 => decide
  replace gx := gx.S hs
  replace gq_2 := gq_2.S hs
  replace gq_6 := gq_6.S hs
  replace gq_10 := gq_10.S hs
  have f_12 : h_11.2.2 x 3 = (some q_10) := ?o20
  case o20 =>
    rw [eh_11]
    exact hx_pr_at _ _ _ _
  refine lv_aload_n hx hb dX1_init_31 rfl (lv_at hl 0 rfl) ?_
  refine lv_sipush (v := 400) hx hb dX1_init_32 ?o21 ?_
  case o21 => decide
  refine hk_newa hx hb hts hW 16 tt_16 (atype := .int) rfl kw_186 (tys := P_ty dA) (t0 := 0) rfl (fun _ => Iff.rfl) rfl (i := (400 : Int32)) ?o22 (Nat.le_of_ble_eq_true rfl) (Nat.le_of_ble_eq_true rfl) (Nat.le_of_ble_eq_true rfl) dX1_init_35 (fun q_14 H h_13 eh_13 hqq_14 hW hs gq_14 => ?_)
  case o22 => decide
  have nq_q_14 : ∀ a ∈ (hx_X L x), a ≠ q_14 := fun a ha z => hqq_14 (z ▸ (hM.1 a ha).1)
  have hT : hx_T T_tb ((((L ++ [q_2]) ++ [q_6]) ++ [q_10]) ++ [q_14]) h_13 := ?o23
  case o23 =>
    rw [eh_13]
    exact hx_T_nw hT hqq_14 tt_16 rfl
  replace f_4 := (hs.o gx trivial rfl).2.trans f_4
  replace f_8 := (hs.o gx trivial rfl).2.trans f_8
  replace f_12 := (hs.o gx trivial rfl).2.trans f_12
  replace hz := hx_zr [1, 2, 3] hz hs gx trivial rfl
  replace hM := hM.tr (hs.mono ?o24)
  case o24 => decide
  replace gx := gx.S hs
  replace gq_2 := gq_2.S hs
  replace gq_6 := gq_6.S hs
  replace gq_10 := gq_10.S hs
  refine hx_putrF hx hb hts hC_1 hown hW hT (hx_S.rf (M := [(117, 4)])) gx tt_117 4 ?o25 rfl kw_201 ⟨rfl, rfl, rfl⟩ rfl hin rfl (x := (some q_14)) ⟨fun _ z => (by cases z), fun q hq => (by cases hq; exact ⟨gq_14.1, by rw [gq_14.2]; decide⟩)⟩ rfl rfl rfl (List.mem_singleton.mpr rfl) dX1_init_37 (fun H locs h_15 eh_15 hW hT hs => ?_)
  case o25 => decide
  replace f_4 := (hs.o gx trivial rfl).2.trans f_4
  replace f_8 := (hs.o gx trivial rfl).2.trans f_8
  replace f_12 := (hs.o gx trivial rfl).2.trans f_12
  replace hz := hx_zr [1, 2, 3, 4] hz hs gx trivial rfl
  replace hM := hM.tr (hs.mono ?o26)
  case o26 => decide
  replace gx := gx.S hs
  replace gq_2 := gq_2.S hs
  replace gq_6 := gq_6.S hs
  replace gq_10 := gq_10.S hs
  replace gq_14 := gq_14.S hs
  have f_16 : h_15.2.2 x 4 = (some q_14) := ?o27
  case o27 =>
    rw [eh_15]
    exact hx_pr_at _ _ _ _
  refine lv_aload_n hx hb dX1_init_40 rfl (lv_at hl 0 rfl) ?_
  refine lv_sipush (v := 400) hx hb dX1_init_41 ?o28 ?_
  case o28 => decide
  refine hk_newa hx hb hts hW 17 tt_17 (atype := .int) rfl kw_186 (tys := P_ty dA) (t0 := 0) rfl (fun _ => Iff.rfl) rfl (i := (400 : Int32)) ?o29 (Nat.le_of_ble_eq_true rfl) (Nat.le_of_ble_eq_true rfl) (Nat.le_of_ble_eq_true rfl) dX1_init_44 (fun q_18 H h_17 eh_17 hqq_18 hW hs gq_18 => ?_)
  case o29 => decide
  have nq_q_18 : ∀ a ∈ (hx_X L x), a ≠ q_18 := fun a ha z => hqq_18 (z ▸ (hM.1 a ha).1)
  have hT : hx_T T_tb (((((L ++ [q_2]) ++ [q_6]) ++ [q_10]) ++ [q_14]) ++ [q_18]) h_17 := ?o30
  case o30 =>
    rw [eh_17]
    exact hx_T_nw hT hqq_18 tt_17 rfl
  replace f_4 := (hs.o gx trivial rfl).2.trans f_4
  replace f_8 := (hs.o gx trivial rfl).2.trans f_8
  replace f_12 := (hs.o gx trivial rfl).2.trans f_12
  replace f_16 := (hs.o gx trivial rfl).2.trans f_16
  replace hz := hx_zr [1, 2, 3, 4] hz hs gx trivial rfl
  replace hM := hM.tr (hs.mono ?o31)
  case o31 => decide
  replace gx := gx.S hs
  replace gq_2 := gq_2.S hs
  replace gq_6 := gq_6.S hs
  replace gq_10 := gq_10.S hs
  replace gq_14 := gq_14.S hs
  refine hx_putrF hx hb hts hC_1 hown hW hT (hx_S.rf (M := [(117, 5)])) gx tt_117 5 ?o32 rfl kw_202 ⟨rfl, rfl, rfl⟩ rfl hin rfl (x := (some q_18)) ⟨fun _ z => (by cases z), fun q hq => (by cases hq; exact ⟨gq_18.1, by rw [gq_18.2]; decide⟩)⟩ rfl rfl rfl (List.mem_singleton.mpr rfl) dX1_init_46 (fun H locs h_19 eh_19 hW hT hs => ?_)
  case o32 => decide
  replace f_4 := (hs.o gx trivial rfl).2.trans f_4
  replace f_8 := (hs.o gx trivial rfl).2.trans f_8
  replace f_12 := (hs.o gx trivial rfl).2.trans f_12
  replace f_16 := (hs.o gx trivial rfl).2.trans f_16
  replace hz := hx_zr [1, 2, 3, 4, 5] hz hs gx trivial rfl
  replace hM := hM.tr (hs.mono ?o33)
  case o33 => decide
  replace gx := gx.S hs
  replace gq_2 := gq_2.S hs
  replace gq_6 := gq_6.S hs
  replace gq_10 := gq_10.S hs
  replace gq_14 := gq_14.S hs
  replace gq_18 := gq_18.S hs
  have f_20 : h_19.2.2 x 5 = (some q_18) := ?o34
  case o34 =>
    rw [eh_19]
    exact hx_pr_at _ _ _ _
  refine lv_aload_n hx hb dX1_init_49 rfl (lv_at hl 0 rfl) ?_
  refine lv_sipush (v := 400) hx hb dX1_init_50 ?o35 ?_
  case o35 => decide
  refine hk_newa hx hb hts hW 18 tt_18 (atype := .int) rfl kw_186 (tys := P_ty dA) (t0 := 0) rfl (fun _ => Iff.rfl) rfl (i := (400 : Int32)) ?o36 (Nat.le_of_ble_eq_true rfl) (Nat.le_of_ble_eq_true rfl) (Nat.le_of_ble_eq_true rfl) dX1_init_53 (fun q_22 H h_21 eh_21 hqq_22 hW hs gq_22 => ?_)
  case o36 => decide
  have nq_q_22 : ∀ a ∈ (hx_X L x), a ≠ q_22 := fun a ha z => hqq_22 (z ▸ (hM.1 a ha).1)
  have hT : hx_T T_tb ((((((L ++ [q_2]) ++ [q_6]) ++ [q_10]) ++ [q_14]) ++ [q_18]) ++ [q_22]) h_21 := ?o37
  case o37 =>
    rw [eh_21]
    exact hx_T_nw hT hqq_22 tt_18 rfl
  replace f_4 := (hs.o gx trivial rfl).2.trans f_4
  replace f_8 := (hs.o gx trivial rfl).2.trans f_8
  replace f_12 := (hs.o gx trivial rfl).2.trans f_12
  replace f_16 := (hs.o gx trivial rfl).2.trans f_16
  replace f_20 := (hs.o gx trivial rfl).2.trans f_20
  replace hz := hx_zr [1, 2, 3, 4, 5] hz hs gx trivial rfl
  replace hM := hM.tr (hs.mono ?o38)
  case o38 => decide
  replace gx := gx.S hs
  replace gq_2 := gq_2.S hs
  replace gq_6 := gq_6.S hs
  replace gq_10 := gq_10.S hs
  replace gq_14 := gq_14.S hs
  replace gq_18 := gq_18.S hs
  refine hx_putrF hx hb hts hC_1 hown hW hT (hx_S.rf (M := [(117, 6)])) gx tt_117 6 ?o39 rfl kw_203 ⟨rfl, rfl, rfl⟩ rfl hin rfl (x := (some q_22)) ⟨fun _ z => (by cases z), fun q hq => (by cases hq; exact ⟨gq_22.1, by rw [gq_22.2]; decide⟩)⟩ rfl rfl rfl (List.mem_singleton.mpr rfl) dX1_init_55 (fun H locs h_23 eh_23 hW hT hs => ?_)
  case o39 => decide
  replace f_4 := (hs.o gx trivial rfl).2.trans f_4
  replace f_8 := (hs.o gx trivial rfl).2.trans f_8
  replace f_12 := (hs.o gx trivial rfl).2.trans f_12
  replace f_16 := (hs.o gx trivial rfl).2.trans f_16
  replace f_20 := (hs.o gx trivial rfl).2.trans f_20
  replace hz := hx_zr [1, 2, 3, 4, 5, 6] hz hs gx trivial rfl
  replace hM := hM.tr (hs.mono ?o40)
  case o40 => decide
  replace gx := gx.S hs
  replace gq_2 := gq_2.S hs
  replace gq_6 := gq_6.S hs
  replace gq_10 := gq_10.S hs
  replace gq_14 := gq_14.S hs
  replace gq_18 := gq_18.S hs
  replace gq_22 := gq_22.S hs
  have f_24 : h_23.2.2 x 6 = (some q_22) := ?o41
  case o41 =>
    rw [eh_23]
    exact hx_pr_at _ _ _ _
  refine lv_aload_n hx hb dX1_init_58 rfl (lv_at hl 0 rfl) ?_
  refine lv_sipush (v := 400) hx hb dX1_init_59 ?o42 ?_
  case o42 => decide
  refine hk_newa hx hb hts hW 19 tt_19 (atype := .boolean) rfl kw_222 (tys := P_ty dA) (t0 := 2) rfl (fun _ => Iff.rfl) rfl (i := (400 : Int32)) ?o43 (Nat.le_of_ble_eq_true rfl) (Nat.le_of_ble_eq_true rfl) (Nat.le_of_ble_eq_true rfl) dX1_init_62 (fun q_26 H h_25 eh_25 hqq_26 hW hs gq_26 => ?_)
  case o43 => decide
  have nq_q_26 : ∀ a ∈ (hx_X L x), a ≠ q_26 := fun a ha z => hqq_26 (z ▸ (hM.1 a ha).1)
  have hT : hx_T T_tb (((((((L ++ [q_2]) ++ [q_6]) ++ [q_10]) ++ [q_14]) ++ [q_18]) ++ [q_22]) ++ [q_26]) h_25 := ?o44
  case o44 =>
    rw [eh_25]
    exact hx_T_nw hT hqq_26 tt_19 rfl
  replace f_4 := (hs.o gx trivial rfl).2.trans f_4
  replace f_8 := (hs.o gx trivial rfl).2.trans f_8
  replace f_12 := (hs.o gx trivial rfl).2.trans f_12
  replace f_16 := (hs.o gx trivial rfl).2.trans f_16
  replace f_20 := (hs.o gx trivial rfl).2.trans f_20
  replace f_24 := (hs.o gx trivial rfl).2.trans f_24
  replace hz := hx_zr [1, 2, 3, 4, 5, 6] hz hs gx trivial rfl
  replace hM := hM.tr (hs.mono ?o45)
  case o45 => decide
  replace gx := gx.S hs
  replace gq_2 := gq_2.S hs
  replace gq_6 := gq_6.S hs
  replace gq_10 := gq_10.S hs
  replace gq_14 := gq_14.S hs
  replace gq_18 := gq_18.S hs
  replace gq_22 := gq_22.S hs
  refine hx_putrF hx hb hts hC_1 hown hW hT (hx_S.rf (M := [(117, 7)])) gx tt_117 7 ?o46 rfl kw_204 ⟨rfl, rfl, rfl⟩ rfl hin rfl (x := (some q_26)) ⟨fun _ z => (by cases z), fun q hq => (by cases hq; exact ⟨gq_26.1, by rw [gq_26.2]; decide⟩)⟩ rfl rfl rfl (List.mem_singleton.mpr rfl) dX1_init_64 (fun H locs h_27 eh_27 hW hT hs => ?_)
  case o46 => decide
  replace f_4 := (hs.o gx trivial rfl).2.trans f_4
  replace f_8 := (hs.o gx trivial rfl).2.trans f_8
  replace f_12 := (hs.o gx trivial rfl).2.trans f_12
  replace f_16 := (hs.o gx trivial rfl).2.trans f_16
  replace f_20 := (hs.o gx trivial rfl).2.trans f_20
  replace f_24 := (hs.o gx trivial rfl).2.trans f_24
  replace hz := hx_zr [1, 2, 3, 4, 5, 6, 7] hz hs gx trivial rfl
  replace hM := hM.tr (hs.mono ?o47)
  case o47 => decide
  replace gx := gx.S hs
  replace gq_2 := gq_2.S hs
  replace gq_6 := gq_6.S hs
  replace gq_10 := gq_10.S hs
  replace gq_14 := gq_14.S hs
  replace gq_18 := gq_18.S hs
  replace gq_22 := gq_22.S hs
  replace gq_26 := gq_26.S hs
  have f_28 : h_27.2.2 x 7 = (some q_26) := ?o48
  case o48 =>
    rw [eh_27]
    exact hx_pr_at _ _ _ _
  have f_29 : h_27.2.1 x 0 = 0 := (hz 0 rfl).1
  have hF : hx_F (fun k f => hx_o (((((((L ++ [q_2]) ++ [q_6]) ++ [q_10]) ++ [q_14]) ++ [q_18]) ++ [q_22]) ++ [q_26]) h_27 f (h_27.2.1 x k) (h_27.2.2 x k)) T_f1 0 := ⟨hx_oi f_29 ?o49, hx_or f_4 gq_2 ?o50, hx_or f_8 gq_6 ?o51, hx_or f_12 gq_10 ?o52, hx_or f_16 gq_14 ?o53, hx_or f_20 gq_18 ?o54, hx_or f_24 gq_22 ?o55, hx_or f_28 gq_26 ?o56, trivial⟩
  case o49 => decide
  case o50 => decide
  case o51 => decide
  case o52 => decide
  case o53 => decide
  case o54 => decide
  case o55 => decide
  case o56 => decide
  have hT := hx_T_rt hT gx tt_1 rfl (hx_F_all hF)
  have hW := hx_W_rt hW gx tt_117 tt_1 (fun _ _ => rfl)
  have hM := hx_SX_rt (x := x) (t := 1) hM
  have gq_2 := hx_rt_o (t := 1) gq_2 (gq_2.ne gx ?o57)
  case o57 => decide
  have gq_6 := hx_rt_o (t := 1) gq_6 (gq_6.ne gx ?o58)
  case o58 => decide
  have gq_10 := hx_rt_o (t := 1) gq_10 (gq_10.ne gx ?o59)
  case o59 => decide
  have gq_14 := hx_rt_o (t := 1) gq_14 (gq_14.ne gx ?o60)
  case o60 => decide
  have gq_18 := hx_rt_o (t := 1) gq_18 (gq_18.ne gx ?o61)
  case o61 => decide
  have gq_22 := hx_rt_o (t := 1) gq_22 (gq_22.ne gx ?o62)
  case o62 => decide
  have gq_26 := hx_rt_o (t := 1) gq_26 (gq_26.ne gx ?o63)
  case o63 => decide
  have gx := hx_rt_g (t := 1) gx
  have f_4 : (hx_rt h_27 x 1).2.2 x 1 = some q_2 := f_4
  have f_8 : (hx_rt h_27 x 1).2.2 x 2 = some q_6 := f_8
  have f_12 : (hx_rt h_27 x 1).2.2 x 3 = some q_10 := f_12
  have f_16 : (hx_rt h_27 x 1).2.2 x 4 = some q_14 := f_16
  have f_20 : (hx_rt h_27 x 1).2.2 x 5 = some q_18 := f_20
  have f_24 : (hx_rt h_27 x 1).2.2 x 6 = some q_22 := f_24
  have f_28 : (hx_rt h_27 x 1).2.2 x 7 = some q_26 := f_28
  have f_29 : (hx_rt h_27 x 1).2.1 x 0 = (0 : Int32) := f_29
  generalize eh : hx_rt h_27 x 1 = h_30 at hT hW hM gx gq_2 gq_6 gq_10 gq_14 gq_18 gq_22 gq_26 f_4 f_8 f_12 f_16 f_20 f_24 f_28 f_29
  refine W.widen (k := 7) (n := 2800) (Nat.le_of_ble_eq_true rfl) (Nat.le_of_ble_eq_true rfl) ?_
  exact hx_retv hx hb hr hlk hW ⟨hT, hM, gx, f_29⟩ dX1_init_67

def wNX3_init : Nat := 1786329461767022515613132656919836270670839761883963750441197262474314229877155001476858205585080617793816364264730965802
theorem wX3_init_c : hz_cd cX3_init wNX3_init 50 := ⟨by decide +kernel, by decide +kernel⟩
theorem dX3_init_0 : decode cX3_init 0 = .ok (.aload_n 0, 1) := dw_42 wX3_init_c rfl
theorem dX3_init_1 : decode cX3_init 1 = .ok (.invokespecial 3, 3) := dw_183 wX3_init_c 0 3 rfl rfl
theorem dX3_init_4 : decode cX3_init 4 = .ok (.aload_n 0, 1) := dw_42 wX3_init_c rfl
theorem dX3_init_5 : decode cX3_init 5 = .ok (.sipush 600, 3) := dw_17 wX3_init_c 2 88 rfl rfl rfl
theorem dX3_init_8 : decode cX3_init 8 = .ok (.newarray .int, 2) := by decide +kernel
theorem dX3_init_10 : decode cX3_init 10 = .ok (.putfield 9, 3) := dw_181 wX3_init_c 0 9 rfl rfl
theorem dX3_init_13 : decode cX3_init 13 = .ok (.aload_n 0, 1) := dw_42 wX3_init_c rfl
theorem dX3_init_14 : decode cX3_init 14 = .ok (.sipush 600, 3) := dw_17 wX3_init_c 2 88 rfl rfl rfl
theorem dX3_init_17 : decode cX3_init 17 = .ok (.newarray .int, 2) := by decide +kernel
theorem dX3_init_19 : decode cX3_init 19 = .ok (.putfield 15, 3) := dw_181 wX3_init_c 0 15 rfl rfl
theorem dX3_init_22 : decode cX3_init 22 = .ok (.aload_n 0, 1) := dw_42 wX3_init_c rfl
theorem dX3_init_23 : decode cX3_init 23 = .ok (.sipush 600, 3) := dw_17 wX3_init_c 2 88 rfl rfl rfl
theorem dX3_init_26 : decode cX3_init 26 = .ok (.newarray .int, 2) := by decide +kernel
theorem dX3_init_28 : decode cX3_init 28 = .ok (.putfield 18, 3) := dw_181 wX3_init_c 0 18 rfl rfl
theorem dX3_init_31 : decode cX3_init 31 = .ok (.aload_n 0, 1) := dw_42 wX3_init_c rfl
theorem dX3_init_32 : decode cX3_init 32 = .ok (.sipush 600, 3) := dw_17 wX3_init_c 2 88 rfl rfl rfl
theorem dX3_init_35 : decode cX3_init 35 = .ok (.newarray .int, 2) := by decide +kernel
theorem dX3_init_37 : decode cX3_init 37 = .ok (.putfield 21, 3) := dw_181 wX3_init_c 0 21 rfl rfl
theorem dX3_init_40 : decode cX3_init 40 = .ok (.aload_n 0, 1) := dw_42 wX3_init_c rfl
theorem dX3_init_41 : decode cX3_init 41 = .ok (.sipush 600, 3) := dw_17 wX3_init_c 2 88 rfl rfl rfl
theorem dX3_init_44 : decode cX3_init 44 = .ok (.newarray .int, 2) := by decide +kernel
theorem dX3_init_46 : decode cX3_init 46 = .ok (.putfield 24, 3) := dw_181 wX3_init_c 0 24 rfl rfl
theorem dX3_init_49 : decode cX3_init 49 = .ok (.return_, 1) := dw_177 wX3_init_c rfl
def wNX5_init : Nat := 7673242000138693454733203114367239705792195774872142126822242935568265073700172868428896642180913821405633419422313814986630149930
theorem wX5_init_c : hz_cd cX5_init wNX5_init 54 := ⟨by decide +kernel, by decide +kernel⟩
theorem dX5_init_0 : decode cX5_init 0 = .ok (.aload_n 0, 1) := dw_42 wX5_init_c rfl
theorem dX5_init_1 : decode cX5_init 1 = .ok (.invokespecial 3, 3) := dw_183 wX5_init_c 0 3 rfl rfl
theorem dX5_init_4 : decode cX5_init 4 = .ok (.aload_n 0, 1) := dw_42 wX5_init_c rfl
theorem dX5_init_5 : decode cX5_init 5 = .ok (.iconst 4, 1) := dw_7 wX5_init_c rfl
theorem dX5_init_6 : decode cX5_init 6 = .ok (.newarray .int, 2) := by decide +kernel
theorem dX5_init_8 : decode cX5_init 8 = .ok (.putfield 9, 3) := dw_181 wX5_init_c 0 9 rfl rfl
theorem dX5_init_11 : decode cX5_init 11 = .ok (.aload_n 0, 1) := dw_42 wX5_init_c rfl
theorem dX5_init_12 : decode cX5_init 12 = .ok (.iconst 4, 1) := dw_7 wX5_init_c rfl
theorem dX5_init_13 : decode cX5_init 13 = .ok (.newarray .int, 2) := by decide +kernel
theorem dX5_init_15 : decode cX5_init 15 = .ok (.putfield 15, 3) := dw_181 wX5_init_c 0 15 rfl rfl
theorem dX5_init_18 : decode cX5_init 18 = .ok (.aload_n 0, 1) := dw_42 wX5_init_c rfl
theorem dX5_init_19 : decode cX5_init 19 = .ok (.iconst 4, 1) := dw_7 wX5_init_c rfl
theorem dX5_init_20 : decode cX5_init 20 = .ok (.newarray .int, 2) := by decide +kernel
theorem dX5_init_22 : decode cX5_init 22 = .ok (.putfield 18, 3) := dw_181 wX5_init_c 0 18 rfl rfl
theorem dX5_init_25 : decode cX5_init 25 = .ok (.aload_n 0, 1) := dw_42 wX5_init_c rfl
theorem dX5_init_26 : decode cX5_init 26 = .ok (.iconst 4, 1) := dw_7 wX5_init_c rfl
theorem dX5_init_27 : decode cX5_init 27 = .ok (.newarray .int, 2) := by decide +kernel
theorem dX5_init_29 : decode cX5_init 29 = .ok (.putfield 21, 3) := dw_181 wX5_init_c 0 21 rfl rfl
theorem dX5_init_32 : decode cX5_init 32 = .ok (.aload_n 0, 1) := dw_42 wX5_init_c rfl
theorem dX5_init_33 : decode cX5_init 33 = .ok (.iconst 4, 1) := dw_7 wX5_init_c rfl
theorem dX5_init_34 : decode cX5_init 34 = .ok (.newarray .int, 2) := by decide +kernel
theorem dX5_init_36 : decode cX5_init 36 = .ok (.putfield 24, 3) := dw_181 wX5_init_c 0 24 rfl rfl
theorem dX5_init_39 : decode cX5_init 39 = .ok (.aload_n 0, 1) := dw_42 wX5_init_c rfl
theorem dX5_init_40 : decode cX5_init 40 = .ok (.iconst 4, 1) := dw_7 wX5_init_c rfl
theorem dX5_init_41 : decode cX5_init 41 = .ok (.newarray .int, 2) := by decide +kernel
theorem dX5_init_43 : decode cX5_init 43 = .ok (.putfield 27, 3) := dw_181 wX5_init_c 0 27 rfl rfl
theorem dX5_init_46 : decode cX5_init 46 = .ok (.aload_n 0, 1) := dw_42 wX5_init_c rfl
theorem dX5_init_47 : decode cX5_init 47 = .ok (.iconst 4, 1) := dw_7 wX5_init_c rfl
theorem dX5_init_48 : decode cX5_init 48 = .ok (.newarray .int, 2) := by decide +kernel
theorem dX5_init_50 : decode cX5_init 50 = .ok (.putfield 30, 3) := dw_181 wX5_init_c 0 30 rfl rfl
theorem dX5_init_53 : decode cX5_init 53 = .ok (.return_, 1) := dw_177 wX5_init_c rfl
set_option maxHeartbeats 4000000 in
set_option maxRecDepth 100000 in
theorem t_X5_init (l : Launch) (dC : Nat → ClassId) (dI : Nat → Nat → Nat) (dA : Nat → ClassId) (L : List Nat) (h : hx_h) (sz : Nat) (x : Nat) (hT : hx_T T_tb L h) (gx : hx_g L h x 121) (hz : ∀ j, h.2.1 x j = 0 ∧ h.2.2 x j = none) : Met l yX5_init (Cond.code yX5_init cX5_init 1 none :: hx_all) ({ frames := 1, cells := 7, slots := 28, locals := 12 }) (va_Pc [.ref x] (hx_B T_tb (P_ty dA) (dC, dI) vwCl L h sz)) (va_Qv (fun (u : List Nat × hx_h) => hx_T T_tb u.1 u.2 ∧ hx_S T_tb [(121, 2), (121, 3), (121, 4), (121, 5), (121, 6), (121, 7), (121, 8)] (hx_X L x) h u.1 u.2 ∧ hx_g u.1 u.2 x 5) (hx_E T_tb (P_ty dA) (dC, dI) vwCl (hx_A L sz)) (hx_A L sz)) 7 28 (hx_A L sz) := by
  refine hx_met (lv := [(0, .ref x)]) (by decide +kernel) rfl (Nat.le_of_ble_eq_true rfl) rfl ?_
  intro p e s m below meth c hx hb hml hr hlk hts0 hown hin hsz hW ls hl
  have hts : ∀ w ∈ hx_all, w.before _ s = true := fun w hw => hts0 w (List.mem_cons_of_mem _ hw)
  have hown : s.vm.findClass "SmallCourt$Plan" = some m.cls := hown
  have hin : meth.name = "<init>" := hin
  have hM : hx_S T_tb [(121, 2), (121, 3), (121, 4), (121, 5), (121, 6), (121, 7), (121, 8)] (hx_X L x) h L h := hx_SX_rf
  have hz : ∀ j, ([] : List Nat).contains j = false → h.2.1 x j = 0 ∧ h.2.2 x j = none := fun j _ => hz j
  refine lv_aload_n hx hb dX5_init_0 rfl (lv_at hl 0 rfl) ?_
  refine W.objInit hx hb hown (hts _ kw_257) (hts _ kw_117) (hts _ kw_118) rfl (by rw [hml]; exact hl.1) rfl dX5_init_1 (Nat.le_of_ble_eq_true rfl) (Nat.le_of_ble_eq_true rfl) ?_
  refine W.eq (g2 := F0 m 4 ls []) rfl ?_
  refine lv_aload_n hx hb dX5_init_4 rfl (lv_at hl 0 rfl) ?_
  refine lv_iconst (v := 4) hx hb dX5_init_5 ?o0 ?_
  case o0 => decide
  refine hk_newa hx hb hts hW 27 tt_27 (atype := .int) rfl kw_186 (tys := P_ty dA) (t0 := 0) rfl (fun _ => Iff.rfl) rfl (i := (4 : Int32)) ?o1 (Nat.le_of_ble_eq_true rfl) (Nat.le_of_ble_eq_true rfl) (Nat.le_of_ble_eq_true rfl) dX5_init_6 (fun q_2 H h_1 eh_1 hqq_2 hW hs gq_2 => ?_)
  case o1 => decide
  have nq_q_2 : ∀ a ∈ (hx_X L x), a ≠ q_2 := fun a ha z => hqq_2 (z ▸ (hM.1 a ha).1)
  have hT : hx_T T_tb (L ++ [q_2]) h_1 := ?o2
  case o2 =>
    rw [eh_1]
    exact hx_T_nw hT hqq_2 tt_27 rfl
  replace hz := hx_zr [] hz hs gx trivial rfl
  replace hM := hM.tr (hs.mono ?o3)
  case o3 => decide
  replace gx := gx.S hs
  refine hx_putrF hx hb hts hC_5 hown hW hT (hx_S.rf (M := [(121, 2)])) gx tt_121 2 ?o4 rfl kw_262 ⟨rfl, rfl, rfl⟩ rfl hin rfl (x := (some q_2)) ⟨fun _ z => (by cases z), fun q hq => (by cases hq; exact ⟨gq_2.1, by rw [gq_2.2]; decide⟩)⟩ rfl rfl rfl (List.mem_singleton.mpr rfl) dX5_init_8 (fun H locs h_3 eh_3 hW hT hs => ?_)
  case o4 => decide
  replace hz := hx_zr [2] hz hs gx trivial rfl
  replace hM := hM.tr (hs.mono ?o5)
  case o5 => decide
  replace gx := gx.S hs
  replace gq_2 := gq_2.S hs
  have f_4 : h_3.2.2 x 2 = (some q_2) := ?o6
  case o6 =>
    rw [eh_3]
    exact hx_pr_at _ _ _ _
  refine lv_aload_n hx hb dX5_init_11 rfl (lv_at hl 0 rfl) ?_
  refine lv_iconst (v := 4) hx hb dX5_init_12 ?o7 ?_
  case o7 => decide
  refine hk_newa hx hb hts hW 28 tt_28 (atype := .int) rfl kw_186 (tys := P_ty dA) (t0 := 0) rfl (fun _ => Iff.rfl) rfl (i := (4 : Int32)) ?o8 (Nat.le_of_ble_eq_true rfl) (Nat.le_of_ble_eq_true rfl) (Nat.le_of_ble_eq_true rfl) dX5_init_13 (fun q_6 H h_5 eh_5 hqq_6 hW hs gq_6 => ?_)
  case o8 => decide
  have nq_q_6 : ∀ a ∈ (hx_X L x), a ≠ q_6 := fun a ha z => hqq_6 (z ▸ (hM.1 a ha).1)
  have hT : hx_T T_tb ((L ++ [q_2]) ++ [q_6]) h_5 := ?o9
  case o9 =>
    rw [eh_5]
    exact hx_T_nw hT hqq_6 tt_28 rfl
  replace f_4 := (hs.o gx trivial rfl).2.trans f_4
  replace hz := hx_zr [2] hz hs gx trivial rfl
  replace hM := hM.tr (hs.mono ?o10)
  case o10 => decide
  replace gx := gx.S hs
  replace gq_2 := gq_2.S hs
  refine hx_putrF hx hb hts hC_5 hown hW hT (hx_S.rf (M := [(121, 3)])) gx tt_121 3 ?o11 rfl kw_264 ⟨rfl, rfl, rfl⟩ rfl hin rfl (x := (some q_6)) ⟨fun _ z => (by cases z), fun q hq => (by cases hq; exact ⟨gq_6.1, by rw [gq_6.2]; decide⟩)⟩ rfl rfl rfl (List.mem_singleton.mpr rfl) dX5_init_15 (fun H locs h_7 eh_7 hW hT hs => ?_)
  case o11 => decide
  replace f_4 := (hs.o gx trivial rfl).2.trans f_4
  replace hz := hx_zr [2, 3] hz hs gx trivial rfl
  replace hM := hM.tr (hs.mono ?o12)
  case o12 => decide
  replace gx := gx.S hs
  replace gq_2 := gq_2.S hs
  replace gq_6 := gq_6.S hs
  have f_8 : h_7.2.2 x 3 = (some q_6) := ?o13
  case o13 =>
    rw [eh_7]
    exact hx_pr_at _ _ _ _
  refine lv_aload_n hx hb dX5_init_18 rfl (lv_at hl 0 rfl) ?_
  refine lv_iconst (v := 4) hx hb dX5_init_19 ?o14 ?_
  case o14 => decide
  refine hk_newa hx hb hts hW 29 tt_29 (atype := .int) rfl kw_186 (tys := P_ty dA) (t0 := 0) rfl (fun _ => Iff.rfl) rfl (i := (4 : Int32)) ?o15 (Nat.le_of_ble_eq_true rfl) (Nat.le_of_ble_eq_true rfl) (Nat.le_of_ble_eq_true rfl) dX5_init_20 (fun q_10 H h_9 eh_9 hqq_10 hW hs gq_10 => ?_)
  case o15 => decide
  have nq_q_10 : ∀ a ∈ (hx_X L x), a ≠ q_10 := fun a ha z => hqq_10 (z ▸ (hM.1 a ha).1)
  have hT : hx_T T_tb (((L ++ [q_2]) ++ [q_6]) ++ [q_10]) h_9 := ?o16
  case o16 =>
    rw [eh_9]
    exact hx_T_nw hT hqq_10 tt_29 rfl
  replace f_4 := (hs.o gx trivial rfl).2.trans f_4
  replace f_8 := (hs.o gx trivial rfl).2.trans f_8
  replace hz := hx_zr [2, 3] hz hs gx trivial rfl
  replace hM := hM.tr (hs.mono ?o17)
  case o17 => decide
  replace gx := gx.S hs
  replace gq_2 := gq_2.S hs
  replace gq_6 := gq_6.S hs
  refine hx_putrF hx hb hts hC_5 hown hW hT (hx_S.rf (M := [(121, 4)])) gx tt_121 4 ?o18 rfl kw_266 ⟨rfl, rfl, rfl⟩ rfl hin rfl (x := (some q_10)) ⟨fun _ z => (by cases z), fun q hq => (by cases hq; exact ⟨gq_10.1, by rw [gq_10.2]; decide⟩)⟩ rfl rfl rfl (List.mem_singleton.mpr rfl) dX5_init_22 (fun H locs h_11 eh_11 hW hT hs => ?_)
  case o18 => decide
  replace f_4 := (hs.o gx trivial rfl).2.trans f_4
  replace f_8 := (hs.o gx trivial rfl).2.trans f_8
  replace hz := hx_zr [2, 3, 4] hz hs gx trivial rfl
  replace hM := hM.tr (hs.mono ?o19)
  case o19 => decide
  replace gx := gx.S hs
  replace gq_2 := gq_2.S hs
  replace gq_6 := gq_6.S hs
  replace gq_10 := gq_10.S hs
  have f_12 : h_11.2.2 x 4 = (some q_10) := ?o20
  case o20 =>
    rw [eh_11]
    exact hx_pr_at _ _ _ _
  refine lv_aload_n hx hb dX5_init_25 rfl (lv_at hl 0 rfl) ?_
  refine lv_iconst (v := 4) hx hb dX5_init_26 ?o21 ?_
  case o21 => decide
  refine hk_newa hx hb hts hW 30 tt_30 (atype := .int) rfl kw_186 (tys := P_ty dA) (t0 := 0) rfl (fun _ => Iff.rfl) rfl (i := (4 : Int32)) ?o22 (Nat.le_of_ble_eq_true rfl) (Nat.le_of_ble_eq_true rfl) (Nat.le_of_ble_eq_true rfl) dX5_init_27 (fun q_14 H h_13 eh_13 hqq_14 hW hs gq_14 => ?_)
  case o22 => decide
  have nq_q_14 : ∀ a ∈ (hx_X L x), a ≠ q_14 := fun a ha z => hqq_14 (z ▸ (hM.1 a ha).1)
  have hT : hx_T T_tb ((((L ++ [q_2]) ++ [q_6]) ++ [q_10]) ++ [q_14]) h_13 := ?o23
  case o23 =>
    rw [eh_13]
    exact hx_T_nw hT hqq_14 tt_30 rfl
  replace f_4 := (hs.o gx trivial rfl).2.trans f_4
  replace f_8 := (hs.o gx trivial rfl).2.trans f_8
  replace f_12 := (hs.o gx trivial rfl).2.trans f_12
  replace hz := hx_zr [2, 3, 4] hz hs gx trivial rfl
  replace hM := hM.tr (hs.mono ?o24)
  case o24 => decide
  replace gx := gx.S hs
  replace gq_2 := gq_2.S hs
  replace gq_6 := gq_6.S hs
  replace gq_10 := gq_10.S hs
  refine hx_putrF hx hb hts hC_5 hown hW hT (hx_S.rf (M := [(121, 5)])) gx tt_121 5 ?o25 rfl kw_268 ⟨rfl, rfl, rfl⟩ rfl hin rfl (x := (some q_14)) ⟨fun _ z => (by cases z), fun q hq => (by cases hq; exact ⟨gq_14.1, by rw [gq_14.2]; decide⟩)⟩ rfl rfl rfl (List.mem_singleton.mpr rfl) dX5_init_29 (fun H locs h_15 eh_15 hW hT hs => ?_)
  case o25 => decide
  replace f_4 := (hs.o gx trivial rfl).2.trans f_4
  replace f_8 := (hs.o gx trivial rfl).2.trans f_8
  replace f_12 := (hs.o gx trivial rfl).2.trans f_12
  replace hz := hx_zr [2, 3, 4, 5] hz hs gx trivial rfl
  replace hM := hM.tr (hs.mono ?o26)
  case o26 => decide
  replace gx := gx.S hs
  replace gq_2 := gq_2.S hs
  replace gq_6 := gq_6.S hs
  replace gq_10 := gq_10.S hs
  replace gq_14 := gq_14.S hs
  have f_16 : h_15.2.2 x 5 = (some q_14) := ?o27
  case o27 =>
    rw [eh_15]
    exact hx_pr_at _ _ _ _
  refine lv_aload_n hx hb dX5_init_32 rfl (lv_at hl 0 rfl) ?_
  refine lv_iconst (v := 4) hx hb dX5_init_33 ?o28 ?_
  case o28 => decide
  refine hk_newa hx hb hts hW 31 tt_31 (atype := .int) rfl kw_186 (tys := P_ty dA) (t0 := 0) rfl (fun _ => Iff.rfl) rfl (i := (4 : Int32)) ?o29 (Nat.le_of_ble_eq_true rfl) (Nat.le_of_ble_eq_true rfl) (Nat.le_of_ble_eq_true rfl) dX5_init_34 (fun q_18 H h_17 eh_17 hqq_18 hW hs gq_18 => ?_)
  case o29 => decide
  have nq_q_18 : ∀ a ∈ (hx_X L x), a ≠ q_18 := fun a ha z => hqq_18 (z ▸ (hM.1 a ha).1)
  have hT : hx_T T_tb (((((L ++ [q_2]) ++ [q_6]) ++ [q_10]) ++ [q_14]) ++ [q_18]) h_17 := ?o30
  case o30 =>
    rw [eh_17]
    exact hx_T_nw hT hqq_18 tt_31 rfl
  replace f_4 := (hs.o gx trivial rfl).2.trans f_4
  replace f_8 := (hs.o gx trivial rfl).2.trans f_8
  replace f_12 := (hs.o gx trivial rfl).2.trans f_12
  replace f_16 := (hs.o gx trivial rfl).2.trans f_16
  replace hz := hx_zr [2, 3, 4, 5] hz hs gx trivial rfl
  replace hM := hM.tr (hs.mono ?o31)
  case o31 => decide
  replace gx := gx.S hs
  replace gq_2 := gq_2.S hs
  replace gq_6 := gq_6.S hs
  replace gq_10 := gq_10.S hs
  replace gq_14 := gq_14.S hs
  refine hx_putrF hx hb hts hC_5 hown hW hT (hx_S.rf (M := [(121, 6)])) gx tt_121 6 ?o32 rfl kw_269 ⟨rfl, rfl, rfl⟩ rfl hin rfl (x := (some q_18)) ⟨fun _ z => (by cases z), fun q hq => (by cases hq; exact ⟨gq_18.1, by rw [gq_18.2]; decide⟩)⟩ rfl rfl rfl (List.mem_singleton.mpr rfl) dX5_init_36 (fun H locs h_19 eh_19 hW hT hs => ?_)
  case o32 => decide
  replace f_4 := (hs.o gx trivial rfl).2.trans f_4
  replace f_8 := (hs.o gx trivial rfl).2.trans f_8
  replace f_12 := (hs.o gx trivial rfl).2.trans f_12
  replace f_16 := (hs.o gx trivial rfl).2.trans f_16
  replace hz := hx_zr [2, 3, 4, 5, 6] hz hs gx trivial rfl
  replace hM := hM.tr (hs.mono ?o33)
  case o33 => decide
  replace gx := gx.S hs
  replace gq_2 := gq_2.S hs
  replace gq_6 := gq_6.S hs
  replace gq_10 := gq_10.S hs
  replace gq_14 := gq_14.S hs
  replace gq_18 := gq_18.S hs
  have f_20 : h_19.2.2 x 6 = (some q_18) := ?o34
  case o34 =>
    rw [eh_19]
    exact hx_pr_at _ _ _ _
  refine lv_aload_n hx hb dX5_init_39 rfl (lv_at hl 0 rfl) ?_
  refine lv_iconst (v := 4) hx hb dX5_init_40 ?o35 ?_
  case o35 => decide
  refine hk_newa hx hb hts hW 32 tt_32 (atype := .int) rfl kw_186 (tys := P_ty dA) (t0 := 0) rfl (fun _ => Iff.rfl) rfl (i := (4 : Int32)) ?o36 (Nat.le_of_ble_eq_true rfl) (Nat.le_of_ble_eq_true rfl) (Nat.le_of_ble_eq_true rfl) dX5_init_41 (fun q_22 H h_21 eh_21 hqq_22 hW hs gq_22 => ?_)
  case o36 => decide
  have nq_q_22 : ∀ a ∈ (hx_X L x), a ≠ q_22 := fun a ha z => hqq_22 (z ▸ (hM.1 a ha).1)
  have hT : hx_T T_tb ((((((L ++ [q_2]) ++ [q_6]) ++ [q_10]) ++ [q_14]) ++ [q_18]) ++ [q_22]) h_21 := ?o37
  case o37 =>
    rw [eh_21]
    exact hx_T_nw hT hqq_22 tt_32 rfl
  replace f_4 := (hs.o gx trivial rfl).2.trans f_4
  replace f_8 := (hs.o gx trivial rfl).2.trans f_8
  replace f_12 := (hs.o gx trivial rfl).2.trans f_12
  replace f_16 := (hs.o gx trivial rfl).2.trans f_16
  replace f_20 := (hs.o gx trivial rfl).2.trans f_20
  replace hz := hx_zr [2, 3, 4, 5, 6] hz hs gx trivial rfl
  replace hM := hM.tr (hs.mono ?o38)
  case o38 => decide
  replace gx := gx.S hs
  replace gq_2 := gq_2.S hs
  replace gq_6 := gq_6.S hs
  replace gq_10 := gq_10.S hs
  replace gq_14 := gq_14.S hs
  replace gq_18 := gq_18.S hs
  refine hx_putrF hx hb hts hC_5 hown hW hT (hx_S.rf (M := [(121, 7)])) gx tt_121 7 ?o39 rfl kw_270 ⟨rfl, rfl, rfl⟩ rfl hin rfl (x := (some q_22)) ⟨fun _ z => (by cases z), fun q hq => (by cases hq; exact ⟨gq_22.1, by rw [gq_22.2]; decide⟩)⟩ rfl rfl rfl (List.mem_singleton.mpr rfl) dX5_init_43 (fun H locs h_23 eh_23 hW hT hs => ?_)
  case o39 => decide
  replace f_4 := (hs.o gx trivial rfl).2.trans f_4
  replace f_8 := (hs.o gx trivial rfl).2.trans f_8
  replace f_12 := (hs.o gx trivial rfl).2.trans f_12
  replace f_16 := (hs.o gx trivial rfl).2.trans f_16
  replace f_20 := (hs.o gx trivial rfl).2.trans f_20
  replace hz := hx_zr [2, 3, 4, 5, 6, 7] hz hs gx trivial rfl
  replace hM := hM.tr (hs.mono ?o40)
  case o40 => decide
  replace gx := gx.S hs
  replace gq_2 := gq_2.S hs
  replace gq_6 := gq_6.S hs
  replace gq_10 := gq_10.S hs
  replace gq_14 := gq_14.S hs
  replace gq_18 := gq_18.S hs
  replace gq_22 := gq_22.S hs
  have f_24 : h_23.2.2 x 7 = (some q_22) := ?o41
  case o41 =>
    rw [eh_23]
    exact hx_pr_at _ _ _ _
  refine lv_aload_n hx hb dX5_init_46 rfl (lv_at hl 0 rfl) ?_
  refine lv_iconst (v := 4) hx hb dX5_init_47 ?o42 ?_
  case o42 => decide
  refine hk_newa hx hb hts hW 33 tt_33 (atype := .int) rfl kw_186 (tys := P_ty dA) (t0 := 0) rfl (fun _ => Iff.rfl) rfl (i := (4 : Int32)) ?o43 (Nat.le_of_ble_eq_true rfl) (Nat.le_of_ble_eq_true rfl) (Nat.le_of_ble_eq_true rfl) dX5_init_48 (fun q_26 H h_25 eh_25 hqq_26 hW hs gq_26 => ?_)
  case o43 => decide
  have nq_q_26 : ∀ a ∈ (hx_X L x), a ≠ q_26 := fun a ha z => hqq_26 (z ▸ (hM.1 a ha).1)
  have hT : hx_T T_tb (((((((L ++ [q_2]) ++ [q_6]) ++ [q_10]) ++ [q_14]) ++ [q_18]) ++ [q_22]) ++ [q_26]) h_25 := ?o44
  case o44 =>
    rw [eh_25]
    exact hx_T_nw hT hqq_26 tt_33 rfl
  replace f_4 := (hs.o gx trivial rfl).2.trans f_4
  replace f_8 := (hs.o gx trivial rfl).2.trans f_8
  replace f_12 := (hs.o gx trivial rfl).2.trans f_12
  replace f_16 := (hs.o gx trivial rfl).2.trans f_16
  replace f_20 := (hs.o gx trivial rfl).2.trans f_20
  replace f_24 := (hs.o gx trivial rfl).2.trans f_24
  replace hz := hx_zr [2, 3, 4, 5, 6, 7] hz hs gx trivial rfl
  replace hM := hM.tr (hs.mono ?o45)
  case o45 => decide
  replace gx := gx.S hs
  replace gq_2 := gq_2.S hs
  replace gq_6 := gq_6.S hs
  replace gq_10 := gq_10.S hs
  replace gq_14 := gq_14.S hs
  replace gq_18 := gq_18.S hs
  replace gq_22 := gq_22.S hs
  refine hx_putrF hx hb hts hC_5 hown hW hT (hx_S.rf (M := [(121, 8)])) gx tt_121 8 ?o46 rfl kw_271 ⟨rfl, rfl, rfl⟩ rfl hin rfl (x := (some q_26)) ⟨fun _ z => (by cases z), fun q hq => (by cases hq; exact ⟨gq_26.1, by rw [gq_26.2]; decide⟩)⟩ rfl rfl rfl (List.mem_singleton.mpr rfl) dX5_init_50 (fun H locs h_27 eh_27 hW hT hs => ?_)
  case o46 => decide
  replace f_4 := (hs.o gx trivial rfl).2.trans f_4
  replace f_8 := (hs.o gx trivial rfl).2.trans f_8
  replace f_12 := (hs.o gx trivial rfl).2.trans f_12
  replace f_16 := (hs.o gx trivial rfl).2.trans f_16
  replace f_20 := (hs.o gx trivial rfl).2.trans f_20
  replace f_24 := (hs.o gx trivial rfl).2.trans f_24
  replace hz := hx_zr [2, 3, 4, 5, 6, 7, 8] hz hs gx trivial rfl
  replace hM := hM.tr (hs.mono ?o47)
  case o47 => decide
  replace gx := gx.S hs
  replace gq_2 := gq_2.S hs
  replace gq_6 := gq_6.S hs
  replace gq_10 := gq_10.S hs
  replace gq_14 := gq_14.S hs
  replace gq_18 := gq_18.S hs
  replace gq_22 := gq_22.S hs
  replace gq_26 := gq_26.S hs
  have f_28 : h_27.2.2 x 8 = (some q_26) := ?o48
  case o48 =>
    rw [eh_27]
    exact hx_pr_at _ _ _ _
  have hF : hx_F (fun k f => hx_o (((((((L ++ [q_2]) ++ [q_6]) ++ [q_10]) ++ [q_14]) ++ [q_18]) ++ [q_22]) ++ [q_26]) h_27 f (h_27.2.1 x k) (h_27.2.2 x k)) T_f5 0 := ⟨hx_oi (hz 0 rfl).1 ?o49, hx_oi (hz 1 rfl).1 ?o50, hx_or f_4 gq_2 ?o51, hx_or f_8 gq_6 ?o52, hx_or f_12 gq_10 ?o53, hx_or f_16 gq_14 ?o54, hx_or f_20 gq_18 ?o55, hx_or f_24 gq_22 ?o56, hx_or f_28 gq_26 ?o57, hx_oi (hz 9 rfl).1 ?o58, hx_oi (hz 10 rfl).1 ?o59, hx_oi (hz 11 rfl).1 ?o60, hx_oi (hz 12 rfl).1 ?o61, trivial⟩
  case o49 => decide
  case o50 => decide
  case o51 => decide
  case o52 => decide
  case o53 => decide
  case o54 => decide
  case o55 => decide
  case o56 => decide
  case o57 => decide
  case o58 => decide
  case o59 => decide
  case o60 => decide
  case o61 => decide
  have hT := hx_T_rt hT gx tt_5 rfl (hx_F_all hF)
  have hW := hx_W_rt hW gx tt_121 tt_5 (fun _ _ => rfl)
  have hM := hx_SX_rt (x := x) (t := 5) hM
  have gq_2 := hx_rt_o (t := 5) gq_2 (gq_2.ne gx ?o62)
  case o62 => decide
  have gq_6 := hx_rt_o (t := 5) gq_6 (gq_6.ne gx ?o63)
  case o63 => decide
  have gq_10 := hx_rt_o (t := 5) gq_10 (gq_10.ne gx ?o64)
  case o64 => decide
  have gq_14 := hx_rt_o (t := 5) gq_14 (gq_14.ne gx ?o65)
  case o65 => decide
  have gq_18 := hx_rt_o (t := 5) gq_18 (gq_18.ne gx ?o66)
  case o66 => decide
  have gq_22 := hx_rt_o (t := 5) gq_22 (gq_22.ne gx ?o67)
  case o67 => decide
  have gq_26 := hx_rt_o (t := 5) gq_26 (gq_26.ne gx ?o68)
  case o68 => decide
  have gx := hx_rt_g (t := 5) gx
  have f_4 : (hx_rt h_27 x 5).2.2 x 2 = some q_2 := f_4
  have f_8 : (hx_rt h_27 x 5).2.2 x 3 = some q_6 := f_8
  have f_12 : (hx_rt h_27 x 5).2.2 x 4 = some q_10 := f_12
  have f_16 : (hx_rt h_27 x 5).2.2 x 5 = some q_14 := f_16
  have f_20 : (hx_rt h_27 x 5).2.2 x 6 = some q_18 := f_20
  have f_24 : (hx_rt h_27 x 5).2.2 x 7 = some q_22 := f_24
  have f_28 : (hx_rt h_27 x 5).2.2 x 8 = some q_26 := f_28
  generalize eh : hx_rt h_27 x 5 = h_29 at hT hW hM gx gq_2 gq_6 gq_10 gq_14 gq_18 gq_22 gq_26 f_4 f_8 f_12 f_16 f_20 f_24 f_28
  refine W.widen (k := 7) (n := 28) (Nat.le_of_ble_eq_true rfl) (Nat.le_of_ble_eq_true rfl) ?_
  exact hx_retv hx hb hr hlk hW ⟨hT, hM, gx⟩ dX5_init_53

theorem dX6_init_0 : decode cX6_init 0 = .ok (.aload_n 0, 1) := by decide +kernel
theorem dX6_init_1 : decode cX6_init 1 = .ok (.invokespecial 3, 3) := by decide +kernel
theorem dX6_init_4 : decode cX6_init 4 = .ok (.aload_n 0, 1) := by decide +kernel
theorem dX6_init_5 : decode cX6_init 5 = .ok (.iconst 0, 1) := by decide +kernel
theorem dX6_init_6 : decode cX6_init 6 = .ok (.newarray .byte, 2) := by decide +kernel
theorem dX6_init_8 : decode cX6_init 8 = .ok (.putfield 9, 3) := by decide +kernel
theorem dX6_init_11 : decode cX6_init 11 = .ok (.return_, 1) := by decide +kernel
set_option maxHeartbeats 4000000 in
set_option maxRecDepth 100000 in
theorem t_X6_init (l : Launch) (dC : Nat → ClassId) (dI : Nat → Nat → Nat) (dA : Nat → ClassId) (L : List Nat) (h : hx_h) (sz : Nat) (x : Nat) (hT : hx_T T_tb L h) (gx : hx_g L h x 122) (hz : ∀ j, h.2.1 x j = 0 ∧ h.2.2 x j = none) : Met l yX6_init (Cond.code yX6_init cX6_init 1 none :: hx_all) ({ frames := 1, cells := 1, slots := 0, locals := 12 }) (va_Pc [.ref x] (hx_B T_tb (P_ty dA) (dC, dI) vwCl L h sz)) (va_Qv (fun (u : List Nat × hx_h) => hx_T T_tb u.1 u.2 ∧ hx_S T_tb [(122, 0)] (hx_X L x) h u.1 u.2 ∧ hx_g u.1 u.2 x 6) (hx_E T_tb (P_ty dA) (dC, dI) vwCl (hx_A L sz)) (hx_A L sz)) 1 0 (hx_A L sz) := by
  refine hx_met (lv := [(0, .ref x)]) (by decide +kernel) rfl (Nat.le_of_ble_eq_true rfl) rfl ?_
  intro p e s m below meth c hx hb hml hr hlk hts0 hown hin hsz hW ls hl
  have hts : ∀ w ∈ hx_all, w.before _ s = true := fun w hw => hts0 w (List.mem_cons_of_mem _ hw)
  have hown : s.vm.findClass "SmallCourt$Reader" = some m.cls := hown
  have hin : meth.name = "<init>" := hin
  have hM : hx_S T_tb [(122, 0)] (hx_X L x) h L h := hx_SX_rf
  have hz : ∀ j, ([] : List Nat).contains j = false → h.2.1 x j = 0 ∧ h.2.2 x j = none := fun j _ => hz j
  refine lv_aload_n hx hb dX6_init_0 rfl (lv_at hl 0 rfl) ?_
  refine W.objInit hx hb hown (hts _ kw_124) (hts _ kw_117) (hts _ kw_118) rfl (by rw [hml]; exact hl.1) rfl dX6_init_1 (Nat.le_of_ble_eq_true rfl) (Nat.le_of_ble_eq_true rfl) ?_
  refine W.eq (g2 := F0 m 4 ls []) rfl ?_
  refine lv_aload_n hx hb dX6_init_4 rfl (lv_at hl 0 rfl) ?_
  refine lv_iconst (v := 0) hx hb dX6_init_5 ?o0 ?_
  case o0 => decide
  refine hk_newa hx hb hts hW 34 tt_34 (atype := .byte) rfl kw_147 (tys := P_ty dA) (t0 := 1) rfl (fun _ => Iff.rfl) rfl (i := (0 : Int32)) ?o1 (Nat.le_of_ble_eq_true rfl) (Nat.le_of_ble_eq_true rfl) (Nat.le_of_ble_eq_true rfl) dX6_init_6 (fun q_2 H h_1 eh_1 hqq_2 hW hs gq_2 => ?_)
  case o1 => decide
  have nq_q_2 : ∀ a ∈ (hx_X L x), a ≠ q_2 := fun a ha z => hqq_2 (z ▸ (hM.1 a ha).1)
  have hT : hx_T T_tb (L ++ [q_2]) h_1 := ?o2
  case o2 =>
    rw [eh_1]
    exact hx_T_nw hT hqq_2 tt_34 rfl
  replace hz := hx_zr [] hz hs gx trivial rfl
  replace hM := hM.tr (hs.mono ?o3)
  case o3 => decide
  replace gx := gx.S hs
  refine hx_putr hx hb hts hC_6 hown hW hT (hx_S.rf (M := [(122, 0)])) gx tt_122 0 ?o4 rfl kw_125 ⟨rfl, rfl, rfl⟩ rfl (x := (some q_2)) ⟨fun _ z => (by cases z), fun q hq => (by cases hq; exact ⟨gq_2.1, by rw [gq_2.2]; decide⟩)⟩ rfl rfl rfl (List.mem_singleton.mpr rfl) dX6_init_8 (fun H locs h_3 eh_3 hW hT hs => ?_)
  case o4 => decide
  replace hz := hx_zr [0] hz hs gx trivial rfl
  replace hM := hM.tr (hs.mono ?o5)
  case o5 => decide
  replace gx := gx.S hs
  replace gq_2 := gq_2.S hs
  have f_4 : h_3.2.2 x 0 = (some q_2) := ?o6
  case o6 =>
    rw [eh_3]
    exact hx_pr_at _ _ _ _
  have hF : hx_F (fun k f => hx_o (L ++ [q_2]) h_3 f (h_3.2.1 x k) (h_3.2.2 x k)) T_f6 0 := ⟨hx_or f_4 gq_2 ?o7, hx_oi (hz 1 rfl).1 ?o8, hx_oi (hz 2 rfl).1 ?o9, hx_oi (hz 3 rfl).1 ?o10, hx_oi (hz 4 rfl).1 ?o11, hx_oi (hz 5 rfl).1 ?o12, hx_on (hz 6 rfl).2, trivial⟩
  case o7 => decide
  case o8 => decide
  case o9 => decide
  case o10 => decide
  case o11 => decide
  case o12 => decide
  have hT := hx_T_rt hT gx tt_6 rfl (hx_F_all hF)
  have hW := hx_W_rt hW gx tt_122 tt_6 (fun _ _ => rfl)
  have hM := hx_SX_rt (x := x) (t := 6) hM
  have gq_2 := hx_rt_o (t := 6) gq_2 (gq_2.ne gx ?o13)
  case o13 => decide
  have gx := hx_rt_g (t := 6) gx
  have f_4 : (hx_rt h_3 x 6).2.2 x 0 = some q_2 := f_4
  generalize eh : hx_rt h_3 x 6 = h_5 at hT hW hM gx gq_2 f_4
  refine W.widen (k := 1) (n := 0) (Nat.le_of_ble_eq_true rfl) (Nat.le_of_ble_eq_true rfl) ?_
  exact hx_retv hx hb hr hlk hW ⟨hT, hM, gx⟩ dX6_init_11

def wNX7_init : Nat := 378278320891285726726259696342711761330271561341839609621088562561014359831638900158309678067005226
theorem wX7_init_c : hz_cd cX7_init wNX7_init 41 := ⟨by decide +kernel, by decide +kernel⟩
theorem dX7_init_0 : decode cX7_init 0 = .ok (.aload_n 0, 1) := dw_42 wX7_init_c rfl
theorem dX7_init_1 : decode cX7_init 1 = .ok (.invokespecial 3, 3) := dw_183 wX7_init_c 0 3 rfl rfl
theorem dX7_init_4 : decode cX7_init 4 = .ok (.aload_n 0, 1) := dw_42 wX7_init_c rfl
theorem dX7_init_5 : decode cX7_init 5 = .ok (.iconst (-1), 1) := dw_2 wX7_init_c rfl
theorem dX7_init_6 : decode cX7_init 6 = .ok (.putfield 9, 3) := dw_181 wX7_init_c 0 9 rfl rfl
theorem dX7_init_9 : decode cX7_init 9 = .ok (.aload_n 0, 1) := dw_42 wX7_init_c rfl
theorem dX7_init_10 : decode cX7_init 10 = .ok (.bipush 100, 2) := dw_16 wX7_init_c 100 rfl rfl rfl
theorem dX7_init_12 : decode cX7_init 12 = .ok (.newarray .int, 2) := by decide +kernel
theorem dX7_init_14 : decode cX7_init 14 = .ok (.putfield 15, 3) := dw_181 wX7_init_c 0 15 rfl rfl
theorem dX7_init_17 : decode cX7_init 17 = .ok (.aload_n 0, 1) := dw_42 wX7_init_c rfl
theorem dX7_init_18 : decode cX7_init 18 = .ok (.sipush 1600, 3) := dw_17 wX7_init_c 6 64 rfl rfl rfl
theorem dX7_init_21 : decode cX7_init 21 = .ok (.newarray .int, 2) := by decide +kernel
theorem dX7_init_23 : decode cX7_init 23 = .ok (.putfield 19, 3) := dw_181 wX7_init_c 0 19 rfl rfl
theorem dX7_init_26 : decode cX7_init 26 = .ok (.aload_n 0, 1) := dw_42 wX7_init_c rfl
theorem dX7_init_27 : decode cX7_init 27 = .ok (.iconst 4, 1) := dw_7 wX7_init_c rfl
theorem dX7_init_28 : decode cX7_init 28 = .ok (.newarray .int, 2) := by decide +kernel
theorem dX7_init_30 : decode cX7_init 30 = .ok (.putfield 22, 3) := dw_181 wX7_init_c 0 22 rfl rfl
theorem dX7_init_33 : decode cX7_init 33 = .ok (.aload_n 0, 1) := dw_42 wX7_init_c rfl
theorem dX7_init_34 : decode cX7_init 34 = .ok (.iconst 4, 1) := dw_7 wX7_init_c rfl
theorem dX7_init_35 : decode cX7_init 35 = .ok (.newarray .int, 2) := by decide +kernel
theorem dX7_init_37 : decode cX7_init 37 = .ok (.putfield 25, 3) := dw_181 wX7_init_c 0 25 rfl rfl
theorem dX7_init_40 : decode cX7_init 40 = .ok (.return_, 1) := dw_177 wX7_init_c rfl
theorem dX8_init_0 : decode cX8_init 0 = .ok (.aload_n 0, 1) := by decide +kernel
theorem dX8_init_1 : decode cX8_init 1 = .ok (.invokespecial 3, 3) := by decide +kernel
theorem dX8_init_4 : decode cX8_init 4 = .ok (.aload_n 0, 1) := by decide +kernel
theorem dX8_init_5 : decode cX8_init 5 = .ok (.bipush 8, 2) := by decide +kernel
theorem dX8_init_7 : decode cX8_init 7 = .ok (.newarray .int, 2) := by decide +kernel
theorem dX8_init_9 : decode cX8_init 9 = .ok (.putfield 9, 3) := by decide +kernel
theorem dX8_init_12 : decode cX8_init 12 = .ok (.aload_n 0, 1) := by decide +kernel
theorem dX8_init_13 : decode cX8_init 13 = .ok (.bipush 8, 2) := by decide +kernel
theorem dX8_init_15 : decode cX8_init 15 = .ok (.anewarray 15, 3) := by decide +kernel
theorem dX8_init_18 : decode cX8_init 18 = .ok (.putfield 17, 3) := by decide +kernel
theorem dX8_init_21 : decode cX8_init 21 = .ok (.aload_n 0, 1) := by decide +kernel
theorem dX8_init_22 : decode cX8_init 22 = .ok (.sipush 2048, 3) := by decide +kernel
theorem dX8_init_25 : decode cX8_init 25 = .ok (.newarray .int, 2) := by decide +kernel
theorem dX8_init_27 : decode cX8_init 27 = .ok (.putfield 21, 3) := by decide +kernel
theorem dX8_init_30 : decode cX8_init 30 = .ok (.return_, 1) := by decide +kernel
set_option maxHeartbeats 4000000 in
set_option maxRecDepth 100000 in
theorem t_X8_init (l : Launch) (dC : Nat → ClassId) (dI : Nat → Nat → Nat) (dA : Nat → ClassId) (L : List Nat) (h : hx_h) (sz : Nat) (b0 : hx_z) (x : Nat) (hT : hx_T T_tb L h) (gx : hx_g L h x 124) (hz : ∀ j, h.2.1 x j = 0 ∧ h.2.2 x j = none) : Met l yX8_init (Cond.code yX8_init cX8_init 1 none :: hx_all) ({ frames := 1, cells := 3, slots := 2064, locals := 12 }) (va_Pc [.ref x] (hx_BX T_tb (P_ty dA) (dC, dI) vwCl L h sz b0)) (va_Qv (fun (u : List Nat × hx_h) => hx_T T_tb u.1 u.2 ∧ hx_S T_tb [(124, 2), (124, 3), (124, 4)] (hx_X L x) h u.1 u.2 ∧ hx_g u.1 u.2 x 8 ∧ u.2.2.1 x 0 = 0 ∧ u.2.2.1 x 1 = 0 ∧ (∃ q, u.2.2.2 x 3 = some q ∧ hx_g u.1 u.2 q 40 ∧ ∀ j, u.2.2.1 q j = 0 ∧ u.2.2.2 q j = none)) (hx_E T_tb (P_ty dA) (dC, dI) vwCl (hx_A L sz)) (hx_A L sz)) 3 2064 (hx_A L sz) := by
  refine hx_metX (lv := [(0, .ref x)]) (by decide +kernel) rfl (Nat.le_of_ble_eq_true rfl) rfl ?_
  intro p e s m below meth c hx hb hml hr hlk hts0 hown hin hsz hW hZ ls hl
  have hts : ∀ w ∈ hx_all, w.before _ s = true := fun w hw => hts0 w (List.mem_cons_of_mem _ hw)
  have hown : s.vm.findClass "SmallCourt$Walk" = some m.cls := hown
  have hin : meth.name = "<init>" := hin
  have hM : hx_S T_tb [(124, 2), (124, 3), (124, 4)] (hx_X L x) h L h := hx_SX_rf
  have hz : ∀ j, ([] : List Nat).contains j = false → h.2.1 x j = 0 ∧ h.2.2 x j = none := fun j _ => hz j
  refine lv_aload_n hx hb dX8_init_0 rfl (lv_at hl 0 rfl) ?_
  refine W.objInit hx hb hown (hts _ kw_343) (hts _ kw_117) (hts _ kw_118) rfl (by rw [hml]; exact hl.1) rfl dX8_init_1 (Nat.le_of_ble_eq_true rfl) (Nat.le_of_ble_eq_true rfl) ?_
  refine W.eq (g2 := F0 m 4 ls []) rfl ?_
  refine lv_aload_n hx hb dX8_init_4 rfl (lv_at hl 0 rfl) ?_
  refine lv_bipush (v := 8) hx hb dX8_init_5 ?o0 ?_
  case o0 => decide
  refine hk_newa hx hb hts hW 39 tt_39 (atype := .int) rfl kw_186 (tys := P_ty dA) (t0 := 0) rfl (fun _ => Iff.rfl) rfl (i := (8 : Int32)) ?o1 (Nat.le_of_ble_eq_true rfl) (Nat.le_of_ble_eq_true rfl) (Nat.le_of_ble_eq_true rfl) dX8_init_7 (fun q_2 H h_1 eh_1 hqq_2 hW hs gq_2 => ?_)
  case o1 => decide
  have nq_q_2 : ∀ a ∈ (hx_X L x), a ≠ q_2 := fun a ha z => hqq_2 (z ▸ (hM.1 a ha).1)
  have hT : hx_T T_tb (L ++ [q_2]) h_1 := ?o2
  case o2 =>
    rw [eh_1]
    exact hx_T_nw hT hqq_2 tt_39 rfl
  replace hz := hx_zr [] hz hs gx trivial rfl
  replace hM := hM.tr (hs.mono ?o3)
  case o3 => decide
  replace gx := gx.S hs
  refine hx_putrF hx hb hts hC_8 hown hW hT (hx_S.rf (M := [(124, 2)])) gx tt_124 2 ?o4 rfl kw_349 ⟨rfl, rfl, rfl⟩ rfl hin rfl (x := (some q_2)) ⟨fun _ z => (by cases z), fun q hq => (by cases hq; exact ⟨gq_2.1, by rw [gq_2.2]; decide⟩)⟩ rfl rfl rfl (List.mem_singleton.mpr rfl) dX8_init_9 (fun H locs h_3 eh_3 hW hT hs => ?_)
  case o4 => decide
  replace hz := hx_zr [2] hz hs gx trivial rfl
  replace hM := hM.tr (hs.mono ?o5)
  case o5 => decide
  replace gx := gx.S hs
  replace gq_2 := gq_2.S hs
  have f_4 : h_3.2.2 x 2 = (some q_2) := ?o6
  case o6 =>
    rw [eh_3]
    exact hx_pr_at _ _ _ _
  refine lv_aload_n hx hb dX8_init_12 rfl (lv_at hl 0 rfl) ?_
  refine lv_bipush (v := 8) hx hb dX8_init_13 ?o7 ?_
  case o7 => decide
  refine hk_newqX hx hb hts hown hW 40 tt_40 kw_344 hZ.2.1.2.2 (tys := P_ty dA) (t0 := 6) rfl (i := (8 : Int32)) ?o8 (Nat.le_of_ble_eq_true rfl) (Nat.le_of_ble_eq_true rfl) (Nat.le_of_ble_eq_true rfl) dX8_init_15 (fun q_6 H h_5 eh_5 hqq_6 hW hs gq_6 => ?_)
  case o8 => decide
  have nq_q_6 : ∀ a ∈ (hx_X L x), a ≠ q_6 := fun a ha z => hqq_6 (z ▸ (hM.1 a ha).1)
  have hT : hx_T T_tb ((L ++ [q_2]) ++ [q_6]) h_5 := ?o9
  case o9 =>
    rw [eh_5]
    exact hx_T_nw hT hqq_6 tt_40 rfl
  replace f_4 := (hs.o gx trivial rfl).2.trans f_4
  replace hz := hx_zr [2] hz hs gx trivial rfl
  replace hM := hM.tr (hs.mono ?o10)
  case o10 => decide
  replace gx := gx.S hs
  replace gq_2 := gq_2.S hs
  have za_7 : ∀ j, h_5.2.1 q_6 j = 0 ∧ h_5.2.2 q_6 j = none := ?o11
  case o11 =>
    rw [eh_5]
    exact fun _ => ⟨hx_nw_i, hx_nw_r⟩
  refine hx_putrF hx hb hts hC_8 hown hW hT (hx_S.rf (M := [(124, 3)])) gx tt_124 3 ?o12 rfl kw_351 ⟨rfl, rfl, rfl⟩ rfl hin rfl (x := (some q_6)) ⟨fun _ z => (by cases z), fun q hq => (by cases hq; exact ⟨gq_6.1, by rw [gq_6.2]; decide⟩)⟩ rfl rfl rfl (List.mem_singleton.mpr rfl) dX8_init_18 (fun H locs h_8 eh_8 hW hT hs => ?_)
  case o12 => decide
  replace f_4 := (hs.o gx trivial rfl).2.trans f_4
  replace hz := hx_zr [2, 3] hz hs gx trivial rfl
  replace za_7 : ∀ j, h_8.2.1 q_6 j = 0 ∧ h_8.2.2 q_6 j = none := fun j => ⟨(hs.a gq_6 rfl j).1.trans (za_7 j).1, (hs.a gq_6 rfl j).2.trans (za_7 j).2⟩
  replace hM := hM.tr (hs.mono ?o13)
  case o13 => decide
  replace gx := gx.S hs
  replace gq_2 := gq_2.S hs
  replace gq_6 := gq_6.S hs
  have f_9 : h_8.2.2 x 3 = (some q_6) := ?o14
  case o14 =>
    rw [eh_8]
    exact hx_pr_at _ _ _ _
  refine lv_aload_n hx hb dX8_init_21 rfl (lv_at hl 0 rfl) ?_
  refine lv_sipush (v := 2048) hx hb dX8_init_22 ?o15 ?_
  case o15 => decide
  refine hk_newa hx hb hts hW 41 tt_41 (atype := .int) rfl kw_186 (tys := P_ty dA) (t0 := 0) rfl (fun _ => Iff.rfl) rfl (i := (2048 : Int32)) ?o16 (Nat.le_of_ble_eq_true rfl) (Nat.le_of_ble_eq_true rfl) (Nat.le_of_ble_eq_true rfl) dX8_init_25 (fun q_11 H h_10 eh_10 hqq_11 hW hs gq_11 => ?_)
  case o16 => decide
  have nq_q_11 : ∀ a ∈ (hx_X L x), a ≠ q_11 := fun a ha z => hqq_11 (z ▸ (hM.1 a ha).1)
  have hT : hx_T T_tb (((L ++ [q_2]) ++ [q_6]) ++ [q_11]) h_10 := ?o17
  case o17 =>
    rw [eh_10]
    exact hx_T_nw hT hqq_11 tt_41 rfl
  replace f_4 := (hs.o gx trivial rfl).2.trans f_4
  replace f_9 := (hs.o gx trivial rfl).2.trans f_9
  replace hz := hx_zr [2, 3] hz hs gx trivial rfl
  replace za_7 : ∀ j, h_10.2.1 q_6 j = 0 ∧ h_10.2.2 q_6 j = none := fun j => ⟨(hs.a gq_6 rfl j).1.trans (za_7 j).1, (hs.a gq_6 rfl j).2.trans (za_7 j).2⟩
  replace hM := hM.tr (hs.mono ?o18)
  case o18 => decide
  replace gx := gx.S hs
  replace gq_2 := gq_2.S hs
  replace gq_6 := gq_6.S hs
  refine hx_putrF hx hb hts hC_8 hown hW hT (hx_S.rf (M := [(124, 4)])) gx tt_124 4 ?o19 rfl kw_352 ⟨rfl, rfl, rfl⟩ rfl hin rfl (x := (some q_11)) ⟨fun _ z => (by cases z), fun q hq => (by cases hq; exact ⟨gq_11.1, by rw [gq_11.2]; decide⟩)⟩ rfl rfl rfl (List.mem_singleton.mpr rfl) dX8_init_27 (fun H locs h_12 eh_12 hW hT hs => ?_)
  case o19 => decide
  replace f_4 := (hs.o gx trivial rfl).2.trans f_4
  replace f_9 := (hs.o gx trivial rfl).2.trans f_9
  replace hz := hx_zr [2, 3, 4] hz hs gx trivial rfl
  replace za_7 : ∀ j, h_12.2.1 q_6 j = 0 ∧ h_12.2.2 q_6 j = none := fun j => ⟨(hs.a gq_6 rfl j).1.trans (za_7 j).1, (hs.a gq_6 rfl j).2.trans (za_7 j).2⟩
  replace hM := hM.tr (hs.mono ?o20)
  case o20 => decide
  replace gx := gx.S hs
  replace gq_2 := gq_2.S hs
  replace gq_6 := gq_6.S hs
  replace gq_11 := gq_11.S hs
  have f_13 : h_12.2.2 x 4 = (some q_11) := ?o21
  case o21 =>
    rw [eh_12]
    exact hx_pr_at _ _ _ _
  have f_14 : h_12.2.1 x 0 = 0 := (hz 0 rfl).1
  have f_15 : h_12.2.1 x 1 = 0 := (hz 1 rfl).1
  have hF : hx_F (fun k f => hx_o (((L ++ [q_2]) ++ [q_6]) ++ [q_11]) h_12 f (h_12.2.1 x k) (h_12.2.2 x k)) T_f8 0 := ⟨hx_oi f_14 ?o22, hx_oi f_15 ?o23, hx_or f_4 gq_2 ?o24, hx_or f_9 gq_6 ?o25, hx_or f_13 gq_11 ?o26, trivial⟩
  case o22 => decide
  case o23 => decide
  case o24 => decide
  case o25 => decide
  case o26 => decide
  have hT := hx_T_rt hT gx tt_8 rfl (hx_F_all hF)
  have hW := hx_W_rt hW gx tt_124 tt_8 (fun _ _ => rfl)
  have hM := hx_SX_rt (x := x) (t := 8) hM
  have gq_2 := hx_rt_o (t := 8) gq_2 (gq_2.ne gx ?o27)
  case o27 => decide
  have gq_6 := hx_rt_o (t := 8) gq_6 (gq_6.ne gx ?o28)
  case o28 => decide
  have gq_11 := hx_rt_o (t := 8) gq_11 (gq_11.ne gx ?o29)
  case o29 => decide
  have gx := hx_rt_g (t := 8) gx
  have f_4 : (hx_rt h_12 x 8).2.2 x 2 = some q_2 := f_4
  have f_9 : (hx_rt h_12 x 8).2.2 x 3 = some q_6 := f_9
  have f_13 : (hx_rt h_12 x 8).2.2 x 4 = some q_11 := f_13
  have f_14 : (hx_rt h_12 x 8).2.1 x 0 = (0 : Int32) := f_14
  have f_15 : (hx_rt h_12 x 8).2.1 x 1 = (0 : Int32) := f_15
  have za_7 : ∀ j, (hx_rt h_12 x 8).2.1 q_6 j = 0 ∧ (hx_rt h_12 x 8).2.2 q_6 j = none := za_7
  generalize eh : hx_rt h_12 x 8 = h_16 at hT hW hM gx gq_2 gq_6 gq_11 f_4 f_9 f_13 f_14 f_15 za_7
  refine W.widen (k := 3) (n := 2064) (Nat.le_of_ble_eq_true rfl) (Nat.le_of_ble_eq_true rfl) ?_
  exact hx_retv hx hb hr hlk hW ⟨hT, hM, gx, f_14, f_15, ⟨q_6, f_9, gq_6, za_7⟩⟩ dX8_init_30

def wNX2_init : Nat := 227702017028822196410760473109796739036460845452966047665152931502309117636474958477593658653023216203758451826640308299252180433765178834227027675534626851148806524237244641577260517218352409714556332559873834
theorem wX2_init_c : hz_cd cX2_init wNX2_init 87 := ⟨by decide +kernel, by decide +kernel⟩
theorem dX2_init_0 : decode cX2_init 0 = .ok (.aload_n 0, 1) := dw_42 wX2_init_c rfl
theorem dX2_init_1 : decode cX2_init 1 = .ok (.invokespecial 3, 3) := dw_183 wX2_init_c 0 3 rfl rfl
theorem dX2_init_4 : decode cX2_init 4 = .ok (.aload_n 0, 1) := dw_42 wX2_init_c rfl
theorem dX2_init_5 : decode cX2_init 5 = .ok (.bipush 8, 2) := dw_16 wX2_init_c 8 rfl rfl rfl
theorem dX2_init_7 : decode cX2_init 7 = .ok (.newarray .int, 2) := by decide +kernel
theorem dX2_init_9 : decode cX2_init 9 = .ok (.putfield 9, 3) := dw_181 wX2_init_c 0 9 rfl rfl
theorem dX2_init_12 : decode cX2_init 12 = .ok (.aload_n 0, 1) := dw_42 wX2_init_c rfl
theorem dX2_init_13 : decode cX2_init 13 = .ok (.iconst 3, 1) := dw_6 wX2_init_c rfl
theorem dX2_init_14 : decode cX2_init 14 = .ok (.newarray .int, 2) := by decide +kernel
theorem dX2_init_16 : decode cX2_init 16 = .ok (.putfield 15, 3) := dw_181 wX2_init_c 0 15 rfl rfl
theorem dX2_init_19 : decode cX2_init 19 = .ok (.aload_n 0, 1) := dw_42 wX2_init_c rfl
theorem dX2_init_20 : decode cX2_init 20 = .ok (.iconst (-1), 1) := dw_2 wX2_init_c rfl
theorem dX2_init_21 : decode cX2_init 21 = .ok (.putfield 18, 3) := dw_181 wX2_init_c 0 18 rfl rfl
theorem dX2_init_24 : decode cX2_init 24 = .ok (.aload_n 0, 1) := dw_42 wX2_init_c rfl
theorem dX2_init_25 : decode cX2_init 25 = .ok (.iconst (-1), 1) := dw_2 wX2_init_c rfl
theorem dX2_init_26 : decode cX2_init 26 = .ok (.putfield 22, 3) := dw_181 wX2_init_c 0 22 rfl rfl
theorem dX2_init_29 : decode cX2_init 29 = .ok (.aload_n 0, 1) := dw_42 wX2_init_c rfl
theorem dX2_init_30 : decode cX2_init 30 = .ok (.iconst (-1), 1) := dw_2 wX2_init_c rfl
theorem dX2_init_31 : decode cX2_init 31 = .ok (.putfield 25, 3) := dw_181 wX2_init_c 0 25 rfl rfl
theorem dX2_init_34 : decode cX2_init 34 = .ok (.aload_n 0, 1) := dw_42 wX2_init_c rfl
theorem dX2_init_35 : decode cX2_init 35 = .ok (.iconst (-1), 1) := dw_2 wX2_init_c rfl
theorem dX2_init_36 : decode cX2_init 36 = .ok (.putfield 28, 3) := dw_181 wX2_init_c 0 28 rfl rfl
theorem dX2_init_39 : decode cX2_init 39 = .ok (.aload_n 0, 1) := dw_42 wX2_init_c rfl
theorem dX2_init_40 : decode cX2_init 40 = .ok (.iconst (-1), 1) := dw_2 wX2_init_c rfl
theorem dX2_init_41 : decode cX2_init 41 = .ok (.putfield 31, 3) := dw_181 wX2_init_c 0 31 rfl rfl
theorem dX2_init_44 : decode cX2_init 44 = .ok (.aload_n 0, 1) := dw_42 wX2_init_c rfl
theorem dX2_init_45 : decode cX2_init 45 = .ok (.iload_n 1, 1) := dw_27 wX2_init_c rfl
theorem dX2_init_46 : decode cX2_init 46 = .ok (.putfield 34, 3) := dw_181 wX2_init_c 0 34 rfl rfl
theorem dX2_init_49 : decode cX2_init 49 = .ok (.aload_n 0, 1) := dw_42 wX2_init_c rfl
theorem dX2_init_50 : decode cX2_init 50 = .ok (.aload_n 2, 1) := dw_44 wX2_init_c rfl
theorem dX2_init_51 : decode cX2_init 51 = .ok (.putfield 37, 3) := dw_181 wX2_init_c 0 37 rfl rfl
theorem dX2_init_54 : decode cX2_init 54 = .ok (.aload_n 0, 1) := dw_42 wX2_init_c rfl
theorem dX2_init_55 : decode cX2_init 55 = .ok (.aload_n 3, 1) := dw_45 wX2_init_c rfl
theorem dX2_init_56 : decode cX2_init 56 = .ok (.putfield 41, 3) := dw_181 wX2_init_c 0 41 rfl rfl
theorem dX2_init_59 : decode cX2_init 59 = .ok (.aload_n 0, 1) := dw_42 wX2_init_c rfl
theorem dX2_init_60 : decode cX2_init 60 = .ok (.aload 4, 2) := dw_25 wX2_init_c 4 rfl
theorem dX2_init_62 : decode cX2_init 62 = .ok (.putfield 44, 3) := dw_181 wX2_init_c 0 44 rfl rfl
theorem dX2_init_65 : decode cX2_init 65 = .ok (.aload_n 0, 1) := dw_42 wX2_init_c rfl
theorem dX2_init_66 : decode cX2_init 66 = .ok (.getfield 15, 3) := dw_180 wX2_init_c 0 15 rfl rfl
theorem dX2_init_69 : decode cX2_init 69 = .ok (.iconst 0, 1) := dw_3 wX2_init_c rfl
theorem dX2_init_70 : decode cX2_init 70 = .ok (.iconst (-1), 1) := dw_2 wX2_init_c rfl
theorem dX2_init_71 : decode cX2_init 71 = .ok (.iastore, 1) := dw_79 wX2_init_c rfl
theorem dX2_init_72 : decode cX2_init 72 = .ok (.aload_n 0, 1) := dw_42 wX2_init_c rfl
theorem dX2_init_73 : decode cX2_init 73 = .ok (.getfield 15, 3) := dw_180 wX2_init_c 0 15 rfl rfl
theorem dX2_init_76 : decode cX2_init 76 = .ok (.iconst 1, 1) := dw_4 wX2_init_c rfl
theorem dX2_init_77 : decode cX2_init 77 = .ok (.iconst (-1), 1) := dw_2 wX2_init_c rfl
theorem dX2_init_78 : decode cX2_init 78 = .ok (.iastore, 1) := dw_79 wX2_init_c rfl
theorem dX2_init_79 : decode cX2_init 79 = .ok (.aload_n 0, 1) := dw_42 wX2_init_c rfl
theorem dX2_init_80 : decode cX2_init 80 = .ok (.getfield 15, 3) := dw_180 wX2_init_c 0 15 rfl rfl
theorem dX2_init_83 : decode cX2_init 83 = .ok (.iconst 2, 1) := dw_5 wX2_init_c rfl
theorem dX2_init_84 : decode cX2_init 84 = .ok (.iconst (-1), 1) := dw_2 wX2_init_c rfl
theorem dX2_init_85 : decode cX2_init 85 = .ok (.iastore, 1) := dw_79 wX2_init_c rfl
theorem dX2_init_86 : decode cX2_init 86 = .ok (.return_, 1) := dw_177 wX2_init_c rfl
theorem dX0_term_0 : decode cX0_term 0 = .ok (.iload_n 0, 1) := by decide +kernel
theorem dX0_term_1 : decode cX0_term 1 = .ok (.iload_n 1, 1) := by decide +kernel
theorem dX0_term_2 : decode cX0_term 2 = .ok (.iconst 3, 1) := by decide +kernel
theorem dX0_term_3 : decode cX0_term 3 = .ok (.ishl, 1) := by decide +kernel
theorem dX0_term_4 : decode cX0_term 4 = .ok (.ior, 1) := by decide +kernel
theorem dX0_term_5 : decode cX0_term 5 = .ok (.iload_n 2, 1) := by decide +kernel
theorem dX0_term_6 : decode cX0_term 6 = .ok (.ifCond .eq 7, 3) := by decide +kernel
theorem dX0_term_9 : decode cX0_term 9 = .ok (.iconst 1, 1) := by decide +kernel
theorem dX0_term_10 : decode cX0_term 10 = .ok (.goto 4, 3) := by decide +kernel
theorem dX0_term_13 : decode cX0_term 13 = .ok (.iconst 0, 1) := by decide +kernel
theorem dX0_term_14 : decode cX0_term 14 = .ok (.bipush 6, 2) := by decide +kernel
theorem dX0_term_16 : decode cX0_term 16 = .ok (.ishl, 1) := by decide +kernel
theorem dX0_term_17 : decode cX0_term 17 = .ok (.ior, 1) := by decide +kernel
theorem dX0_term_18 : decode cX0_term 18 = .ok (.iload_n 3, 1) := by decide +kernel
theorem dX0_term_19 : decode cX0_term 19 = .ok (.bipush 7, 2) := by decide +kernel
theorem dX0_term_21 : decode cX0_term 21 = .ok (.ishl, 1) := by decide +kernel
theorem dX0_term_22 : decode cX0_term 22 = .ok (.ior, 1) := by decide +kernel
theorem dX0_term_23 : decode cX0_term 23 = .ok (.ireturn, 1) := by decide +kernel
def wNX0_init : Nat := 13559837138064368632851854830540707627400199435580698308156751634268017704869145668700229148115442822410756052368100896787566704185376320187892506194696716830186406581902039858558340076999785607034091306
theorem wX0_init_c : hz_cd cX0_init wNX0_init 84 := ⟨by decide +kernel, by decide +kernel⟩
theorem dX0_init_0 : decode cX0_init 0 = .ok (.aload_n 0, 1) := dw_42 wX0_init_c rfl
theorem dX0_init_1 : decode cX0_init 1 = .ok (.invokespecial 3, 3) := dw_183 wX0_init_c 0 3 rfl rfl
theorem dX0_init_4 : decode cX0_init 4 = .ok (.aload_n 0, 1) := dw_42 wX0_init_c rfl
theorem dX0_init_5 : decode cX0_init 5 = .ok (.bipush 14, 2) := dw_16 wX0_init_c 14 rfl rfl rfl
theorem dX0_init_7 : decode cX0_init 7 = .ok (.newarray .int, 2) := by decide +kernel
theorem dX0_init_9 : decode cX0_init 9 = .ok (.putfield 9, 3) := dw_181 wX0_init_c 0 9 rfl rfl
theorem dX0_init_12 : decode cX0_init 12 = .ok (.aload_n 0, 1) := dw_42 wX0_init_c rfl
theorem dX0_init_13 : decode cX0_init 13 = .ok (.sipush 160, 3) := dw_17 wX0_init_c 0 160 rfl rfl rfl
theorem dX0_init_16 : decode cX0_init 16 = .ok (.newarray .int, 2) := by decide +kernel
theorem dX0_init_18 : decode cX0_init 18 = .ok (.putfield 15, 3) := dw_181 wX0_init_c 0 15 rfl rfl
theorem dX0_init_21 : decode cX0_init 21 = .ok (.aload_n 0, 1) := dw_42 wX0_init_c rfl
theorem dX0_init_22 : decode cX0_init 22 = .ok (.iload_n 1, 1) := dw_27 wX0_init_c rfl
theorem dX0_init_23 : decode cX0_init 23 = .ok (.putfield 18, 3) := dw_181 wX0_init_c 0 18 rfl rfl
theorem dX0_init_26 : decode cX0_init 26 = .ok (.aload_n 0, 1) := dw_42 wX0_init_c rfl
theorem dX0_init_27 : decode cX0_init 27 = .ok (.iload_n 2, 1) := dw_28 wX0_init_c rfl
theorem dX0_init_28 : decode cX0_init 28 = .ok (.putfield 22, 3) := dw_181 wX0_init_c 0 22 rfl rfl
theorem dX0_init_31 : decode cX0_init 31 = .ok (.getstatic 25, 3) := dw_178 wX0_init_c 0 25 rfl rfl
theorem dX0_init_34 : decode cX0_init 34 = .ok (.iconst 0, 1) := dw_3 wX0_init_c rfl
theorem dX0_init_35 : decode cX0_init 35 = .ok (.aload_n 0, 1) := dw_42 wX0_init_c rfl
theorem dX0_init_36 : decode cX0_init 36 = .ok (.getfield 9, 3) := dw_180 wX0_init_c 0 9 rfl rfl
theorem dX0_init_39 : decode cX0_init 39 = .ok (.iconst 0, 1) := dw_3 wX0_init_c rfl
theorem dX0_init_40 : decode cX0_init 40 = .ok (.bipush 14, 2) := dw_16 wX0_init_c 14 rfl rfl rfl
theorem dX0_init_42 : decode cX0_init 42 = .ok (.invokestatic 28, 3) := dw_184 wX0_init_c 0 28 rfl rfl
theorem dX0_init_45 : decode cX0_init 45 = .ok (.aload_n 0, 1) := dw_42 wX0_init_c rfl
theorem dX0_init_46 : decode cX0_init 46 = .ok (.getfield 15, 3) := dw_180 wX0_init_c 0 15 rfl rfl
theorem dX0_init_49 : decode cX0_init 49 = .ok (.iconst 0, 1) := dw_3 wX0_init_c rfl
theorem dX0_init_50 : decode cX0_init 50 = .ok (.iconst 0, 1) := dw_3 wX0_init_c rfl
theorem dX0_init_51 : decode cX0_init 51 = .ok (.iconst 2, 1) := dw_5 wX0_init_c rfl
theorem dX0_init_52 : decode cX0_init 52 = .ok (.iconst 0, 1) := dw_3 wX0_init_c rfl
theorem dX0_init_53 : decode cX0_init 53 = .ok (.iconst 1, 1) := dw_4 wX0_init_c rfl
theorem dX0_init_54 : decode cX0_init 54 = .ok (.invokestatic 34, 3) := dw_184 wX0_init_c 0 34 rfl rfl
theorem dX0_init_57 : decode cX0_init 57 = .ok (.iastore, 1) := dw_79 wX0_init_c rfl
theorem dX0_init_58 : decode cX0_init 58 = .ok (.aload_n 0, 1) := dw_42 wX0_init_c rfl
theorem dX0_init_59 : decode cX0_init 59 = .ok (.getfield 15, 3) := dw_180 wX0_init_c 0 15 rfl rfl
theorem dX0_init_62 : decode cX0_init 62 = .ok (.iconst 1, 1) := dw_4 wX0_init_c rfl
theorem dX0_init_63 : decode cX0_init 63 = .ok (.iconst 1, 1) := dw_4 wX0_init_c rfl
theorem dX0_init_64 : decode cX0_init 64 = .ok (.iconst 2, 1) := dw_5 wX0_init_c rfl
theorem dX0_init_65 : decode cX0_init 65 = .ok (.iconst 0, 1) := dw_3 wX0_init_c rfl
theorem dX0_init_66 : decode cX0_init 66 = .ok (.iconst 0, 1) := dw_3 wX0_init_c rfl
theorem dX0_init_67 : decode cX0_init 67 = .ok (.invokestatic 34, 3) := dw_184 wX0_init_c 0 34 rfl rfl
theorem dX0_init_70 : decode cX0_init 70 = .ok (.iastore, 1) := dw_79 wX0_init_c rfl
theorem dX0_init_71 : decode cX0_init 71 = .ok (.aload_n 0, 1) := dw_42 wX0_init_c rfl
theorem dX0_init_72 : decode cX0_init 72 = .ok (.getfield 15, 3) := dw_180 wX0_init_c 0 15 rfl rfl
theorem dX0_init_75 : decode cX0_init 75 = .ok (.iconst 2, 1) := dw_5 wX0_init_c rfl
theorem dX0_init_76 : decode cX0_init 76 = .ok (.iconst (-1), 1) := dw_2 wX0_init_c rfl
theorem dX0_init_77 : decode cX0_init 77 = .ok (.iastore, 1) := dw_79 wX0_init_c rfl
theorem dX0_init_78 : decode cX0_init 78 = .ok (.aload_n 0, 1) := dw_42 wX0_init_c rfl
theorem dX0_init_79 : decode cX0_init 79 = .ok (.iconst 3, 1) := dw_6 wX0_init_c rfl
theorem dX0_init_80 : decode cX0_init 80 = .ok (.putfield 38, 3) := dw_181 wX0_init_c 0 38 rfl rfl
theorem dX0_init_83 : decode cX0_init 83 = .ok (.return_, 1) := dw_177 wX0_init_c rfl
end
section
def wNX0_holds : Nat := 2306300905568338808746112385216861374822077157092809550460704096406759932759945412246785979603389603545553794683813374327795555830901135346603081229357029931
theorem wX0_holds_c : hz_cd cX0_holds wNX0_holds 65 := ⟨by decide +kernel, by decide +kernel⟩
theorem dX0_holds_0 : decode cX0_holds 0 = .ok (.aload_n 1, 1) := dw_43 wX0_holds_c rfl
theorem dX0_holds_1 : decode cX0_holds 1 = .ok (.iload_n 0, 1) := dw_26 wX0_holds_c rfl
theorem dX0_holds_2 : decode cX0_holds 2 = .ok (.bipush 7, 2) := dw_16 wX0_holds_c 7 rfl rfl rfl
theorem dX0_holds_4 : decode cX0_holds 4 = .ok (.iand, 1) := dw_126 wX0_holds_c rfl
theorem dX0_holds_5 : decode cX0_holds 5 = .ok (.iaload, 1) := dw_46 wX0_holds_c rfl
theorem dX0_holds_6 : decode cX0_holds 6 = .ok (.istore_n 2, 1) := dw_61 wX0_holds_c rfl
theorem dX0_holds_7 : decode cX0_holds 7 = .ok (.iload_n 0, 1) := dw_26 wX0_holds_c rfl
theorem dX0_holds_8 : decode cX0_holds 8 = .ok (.bipush 7, 2) := dw_16 wX0_holds_c 7 rfl rfl rfl
theorem dX0_holds_10 : decode cX0_holds 10 = .ok (.ishr, 1) := dw_122 wX0_holds_c rfl
theorem dX0_holds_11 : decode cX0_holds 11 = .ok (.istore_n 3, 1) := dw_62 wX0_holds_c rfl
theorem dX0_holds_12 : decode cX0_holds 12 = .ok (.iload_n 0, 1) := dw_26 wX0_holds_c rfl
theorem dX0_holds_13 : decode cX0_holds 13 = .ok (.bipush 6, 2) := dw_16 wX0_holds_c 6 rfl rfl rfl
theorem dX0_holds_15 : decode cX0_holds 15 = .ok (.ishr, 1) := dw_122 wX0_holds_c rfl
theorem dX0_holds_16 : decode cX0_holds 16 = .ok (.iconst 1, 1) := dw_4 wX0_holds_c rfl
theorem dX0_holds_17 : decode cX0_holds 17 = .ok (.iand, 1) := dw_126 wX0_holds_c rfl
theorem dX0_holds_18 : decode cX0_holds 18 = .ok (.iconst 1, 1) := dw_4 wX0_holds_c rfl
theorem dX0_holds_19 : decode cX0_holds 19 = .ok (.if_icmp .ne 10, 3) := dw_160 wX0_holds_c 0 10 rfl rfl rfl
theorem dX0_holds_22 : decode cX0_holds 22 = .ok (.aload_n 1, 1) := dw_43 wX0_holds_c rfl
theorem dX0_holds_23 : decode cX0_holds 23 = .ok (.iload_n 3, 1) := dw_29 wX0_holds_c rfl
theorem dX0_holds_24 : decode cX0_holds 24 = .ok (.bipush 7, 2) := dw_16 wX0_holds_c 7 rfl rfl rfl
theorem dX0_holds_26 : decode cX0_holds 26 = .ok (.iand, 1) := dw_126 wX0_holds_c rfl
theorem dX0_holds_27 : decode cX0_holds 27 = .ok (.iaload, 1) := dw_46 wX0_holds_c rfl
theorem dX0_holds_28 : decode cX0_holds 28 = .ok (.istore_n 3, 1) := dw_62 wX0_holds_c rfl
theorem dX0_holds_29 : decode cX0_holds 29 = .ok (.iload_n 2, 1) := dw_28 wX0_holds_c rfl
theorem dX0_holds_30 : decode cX0_holds 30 = .ok (.iload_n 3, 1) := dw_29 wX0_holds_c rfl
theorem dX0_holds_31 : decode cX0_holds 31 = .ok (.if_icmp .ge 7, 3) := dw_162 wX0_holds_c 0 7 rfl rfl rfl
theorem dX0_holds_34 : decode cX0_holds 34 = .ok (.iconst 1, 1) := dw_4 wX0_holds_c rfl
theorem dX0_holds_35 : decode cX0_holds 35 = .ok (.goto 13, 3) := dw_167 wX0_holds_c 0 13 rfl rfl rfl
theorem dX0_holds_38 : decode cX0_holds 38 = .ok (.iload_n 2, 1) := dw_28 wX0_holds_c rfl
theorem dX0_holds_39 : decode cX0_holds 39 = .ok (.iload_n 3, 1) := dw_29 wX0_holds_c rfl
theorem dX0_holds_40 : decode cX0_holds 40 = .ok (.if_icmp .ne 7, 3) := dw_160 wX0_holds_c 0 7 rfl rfl rfl
theorem dX0_holds_43 : decode cX0_holds 43 = .ok (.iconst 2, 1) := dw_5 wX0_holds_c rfl
theorem dX0_holds_44 : decode cX0_holds 44 = .ok (.goto 4, 3) := dw_167 wX0_holds_c 0 4 rfl rfl rfl
theorem dX0_holds_47 : decode cX0_holds 47 = .ok (.iconst 4, 1) := dw_7 wX0_holds_c rfl
theorem dX0_holds_48 : decode cX0_holds 48 = .ok (.istore 4, 2) := dw_54 wX0_holds_c 4 rfl
theorem dX0_holds_50 : decode cX0_holds 50 = .ok (.iload_n 0, 1) := dw_26 wX0_holds_c rfl
theorem dX0_holds_51 : decode cX0_holds 51 = .ok (.iconst 3, 1) := dw_6 wX0_holds_c rfl
theorem dX0_holds_52 : decode cX0_holds 52 = .ok (.ishr, 1) := dw_122 wX0_holds_c rfl
theorem dX0_holds_53 : decode cX0_holds 53 = .ok (.iload 4, 2) := dw_21 wX0_holds_c 4 rfl
theorem dX0_holds_55 : decode cX0_holds 55 = .ok (.iand, 1) := dw_126 wX0_holds_c rfl
theorem dX0_holds_56 : decode cX0_holds 56 = .ok (.ifCond .eq 7, 3) := dw_153 wX0_holds_c 0 7 rfl rfl rfl
theorem dX0_holds_59 : decode cX0_holds 59 = .ok (.iconst 1, 1) := dw_4 wX0_holds_c rfl
theorem dX0_holds_60 : decode cX0_holds 60 = .ok (.goto 4, 3) := dw_167 wX0_holds_c 0 4 rfl rfl rfl
theorem dX0_holds_63 : decode cX0_holds 63 = .ok (.iconst 0, 1) := dw_3 wX0_holds_c rfl
theorem dX0_holds_64 : decode cX0_holds 64 = .ok (.ireturn, 1) := dw_172 wX0_holds_c rfl
def wNX0_proves : Nat := 8703892957946804592963184937407257590861671792928700335138377300426991201532595622923064628728048888811818489576123231635051680375993911632056568566435948905029654819830989698294535896792022238112930903112376503431974815009375971546428353642342985142713281655511013011870972054496875420573434785803488477816189996360884501763
theorem wX0_proves_c : hz_cd cX0_proves wNX0_proves 135 := ⟨by decide +kernel, by decide +kernel⟩
theorem dX0_proves_0 : decode cX0_proves 0 = .ok (.iconst 0, 1) := dw_3 wX0_proves_c rfl
theorem dX0_proves_1 : decode cX0_proves 1 = .ok (.istore_n 2, 1) := dw_61 wX0_proves_c rfl
theorem dX0_proves_2 : decode cX0_proves 2 = .ok (.iconst 0, 1) := dw_3 wX0_proves_c rfl
theorem dX0_proves_3 : decode cX0_proves 3 = .ok (.istore_n 3, 1) := dw_62 wX0_proves_c rfl
theorem dX0_proves_4 : decode cX0_proves 4 = .ok (.iload_n 3, 1) := dw_29 wX0_proves_c rfl
theorem dX0_proves_5 : decode cX0_proves 5 = .ok (.aload_n 0, 1) := dw_42 wX0_proves_c rfl
theorem dX0_proves_6 : decode cX0_proves 6 = .ok (.getfield 38, 3) := dw_180 wX0_proves_c 0 38 rfl rfl
theorem dX0_proves_9 : decode cX0_proves 9 = .ok (.if_icmp .ge 113, 3) := dw_162 wX0_proves_c 0 113 rfl rfl rfl
theorem dX0_proves_12 : decode cX0_proves 12 = .ok (.iload_n 2, 1) := dw_28 wX0_proves_c rfl
theorem dX0_proves_13 : decode cX0_proves 13 = .ok (.iconst 1, 1) := dw_4 wX0_proves_c rfl
theorem dX0_proves_14 : decode cX0_proves 14 = .ok (.iand, 1) := dw_126 wX0_proves_c rfl
theorem dX0_proves_15 : decode cX0_proves 15 = .ok (.istore 4, 2) := dw_54 wX0_proves_c 4 rfl
theorem dX0_proves_17 : decode cX0_proves 17 = .ok (.iload_n 2, 1) := dw_28 wX0_proves_c rfl
theorem dX0_proves_18 : decode cX0_proves 18 = .ok (.iconst 1, 1) := dw_4 wX0_proves_c rfl
theorem dX0_proves_19 : decode cX0_proves 19 = .ok (.ishr, 1) := dw_122 wX0_proves_c rfl
theorem dX0_proves_20 : decode cX0_proves 20 = .ok (.iconst 1, 1) := dw_4 wX0_proves_c rfl
theorem dX0_proves_21 : decode cX0_proves 21 = .ok (.iand, 1) := dw_126 wX0_proves_c rfl
theorem dX0_proves_22 : decode cX0_proves 22 = .ok (.istore 5, 2) := dw_54 wX0_proves_c 5 rfl
theorem dX0_proves_24 : decode cX0_proves 24 = .ok (.aload_n 0, 1) := dw_42 wX0_proves_c rfl
theorem dX0_proves_25 : decode cX0_proves 25 = .ok (.getfield 15, 3) := dw_180 wX0_proves_c 0 15 rfl rfl
theorem dX0_proves_28 : decode cX0_proves 28 = .ok (.iload_n 3, 1) := dw_29 wX0_proves_c rfl
theorem dX0_proves_29 : decode cX0_proves 29 = .ok (.iaload, 1) := dw_46 wX0_proves_c rfl
theorem dX0_proves_30 : decode cX0_proves 30 = .ok (.tableswitch 63 (-3) (-1) #[26, 48, 33], 26) := by decide +kernel
theorem dX0_proves_56 : decode cX0_proves 56 = .ok (.iload_n 2, 1) := dw_28 wX0_proves_c rfl
theorem dX0_proves_57 : decode cX0_proves 57 = .ok (.iconst 1, 1) := dw_4 wX0_proves_c rfl
theorem dX0_proves_58 : decode cX0_proves 58 = .ok (.ixor, 1) := dw_130 wX0_proves_c rfl
theorem dX0_proves_59 : decode cX0_proves 59 = .ok (.istore_n 2, 1) := dw_61 wX0_proves_c rfl
theorem dX0_proves_60 : decode cX0_proves 60 = .ok (.goto 56, 3) := dw_167 wX0_proves_c 0 56 rfl rfl rfl
theorem dX0_proves_63 : decode cX0_proves 63 = .ok (.iload_n 2, 1) := dw_28 wX0_proves_c rfl
theorem dX0_proves_64 : decode cX0_proves 64 = .ok (.iconst 2, 1) := dw_5 wX0_proves_c rfl
theorem dX0_proves_65 : decode cX0_proves 65 = .ok (.ishr, 1) := dw_122 wX0_proves_c rfl
theorem dX0_proves_66 : decode cX0_proves 66 = .ok (.iconst 1, 1) := dw_4 wX0_proves_c rfl
theorem dX0_proves_67 : decode cX0_proves 67 = .ok (.ishl, 1) := dw_120 wX0_proves_c rfl
theorem dX0_proves_68 : decode cX0_proves 68 = .ok (.iload 4, 2) := dw_21 wX0_proves_c 4 rfl
theorem dX0_proves_70 : decode cX0_proves 70 = .ok (.iload 5, 2) := dw_21 wX0_proves_c 5 rfl
theorem dX0_proves_72 : decode cX0_proves 72 = .ok (.iand, 1) := dw_126 wX0_proves_c rfl
theorem dX0_proves_73 : decode cX0_proves 73 = .ok (.ior, 1) := dw_128 wX0_proves_c rfl
theorem dX0_proves_74 : decode cX0_proves 74 = .ok (.istore_n 2, 1) := dw_61 wX0_proves_c rfl
theorem dX0_proves_75 : decode cX0_proves 75 = .ok (.goto 41, 3) := dw_167 wX0_proves_c 0 41 rfl rfl rfl
theorem dX0_proves_78 : decode cX0_proves 78 = .ok (.iload_n 2, 1) := dw_28 wX0_proves_c rfl
theorem dX0_proves_79 : decode cX0_proves 79 = .ok (.iconst 2, 1) := dw_5 wX0_proves_c rfl
theorem dX0_proves_80 : decode cX0_proves 80 = .ok (.ishr, 1) := dw_122 wX0_proves_c rfl
theorem dX0_proves_81 : decode cX0_proves 81 = .ok (.iconst 1, 1) := dw_4 wX0_proves_c rfl
theorem dX0_proves_82 : decode cX0_proves 82 = .ok (.ishl, 1) := dw_120 wX0_proves_c rfl
theorem dX0_proves_83 : decode cX0_proves 83 = .ok (.iload 4, 2) := dw_21 wX0_proves_c 4 rfl
theorem dX0_proves_85 : decode cX0_proves 85 = .ok (.ior, 1) := dw_128 wX0_proves_c rfl
theorem dX0_proves_86 : decode cX0_proves 86 = .ok (.iload 5, 2) := dw_21 wX0_proves_c 5 rfl
theorem dX0_proves_88 : decode cX0_proves 88 = .ok (.ior, 1) := dw_128 wX0_proves_c rfl
theorem dX0_proves_89 : decode cX0_proves 89 = .ok (.istore_n 2, 1) := dw_61 wX0_proves_c rfl
theorem dX0_proves_90 : decode cX0_proves 90 = .ok (.goto 26, 3) := dw_167 wX0_proves_c 0 26 rfl rfl rfl
theorem dX0_proves_93 : decode cX0_proves 93 = .ok (.iload_n 2, 1) := dw_28 wX0_proves_c rfl
theorem dX0_proves_94 : decode cX0_proves 94 = .ok (.iconst 1, 1) := dw_4 wX0_proves_c rfl
theorem dX0_proves_95 : decode cX0_proves 95 = .ok (.ishl, 1) := dw_120 wX0_proves_c rfl
theorem dX0_proves_96 : decode cX0_proves 96 = .ok (.aload_n 0, 1) := dw_42 wX0_proves_c rfl
theorem dX0_proves_97 : decode cX0_proves 97 = .ok (.getfield 15, 3) := dw_180 wX0_proves_c 0 15 rfl rfl
theorem dX0_proves_100 : decode cX0_proves 100 = .ok (.iload_n 3, 1) := dw_29 wX0_proves_c rfl
theorem dX0_proves_101 : decode cX0_proves 101 = .ok (.iaload, 1) := dw_46 wX0_proves_c rfl
theorem dX0_proves_102 : decode cX0_proves 102 = .ok (.aload_n 1, 1) := dw_43 wX0_proves_c rfl
theorem dX0_proves_103 : decode cX0_proves 103 = .ok (.invokestatic 41, 3) := dw_184 wX0_proves_c 0 41 rfl rfl
theorem dX0_proves_106 : decode cX0_proves 106 = .ok (.ifCond .eq 7, 3) := dw_153 wX0_proves_c 0 7 rfl rfl rfl
theorem dX0_proves_109 : decode cX0_proves 109 = .ok (.iconst 1, 1) := dw_4 wX0_proves_c rfl
theorem dX0_proves_110 : decode cX0_proves 110 = .ok (.goto 4, 3) := dw_167 wX0_proves_c 0 4 rfl rfl rfl
theorem dX0_proves_113 : decode cX0_proves 113 = .ok (.iconst 0, 1) := dw_3 wX0_proves_c rfl
theorem dX0_proves_114 : decode cX0_proves 114 = .ok (.ior, 1) := dw_128 wX0_proves_c rfl
theorem dX0_proves_115 : decode cX0_proves 115 = .ok (.istore_n 2, 1) := dw_61 wX0_proves_c rfl
theorem dX0_proves_116 : decode cX0_proves 116 = .ok (.iinc 3 1, 3) := dw_132 wX0_proves_c 3 1 rfl rfl rfl
theorem dX0_proves_119 : decode cX0_proves 119 = .ok (.goto (-115), 3) := dn_167 wX0_proves_c 255 141 rfl (by decide)
theorem dX0_proves_122 : decode cX0_proves 122 = .ok (.iload_n 2, 1) := dw_28 wX0_proves_c rfl
theorem dX0_proves_123 : decode cX0_proves 123 = .ok (.iconst 1, 1) := dw_4 wX0_proves_c rfl
theorem dX0_proves_124 : decode cX0_proves 124 = .ok (.iand, 1) := dw_126 wX0_proves_c rfl
theorem dX0_proves_125 : decode cX0_proves 125 = .ok (.iconst 1, 1) := dw_4 wX0_proves_c rfl
theorem dX0_proves_126 : decode cX0_proves 126 = .ok (.if_icmp .ne 7, 3) := dw_160 wX0_proves_c 0 7 rfl rfl rfl
theorem dX0_proves_129 : decode cX0_proves 129 = .ok (.iconst 1, 1) := dw_4 wX0_proves_c rfl
theorem dX0_proves_130 : decode cX0_proves 130 = .ok (.goto 4, 3) := dw_167 wX0_proves_c 0 4 rfl rfl rfl
theorem dX0_proves_133 : decode cX0_proves 133 = .ok (.iconst 0, 1) := dw_3 wX0_proves_c rfl
theorem dX0_proves_134 : decode cX0_proves 134 = .ok (.ireturn, 1) := dw_172 wX0_proves_c rfl
theorem dX4_isKinOf_0 : decode cX4_isKinOf 0 = .ok (.aload_n 0, 1) := by decide +kernel
theorem dX4_isKinOf_1 : decode cX4_isKinOf 1 = .ok (.aload_n 1, 1) := by decide +kernel
theorem dX4_isKinOf_2 : decode cX4_isKinOf 2 = .ok (.if_acmp .eq 22, 3) := by decide +kernel
theorem dX4_isKinOf_5 : decode cX4_isKinOf 5 = .ok (.aload_n 0, 1) := by decide +kernel
theorem dX4_isKinOf_6 : decode cX4_isKinOf 6 = .ok (.getfield 18, 3) := by decide +kernel
theorem dX4_isKinOf_9 : decode cX4_isKinOf 9 = .ok (.iconst (-1), 1) := by decide +kernel
theorem dX4_isKinOf_10 : decode cX4_isKinOf 10 = .ok (.if_icmp .eq 18, 3) := by decide +kernel
theorem dX4_isKinOf_13 : decode cX4_isKinOf 13 = .ok (.aload_n 0, 1) := by decide +kernel
theorem dX4_isKinOf_14 : decode cX4_isKinOf 14 = .ok (.getfield 18, 3) := by decide +kernel
theorem dX4_isKinOf_17 : decode cX4_isKinOf 17 = .ok (.aload_n 1, 1) := by decide +kernel
theorem dX4_isKinOf_18 : decode cX4_isKinOf 18 = .ok (.getfield 18, 3) := by decide +kernel
theorem dX4_isKinOf_21 : decode cX4_isKinOf 21 = .ok (.if_icmp .ne 7, 3) := by decide +kernel
theorem dX4_isKinOf_24 : decode cX4_isKinOf 24 = .ok (.iconst 1, 1) := by decide +kernel
theorem dX4_isKinOf_25 : decode cX4_isKinOf 25 = .ok (.goto 4, 3) := by decide +kernel
theorem dX4_isKinOf_28 : decode cX4_isKinOf 28 = .ok (.iconst 0, 1) := by decide +kernel
theorem dX4_isKinOf_29 : decode cX4_isKinOf 29 = .ok (.ireturn, 1) := by decide +kernel
def wNX4_maySit : Nat := 94058222522838277641674910342174382793377090405616682802501107559314068499555469302400278683696804906
theorem wX4_maySit_c : hz_cd cX4_maySit wNX4_maySit 42 := ⟨by decide +kernel, by decide +kernel⟩
theorem dX4_maySit_0 : decode cX4_maySit 0 = .ok (.aload_n 0, 1) := dw_42 wX4_maySit_c rfl
theorem dX4_maySit_1 : decode cX4_maySit 1 = .ok (.getfield 39, 3) := dw_180 wX4_maySit_c 0 39 rfl rfl
theorem dX4_maySit_4 : decode cX4_maySit 4 = .ok (.ifCond .eq 36, 3) := dw_153 wX4_maySit_c 0 36 rfl rfl rfl
theorem dX4_maySit_7 : decode cX4_maySit 7 = .ok (.aload_n 0, 1) := dw_42 wX4_maySit_c rfl
theorem dX4_maySit_8 : decode cX4_maySit 8 = .ok (.getfield 43, 3) := dw_180 wX4_maySit_c 0 43 rfl rfl
theorem dX4_maySit_11 : decode cX4_maySit 11 = .ok (.ifCond .ne 29, 3) := dw_154 wX4_maySit_c 0 29 rfl rfl rfl
theorem dX4_maySit_14 : decode cX4_maySit 14 = .ok (.aload_n 0, 1) := dw_42 wX4_maySit_c rfl
theorem dX4_maySit_15 : decode cX4_maySit 15 = .ok (.aload_n 1, 1) := dw_43 wX4_maySit_c rfl
theorem dX4_maySit_16 : decode cX4_maySit 16 = .ok (.getfield 46, 3) := dw_180 wX4_maySit_c 0 46 rfl rfl
theorem dX4_maySit_19 : decode cX4_maySit 19 = .ok (.invokevirtual 52, 3) := dw_182 wX4_maySit_c 0 52 rfl rfl
theorem dX4_maySit_22 : decode cX4_maySit 22 = .ok (.ifCond .ne 18, 3) := dw_154 wX4_maySit_c 0 18 rfl rfl rfl
theorem dX4_maySit_25 : decode cX4_maySit 25 = .ok (.aload_n 0, 1) := dw_42 wX4_maySit_c rfl
theorem dX4_maySit_26 : decode cX4_maySit 26 = .ok (.aload_n 1, 1) := dw_43 wX4_maySit_c rfl
theorem dX4_maySit_27 : decode cX4_maySit 27 = .ok (.getfield 56, 3) := dw_180 wX4_maySit_c 0 56 rfl rfl
theorem dX4_maySit_30 : decode cX4_maySit 30 = .ok (.invokevirtual 52, 3) := dw_182 wX4_maySit_c 0 52 rfl rfl
theorem dX4_maySit_33 : decode cX4_maySit 33 = .ok (.ifCond .ne 7, 3) := dw_154 wX4_maySit_c 0 7 rfl rfl rfl
theorem dX4_maySit_36 : decode cX4_maySit 36 = .ok (.iconst 1, 1) := dw_4 wX4_maySit_c rfl
theorem dX4_maySit_37 : decode cX4_maySit 37 = .ok (.goto 4, 3) := dw_167 wX4_maySit_c 0 4 rfl rfl rfl
theorem dX4_maySit_40 : decode cX4_maySit 40 = .ok (.iconst 0, 1) := dw_3 wX4_maySit_c rfl
theorem dX4_maySit_41 : decode cX4_maySit 41 = .ok (.ireturn, 1) := dw_172 wX4_maySit_c rfl
def wNX9_inForce : Nat := 8391941810372434499979959506711523296619829060205781798258735344255463249488955739154097034538923040118703480895495617419853328570021509641258
theorem wX9_inForce_c : hz_cd cX9_inForce wNX9_inForce 59 := ⟨by decide +kernel, by decide +kernel⟩
theorem dX9_inForce_0 : decode cX9_inForce 0 = .ok (.aload_n 0, 1) := dw_42 wX9_inForce_c rfl
theorem dX9_inForce_1 : decode cX9_inForce 1 = .ok (.getfield 25, 3) := dw_180 wX9_inForce_c 0 25 rfl rfl
theorem dX9_inForce_4 : decode cX9_inForce 4 = .ok (.astore_n 2, 1) := dw_77 wX9_inForce_c rfl
theorem dX9_inForce_5 : decode cX9_inForce 5 = .ok (.iconst 0, 1) := dw_3 wX9_inForce_c rfl
theorem dX9_inForce_6 : decode cX9_inForce 6 = .ok (.istore_n 3, 1) := dw_62 wX9_inForce_c rfl
theorem dX9_inForce_7 : decode cX9_inForce 7 = .ok (.iload_n 3, 1) := dw_29 wX9_inForce_c rfl
theorem dX9_inForce_8 : decode cX9_inForce 8 = .ok (.aload_n 0, 1) := dw_42 wX9_inForce_c rfl
theorem dX9_inForce_9 : decode cX9_inForce 9 = .ok (.getfield 105, 3) := dw_180 wX9_inForce_c 0 105 rfl rfl
theorem dX9_inForce_12 : decode cX9_inForce 12 = .ok (.if_icmp .ge 45, 3) := dw_162 wX9_inForce_c 0 45 rfl rfl rfl
theorem dX9_inForce_15 : decode cX9_inForce 15 = .ok (.aload_n 0, 1) := dw_42 wX9_inForce_c rfl
theorem dX9_inForce_16 : decode cX9_inForce 16 = .ok (.getfield 29, 3) := dw_180 wX9_inForce_c 0 29 rfl rfl
theorem dX9_inForce_19 : decode cX9_inForce 19 = .ok (.iload_n 3, 1) := dw_29 wX9_inForce_c rfl
theorem dX9_inForce_20 : decode cX9_inForce 20 = .ok (.aaload, 1) := dw_50 wX9_inForce_c rfl
theorem dX9_inForce_21 : decode cX9_inForce 21 = .ok (.getfield 122, 3) := dw_180 wX9_inForce_c 0 122 rfl rfl
theorem dX9_inForce_24 : decode cX9_inForce 24 = .ok (.iload_n 1, 1) := dw_27 wX9_inForce_c rfl
theorem dX9_inForce_25 : decode cX9_inForce 25 = .ok (.if_icmp .gt 26, 3) := dw_163 wX9_inForce_c 0 26 rfl rfl rfl
theorem dX9_inForce_28 : decode cX9_inForce 28 = .ok (.aload_n 0, 1) := dw_42 wX9_inForce_c rfl
theorem dX9_inForce_29 : decode cX9_inForce 29 = .ok (.getfield 29, 3) := dw_180 wX9_inForce_c 0 29 rfl rfl
theorem dX9_inForce_32 : decode cX9_inForce 32 = .ok (.iload_n 3, 1) := dw_29 wX9_inForce_c rfl
theorem dX9_inForce_33 : decode cX9_inForce 33 = .ok (.aaload, 1) := dw_50 wX9_inForce_c rfl
theorem dX9_inForce_34 : decode cX9_inForce 34 = .ok (.getfield 122, 3) := dw_180 wX9_inForce_c 0 122 rfl rfl
theorem dX9_inForce_37 : decode cX9_inForce 37 = .ok (.aload_n 2, 1) := dw_44 wX9_inForce_c rfl
theorem dX9_inForce_38 : decode cX9_inForce 38 = .ok (.getfield 122, 3) := dw_180 wX9_inForce_c 0 122 rfl rfl
theorem dX9_inForce_41 : decode cX9_inForce 41 = .ok (.if_icmp .lt 10, 3) := dw_161 wX9_inForce_c 0 10 rfl rfl rfl
theorem dX9_inForce_44 : decode cX9_inForce 44 = .ok (.aload_n 0, 1) := dw_42 wX9_inForce_c rfl
theorem dX9_inForce_45 : decode cX9_inForce 45 = .ok (.getfield 29, 3) := dw_180 wX9_inForce_c 0 29 rfl rfl
theorem dX9_inForce_48 : decode cX9_inForce 48 = .ok (.iload_n 3, 1) := dw_29 wX9_inForce_c rfl
theorem dX9_inForce_49 : decode cX9_inForce 49 = .ok (.aaload, 1) := dw_50 wX9_inForce_c rfl
theorem dX9_inForce_50 : decode cX9_inForce 50 = .ok (.astore_n 2, 1) := dw_77 wX9_inForce_c rfl
theorem dX9_inForce_51 : decode cX9_inForce 51 = .ok (.iinc 3 1, 3) := dw_132 wX9_inForce_c 3 1 rfl rfl rfl
theorem dX9_inForce_54 : decode cX9_inForce 54 = .ok (.goto (-47), 3) := dn_167 wX9_inForce_c 255 209 rfl (by decide)
theorem dX9_inForce_57 : decode cX9_inForce 57 = .ok (.aload_n 2, 1) := dw_44 wX9_inForce_c rfl
theorem dX9_inForce_58 : decode cX9_inForce 58 = .ok (.areturn, 1) := dw_176 wX9_inForce_c rfl
set_option maxHeartbeats 4000000 in
set_option maxRecDepth 100000 in
theorem t_X9_inForce (l : Launch) (dC : Nat → ClassId) (dI : Nat → Nat → Nat) (dA : Nat → ClassId) (L : List Nat) (h : hx_h) (sz : Nat) (x : Nat) (i1 : Int32) (hT : hx_T T_tb L h) (gx : hx_g L h x 9) (qa : Nat) (gqa : hx_g L h qa 43) (f_x_5 : h.2.2 x 5 = some qa) (pf_x_6 : ∀ j : Nat, (j : Int) < (h.2.1 x 6).toInt → h.2.2 qa j ≠ none) : Met l yX9_inForce (Cond.code yX9_inForce cX9_inForce 4 (some (.object "SmallCourt$Act")) :: hx_all) ({ frames := 0, cells := 0, slots := 0, locals := 0 }) (va_Pc [.ref x, .int i1] (hx_B T_tb (P_ty dA) (dC, dI) vwCl L h sz)) (va_Qq (fun (r : Option Nat) (u : List Nat × hx_h) => ((∃ q, r = some q ∧ hx_g u.1 u.2 q 0)) ∧ hx_T T_tb u.1 u.2 ∧ hx_S T_tb [] L h u.1 u.2) (hx_E T_tb (P_ty dA) (dC, dI) vwCl (hx_A L sz)) (hx_A L sz)) 0 0 (hx_A L sz) := by
  refine hx_met (lv := [(0, .ref x), (1, .int i1)]) (by decide +kernel) rfl (Nat.le_of_ble_eq_true rfl) rfl ?_
  intro p e s m below meth c hx hb hml hr hlk hts0 hown hin hsz hW ls hl
  have hts : ∀ w ∈ hx_all, w.before _ s = true := fun w hw => hts0 w (List.mem_cons_of_mem _ hw)
  have hown : s.vm.findClass "SmallCourt" = some m.cls := hown
  have hM : hx_S T_tb [] L h L h := hx_S.rf
  refine lv_aload_n hx hb dX9_inForce_0 rfl (lv_at hl 0 rfl) ?_
  refine hx_getn hx hb hts hC_9 hown hW hT (gx.S hM) tt_9 4 ?o0 rfl kw_368 ⟨rfl, rfl, rfl⟩ dX9_inForce_1 (fun q_1 fq_1 gq_1 => ?_)
  case o0 => decide
  refine lv_astore_n (lv' := [(2, .ref q_1), (0, .ref x), (1, .int i1)]) hx hb dX9_inForce_4 rfl hl ?o1 rfl (fun ls hl => ?_)
  case o1 => decide
  refine lv_iconst (v := 0) hx hb dX9_inForce_5 ?o2 ?_
  case o2 => decide
  refine lv_istore_n (lv' := [(3, .int (0 : Int32)), (2, .ref q_1), (0, .ref x), (1, .int i1)]) hx hb dX9_inForce_6 rfl hl ?o3 rfl (fun ls hl => ?_)
  case o3 => decide
  have loop7 : ∀ (n7 : Nat) (iv7_3 : Int32) (iv7_2 : Nat) (H : Heap) (locs : List Loc) (hL1 : List Nat) (hl1 : hx_h), 0 ≤ iv7_3.toInt → iv7_3.toInt ≤ 8 → ∀ (ls : Array Slot), 8 - iv7_3.toInt < (n7 : Int) → hx_W T_tb (P_ty dA) (dC, dI) vwCl (hx_A L sz) s.heap hL1 hl1 s H locs → hx_T T_tb hL1 hl1 → hx_S T_tb [] L h hL1 hl1 → hl1.2.2 x 4 = some q_1 → hx_g hL1 hl1 iv7_2 0 → hx_g hL1 hl1 q_1 0 → (∀ j : Nat, (j : Int) < (hl1.2.1 x 6).toInt → hl1.2.2 qa j ≠ none) → lv_has ls 4 [(3, .int iv7_3), (2, .ref iv7_2), (0, .ref x), (1, .int i1)] → W p l e ({ frames := 0, cells := 0, slots := 0, locals := 0 }) s m ([.ref x, .int i1] : List Value).toArray below meth c H locs 0 0 (MQ below (va_Qq (fun (r : Option Nat) (u : List Nat × hx_h) => ((∃ q, r = some q ∧ hx_g u.1 u.2 q 0)) ∧ hx_T T_tb u.1 u.2 ∧ hx_S T_tb [] L h u.1 u.2) (hx_E T_tb (P_ty dA) (dC, dI) vwCl (hx_A L sz)) (hx_A L sz)) ([.ref x, .int i1] : List Value).toArray s 0 0 (hx_A L sz)) (F0 m 7 ls []) := by
    intro n7
    induction n7 with
    | zero => intro iv7_3 iv7_2 H locs hL1 hl1 bliv7_3 buiv7_3  ls hn7; exfalso; omega
    | succ n7 ih7 =>
      intro iv7_3 iv7_2 H locs hL1 hl1 bliv7_3 buiv7_3  ls hn7 hW hT hM fq_1 giv7_2 gq_1 pf_x_6 hl
      refine lv_iload_n hx hb dX9_inForce_7 rfl (lv_at hl 0 rfl) ?_
      refine lv_aload_n hx hb dX9_inForce_8 rfl (lv_at hl 2 rfl) ?_
      refine hx_geti hx hb hts hC_9 hown hW hT (gx.S hM) tt_9 6 ?o4 rfl kw_370 ⟨rfl, rfl, rfl⟩ dX9_inForce_9 (fun x_2 ex_2 lx_2 ux_2 => ?_)
      case o4 => decide
      have fx_2 := ex_2.symm
      refine hb_icmp_ge (zx := iv7_3.toInt) (zy := x_2.toInt) (tgt := 57) hx hb rfl rfl dX9_inForce_12 ?o5 (fun c_3 => ?_) (fun c_3 => ?_)
      case o5 => decide
      · skip
        refine lv_aload_n hx hb dX9_inForce_57 rfl (lv_at hl 1 rfl) ?_
        exact hx_retq (v := (some iv7_2)) hx hb hr (Or.inl ⟨_, rfl⟩) hlk hW ⟨⟨_, rfl, giv7_2⟩, hT, hM⟩ dX9_inForce_58
      · skip
        refine lv_aload_n hx hb dX9_inForce_15 rfl (lv_at hl 2 rfl) ?_
        refine hk_getr hx hb hts hC_9 hown hW (gx.S hM) tt_9 5 ?o6 rfl kw_369 ⟨rfl, rfl, rfl⟩ ((hM.o gx trivial rfl).2.trans f_x_5) dX9_inForce_16 ?_
        case o6 => decide
        refine lv_iload_n hx hb dX9_inForce_19 rfl (lv_at hl 0 rfl) ?_
        refine hx_aaldN hx hb hW hT (gqa.S hM) tt_43 (t1 := 0) rfl ⟨?o7, ?o8⟩ (pf_x_6 _ (by rw [fx_2]; exact hx_tnI (by omega) (by omega))) dX9_inForce_20 (fun q_4 fq_4 gq_4 => ?_)
        case o7 => omega
        case o8 => omega
        refine hx_geti hx hb hts hC_0 hown hW hT gq_4 tt_0 1 ?o9 rfl kw_165 ⟨rfl, rfl, rfl⟩ dX9_inForce_21 (fun x_5 ex_5 lx_5 ux_5 => ?_)
        case o9 => decide
        have fx_5 := ex_5.symm
        refine lv_iload_n hx hb dX9_inForce_24 rfl (lv_at hl 3 rfl) ?_
        refine hb_icmp_gt (zx := x_5.toInt) (zy := i1.toInt) (tgt := 51) hx hb rfl rfl dX9_inForce_25 ?o10 (fun c_6 => ?_) (fun c_6 => ?_)
        case o10 => decide
        · skip
          obtain ⟨x_7, ex_7⟩ : ∃ y : Int32, y = iv7_3 + Int32.ofInt 1 := ⟨_, rfl⟩
          have rg_8 := i32_r iv7_3
          have zx_7 : x_7.toInt = iv7_3.toInt + (1) := ?o11
          case o11 =>
            rw [ex_7]
            refine i32_add rfl ?o12 ?o13 ?o14
            case o12 => decide
            case o13 => omega
            case o14 => omega
          refine lv_iinc (v := x_7) (lv' := [(3, .int x_7), (2, .ref iv7_2), (0, .ref x), (1, .int i1)]) hx hb dX9_inForce_51 hl (k := 0) rfl ex_7.symm ?o15 rfl (fun ls hl => ?_)
          case o15 => decide
          refine lv_goto (tgt := 7) hx hb dX9_inForce_54 ?o16 ?_
          case o16 => decide
          refine ih7 x_7 iv7_2 _ _ hL1 hl1 ?o17 ?o18  ls ?o19 hW hT hM fq_1 giv7_2 gq_1 pf_x_6 (lv_sub hl [0, 1, 2, 3] rfl)
          case o17 => omega
          case o18 => omega
          case o19 => omega
        · skip
          refine lv_aload_n hx hb dX9_inForce_28 rfl (lv_at hl 2 rfl) ?_
          refine hk_getr hx hb hts hC_9 hown hW (gx.S hM) tt_9 5 ?o20 rfl kw_369 ⟨rfl, rfl, rfl⟩ ((hM.o gx trivial rfl).2.trans f_x_5) dX9_inForce_29 ?_
          case o20 => decide
          refine lv_iload_n hx hb dX9_inForce_32 rfl (lv_at hl 0 rfl) ?_
          refine hx_aaldN hx hb hW hT (gqa.S hM) tt_43 (t1 := 0) rfl ⟨?o21, ?o22⟩ (pf_x_6 _ (by rw [fx_2]; exact hx_tnI (by omega) (by omega))) dX9_inForce_33 (fun q_9 fq_9 gq_9 => ?_)
          case o21 => omega
          case o22 => omega
          refine hx_geti hx hb hts hC_0 hown hW hT gq_9 tt_0 1 ?o23 rfl kw_165 ⟨rfl, rfl, rfl⟩ dX9_inForce_34 (fun x_10 ex_10 lx_10 ux_10 => ?_)
          case o23 => decide
          have fx_10 := ex_10.symm
          refine lv_aload_n hx hb dX9_inForce_37 rfl (lv_at hl 1 rfl) ?_
          refine hx_geti hx hb hts hC_0 hown hW hT giv7_2 tt_0 1 ?o24 rfl kw_165 ⟨rfl, rfl, rfl⟩ dX9_inForce_38 (fun x_11 ex_11 lx_11 ux_11 => ?_)
          case o24 => decide
          have fx_11 := ex_11.symm
          refine hb_icmp_lt (zx := x_10.toInt) (zy := x_11.toInt) (tgt := 51) hx hb rfl rfl dX9_inForce_41 ?o25 (fun c_12 => ?_) (fun c_12 => ?_)
          case o25 => decide
          · skip
            obtain ⟨x_13, ex_13⟩ : ∃ y : Int32, y = iv7_3 + Int32.ofInt 1 := ⟨_, rfl⟩
            have rg_14 := i32_r iv7_3
            have zx_13 : x_13.toInt = iv7_3.toInt + (1) := ?o26
            case o26 =>
              rw [ex_13]
              refine i32_add rfl ?o27 ?o28 ?o29
              case o27 => decide
              case o28 => omega
              case o29 => omega
            refine lv_iinc (v := x_13) (lv' := [(3, .int x_13), (2, .ref iv7_2), (0, .ref x), (1, .int i1)]) hx hb dX9_inForce_51 hl (k := 0) rfl ex_13.symm ?o30 rfl (fun ls hl => ?_)
            case o30 => decide
            refine lv_goto (tgt := 7) hx hb dX9_inForce_54 ?o31 ?_
            case o31 => decide
            refine ih7 x_13 iv7_2 _ _ hL1 hl1 ?o32 ?o33  ls ?o34 hW hT hM fq_1 giv7_2 gq_1 pf_x_6 (lv_sub hl [0, 1, 2, 3] rfl)
            case o32 => omega
            case o33 => omega
            case o34 => omega
          · skip
            refine lv_aload_n hx hb dX9_inForce_44 rfl (lv_at hl 2 rfl) ?_
            refine hk_getr hx hb hts hC_9 hown hW (gx.S hM) tt_9 5 ?o35 rfl kw_369 ⟨rfl, rfl, rfl⟩ ((hM.o gx trivial rfl).2.trans f_x_5) dX9_inForce_45 ?_
            case o35 => decide
            refine lv_iload_n hx hb dX9_inForce_48 rfl (lv_at hl 0 rfl) ?_
            refine hx_aaldN hx hb hW hT (gqa.S hM) tt_43 (t1 := 0) rfl ⟨?o36, ?o37⟩ (pf_x_6 _ (by rw [fx_2]; exact hx_tnI (by omega) (by omega))) dX9_inForce_49 (fun q_15 fq_15 gq_15 => ?_)
            case o36 => omega
            case o37 => omega
            refine lv_astore_n (lv' := [(2, .ref q_15), (3, .int iv7_3), (0, .ref x), (1, .int i1)]) hx hb dX9_inForce_50 rfl hl ?o38 rfl (fun ls hl => ?_)
            case o38 => decide
            obtain ⟨x_16, ex_16⟩ : ∃ y : Int32, y = iv7_3 + Int32.ofInt 1 := ⟨_, rfl⟩
            have rg_17 := i32_r iv7_3
            have zx_16 : x_16.toInt = iv7_3.toInt + (1) := ?o39
            case o39 =>
              rw [ex_16]
              refine i32_add rfl ?o40 ?o41 ?o42
              case o40 => decide
              case o41 => omega
              case o42 => omega
            refine lv_iinc (v := x_16) (lv' := [(3, .int x_16), (2, .ref q_15), (0, .ref x), (1, .int i1)]) hx hb dX9_inForce_51 hl (k := 1) rfl ex_16.symm ?o43 rfl (fun ls hl => ?_)
            case o43 => decide
            refine lv_goto (tgt := 7) hx hb dX9_inForce_54 ?o44 ?_
            case o44 => decide
            refine ih7 x_16 q_15 _ _ hL1 hl1 ?o45 ?o46  ls ?o47 hW hT hM fq_1 gq_15 gq_1 pf_x_6 (lv_sub hl [0, 1, 2, 3] rfl)
            case o45 => omega
            case o46 => omega
            case o47 => omega
  have zk_0 : (0 : Int32).toInt = 0 := ?o48
  case o48 => decide
  refine loop7 9 (0 : Int32) q_1 _ _ L h ?o49 ?o50  ls ?o51 hW hT hM fq_1 gq_1 gq_1 pf_x_6 hl
  case o49 => decide
  case o50 => decide
  case o51 => omega

def wNX9_force : Nat := 24102470162306568466734026216973662896001344249525753876427200006195827025070173910129436893252346230811
theorem wX9_force_c : hz_cd cX9_force wNX9_force 43 := ⟨by decide +kernel, by decide +kernel⟩
theorem dX9_force_0 : decode cX9_force 0 = .ok (.iload_n 1, 1) := dw_27 wX9_force_c rfl
theorem dX9_force_1 : decode cX9_force 1 = .ok (.invokestatic 90, 3) := dw_184 wX9_force_c 0 90 rfl rfl
theorem dX9_force_4 : decode cX9_force 4 = .ok (.ifCond .eq 13, 3) := dw_153 wX9_force_c 0 13 rfl rfl rfl
theorem dX9_force_7 : decode cX9_force 7 = .ok (.iload_n 2, 1) := dw_28 wX9_force_c rfl
theorem dX9_force_8 : decode cX9_force 8 = .ok (.ifCond .lt 9, 3) := dw_155 wX9_force_c 0 9 rfl rfl rfl
theorem dX9_force_11 : decode cX9_force 11 = .ok (.iload_n 2, 1) := dw_28 wX9_force_c rfl
theorem dX9_force_12 : decode cX9_force 12 = .ok (.bipush 14, 2) := dw_16 wX9_force_c 14 rfl rfl rfl
theorem dX9_force_14 : decode cX9_force 14 = .ok (.if_icmp .lt 5, 3) := dw_161 wX9_force_c 0 5 rfl rfl rfl
theorem dX9_force_17 : decode cX9_force 17 = .ok (.iconst (-1), 1) := dw_2 wX9_force_c rfl
theorem dX9_force_18 : decode cX9_force 18 = .ok (.ireturn, 1) := dw_172 wX9_force_c rfl
theorem dX9_force_19 : decode cX9_force 19 = .ok (.aload_n 0, 1) := dw_42 wX9_force_c rfl
theorem dX9_force_20 : decode cX9_force 20 = .ok (.iload_n 1, 1) := dw_27 wX9_force_c rfl
theorem dX9_force_21 : decode cX9_force 21 = .ok (.invokevirtual 115, 3) := dw_182 wX9_force_c 0 115 rfl rfl
theorem dX9_force_24 : decode cX9_force 24 = .ok (.astore_n 3, 1) := dw_78 wX9_force_c rfl
theorem dX9_force_25 : decode cX9_force 25 = .ok (.iload_n 2, 1) := dw_28 wX9_force_c rfl
theorem dX9_force_26 : decode cX9_force 26 = .ok (.ifCond .ne 10, 3) := dw_154 wX9_force_c 0 10 rfl rfl rfl
theorem dX9_force_29 : decode cX9_force 29 = .ok (.aload_n 3, 1) := dw_45 wX9_force_c rfl
theorem dX9_force_30 : decode cX9_force 30 = .ok (.getfield 112, 3) := dw_180 wX9_force_c 0 112 rfl rfl
theorem dX9_force_33 : decode cX9_force 33 = .ok (.goto 9, 3) := dw_167 wX9_force_c 0 9 rfl rfl rfl
theorem dX9_force_36 : decode cX9_force 36 = .ok (.aload_n 3, 1) := dw_45 wX9_force_c rfl
theorem dX9_force_37 : decode cX9_force 37 = .ok (.getfield 119, 3) := dw_180 wX9_force_c 0 119 rfl rfl
theorem dX9_force_40 : decode cX9_force 40 = .ok (.iload_n 2, 1) := dw_28 wX9_force_c rfl
theorem dX9_force_41 : decode cX9_force 41 = .ok (.iaload, 1) := dw_46 wX9_force_c rfl
theorem dX9_force_42 : decode cX9_force 42 = .ok (.ireturn, 1) := dw_172 wX9_force_c rfl
def wNX9_judgement : Nat := 182740581015442745213101057000350706386139500253608288830640223423748992750027877959281166624637670670695368920767610409713254594688467286717607967050217194141262517477936458954765808683
theorem wX9_judgement_c : hz_cd cX9_judgement wNX9_judgement 77 := ⟨by decide +kernel, by decide +kernel⟩
theorem dX9_judgement_0 : decode cX9_judgement 0 = .ok (.aload_n 1, 1) := dw_43 wX9_judgement_c rfl
theorem dX9_judgement_1 : decode cX9_judgement 1 = .ok (.getfield 190, 3) := dw_180 wX9_judgement_c 0 190 rfl rfl
theorem dX9_judgement_4 : decode cX9_judgement 4 = .ok (.aload_n 1, 1) := dw_43 wX9_judgement_c rfl
theorem dX9_judgement_5 : decode cX9_judgement 5 = .ok (.getfield 212, 3) := dw_180 wX9_judgement_c 0 212 rfl rfl
theorem dX9_judgement_8 : decode cX9_judgement 8 = .ok (.getfield 243, 3) := dw_180 wX9_judgement_c 0 243 rfl rfl
theorem dX9_judgement_11 : decode cX9_judgement 11 = .ok (.sipush 365, 3) := dw_17 wX9_judgement_c 1 109 rfl rfl rfl
theorem dX9_judgement_14 : decode cX9_judgement 14 = .ok (.aload_n 2, 1) := dw_44 wX9_judgement_c rfl
theorem dX9_judgement_15 : decode cX9_judgement 15 = .ok (.getfield 119, 3) := dw_180 wX9_judgement_c 0 119 rfl rfl
theorem dX9_judgement_18 : decode cX9_judgement 18 = .ok (.bipush 9, 2) := dw_16 wX9_judgement_c 9 rfl rfl rfl
theorem dX9_judgement_20 : decode cX9_judgement 20 = .ok (.iaload, 1) := dw_46 wX9_judgement_c rfl
theorem dX9_judgement_21 : decode cX9_judgement 21 = .ok (.imul, 1) := dw_104 wX9_judgement_c rfl
theorem dX9_judgement_22 : decode cX9_judgement 22 = .ok (.iadd, 1) := dw_96 wX9_judgement_c rfl
theorem dX9_judgement_23 : decode cX9_judgement 23 = .ok (.if_icmp .ge 5, 3) := dw_162 wX9_judgement_c 0 5 rfl rfl rfl
theorem dX9_judgement_26 : decode cX9_judgement 26 = .ok (.iconst 1, 1) := dw_4 wX9_judgement_c rfl
theorem dX9_judgement_27 : decode cX9_judgement 27 = .ok (.ireturn, 1) := dw_172 wX9_judgement_c rfl
theorem dX9_judgement_28 : decode cX9_judgement 28 = .ok (.aload_n 1, 1) := dw_43 wX9_judgement_c rfl
theorem dX9_judgement_29 : decode cX9_judgement 29 = .ok (.getfield 187, 3) := dw_180 wX9_judgement_c 0 187 rfl rfl
theorem dX9_judgement_32 : decode cX9_judgement 32 = .ok (.aload_n 2, 1) := dw_44 wX9_judgement_c rfl
theorem dX9_judgement_33 : decode cX9_judgement 33 = .ok (.getfield 119, 3) := dw_180 wX9_judgement_c 0 119 rfl rfl
theorem dX9_judgement_36 : decode cX9_judgement 36 = .ok (.iconst 1, 1) := dw_4 wX9_judgement_c rfl
theorem dX9_judgement_37 : decode cX9_judgement 37 = .ok (.iaload, 1) := dw_46 wX9_judgement_c rfl
theorem dX9_judgement_38 : decode cX9_judgement 38 = .ok (.if_icmp .le 5, 3) := dw_164 wX9_judgement_c 0 5 rfl rfl rfl
theorem dX9_judgement_41 : decode cX9_judgement 41 = .ok (.iconst 2, 1) := dw_5 wX9_judgement_c rfl
theorem dX9_judgement_42 : decode cX9_judgement 42 = .ok (.ireturn, 1) := dw_172 wX9_judgement_c rfl
theorem dX9_judgement_43 : decode cX9_judgement 43 = .ok (.aload_n 0, 1) := dw_42 wX9_judgement_c rfl
theorem dX9_judgement_44 : decode cX9_judgement 44 = .ok (.aload_n 1, 1) := dw_43 wX9_judgement_c rfl
theorem dX9_judgement_45 : decode cX9_judgement 45 = .ok (.aload_n 2, 1) := dw_44 wX9_judgement_c rfl
theorem dX9_judgement_46 : decode cX9_judgement 46 = .ok (.invokevirtual 246, 3) := dw_182 wX9_judgement_c 0 246 rfl rfl
theorem dX9_judgement_49 : decode cX9_judgement 49 = .ok (.aload_n 2, 1) := dw_44 wX9_judgement_c rfl
theorem dX9_judgement_50 : decode cX9_judgement 50 = .ok (.getfield 119, 3) := dw_180 wX9_judgement_c 0 119 rfl rfl
theorem dX9_judgement_53 : decode cX9_judgement 53 = .ok (.iconst 1, 1) := dw_4 wX9_judgement_c rfl
theorem dX9_judgement_54 : decode cX9_judgement 54 = .ok (.iaload, 1) := dw_46 wX9_judgement_c rfl
theorem dX9_judgement_55 : decode cX9_judgement 55 = .ok (.if_icmp .le 5, 3) := dw_164 wX9_judgement_c 0 5 rfl rfl rfl
theorem dX9_judgement_58 : decode cX9_judgement 58 = .ok (.iconst 3, 1) := dw_6 wX9_judgement_c rfl
theorem dX9_judgement_59 : decode cX9_judgement 59 = .ok (.ireturn, 1) := dw_172 wX9_judgement_c rfl
theorem dX9_judgement_60 : decode cX9_judgement 60 = .ok (.aload_n 2, 1) := dw_44 wX9_judgement_c rfl
theorem dX9_judgement_61 : decode cX9_judgement 61 = .ok (.aload_n 1, 1) := dw_43 wX9_judgement_c rfl
theorem dX9_judgement_62 : decode cX9_judgement 62 = .ok (.getfield 196, 3) := dw_180 wX9_judgement_c 0 196 rfl rfl
theorem dX9_judgement_65 : decode cX9_judgement 65 = .ok (.invokevirtual 249, 3) := dw_182 wX9_judgement_c 0 249 rfl rfl
theorem dX9_judgement_68 : decode cX9_judgement 68 = .ok (.ifCond .eq 7, 3) := dw_153 wX9_judgement_c 0 7 rfl rfl rfl
theorem dX9_judgement_71 : decode cX9_judgement 71 = .ok (.iconst 5, 1) := dw_8 wX9_judgement_c rfl
theorem dX9_judgement_72 : decode cX9_judgement 72 = .ok (.goto 4, 3) := dw_167 wX9_judgement_c 0 4 rfl rfl rfl
theorem dX9_judgement_75 : decode cX9_judgement 75 = .ok (.iconst 4, 1) := dw_7 wX9_judgement_c rfl
theorem dX9_judgement_76 : decode cX9_judgement 76 = .ok (.ireturn, 1) := dw_172 wX9_judgement_c rfl
def wNX9_drawBench : Nat := 4759465750476719392140623385921944549163475579762986824844411941278405230456067147902057733729617800884042854138104799329552575380105048408962981566137022231683251014616505995615037469215814595945115946563537172036157906299854413663184416252628552996821973256555517201965356192715857309061804735462963962854011445334461765606514734980882651708173550204707611035923736686233239925083835059737522760049690349387209348758060547
theorem wX9_drawBench_c : hz_cd cX9_drawBench wNX9_drawBench 176 := ⟨by decide +kernel, by decide +kernel⟩
theorem dX9_drawBench_0 : decode cX9_drawBench 0 = .ok (.iconst 0, 1) := dw_3 wX9_drawBench_c rfl
theorem dX9_drawBench_1 : decode cX9_drawBench 1 = .ok (.istore_n 3, 1) := dw_62 wX9_drawBench_c rfl
theorem dX9_drawBench_2 : decode cX9_drawBench 2 = .ok (.iconst 0, 1) := dw_3 wX9_drawBench_c rfl
theorem dX9_drawBench_3 : decode cX9_drawBench 3 = .ok (.istore 4, 2) := dw_54 wX9_drawBench_c 4 rfl
theorem dX9_drawBench_5 : decode cX9_drawBench 5 = .ok (.iload 4, 2) := dw_21 wX9_drawBench_c 4 rfl
theorem dX9_drawBench_7 : decode cX9_drawBench 7 = .ok (.aload_n 0, 1) := dw_42 wX9_drawBench_c rfl
theorem dX9_drawBench_8 : decode cX9_drawBench 8 = .ok (.getfield 125, 3) := dw_180 wX9_drawBench_c 0 125 rfl rfl
theorem dX9_drawBench_11 : decode cX9_drawBench 11 = .ok (.if_icmp .ge 34, 3) := dw_162 wX9_drawBench_c 0 34 rfl rfl rfl
theorem dX9_drawBench_14 : decode cX9_drawBench 14 = .ok (.aload_n 0, 1) := dw_42 wX9_drawBench_c rfl
theorem dX9_drawBench_15 : decode cX9_drawBench 15 = .ok (.getfield 35, 3) := dw_180 wX9_drawBench_c 0 35 rfl rfl
theorem dX9_drawBench_18 : decode cX9_drawBench 18 = .ok (.iload 4, 2) := dw_21 wX9_drawBench_c 4 rfl
theorem dX9_drawBench_20 : decode cX9_drawBench 20 = .ok (.aaload, 1) := dw_50 wX9_drawBench_c rfl
theorem dX9_drawBench_21 : decode cX9_drawBench 21 = .ok (.aload_n 1, 1) := dw_43 wX9_drawBench_c rfl
theorem dX9_drawBench_22 : decode cX9_drawBench 22 = .ok (.invokevirtual 236, 3) := dw_182 wX9_drawBench_c 0 236 rfl rfl
theorem dX9_drawBench_25 : decode cX9_drawBench 25 = .ok (.ifCond .eq 14, 3) := dw_153 wX9_drawBench_c 0 14 rfl rfl rfl
theorem dX9_drawBench_28 : decode cX9_drawBench 28 = .ok (.aload_n 0, 1) := dw_42 wX9_drawBench_c rfl
theorem dX9_drawBench_29 : decode cX9_drawBench 29 = .ok (.getfield 62, 3) := dw_180 wX9_drawBench_c 0 62 rfl rfl
theorem dX9_drawBench_32 : decode cX9_drawBench 32 = .ok (.iload_n 3, 1) := dw_29 wX9_drawBench_c rfl
theorem dX9_drawBench_33 : decode cX9_drawBench 33 = .ok (.iload 4, 2) := dw_21 wX9_drawBench_c 4 rfl
theorem dX9_drawBench_35 : decode cX9_drawBench 35 = .ok (.iastore, 1) := dw_79 wX9_drawBench_c rfl
theorem dX9_drawBench_36 : decode cX9_drawBench 36 = .ok (.iinc 3 1, 3) := dw_132 wX9_drawBench_c 3 1 rfl rfl rfl
theorem dX9_drawBench_39 : decode cX9_drawBench 39 = .ok (.iinc 4 1, 3) := dw_132 wX9_drawBench_c 4 1 rfl rfl rfl
theorem dX9_drawBench_42 : decode cX9_drawBench 42 = .ok (.goto (-37), 3) := dn_167 wX9_drawBench_c 255 219 rfl (by decide)
theorem dX9_drawBench_45 : decode cX9_drawBench 45 = .ok (.iload_n 3, 1) := dw_29 wX9_drawBench_c rfl
theorem dX9_drawBench_46 : decode cX9_drawBench 46 = .ok (.iload_n 3, 1) := dw_29 wX9_drawBench_c rfl
theorem dX9_drawBench_47 : decode cX9_drawBench 47 = .ok (.iconst 1, 1) := dw_4 wX9_drawBench_c rfl
theorem dX9_drawBench_48 : decode cX9_drawBench 48 = .ok (.isub, 1) := dw_100 wX9_drawBench_c rfl
theorem dX9_drawBench_49 : decode cX9_drawBench 49 = .ok (.imul, 1) := dw_104 wX9_drawBench_c rfl
theorem dX9_drawBench_50 : decode cX9_drawBench 50 = .ok (.iload_n 3, 1) := dw_29 wX9_drawBench_c rfl
theorem dX9_drawBench_51 : decode cX9_drawBench 51 = .ok (.iconst 2, 1) := dw_5 wX9_drawBench_c rfl
theorem dX9_drawBench_52 : decode cX9_drawBench 52 = .ok (.isub, 1) := dw_100 wX9_drawBench_c rfl
theorem dX9_drawBench_53 : decode cX9_drawBench 53 = .ok (.imul, 1) := dw_104 wX9_drawBench_c rfl
theorem dX9_drawBench_54 : decode cX9_drawBench 54 = .ok (.bipush 6, 2) := dw_16 wX9_drawBench_c 6 rfl rfl rfl
theorem dX9_drawBench_56 : decode cX9_drawBench 56 = .ok (.idiv, 1) := dw_108 wX9_drawBench_c rfl
theorem dX9_drawBench_57 : decode cX9_drawBench 57 = .ok (.istore 4, 2) := dw_54 wX9_drawBench_c 4 rfl
theorem dX9_drawBench_59 : decode cX9_drawBench 59 = .ok (.iload 4, 2) := dw_21 wX9_drawBench_c 4 rfl
theorem dX9_drawBench_61 : decode cX9_drawBench 61 = .ok (.iconst 1, 1) := dw_4 wX9_drawBench_c rfl
theorem dX9_drawBench_62 : decode cX9_drawBench 62 = .ok (.if_icmp .ge 5, 3) := dw_162 wX9_drawBench_c 0 5 rfl rfl rfl
theorem dX9_drawBench_65 : decode cX9_drawBench 65 = .ok (.iconst 0, 1) := dw_3 wX9_drawBench_c rfl
theorem dX9_drawBench_66 : decode cX9_drawBench 66 = .ok (.ireturn, 1) := dw_172 wX9_drawBench_c rfl
theorem dX9_drawBench_67 : decode cX9_drawBench 67 = .ok (.iload_n 2, 1) := dw_28 wX9_drawBench_c rfl
theorem dX9_drawBench_68 : decode cX9_drawBench 68 = .ok (.iload 4, 2) := dw_21 wX9_drawBench_c 4 rfl
theorem dX9_drawBench_70 : decode cX9_drawBench 70 = .ok (.irem, 1) := dw_112 wX9_drawBench_c rfl
theorem dX9_drawBench_71 : decode cX9_drawBench 71 = .ok (.istore 5, 2) := dw_54 wX9_drawBench_c 5 rfl
theorem dX9_drawBench_73 : decode cX9_drawBench 73 = .ok (.iconst 0, 1) := dw_3 wX9_drawBench_c rfl
theorem dX9_drawBench_74 : decode cX9_drawBench 74 = .ok (.istore 6, 2) := dw_54 wX9_drawBench_c 6 rfl
theorem dX9_drawBench_76 : decode cX9_drawBench 76 = .ok (.iload 6, 2) := dw_21 wX9_drawBench_c 6 rfl
theorem dX9_drawBench_78 : decode cX9_drawBench 78 = .ok (.iload_n 3, 1) := dw_29 wX9_drawBench_c rfl
theorem dX9_drawBench_79 : decode cX9_drawBench 79 = .ok (.if_icmp .ge 95, 3) := dw_162 wX9_drawBench_c 0 95 rfl rfl rfl
theorem dX9_drawBench_82 : decode cX9_drawBench 82 = .ok (.iload 6, 2) := dw_21 wX9_drawBench_c 6 rfl
theorem dX9_drawBench_84 : decode cX9_drawBench 84 = .ok (.iconst 1, 1) := dw_4 wX9_drawBench_c rfl
theorem dX9_drawBench_85 : decode cX9_drawBench 85 = .ok (.iadd, 1) := dw_96 wX9_drawBench_c rfl
theorem dX9_drawBench_86 : decode cX9_drawBench 86 = .ok (.istore 7, 2) := dw_54 wX9_drawBench_c 7 rfl
theorem dX9_drawBench_88 : decode cX9_drawBench 88 = .ok (.iload 7, 2) := dw_21 wX9_drawBench_c 7 rfl
theorem dX9_drawBench_90 : decode cX9_drawBench 90 = .ok (.iload_n 3, 1) := dw_29 wX9_drawBench_c rfl
theorem dX9_drawBench_91 : decode cX9_drawBench 91 = .ok (.if_icmp .ge 77, 3) := dw_162 wX9_drawBench_c 0 77 rfl rfl rfl
theorem dX9_drawBench_94 : decode cX9_drawBench 94 = .ok (.iload_n 3, 1) := dw_29 wX9_drawBench_c rfl
theorem dX9_drawBench_95 : decode cX9_drawBench 95 = .ok (.iload 7, 2) := dw_21 wX9_drawBench_c 7 rfl
theorem dX9_drawBench_97 : decode cX9_drawBench 97 = .ok (.isub, 1) := dw_100 wX9_drawBench_c rfl
theorem dX9_drawBench_98 : decode cX9_drawBench 98 = .ok (.iconst 1, 1) := dw_4 wX9_drawBench_c rfl
theorem dX9_drawBench_99 : decode cX9_drawBench 99 = .ok (.isub, 1) := dw_100 wX9_drawBench_c rfl
theorem dX9_drawBench_100 : decode cX9_drawBench 100 = .ok (.istore 8, 2) := dw_54 wX9_drawBench_c 8 rfl
theorem dX9_drawBench_102 : decode cX9_drawBench 102 = .ok (.iload 5, 2) := dw_21 wX9_drawBench_c 5 rfl
theorem dX9_drawBench_104 : decode cX9_drawBench 104 = .ok (.iload 8, 2) := dw_21 wX9_drawBench_c 8 rfl
theorem dX9_drawBench_106 : decode cX9_drawBench 106 = .ok (.if_icmp .ge 49, 3) := dw_162 wX9_drawBench_c 0 49 rfl rfl rfl
theorem dX9_drawBench_109 : decode cX9_drawBench 109 = .ok (.aload_n 1, 1) := dw_43 wX9_drawBench_c rfl
theorem dX9_drawBench_110 : decode cX9_drawBench 110 = .ok (.getfield 240, 3) := dw_180 wX9_drawBench_c 0 240 rfl rfl
theorem dX9_drawBench_113 : decode cX9_drawBench 113 = .ok (.iconst 0, 1) := dw_3 wX9_drawBench_c rfl
theorem dX9_drawBench_114 : decode cX9_drawBench 114 = .ok (.aload_n 0, 1) := dw_42 wX9_drawBench_c rfl
theorem dX9_drawBench_115 : decode cX9_drawBench 115 = .ok (.getfield 62, 3) := dw_180 wX9_drawBench_c 0 62 rfl rfl
theorem dX9_drawBench_118 : decode cX9_drawBench 118 = .ok (.iload 6, 2) := dw_21 wX9_drawBench_c 6 rfl
theorem dX9_drawBench_120 : decode cX9_drawBench 120 = .ok (.iaload, 1) := dw_46 wX9_drawBench_c rfl
theorem dX9_drawBench_121 : decode cX9_drawBench 121 = .ok (.iastore, 1) := dw_79 wX9_drawBench_c rfl
theorem dX9_drawBench_122 : decode cX9_drawBench 122 = .ok (.aload_n 1, 1) := dw_43 wX9_drawBench_c rfl
theorem dX9_drawBench_123 : decode cX9_drawBench 123 = .ok (.getfield 240, 3) := dw_180 wX9_drawBench_c 0 240 rfl rfl
theorem dX9_drawBench_126 : decode cX9_drawBench 126 = .ok (.iconst 1, 1) := dw_4 wX9_drawBench_c rfl
theorem dX9_drawBench_127 : decode cX9_drawBench 127 = .ok (.aload_n 0, 1) := dw_42 wX9_drawBench_c rfl
theorem dX9_drawBench_128 : decode cX9_drawBench 128 = .ok (.getfield 62, 3) := dw_180 wX9_drawBench_c 0 62 rfl rfl
theorem dX9_drawBench_131 : decode cX9_drawBench 131 = .ok (.iload 7, 2) := dw_21 wX9_drawBench_c 7 rfl
theorem dX9_drawBench_133 : decode cX9_drawBench 133 = .ok (.iaload, 1) := dw_46 wX9_drawBench_c rfl
theorem dX9_drawBench_134 : decode cX9_drawBench 134 = .ok (.iastore, 1) := dw_79 wX9_drawBench_c rfl
theorem dX9_drawBench_135 : decode cX9_drawBench 135 = .ok (.aload_n 1, 1) := dw_43 wX9_drawBench_c rfl
theorem dX9_drawBench_136 : decode cX9_drawBench 136 = .ok (.getfield 240, 3) := dw_180 wX9_drawBench_c 0 240 rfl rfl
theorem dX9_drawBench_139 : decode cX9_drawBench 139 = .ok (.iconst 2, 1) := dw_5 wX9_drawBench_c rfl
theorem dX9_drawBench_140 : decode cX9_drawBench 140 = .ok (.aload_n 0, 1) := dw_42 wX9_drawBench_c rfl
theorem dX9_drawBench_141 : decode cX9_drawBench 141 = .ok (.getfield 62, 3) := dw_180 wX9_drawBench_c 0 62 rfl rfl
theorem dX9_drawBench_144 : decode cX9_drawBench 144 = .ok (.iload 7, 2) := dw_21 wX9_drawBench_c 7 rfl
theorem dX9_drawBench_146 : decode cX9_drawBench 146 = .ok (.iconst 1, 1) := dw_4 wX9_drawBench_c rfl
theorem dX9_drawBench_147 : decode cX9_drawBench 147 = .ok (.iadd, 1) := dw_96 wX9_drawBench_c rfl
theorem dX9_drawBench_148 : decode cX9_drawBench 148 = .ok (.iload 5, 2) := dw_21 wX9_drawBench_c 5 rfl
theorem dX9_drawBench_150 : decode cX9_drawBench 150 = .ok (.iadd, 1) := dw_96 wX9_drawBench_c rfl
theorem dX9_drawBench_151 : decode cX9_drawBench 151 = .ok (.iaload, 1) := dw_46 wX9_drawBench_c rfl
theorem dX9_drawBench_152 : decode cX9_drawBench 152 = .ok (.iastore, 1) := dw_79 wX9_drawBench_c rfl
theorem dX9_drawBench_153 : decode cX9_drawBench 153 = .ok (.iconst 1, 1) := dw_4 wX9_drawBench_c rfl
theorem dX9_drawBench_154 : decode cX9_drawBench 154 = .ok (.ireturn, 1) := dw_172 wX9_drawBench_c rfl
theorem dX9_drawBench_155 : decode cX9_drawBench 155 = .ok (.iload 5, 2) := dw_21 wX9_drawBench_c 5 rfl
theorem dX9_drawBench_157 : decode cX9_drawBench 157 = .ok (.iload 8, 2) := dw_21 wX9_drawBench_c 8 rfl
theorem dX9_drawBench_159 : decode cX9_drawBench 159 = .ok (.isub, 1) := dw_100 wX9_drawBench_c rfl
theorem dX9_drawBench_160 : decode cX9_drawBench 160 = .ok (.istore 5, 2) := dw_54 wX9_drawBench_c 5 rfl
theorem dX9_drawBench_162 : decode cX9_drawBench 162 = .ok (.iinc 7 1, 3) := dw_132 wX9_drawBench_c 7 1 rfl rfl rfl
theorem dX9_drawBench_165 : decode cX9_drawBench 165 = .ok (.goto (-77), 3) := dn_167 wX9_drawBench_c 255 179 rfl (by decide)
theorem dX9_drawBench_168 : decode cX9_drawBench 168 = .ok (.iinc 6 1, 3) := dw_132 wX9_drawBench_c 6 1 rfl rfl rfl
theorem dX9_drawBench_171 : decode cX9_drawBench 171 = .ok (.goto (-95), 3) := dn_167 wX9_drawBench_c 255 161 rfl (by decide)
theorem dX9_drawBench_174 : decode cX9_drawBench 174 = .ok (.iconst 0, 1) := dw_3 wX9_drawBench_c rfl
theorem dX9_drawBench_175 : decode cX9_drawBench 175 = .ok (.ireturn, 1) := dw_172 wX9_drawBench_c rfl
end
