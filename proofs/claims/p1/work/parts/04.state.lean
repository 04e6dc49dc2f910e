/-! THE STATE: tags, the tables of the classes -/
def P_ty (dA : Nat → ClassId) : hx_y := [(dA 0, .int), (dA 1, .byte), (dA 2, .boolean), (dA 3, .long), (dA 4, .object "SmallCourt$Act"), (dA 5, .object "SmallCourt$Person"), (dA 6, .object "SmallCourt$Claim")]
def P_f0 : List hx_f := [.inl (-2147483648, 2147483647), .inl (-2147483648, 2147483647), .inr (false, []), .inr (false, []), .inl (-2147483648, 2147483647)]
def P_f1 : List hx_f := [.inl (-2147483648, 2147483647), .inr (false, []), .inr (false, []), .inr (false, []), .inr (false, []), .inr (false, []), .inr (false, []), .inr (false, [])]
def P_f2 : List hx_f := [.inl (-2147483648, 2147483647), .inr (false, []), .inr (false, []), .inr (false, []), .inr (false, []), .inr (false, []), .inl (-2147483648, 2147483647), .inl (-2147483648, 2147483647), .inl (-2147483648, 2147483647), .inl (-2147483648, 2147483647), .inl (-2147483648, 2147483647), .inl (-2147483648, 2147483647), .inl (-2147483648, 2147483647), .inl (-2147483648, 2147483647), .inl (-2147483648, 2147483647), .inl (-2147483648, 2147483647), .inl (-2147483648, 2147483647), .inl (-2147483648, 2147483647), .inl (-2147483648, 2147483647)]
def P_f3 : List hx_f := [.inl (-2147483648, 2147483647), .inr (false, []), .inr (false, []), .inr (false, []), .inr (false, []), .inr (false, [])]
def P_f4 : List hx_f := [.inl (-2147483648, 2147483647), .inl (-2147483648, 2147483647), .inl (-2147483648, 2147483647), .inl (-2147483648, 2147483647), .inl (-2147483648, 2147483647), .inl (-2147483648, 2147483647), .inl (-2147483648, 2147483647), .inl (-2147483648, 2147483647), .inl (-2147483648, 2147483647), .inl (-2147483648, 2147483647)]
def P_f5 : List hx_f := [.inl (-2147483648, 2147483647), .inl (-2147483648, 2147483647), .inr (false, []), .inr (false, []), .inr (false, []), .inr (false, []), .inr (false, []), .inr (false, []), .inr (false, []), .inl (-2147483648, 2147483647), .inl (-2147483648, 2147483647), .inl (-2147483648, 2147483647), .inl (-2147483648, 2147483647)]
def P_f6 : List hx_f := [.inr (false, []), .inl (-2147483648, 2147483647), .inl (-2147483648, 2147483647), .inl (-2147483648, 2147483647), .inl (-2147483648, 2147483647), .inl (-2147483648, 2147483647), .inr (false, [])]
def P_f7 : List hx_f := [.inl (-2147483648, 2147483647), .inl (-2147483648, 2147483647), .inl (-2147483648, 2147483647), .inr (false, []), .inl (-2147483648, 2147483647), .inr (false, []), .inr (false, []), .inr (false, [])]
def P_f8 : List hx_f := [.inl (-2147483648, 2147483647), .inl (-2147483648, 2147483647), .inr (false, []), .inr (false, []), .inr (false, [])]
def P_f9 : List hx_f := [.inr (false, []), .inl (-2147483648, 2147483647), .inl (-2147483648, 2147483647), .inr (false, []), .inr (false, []), .inr (false, []), .inl (-2147483648, 2147483647), .inr (false, []), .inl (-2147483648, 2147483647), .inr (false, []), .inr (false, []), .inl (-2147483648, 2147483647), .inr (false, []), .inl (-2147483648, 2147483647), .inr (false, []), .inr (false, []), .inr (false, []), .inr (false, []), .inr (false, []), .inr (false, [])]
def P_f10 : List hx_f := [.inl (-2147483648, 2147483647), .inl (-2147483648, 2147483647), .inr (false, []), .inr (false, []), .inr (false, []), .inr (false, []), .inr (false, []), .inl (-2147483648, 2147483647), .inl (-2147483648, 2147483647), .inl (-2147483648, 2147483647), .inl (-2147483648, 2147483647), .inl (-2147483648, 2147483647), .inr (false, []), .inl (-2147483648, 2147483647), .inl (-2147483648, 2147483647), .inr (false, []), .inl (-2147483648, 2147483647), .inr (false, []), .inl (-2147483648, 2147483647), .inr (false, []), .inl (-2147483648, 2147483647), .inr (false, []), .inr (false, []), .inr (false, []), .inr (false, []), .inr (false, []), .inr (false, []), .inr (false, []), .inr (false, []), .inl (-2147483648, 2147483647), .inr (false, []), .inr (false, []), .inr (false, []), .inr (false, []), .inr (false, []), .inr (false, []), .inl (-2147483648, 2147483647), .inr (false, []), .inr (false, []), .inr (false, []), .inr (false, []), .inr (false, []), .inr (false, []), .inr (false, []), .inr (false, []), .inr (false, []), .inr (false, []), .inr (false, []), .inr (false, []), .inr (false, []), .inr (false, []), .inr (false, []), .inr (false, []), .inr (false, []), .inr (false, []), .inr (false, []), .inr (false, []), .inl (-2147483648, 2147483647), .inr (false, []), .inl (-2147483648, 2147483647), .inr (false, []), .inr (false, []), .inr (false, []), .inr (false, []), .inr (false, []), .inr (false, []), .inr (false, []), .inl (-2147483648, 2147483647), .inl (-2147483648, 2147483647), .inl (-2147483648, 2147483647), .inl (-2147483648, 2147483647), .inl (-2147483648, 2147483647), .inl (-2147483648, 2147483647), .inr (false, []), .inr (false, []), .inl (-2147483648, 2147483647), .inr (false, []), .inr (false, []), .inr (false, []), .inr (false, []), .inr (false, []), .inr (false, []), .inr (false, []), .inl (-2147483648, 2147483647), .inl (-2147483648, 2147483647), .inr (false, []), .inl (-2147483648, 2147483647), .inl (-2147483648, 2147483647), .inr (false, []), .inr (false, []), .inl (-2147483648, 2147483647), .inr (false, []), .inl (-2147483648, 2147483647), .inr (false, []), .inr (false, []), .inl (-2147483648, 2147483647), .inl (-2147483648, 2147483647), .inr (false, [])]
def P_tb : List hx_d := [.inl (0, P_f0), .inl (1, P_f1), .inl (2, P_f2), .inl (3, P_f3), .inl (4, P_f4), .inl (5, P_f5), .inl (6, P_f6), .inl (7, P_f7), .inl (8, P_f8), .inl (9, P_f9), .inl (10, P_f10), .inr (0, 14, .inl (-2147483648, 2147483647)), .inr (0, 160, .inl (-2147483648, 2147483647)), .inr (0, 400, .inl (-2147483648, 2147483647)), .inr (0, 400, .inl (-2147483648, 2147483647)), .inr (0, 400, .inl (-2147483648, 2147483647)), .inr (0, 400, .inl (-2147483648, 2147483647)), .inr (0, 400, .inl (-2147483648, 2147483647)), .inr (0, 400, .inl (-2147483648, 2147483647)), .inr (2, 400, .inl (-2147483648, 2147483647)), .inr (0, 8, .inl (-2147483648, 2147483647)), .inr (0, 3, .inl (-2147483648, 2147483647)), .inr (0, 600, .inl (-2147483648, 2147483647)), .inr (0, 600, .inl (-2147483648, 2147483647)), .inr (0, 600, .inl (-2147483648, 2147483647)), .inr (0, 600, .inl (-2147483648, 2147483647)), .inr (0, 600, .inl (-2147483648, 2147483647)), .inr (0, 4, .inl (-2147483648, 2147483647)), .inr (0, 4, .inl (-2147483648, 2147483647)), .inr (0, 4, .inl (-2147483648, 2147483647)), .inr (0, 4, .inl (-2147483648, 2147483647)), .inr (0, 4, .inl (-2147483648, 2147483647)), .inr (0, 4, .inl (-2147483648, 2147483647)), .inr (0, 4, .inl (-2147483648, 2147483647)), .inr (1, 0, .inl (-2147483648, 2147483647)), .inr (0, 100, .inl (-2147483648, 2147483647)), .inr (0, 1600, .inl (-2147483648, 2147483647)), .inr (0, 4, .inl (-2147483648, 2147483647)), .inr (0, 4, .inl (-2147483648, 2147483647)), .inr (0, 8, .inl (-2147483648, 2147483647)), .inr (6, 8, .inr (false, [])), .inr (0, 2048, .inl (-2147483648, 2147483647)), .inr (1, 400, .inl (-2147483648, 2147483647)), .inr (4, 8, .inr (false, [])), .inr (5, 40, .inr (false, [])), .inr (6, 100, .inr (false, [])), .inr (6, 100, .inr (false, [])), .inr (0, 40, .inl (-2147483648, 2147483647)), .inr (0, 100, .inl (-2147483648, 2147483647)), .inr (0, 9, .inl (-2147483648, 2147483647)), .inr (0, 117, .inl (-2147483648, 2147483647)), .inr (0, 9, .inl (-2147483648, 2147483647)), .inr (0, 1152, .inl (-2147483648, 2147483647)), .inr (1, 400, .inl (-2147483648, 2147483647)), .inr (0, 13, .inl (-2147483648, 2147483647)), .inr (0, 128, .inl (-2147483648, 2147483647)), .inr (0, 128, .inl (-2147483648, 2147483647)), .inr (1, 175, .inl (-2147483648, 2147483647)), .inr (0, 40, .inl (-2147483648, 2147483647)), .inr (0, 40, .inl (-2147483648, 2147483647)), .inr (0, 40, .inl (-2147483648, 2147483647)), .inr (0, 40, .inl (-2147483648, 2147483647)), .inr (0, 40, .inl (-2147483648, 2147483647)), .inr (0, 40, .inl (-2147483648, 2147483647)), .inr (2, 40, .inl (-2147483648, 2147483647)), .inr (2, 40, .inl (-2147483648, 2147483647)), .inr (0, 400, .inl (-2147483648, 2147483647)), .inr (0, 400, .inl (-2147483648, 2147483647)), .inr (0, 400, .inl (-2147483648, 2147483647)), .inr (0, 400, .inl (-2147483648, 2147483647)), .inr (0, 400, .inl (-2147483648, 2147483647)), .inr (2, 400, .inl (-2147483648, 2147483647)), .inr (0, 100, .inl (-2147483648, 2147483647)), .inr (0, 100, .inl (-2147483648, 2147483647)), .inr (0, 100, .inl (-2147483648, 2147483647)), .inr (0, 100, .inl (-2147483648, 2147483647)), .inr (2, 100, .inl (-2147483648, 2147483647)), .inr (0, 100, .inl (-2147483648, 2147483647)), .inr (0, 100, .inl (-2147483648, 2147483647)), .inr (0, 100, .inl (-2147483648, 2147483647)), .inr (0, 100, .inl (-2147483648, 2147483647)), .inr (0, 100, .inl (-2147483648, 2147483647)), .inr (0, 100, .inl (-2147483648, 2147483647)), .inr (0, 100, .inl (-2147483648, 2147483647)), .inr (0, 100, .inl (-2147483648, 2147483647)), .inr (0, 100, .inl (-2147483648, 2147483647)), .inr (0, 100, .inl (-2147483648, 2147483647)), .inr (0, 300, .inl (-2147483648, 2147483647)), .inr (0, 800, .inl (-2147483648, 2147483647)), .inr (0, 100, .inl (-2147483648, 2147483647)), .inr (0, 100, .inl (-2147483648, 2147483647)), .inr (0, 100, .inl (-2147483648, 2147483647)), .inr (0, 100, .inl (-2147483648, 2147483647)), .inr (0, 600, .inl (-2147483648, 2147483647)), .inr (0, 600, .inl (-2147483648, 2147483647)), .inr (0, 600, .inl (-2147483648, 2147483647)), .inr (0, 600, .inl (-2147483648, 2147483647)), .inr (0, 600, .inl (-2147483648, 2147483647)), .inr (0, 40, .inl (-2147483648, 2147483647)), .inr (2, 128, .inl (-2147483648, 2147483647)), .inr (0, 4, .inl (-2147483648, 2147483647)), .inr (0, 4, .inl (-2147483648, 2147483647)), .inr (0, 4, .inl (-2147483648, 2147483647)), .inr (0, 4, .inl (-2147483648, 2147483647)), .inr (0, 4, .inl (-2147483648, 2147483647)), .inr (0, 4, .inl (-2147483648, 2147483647)), .inr (0, 4, .inl (-2147483648, 2147483647)), .inr (0, 4, .inl (-2147483648, 2147483647)), .inr (0, 1600, .inl (-2147483648, 2147483647)), .inr (0, 300, .inl (-2147483648, 2147483647)), .inr (0, 4, .inl (-2147483648, 2147483647)), .inr (0, 4, .inl (-2147483648, 2147483647)), .inr (0, 8, .inl (-2147483648, 2147483647)), .inr (0, 8, .inl (-2147483648, 2147483647)), .inr (0, 2304, .inl (-2147483648, 2147483647)), .inr (3, 61, .inl (0, 0))]
theorem hx_tn {i : Int32} {n : Nat} (h1 : 0 ≤ i.toInt) (h2 : i.toInt < n) : i.toNatClampNeg < n := by unfold Int32.toNatClampNeg; omega
def P_wo : Nat → Int32 := fun j => match j with | 1 => 480 | 2 => 30 | 3 => 12 | 4 => 60 | 5 => 2 | 6 => 4 | 7 => 1 | 8 => 40 | 9 => 21 | _ => 0
def P_w1 : Nat → Int32 := fun j => P_wo (j + 1)
def P_fr (w : Int32) : Int32 := if w.toInt = 0 then -1 else P_wo w.toInt.toNat
theorem td_0 : P_tb[0]? = some (.inl (0, P_f0)) := rfl
theorem td_1 : P_tb[1]? = some (.inl (1, P_f1)) := rfl
theorem td_2 : P_tb[2]? = some (.inl (2, P_f2)) := rfl
theorem td_3 : P_tb[3]? = some (.inl (3, P_f3)) := rfl
theorem td_4 : P_tb[4]? = some (.inl (4, P_f4)) := rfl
theorem td_5 : P_tb[5]? = some (.inl (5, P_f5)) := rfl
theorem td_6 : P_tb[6]? = some (.inl (6, P_f6)) := rfl
theorem td_7 : P_tb[7]? = some (.inl (7, P_f7)) := rfl
theorem td_8 : P_tb[8]? = some (.inl (8, P_f8)) := rfl
theorem td_9 : P_tb[9]? = some (.inl (9, P_f9)) := rfl
theorem td_10 : P_tb[10]? = some (.inl (10, P_f10)) := rfl
theorem td_11 : P_tb[11]? = some (.inr (0, 14, .inl (-2147483648, 2147483647))) := rfl
theorem td_12 : P_tb[12]? = some (.inr (0, 160, .inl (-2147483648, 2147483647))) := rfl
theorem td_13 : P_tb[13]? = some (.inr (0, 400, .inl (-2147483648, 2147483647))) := rfl
theorem td_14 : P_tb[14]? = some (.inr (0, 400, .inl (-2147483648, 2147483647))) := rfl
theorem td_15 : P_tb[15]? = some (.inr (0, 400, .inl (-2147483648, 2147483647))) := rfl
theorem td_16 : P_tb[16]? = some (.inr (0, 400, .inl (-2147483648, 2147483647))) := rfl
theorem td_17 : P_tb[17]? = some (.inr (0, 400, .inl (-2147483648, 2147483647))) := rfl
theorem td_18 : P_tb[18]? = some (.inr (0, 400, .inl (-2147483648, 2147483647))) := rfl
theorem td_19 : P_tb[19]? = some (.inr (2, 400, .inl (-2147483648, 2147483647))) := rfl
theorem td_20 : P_tb[20]? = some (.inr (0, 8, .inl (-2147483648, 2147483647))) := rfl
theorem td_21 : P_tb[21]? = some (.inr (0, 3, .inl (-2147483648, 2147483647))) := rfl
theorem td_22 : P_tb[22]? = some (.inr (0, 600, .inl (-2147483648, 2147483647))) := rfl
theorem td_23 : P_tb[23]? = some (.inr (0, 600, .inl (-2147483648, 2147483647))) := rfl
theorem td_24 : P_tb[24]? = some (.inr (0, 600, .inl (-2147483648, 2147483647))) := rfl
theorem td_25 : P_tb[25]? = some (.inr (0, 600, .inl (-2147483648, 2147483647))) := rfl
theorem td_26 : P_tb[26]? = some (.inr (0, 600, .inl (-2147483648, 2147483647))) := rfl
theorem td_27 : P_tb[27]? = some (.inr (0, 4, .inl (-2147483648, 2147483647))) := rfl
theorem td_28 : P_tb[28]? = some (.inr (0, 4, .inl (-2147483648, 2147483647))) := rfl
theorem td_29 : P_tb[29]? = some (.inr (0, 4, .inl (-2147483648, 2147483647))) := rfl
theorem td_30 : P_tb[30]? = some (.inr (0, 4, .inl (-2147483648, 2147483647))) := rfl
theorem td_31 : P_tb[31]? = some (.inr (0, 4, .inl (-2147483648, 2147483647))) := rfl
theorem td_32 : P_tb[32]? = some (.inr (0, 4, .inl (-2147483648, 2147483647))) := rfl
theorem td_33 : P_tb[33]? = some (.inr (0, 4, .inl (-2147483648, 2147483647))) := rfl
theorem td_34 : P_tb[34]? = some (.inr (1, 0, .inl (-2147483648, 2147483647))) := rfl
theorem td_35 : P_tb[35]? = some (.inr (0, 100, .inl (-2147483648, 2147483647))) := rfl
theorem td_36 : P_tb[36]? = some (.inr (0, 1600, .inl (-2147483648, 2147483647))) := rfl
theorem td_37 : P_tb[37]? = some (.inr (0, 4, .inl (-2147483648, 2147483647))) := rfl
theorem td_38 : P_tb[38]? = some (.inr (0, 4, .inl (-2147483648, 2147483647))) := rfl
theorem td_39 : P_tb[39]? = some (.inr (0, 8, .inl (-2147483648, 2147483647))) := rfl
theorem td_40 : P_tb[40]? = some (.inr (6, 8, .inr (false, []))) := rfl
theorem td_41 : P_tb[41]? = some (.inr (0, 2048, .inl (-2147483648, 2147483647))) := rfl
theorem td_42 : P_tb[42]? = some (.inr (1, 400, .inl (-2147483648, 2147483647))) := rfl
theorem td_43 : P_tb[43]? = some (.inr (4, 8, .inr (false, []))) := rfl
theorem td_44 : P_tb[44]? = some (.inr (5, 40, .inr (false, []))) := rfl
theorem td_45 : P_tb[45]? = some (.inr (6, 100, .inr (false, []))) := rfl
theorem td_46 : P_tb[46]? = some (.inr (6, 100, .inr (false, []))) := rfl
theorem td_47 : P_tb[47]? = some (.inr (0, 40, .inl (-2147483648, 2147483647))) := rfl
theorem td_48 : P_tb[48]? = some (.inr (0, 100, .inl (-2147483648, 2147483647))) := rfl
theorem td_49 : P_tb[49]? = some (.inr (0, 9, .inl (-2147483648, 2147483647))) := rfl
theorem td_50 : P_tb[50]? = some (.inr (0, 117, .inl (-2147483648, 2147483647))) := rfl
theorem td_51 : P_tb[51]? = some (.inr (0, 9, .inl (-2147483648, 2147483647))) := rfl
theorem td_52 : P_tb[52]? = some (.inr (0, 1152, .inl (-2147483648, 2147483647))) := rfl
theorem td_53 : P_tb[53]? = some (.inr (1, 400, .inl (-2147483648, 2147483647))) := rfl
theorem td_54 : P_tb[54]? = some (.inr (0, 13, .inl (-2147483648, 2147483647))) := rfl
theorem td_55 : P_tb[55]? = some (.inr (0, 128, .inl (-2147483648, 2147483647))) := rfl
theorem td_56 : P_tb[56]? = some (.inr (0, 128, .inl (-2147483648, 2147483647))) := rfl
theorem td_57 : P_tb[57]? = some (.inr (1, 175, .inl (-2147483648, 2147483647))) := rfl
theorem td_58 : P_tb[58]? = some (.inr (0, 40, .inl (-2147483648, 2147483647))) := rfl
theorem td_59 : P_tb[59]? = some (.inr (0, 40, .inl (-2147483648, 2147483647))) := rfl
theorem td_60 : P_tb[60]? = some (.inr (0, 40, .inl (-2147483648, 2147483647))) := rfl
theorem td_61 : P_tb[61]? = some (.inr (0, 40, .inl (-2147483648, 2147483647))) := rfl
theorem td_62 : P_tb[62]? = some (.inr (0, 40, .inl (-2147483648, 2147483647))) := rfl
theorem td_63 : P_tb[63]? = some (.inr (0, 40, .inl (-2147483648, 2147483647))) := rfl
theorem td_64 : P_tb[64]? = some (.inr (2, 40, .inl (-2147483648, 2147483647))) := rfl
theorem td_65 : P_tb[65]? = some (.inr (2, 40, .inl (-2147483648, 2147483647))) := rfl
theorem td_66 : P_tb[66]? = some (.inr (0, 400, .inl (-2147483648, 2147483647))) := rfl
theorem td_67 : P_tb[67]? = some (.inr (0, 400, .inl (-2147483648, 2147483647))) := rfl
theorem td_68 : P_tb[68]? = some (.inr (0, 400, .inl (-2147483648, 2147483647))) := rfl
theorem td_69 : P_tb[69]? = some (.inr (0, 400, .inl (-2147483648, 2147483647))) := rfl
theorem td_70 : P_tb[70]? = some (.inr (0, 400, .inl (-2147483648, 2147483647))) := rfl
theorem td_71 : P_tb[71]? = some (.inr (2, 400, .inl (-2147483648, 2147483647))) := rfl
theorem td_72 : P_tb[72]? = some (.inr (0, 100, .inl (-2147483648, 2147483647))) := rfl
theorem td_73 : P_tb[73]? = some (.inr (0, 100, .inl (-2147483648, 2147483647))) := rfl
theorem td_74 : P_tb[74]? = some (.inr (0, 100, .inl (-2147483648, 2147483647))) := rfl
theorem td_75 : P_tb[75]? = some (.inr (0, 100, .inl (-2147483648, 2147483647))) := rfl
theorem td_76 : P_tb[76]? = some (.inr (2, 100, .inl (-2147483648, 2147483647))) := rfl
theorem td_77 : P_tb[77]? = some (.inr (0, 100, .inl (-2147483648, 2147483647))) := rfl
theorem td_78 : P_tb[78]? = some (.inr (0, 100, .inl (-2147483648, 2147483647))) := rfl
theorem td_79 : P_tb[79]? = some (.inr (0, 100, .inl (-2147483648, 2147483647))) := rfl
theorem td_80 : P_tb[80]? = some (.inr (0, 100, .inl (-2147483648, 2147483647))) := rfl
theorem td_81 : P_tb[81]? = some (.inr (0, 100, .inl (-2147483648, 2147483647))) := rfl
theorem td_82 : P_tb[82]? = some (.inr (0, 100, .inl (-2147483648, 2147483647))) := rfl
theorem td_83 : P_tb[83]? = some (.inr (0, 100, .inl (-2147483648, 2147483647))) := rfl
theorem td_84 : P_tb[84]? = some (.inr (0, 100, .inl (-2147483648, 2147483647))) := rfl
theorem td_85 : P_tb[85]? = some (.inr (0, 100, .inl (-2147483648, 2147483647))) := rfl
theorem td_86 : P_tb[86]? = some (.inr (0, 100, .inl (-2147483648, 2147483647))) := rfl
theorem td_87 : P_tb[87]? = some (.inr (0, 300, .inl (-2147483648, 2147483647))) := rfl
theorem td_88 : P_tb[88]? = some (.inr (0, 800, .inl (-2147483648, 2147483647))) := rfl
theorem td_89 : P_tb[89]? = some (.inr (0, 100, .inl (-2147483648, 2147483647))) := rfl
theorem td_90 : P_tb[90]? = some (.inr (0, 100, .inl (-2147483648, 2147483647))) := rfl
theorem td_91 : P_tb[91]? = some (.inr (0, 100, .inl (-2147483648, 2147483647))) := rfl
theorem td_92 : P_tb[92]? = some (.inr (0, 100, .inl (-2147483648, 2147483647))) := rfl
theorem td_93 : P_tb[93]? = some (.inr (0, 600, .inl (-2147483648, 2147483647))) := rfl
theorem td_94 : P_tb[94]? = some (.inr (0, 600, .inl (-2147483648, 2147483647))) := rfl
theorem td_95 : P_tb[95]? = some (.inr (0, 600, .inl (-2147483648, 2147483647))) := rfl
theorem td_96 : P_tb[96]? = some (.inr (0, 600, .inl (-2147483648, 2147483647))) := rfl
theorem td_97 : P_tb[97]? = some (.inr (0, 600, .inl (-2147483648, 2147483647))) := rfl
theorem td_98 : P_tb[98]? = some (.inr (0, 40, .inl (-2147483648, 2147483647))) := rfl
theorem td_99 : P_tb[99]? = some (.inr (2, 128, .inl (-2147483648, 2147483647))) := rfl
theorem td_100 : P_tb[100]? = some (.inr (0, 4, .inl (-2147483648, 2147483647))) := rfl
theorem td_101 : P_tb[101]? = some (.inr (0, 4, .inl (-2147483648, 2147483647))) := rfl
theorem td_102 : P_tb[102]? = some (.inr (0, 4, .inl (-2147483648, 2147483647))) := rfl
theorem td_103 : P_tb[103]? = some (.inr (0, 4, .inl (-2147483648, 2147483647))) := rfl
theorem td_104 : P_tb[104]? = some (.inr (0, 4, .inl (-2147483648, 2147483647))) := rfl
theorem td_105 : P_tb[105]? = some (.inr (0, 4, .inl (-2147483648, 2147483647))) := rfl
theorem td_106 : P_tb[106]? = some (.inr (0, 4, .inl (-2147483648, 2147483647))) := rfl
theorem td_107 : P_tb[107]? = some (.inr (0, 4, .inl (-2147483648, 2147483647))) := rfl
theorem td_108 : P_tb[108]? = some (.inr (0, 1600, .inl (-2147483648, 2147483647))) := rfl
theorem td_109 : P_tb[109]? = some (.inr (0, 300, .inl (-2147483648, 2147483647))) := rfl
theorem td_110 : P_tb[110]? = some (.inr (0, 4, .inl (-2147483648, 2147483647))) := rfl
theorem td_111 : P_tb[111]? = some (.inr (0, 4, .inl (-2147483648, 2147483647))) := rfl
theorem td_112 : P_tb[112]? = some (.inr (0, 8, .inl (-2147483648, 2147483647))) := rfl
theorem td_113 : P_tb[113]? = some (.inr (0, 8, .inl (-2147483648, 2147483647))) := rfl
theorem td_114 : P_tb[114]? = some (.inr (0, 2304, .inl (-2147483648, 2147483647))) := rfl
theorem td_115 : P_tb[115]? = some (.inr (3, 61, .inl (0, 0))) := rfl
