/-! THE STATE: tags, the tables of the classes -/
def P_ty (dA : Nat → ClassId) : hx_y := [(dA 0, .int), (dA 1, .byte), (dA 2, .boolean), (dA 3, .long), (dA 4, .object "SmallCourt$Act"), (dA 5, .object "SmallCourt$Person"), (dA 6, .object "SmallCourt$Claim")]
def P_wo : Nat → Int32 := fun j => match j with | 1 => 480 | 2 => 30 | 3 => 12 | 4 => 60 | 5 => 2 | 6 => 4 | 7 => 1 | 8 => 40 | 9 => 21 | _ => 0
/-! THE STATE, TYPED: the tables with intervals -/
def T_f0 : List hx_f := [.inl (-1, 7), .inl (-1, 7999), .inr (true, [11]), .inr (true, [12]), .inl (0, 160)]
def T_f1 : List hx_f := [.inl (0, 400), .inr (true, [13]), .inr (true, [14]), .inr (true, [15]), .inr (true, [16]), .inr (true, [17]), .inr (true, [18]), .inr (true, [19])]
def T_f2 : List hx_f := [.inl (0, 99), .inr (true, [4]), .inr (true, [4]), .inr (true, [0]), .inr (true, [20]), .inr (true, [21]), .inl (0, 9999), .inl (0, 7999), .inl (0, 7999), .inl (-2147483648, 2147483647), .inl (-1, 7999), .inl (-1, 7999), .inl (0, 5), .inl (-2147483648, 2147483647), .inl (-2147483648, 2147483647), .inl (-2147483648, 2147483647), .inl (-2147483648, 2147483647), .inl (-2147483648, 2147483647), .inl (-2147483648, 2147483647)]
def T_f3 : List hx_f := [.inl (0, 600), .inr (true, [22]), .inr (true, [23]), .inr (true, [24]), .inr (true, [25]), .inr (true, [26])]
def T_f4 : List hx_f := [.inl (0, 39), .inl (-30000, 7999), .inl (-1, 19), .inl (-2147483648, 2147483647), .inl (-2147483648, 2147483647), .inl (-2147483648, 2147483647), .inl (-2147483648, 2147483647), .inl (0, 1), .inl (0, 1), .inl (0, 1)]
def T_f5 : List hx_f := [.inl (0, 4), .inl (0, 4), .inr (true, [27]), .inr (true, [28]), .inr (true, [29]), .inr (true, [30]), .inr (true, [31]), .inr (true, [32]), .inr (true, [33]), .inl (-2147483648, 2147483647), .inl (-2147483648, 2147483647), .inl (-2147483648, 2147483647), .inl (-2147483648, 2147483647)]
def T_f6 : List hx_f := [.inr (true, [34, 42]), .inl (0, 400), .inl (0, 402), .inl (-2147483648, 2147483647), .inl (-2147483648, 2147483647), .inl (-2147483648, 2147483647), .inr (false, [0, 129])]
def T_f7 : List hx_f := [.inl (-1, 100), .inl (0, 4), .inl (-2147483648, 2147483647), .inr (true, [35]), .inl (0, 40), .inr (true, [36]), .inr (true, [37]), .inr (true, [38])]
def T_f8 : List hx_f := [.inl (0, 8), .inl (0, 8), .inr (true, [39]), .inr (true, [40]), .inr (true, [41])]
def T_f9 : List hx_f := [.inr (true, [42]), .inl (0, 400), .inl (0, 7999), .inr (true, [6]), .inr (true, [0]), .inr (true, [43]), .inl (0, 8), .inr (true, [44]), .inl (0, 40), .inr (true, [1]), .inr (true, [45]), .inl (0, 100), .inr (true, [46]), .inl (0, 100), .inr (true, [3]), .inr (true, [47]), .inr (true, [48]), .inr (true, [5]), .inr (true, [7]), .inr (true, [8])]
def T_f10 : List hx_f := [.inl (0, 7999), .inl (0, 8), .inr (true, [49]), .inr (true, [50]), .inr (true, [51]), .inr (true, [52]), .inr (true, [53]), .inl (0, 400), .inl (0, 402), .inl (-2147483648, 2147483647), .inl (0, 9999), .inl (0, 400), .inr (true, [54]), .inl (-2147483648, 2147483647), .inl (0, 128), .inr (true, [55]), .inl (0, 20), .inr (true, [56]), .inl (0, 128), .inr (true, [57]), .inl (0, 40), .inr (true, [58]), .inr (true, [59]), .inr (true, [60]), .inr (true, [61]), .inr (true, [62]), .inr (true, [63]), .inr (true, [64]), .inr (true, [65]), .inl (0, 400), .inr (true, [66]), .inr (true, [67]), .inr (true, [68]), .inr (true, [69]), .inr (true, [70]), .inr (true, [71]), .inl (0, 100), .inr (true, [72]), .inr (true, [73]), .inr (true, [74]), .inr (true, [75]), .inr (true, [76]), .inr (true, [77]), .inr (true, [78]), .inr (true, [79]), .inr (true, [80]), .inr (true, [81]), .inr (true, [82]), .inr (true, [83]), .inr (true, [84]), .inr (true, [85]), .inr (true, [86]), .inr (true, [87]), .inr (true, [88]), .inr (true, [89]), .inr (true, [90]), .inr (true, [91]), .inl (0, 100), .inr (true, [92]), .inl (0, 600), .inr (true, [93]), .inr (true, [94]), .inr (true, [95]), .inr (true, [96]), .inr (true, [97]), .inr (true, [98]), .inr (true, [99]), .inl (0, 366100000), .inl (0, 610000), .inl (-2147483648, 2147483647), .inl (-2147483648, 2147483647), .inl (0, 8), .inl (0, 4), .inr (true, [100]), .inr (true, [101]), .inl (0, 4), .inr (true, [102]), .inr (true, [103]), .inr (true, [104]), .inr (true, [105]), .inr (true, [106]), .inr (true, [107]), .inr (true, [108]), .inl (0, 1), .inl (0, 300), .inr (true, [109]), .inl (-2147483648, 2147483647), .inl (0, 4), .inr (true, [110]), .inr (true, [111]), .inl (0, 8), .inr (true, [112]), .inl (0, 8), .inr (true, [113]), .inr (true, [114]), .inl (0, 60), .inl (0, 60), .inr (true, [115])]
def T_r0 : List hx_f := [.inl (-2147483648, 2147483647), .inl (-2147483648, 2147483647), .inr (false, [11, 127]), .inr (false, [12, 128]), .inl (-2147483648, 2147483647)]
def T_r1 : List hx_f := [.inl (-2147483648, 2147483647), .inr (false, [13]), .inr (false, [14]), .inr (false, [15]), .inr (false, [16]), .inr (false, [17]), .inr (false, [18]), .inr (false, [19])]
def T_r2 : List hx_f := [.inl (-2147483648, 2147483647), .inr (false, [4]), .inr (false, [4]), .inr (false, [0]), .inr (false, [20]), .inr (false, [21]), .inl (-2147483648, 2147483647), .inl (-2147483648, 2147483647), .inl (-2147483648, 2147483647), .inl (-2147483648, 2147483647), .inl (-2147483648, 2147483647), .inl (-2147483648, 2147483647), .inl (-2147483648, 2147483647), .inl (-2147483648, 2147483647), .inl (-2147483648, 2147483647), .inl (-2147483648, 2147483647), .inl (-2147483648, 2147483647), .inl (-2147483648, 2147483647), .inl (-2147483648, 2147483647)]
def T_r3 : List hx_f := [.inl (-2147483648, 2147483647), .inr (false, [22]), .inr (false, [23]), .inr (false, [24]), .inr (false, [25]), .inr (false, [26])]
def T_r4 : List hx_f := [.inl (-2147483648, 2147483647), .inl (-2147483648, 2147483647), .inl (-2147483648, 2147483647), .inl (-2147483648, 2147483647), .inl (-2147483648, 2147483647), .inl (-2147483648, 2147483647), .inl (-2147483648, 2147483647), .inl (-2147483648, 2147483647), .inl (-2147483648, 2147483647), .inl (-2147483648, 2147483647)]
def T_r5 : List hx_f := [.inl (-2147483648, 2147483647), .inl (-2147483648, 2147483647), .inr (false, [27]), .inr (false, [28]), .inr (false, [29]), .inr (false, [30]), .inr (false, [31]), .inr (false, [32]), .inr (false, [33]), .inl (-2147483648, 2147483647), .inl (-2147483648, 2147483647), .inl (-2147483648, 2147483647), .inl (-2147483648, 2147483647)]
def T_r6 : List hx_f := [.inr (false, [34, 42]), .inl (-2147483648, 2147483647), .inl (-2147483648, 2147483647), .inl (-2147483648, 2147483647), .inl (-2147483648, 2147483647), .inl (-2147483648, 2147483647), .inr (false, [0, 129])]
def T_r7 : List hx_f := [.inl (-2147483648, 2147483647), .inl (-2147483648, 2147483647), .inl (-2147483648, 2147483647), .inr (false, [35]), .inl (-2147483648, 2147483647), .inr (false, [36]), .inr (false, [37]), .inr (false, [38])]
def T_r8 : List hx_f := [.inl (-2147483648, 2147483647), .inl (-2147483648, 2147483647), .inr (false, [39]), .inr (false, [40]), .inr (false, [41])]
def T_r9 : List hx_f := [.inr (false, [42]), .inl (-2147483648, 2147483647), .inl (-2147483648, 2147483647), .inr (false, [6]), .inr (false, [0]), .inr (false, [43]), .inl (-2147483648, 2147483647), .inr (false, [44]), .inl (-2147483648, 2147483647), .inr (false, [1]), .inr (false, [45]), .inl (-2147483648, 2147483647), .inr (false, [46]), .inl (-2147483648, 2147483647), .inr (false, [3]), .inr (false, [47]), .inr (false, [48]), .inr (false, [5]), .inr (false, [7]), .inr (false, [8])]
def T_r10 : List hx_f := [.inl (-2147483648, 2147483647), .inl (-2147483648, 2147483647), .inr (false, [49]), .inr (false, [50]), .inr (false, [51]), .inr (false, [52]), .inr (false, [53]), .inl (-2147483648, 2147483647), .inl (-2147483648, 2147483647), .inl (-2147483648, 2147483647), .inl (-2147483648, 2147483647), .inl (-2147483648, 2147483647), .inr (false, [54]), .inl (-2147483648, 2147483647), .inl (-2147483648, 2147483647), .inr (false, [55]), .inl (-2147483648, 2147483647), .inr (false, [56]), .inl (-2147483648, 2147483647), .inr (false, [57]), .inl (-2147483648, 2147483647), .inr (false, [58]), .inr (false, [59]), .inr (false, [60]), .inr (false, [61]), .inr (false, [62]), .inr (false, [63]), .inr (false, [64]), .inr (false, [65]), .inl (-2147483648, 2147483647), .inr (false, [66]), .inr (false, [67]), .inr (false, [68]), .inr (false, [69]), .inr (false, [70]), .inr (false, [71]), .inl (-2147483648, 2147483647), .inr (false, [72]), .inr (false, [73]), .inr (false, [74]), .inr (false, [75]), .inr (false, [76]), .inr (false, [77]), .inr (false, [78]), .inr (false, [79]), .inr (false, [80]), .inr (false, [81]), .inr (false, [82]), .inr (false, [83]), .inr (false, [84]), .inr (false, [85]), .inr (false, [86]), .inr (false, [87]), .inr (false, [88]), .inr (false, [89]), .inr (false, [90]), .inr (false, [91]), .inl (-2147483648, 2147483647), .inr (false, [92]), .inl (-2147483648, 2147483647), .inr (false, [93]), .inr (false, [94]), .inr (false, [95]), .inr (false, [96]), .inr (false, [97]), .inr (false, [98]), .inr (false, [99]), .inl (-2147483648, 2147483647), .inl (-2147483648, 2147483647), .inl (-2147483648, 2147483647), .inl (-2147483648, 2147483647), .inl (-2147483648, 2147483647), .inl (-2147483648, 2147483647), .inr (false, [100]), .inr (false, [101]), .inl (-2147483648, 2147483647), .inr (false, [102]), .inr (false, [103]), .inr (false, [104]), .inr (false, [105]), .inr (false, [106]), .inr (false, [107]), .inr (false, [108]), .inl (-2147483648, 2147483647), .inl (-2147483648, 2147483647), .inr (false, [109]), .inl (-2147483648, 2147483647), .inl (-2147483648, 2147483647), .inr (false, [110]), .inr (false, [111]), .inl (-2147483648, 2147483647), .inr (false, [112]), .inl (-2147483648, 2147483647), .inr (false, [113]), .inr (false, [114]), .inl (-2147483648, 2147483647), .inl (-2147483648, 2147483647), .inr (false, [115])]
def T_a0 : List hx_f := [.inl (-1, 7), .inl (-1, 7999), .inr (true, [11, 127]), .inr (true, [12, 128]), .inl (0, 160)]
def T_tb : List hx_d := [.inl (0, T_f0), .inl (1, T_f1), .inl (2, T_f2), .inl (3, T_f3), .inl (4, T_f4), .inl (5, T_f5), .inl (6, T_f6), .inl (7, T_f7), .inl (8, T_f8), .inl (9, T_f9), .inl (10, T_f10), .inr (0, 14, .inl (-2147483648, 2147483647)), .inr (0, 160, .inl (-2147483648, 2147483647)), .inr (0, 400, .inl (-2147483648, 2147483647)), .inr (0, 400, .inl (-2147483648, 2147483647)), .inr (0, 400, .inl (-2147483648, 2147483647)), .inr (0, 400, .inl (-2147483648, 2147483647)), .inr (0, 400, .inl (-2147483648, 2147483647)), .inr (0, 400, .inl (0, 399)), .inr (2, 400, .inl (0, 1)), .inr (0, 8, .inl (-2147483648, 2147483647)), .inr (0, 3, .inl (-2147483648, 2147483647)), .inr (0, 600, .inl (-2147483648, 2147483647)), .inr (0, 600, .inl (-2147483648, 2147483647)), .inr (0, 600, .inl (-2147483648, 2147483647)), .inr (0, 600, .inl (-2147483648, 2147483647)), .inr (0, 600, .inl (-2147483648, 2147483647)), .inr (0, 4, .inl (-2147483648, 2147483647)), .inr (0, 4, .inl (-2147483648, 2147483647)), .inr (0, 4, .inl (-2147483648, 2147483647)), .inr (0, 4, .inl (-2147483648, 2147483647)), .inr (0, 4, .inl (-2147483648, 2147483647)), .inr (0, 4, .inl (-2147483648, 2147483647)), .inr (0, 4, .inl (-2147483648, 2147483647)), .inr (1, 0, .inl (-128, 127)), .inr (0, 100, .inl (-2147483648, 2147483647)), .inr (0, 1600, .inl (-2147483648, 2147483647)), .inr (0, 4, .inl (0, 39)), .inr (0, 4, .inl (0, 39)), .inr (0, 8, .inl (-2147483648, 2147483647)), .inr (6, 8, .inr (false, [2])), .inr (0, 2048, .inl (-2147483648, 2147483647)), .inr (1, 400, .inl (-128, 127)), .inr (4, 8, .inr (false, [0])), .inr (5, 40, .inr (false, [4])), .inr (6, 100, .inr (false, [2])), .inr (6, 100, .inr (false, [2])), .inr (0, 40, .inl (-2147483648, 2147483647)), .inr (0, 100, .inl (-2147483648, 2147483647)), .inr (0, 9, .inl (-2147483648, 2147483647)), .inr (0, 117, .inl (0, 9999)), .inr (0, 9, .inl (0, 128)), .inr (0, 1152, .inl (-2147483648, 2147483647)), .inr (1, 400, .inl (-128, 127)), .inr (0, 13, .inl (0, 9999)), .inr (0, 128, .inl (-2147483648, 2147483647)), .inr (0, 128, .inl (0, 100)), .inr (1, 175, .inl (-128, 127)), .inr (0, 40, .inl (-30000, 7999)), .inr (0, 40, .inl (0, 9999)), .inr (0, 40, .inl (0, 20)), .inr (0, 40, .inl (0, 99)), .inr (0, 40, .inl (0, 99)), .inr (0, 40, .inl (-1, 19)), .inr (2, 40, .inl (0, 1)), .inr (2, 40, .inl (0, 1)), .inr (0, 400, .inl (-2147483648, 2147483647)), .inr (0, 400, .inl (-2147483648, 2147483647)), .inr (0, 400, .inl (-2147483648, 2147483647)), .inr (0, 400, .inl (-2147483648, 2147483647)), .inr (0, 400, .inl (-2147483648, 2147483647)), .inr (2, 400, .inl (0, 1)), .inr (0, 100, .inl (0, 39)), .inr (0, 100, .inl (0, 39)), .inr (0, 100, .inl (0, 9999)), .inr (0, 100, .inl (0, 7999)), .inr (2, 100, .inl (0, 1)), .inr (0, 100, .inl (0, 9)), .inr (0, 100, .inl (0, 7999)), .inr (0, 100, .inl (0, 8)), .inr (0, 100, .inl (0, 512)), .inr (0, 100, .inl (-1, 7999)), .inr (0, 100, .inl (-1, 7999)), .inr (0, 100, .inl (-1, 7999)), .inr (0, 100, .inl (-1, 7999)), .inr (0, 100, .inl (-1, 7999)), .inr (0, 100, .inl (0, 5)), .inr (0, 300, .inl (-2147483648, 2147483647)), .inr (0, 800, .inl (-2147483648, 2147483647)), .inr (0, 100, .inl (0, 9999)), .inr (0, 100, .inl (0, 600000)), .inr (0, 100, .inl (0, 9999)), .inr (0, 100, .inl (0, 99)), .inr (0, 600, .inl (-2147483648, 2147483647)), .inr (0, 600, .inl (-2147483648, 2147483647)), .inr (0, 600, .inl (0, 610000)), .inr (0, 600, .inl (-2147483648, 2147483647)), .inr (0, 600, .inl (-2147483648, 2147483647)), .inr (0, 40, .inl (0, 39)), .inr (2, 128, .inl (0, 1)), .inr (0, 4, .inl (-2147483648, 2147483647)), .inr (0, 4, .inl (-2147483648, 2147483647)), .inr (0, 4, .inl (0, 99)), .inr (0, 4, .inl (0, 2147483647)), .inr (0, 4, .inl (0, 9999)), .inr (0, 4, .inl (0, 12)), .inr (0, 4, .inl (0, 12)), .inr (0, 4, .inl (-2147483648, 2147483647)), .inr (0, 1600, .inl (-2147483648, 2147483647)), .inr (0, 300, .inl (-2147483648, 2147483647)), .inr (0, 4, .inl (0, 39)), .inr (0, 4, .inl (0, 39)), .inr (0, 8, .inl (0, 99)), .inr (0, 8, .inl (0, 99)), .inr (0, 2304, .inl (-2147483648, 2147483647)), .inr (3, 61, .lng), .inl (0, T_r0), .inl (1, T_r1), .inl (2, T_r2), .inl (3, T_r3), .inl (4, T_r4), .inl (5, T_r5), .inl (6, T_r6), .inl (7, T_r7), .inl (8, T_r8), .inl (9, T_r9), .inl (10, T_r10), .inr (0, 14, .inl (-2147483648, 2147483647)), .inr (0, 160, .inl (-2147483648, 2147483647)), .inl (0, T_a0)]
theorem tt_0 : T_tb[0]? = some (.inl (0, T_f0)) := rfl
theorem tt_1 : T_tb[1]? = some (.inl (1, T_f1)) := rfl
theorem tt_2 : T_tb[2]? = some (.inl (2, T_f2)) := rfl
theorem tt_3 : T_tb[3]? = some (.inl (3, T_f3)) := rfl
theorem tt_4 : T_tb[4]? = some (.inl (4, T_f4)) := rfl
theorem tt_5 : T_tb[5]? = some (.inl (5, T_f5)) := rfl
theorem tt_6 : T_tb[6]? = some (.inl (6, T_f6)) := rfl
theorem tt_7 : T_tb[7]? = some (.inl (7, T_f7)) := rfl
theorem tt_8 : T_tb[8]? = some (.inl (8, T_f8)) := rfl
theorem tt_9 : T_tb[9]? = some (.inl (9, T_f9)) := rfl
theorem tt_10 : T_tb[10]? = some (.inl (10, T_f10)) := rfl
theorem tt_11 : T_tb[11]? = some (.inr (0, 14, .inl (-2147483648, 2147483647))) := rfl
theorem tt_12 : T_tb[12]? = some (.inr (0, 160, .inl (-2147483648, 2147483647))) := rfl
theorem tt_13 : T_tb[13]? = some (.inr (0, 400, .inl (-2147483648, 2147483647))) := rfl
theorem tt_14 : T_tb[14]? = some (.inr (0, 400, .inl (-2147483648, 2147483647))) := rfl
theorem tt_15 : T_tb[15]? = some (.inr (0, 400, .inl (-2147483648, 2147483647))) := rfl
theorem tt_16 : T_tb[16]? = some (.inr (0, 400, .inl (-2147483648, 2147483647))) := rfl
theorem tt_17 : T_tb[17]? = some (.inr (0, 400, .inl (-2147483648, 2147483647))) := rfl
theorem tt_18 : T_tb[18]? = some (.inr (0, 400, .inl (0, 399))) := rfl
theorem tt_19 : T_tb[19]? = some (.inr (2, 400, .inl (0, 1))) := rfl
theorem tt_20 : T_tb[20]? = some (.inr (0, 8, .inl (-2147483648, 2147483647))) := rfl
theorem tt_21 : T_tb[21]? = some (.inr (0, 3, .inl (-2147483648, 2147483647))) := rfl
theorem tt_22 : T_tb[22]? = some (.inr (0, 600, .inl (-2147483648, 2147483647))) := rfl
theorem tt_23 : T_tb[23]? = some (.inr (0, 600, .inl (-2147483648, 2147483647))) := rfl
theorem tt_24 : T_tb[24]? = some (.inr (0, 600, .inl (-2147483648, 2147483647))) := rfl
theorem tt_25 : T_tb[25]? = some (.inr (0, 600, .inl (-2147483648, 2147483647))) := rfl
theorem tt_26 : T_tb[26]? = some (.inr (0, 600, .inl (-2147483648, 2147483647))) := rfl
theorem tt_27 : T_tb[27]? = some (.inr (0, 4, .inl (-2147483648, 2147483647))) := rfl
theorem tt_28 : T_tb[28]? = some (.inr (0, 4, .inl (-2147483648, 2147483647))) := rfl
theorem tt_29 : T_tb[29]? = some (.inr (0, 4, .inl (-2147483648, 2147483647))) := rfl
theorem tt_30 : T_tb[30]? = some (.inr (0, 4, .inl (-2147483648, 2147483647))) := rfl
theorem tt_31 : T_tb[31]? = some (.inr (0, 4, .inl (-2147483648, 2147483647))) := rfl
theorem tt_32 : T_tb[32]? = some (.inr (0, 4, .inl (-2147483648, 2147483647))) := rfl
theorem tt_33 : T_tb[33]? = some (.inr (0, 4, .inl (-2147483648, 2147483647))) := rfl
theorem tt_34 : T_tb[34]? = some (.inr (1, 0, .inl (-128, 127))) := rfl
theorem tt_35 : T_tb[35]? = some (.inr (0, 100, .inl (-2147483648, 2147483647))) := rfl
theorem tt_36 : T_tb[36]? = some (.inr (0, 1600, .inl (-2147483648, 2147483647))) := rfl
theorem tt_37 : T_tb[37]? = some (.inr (0, 4, .inl (0, 39))) := rfl
theorem tt_38 : T_tb[38]? = some (.inr (0, 4, .inl (0, 39))) := rfl
theorem tt_39 : T_tb[39]? = some (.inr (0, 8, .inl (-2147483648, 2147483647))) := rfl
theorem tt_40 : T_tb[40]? = some (.inr (6, 8, .inr (false, [2]))) := rfl
theorem tt_41 : T_tb[41]? = some (.inr (0, 2048, .inl (-2147483648, 2147483647))) := rfl
theorem tt_42 : T_tb[42]? = some (.inr (1, 400, .inl (-128, 127))) := rfl
theorem tt_43 : T_tb[43]? = some (.inr (4, 8, .inr (false, [0]))) := rfl
theorem tt_44 : T_tb[44]? = some (.inr (5, 40, .inr (false, [4]))) := rfl
theorem tt_45 : T_tb[45]? = some (.inr (6, 100, .inr (false, [2]))) := rfl
theorem tt_46 : T_tb[46]? = some (.inr (6, 100, .inr (false, [2]))) := rfl
theorem tt_47 : T_tb[47]? = some (.inr (0, 40, .inl (-2147483648, 2147483647))) := rfl
theorem tt_48 : T_tb[48]? = some (.inr (0, 100, .inl (-2147483648, 2147483647))) := rfl
theorem tt_49 : T_tb[49]? = some (.inr (0, 9, .inl (-2147483648, 2147483647))) := rfl
theorem tt_50 : T_tb[50]? = some (.inr (0, 117, .inl (0, 9999))) := rfl
theorem tt_51 : T_tb[51]? = some (.inr (0, 9, .inl (0, 128))) := rfl
theorem tt_52 : T_tb[52]? = some (.inr (0, 1152, .inl (-2147483648, 2147483647))) := rfl
theorem tt_53 : T_tb[53]? = some (.inr (1, 400, .inl (-128, 127))) := rfl
theorem tt_54 : T_tb[54]? = some (.inr (0, 13, .inl (0, 9999))) := rfl
theorem tt_55 : T_tb[55]? = some (.inr (0, 128, .inl (-2147483648, 2147483647))) := rfl
theorem tt_56 : T_tb[56]? = some (.inr (0, 128, .inl (0, 100))) := rfl
theorem tt_57 : T_tb[57]? = some (.inr (1, 175, .inl (-128, 127))) := rfl
theorem tt_58 : T_tb[58]? = some (.inr (0, 40, .inl (-30000, 7999))) := rfl
theorem tt_59 : T_tb[59]? = some (.inr (0, 40, .inl (0, 9999))) := rfl
theorem tt_60 : T_tb[60]? = some (.inr (0, 40, .inl (0, 20))) := rfl
theorem tt_61 : T_tb[61]? = some (.inr (0, 40, .inl (0, 99))) := rfl
theorem tt_62 : T_tb[62]? = some (.inr (0, 40, .inl (0, 99))) := rfl
theorem tt_63 : T_tb[63]? = some (.inr (0, 40, .inl (-1, 19))) := rfl
theorem tt_64 : T_tb[64]? = some (.inr (2, 40, .inl (0, 1))) := rfl
theorem tt_65 : T_tb[65]? = some (.inr (2, 40, .inl (0, 1))) := rfl
theorem tt_66 : T_tb[66]? = some (.inr (0, 400, .inl (-2147483648, 2147483647))) := rfl
theorem tt_67 : T_tb[67]? = some (.inr (0, 400, .inl (-2147483648, 2147483647))) := rfl
theorem tt_68 : T_tb[68]? = some (.inr (0, 400, .inl (-2147483648, 2147483647))) := rfl
theorem tt_69 : T_tb[69]? = some (.inr (0, 400, .inl (-2147483648, 2147483647))) := rfl
theorem tt_70 : T_tb[70]? = some (.inr (0, 400, .inl (-2147483648, 2147483647))) := rfl
theorem tt_71 : T_tb[71]? = some (.inr (2, 400, .inl (0, 1))) := rfl
theorem tt_72 : T_tb[72]? = some (.inr (0, 100, .inl (0, 39))) := rfl
theorem tt_73 : T_tb[73]? = some (.inr (0, 100, .inl (0, 39))) := rfl
theorem tt_74 : T_tb[74]? = some (.inr (0, 100, .inl (0, 9999))) := rfl
theorem tt_75 : T_tb[75]? = some (.inr (0, 100, .inl (0, 7999))) := rfl
theorem tt_76 : T_tb[76]? = some (.inr (2, 100, .inl (0, 1))) := rfl
theorem tt_77 : T_tb[77]? = some (.inr (0, 100, .inl (0, 9))) := rfl
theorem tt_78 : T_tb[78]? = some (.inr (0, 100, .inl (0, 7999))) := rfl
theorem tt_79 : T_tb[79]? = some (.inr (0, 100, .inl (0, 8))) := rfl
theorem tt_80 : T_tb[80]? = some (.inr (0, 100, .inl (0, 512))) := rfl
theorem tt_81 : T_tb[81]? = some (.inr (0, 100, .inl (-1, 7999))) := rfl
theorem tt_82 : T_tb[82]? = some (.inr (0, 100, .inl (-1, 7999))) := rfl
theorem tt_83 : T_tb[83]? = some (.inr (0, 100, .inl (-1, 7999))) := rfl
theorem tt_84 : T_tb[84]? = some (.inr (0, 100, .inl (-1, 7999))) := rfl
theorem tt_85 : T_tb[85]? = some (.inr (0, 100, .inl (-1, 7999))) := rfl
theorem tt_86 : T_tb[86]? = some (.inr (0, 100, .inl (0, 5))) := rfl
theorem tt_87 : T_tb[87]? = some (.inr (0, 300, .inl (-2147483648, 2147483647))) := rfl
theorem tt_88 : T_tb[88]? = some (.inr (0, 800, .inl (-2147483648, 2147483647))) := rfl
theorem tt_89 : T_tb[89]? = some (.inr (0, 100, .inl (0, 9999))) := rfl
theorem tt_90 : T_tb[90]? = some (.inr (0, 100, .inl (0, 600000))) := rfl
theorem tt_91 : T_tb[91]? = some (.inr (0, 100, .inl (0, 9999))) := rfl
theorem tt_92 : T_tb[92]? = some (.inr (0, 100, .inl (0, 99))) := rfl
theorem tt_93 : T_tb[93]? = some (.inr (0, 600, .inl (-2147483648, 2147483647))) := rfl
theorem tt_94 : T_tb[94]? = some (.inr (0, 600, .inl (-2147483648, 2147483647))) := rfl
theorem tt_95 : T_tb[95]? = some (.inr (0, 600, .inl (0, 610000))) := rfl
theorem tt_96 : T_tb[96]? = some (.inr (0, 600, .inl (-2147483648, 2147483647))) := rfl
theorem tt_97 : T_tb[97]? = some (.inr (0, 600, .inl (-2147483648, 2147483647))) := rfl
theorem tt_98 : T_tb[98]? = some (.inr (0, 40, .inl (0, 39))) := rfl
theorem tt_99 : T_tb[99]? = some (.inr (2, 128, .inl (0, 1))) := rfl
theorem tt_100 : T_tb[100]? = some (.inr (0, 4, .inl (-2147483648, 2147483647))) := rfl
theorem tt_101 : T_tb[101]? = some (.inr (0, 4, .inl (-2147483648, 2147483647))) := rfl
theorem tt_102 : T_tb[102]? = some (.inr (0, 4, .inl (0, 99))) := rfl
theorem tt_103 : T_tb[103]? = some (.inr (0, 4, .inl (0, 2147483647))) := rfl
theorem tt_104 : T_tb[104]? = some (.inr (0, 4, .inl (0, 9999))) := rfl
theorem tt_105 : T_tb[105]? = some (.inr (0, 4, .inl (0, 12))) := rfl
theorem tt_106 : T_tb[106]? = some (.inr (0, 4, .inl (0, 12))) := rfl
theorem tt_107 : T_tb[107]? = some (.inr (0, 4, .inl (-2147483648, 2147483647))) := rfl
theorem tt_108 : T_tb[108]? = some (.inr (0, 1600, .inl (-2147483648, 2147483647))) := rfl
theorem tt_109 : T_tb[109]? = some (.inr (0, 300, .inl (-2147483648, 2147483647))) := rfl
theorem tt_110 : T_tb[110]? = some (.inr (0, 4, .inl (0, 39))) := rfl
theorem tt_111 : T_tb[111]? = some (.inr (0, 4, .inl (0, 39))) := rfl
theorem tt_112 : T_tb[112]? = some (.inr (0, 8, .inl (0, 99))) := rfl
theorem tt_113 : T_tb[113]? = some (.inr (0, 8, .inl (0, 99))) := rfl
theorem tt_114 : T_tb[114]? = some (.inr (0, 2304, .inl (-2147483648, 2147483647))) := rfl
theorem tt_115 : T_tb[115]? = some (.inr (3, 61, .lng)) := rfl
theorem tt_116 : T_tb[116]? = some (.inl (0, T_r0)) := rfl
theorem tt_117 : T_tb[117]? = some (.inl (1, T_r1)) := rfl
theorem tt_118 : T_tb[118]? = some (.inl (2, T_r2)) := rfl
theorem tt_119 : T_tb[119]? = some (.inl (3, T_r3)) := rfl
theorem tt_120 : T_tb[120]? = some (.inl (4, T_r4)) := rfl
theorem tt_121 : T_tb[121]? = some (.inl (5, T_r5)) := rfl
theorem tt_122 : T_tb[122]? = some (.inl (6, T_r6)) := rfl
theorem tt_123 : T_tb[123]? = some (.inl (7, T_r7)) := rfl
theorem tt_124 : T_tb[124]? = some (.inl (8, T_r8)) := rfl
theorem tt_125 : T_tb[125]? = some (.inl (9, T_r9)) := rfl
theorem tt_126 : T_tb[126]? = some (.inl (10, T_r10)) := rfl
theorem tt_127 : T_tb[127]? = some (.inr (0, 14, .inl (-2147483648, 2147483647))) := rfl
theorem tt_128 : T_tb[128]? = some (.inr (0, 160, .inl (-2147483648, 2147483647))) := rfl
theorem tt_129 : T_tb[129]? = some (.inl (0, T_a0)) := rfl
theorem i32_r (x : Int32) : -2147483648 ≤ x.toInt ∧ x.toInt ≤ 2147483647 := ⟨Int32.le_toInt x, by have := Int32.toInt_lt x; omega⟩
