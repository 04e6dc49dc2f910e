def wNX1_isLine : Nat := 85545455042700521191305730602446331708156928174939576701957667177941418116384269426275370
theorem wX1_isLine_c : hz_cd cX1_isLine wNX1_isLine 37 := ⟨by decide +kernel, by decide +kernel⟩
theorem dX1_isLine_0 : decode cX1_isLine 0 = .ok (.aload_n 0, 1) := dw_42 wX1_isLine_c rfl
theorem dX1_isLine_1 : decode cX1_isLine 1 = .ok (.getfield 9, 3) := dw_180 wX1_isLine_c 0 9 rfl rfl
theorem dX1_isLine_4 : decode cX1_isLine 4 = .ok (.iload_n 1, 1) := dw_27 wX1_isLine_c rfl
theorem dX1_isLine_5 : decode cX1_isLine 5 = .ok (.iaload, 1) := dw_46 wX1_isLine_c rfl
theorem dX1_isLine_6 : decode cX1_isLine 6 = .ok (.iload_n 2, 1) := dw_28 wX1_isLine_c rfl
theorem dX1_isLine_7 : decode cX1_isLine 7 = .ok (.if_icmp .ne 28, 3) := dw_160 wX1_isLine_c 0 28 rfl rfl rfl
theorem dX1_isLine_10 : decode cX1_isLine 10 = .ok (.aload_n 0, 1) := dw_42 wX1_isLine_c rfl
theorem dX1_isLine_11 : decode cX1_isLine 11 = .ok (.getfield 15, 3) := dw_180 wX1_isLine_c 0 15 rfl rfl
theorem dX1_isLine_14 : decode cX1_isLine 14 = .ok (.iload_n 1, 1) := dw_27 wX1_isLine_c rfl
theorem dX1_isLine_15 : decode cX1_isLine 15 = .ok (.iaload, 1) := dw_46 wX1_isLine_c rfl
theorem dX1_isLine_16 : decode cX1_isLine 16 = .ok (.iload_n 3, 1) := dw_29 wX1_isLine_c rfl
theorem dX1_isLine_17 : decode cX1_isLine 17 = .ok (.if_icmp .ne 18, 3) := dw_160 wX1_isLine_c 0 18 rfl rfl rfl
theorem dX1_isLine_20 : decode cX1_isLine 20 = .ok (.aload_n 0, 1) := dw_42 wX1_isLine_c rfl
theorem dX1_isLine_21 : decode cX1_isLine 21 = .ok (.getfield 18, 3) := dw_180 wX1_isLine_c 0 18 rfl rfl
theorem dX1_isLine_24 : decode cX1_isLine 24 = .ok (.iload_n 1, 1) := dw_27 wX1_isLine_c rfl
theorem dX1_isLine_25 : decode cX1_isLine 25 = .ok (.iaload, 1) := dw_46 wX1_isLine_c rfl
theorem dX1_isLine_26 : decode cX1_isLine 26 = .ok (.iload 4, 2) := dw_21 wX1_isLine_c 4 rfl
theorem dX1_isLine_28 : decode cX1_isLine 28 = .ok (.if_icmp .gt 7, 3) := dw_163 wX1_isLine_c 0 7 rfl rfl rfl
theorem dX1_isLine_31 : decode cX1_isLine 31 = .ok (.iconst 1, 1) := dw_4 wX1_isLine_c rfl
theorem dX1_isLine_32 : decode cX1_isLine 32 = .ok (.goto 4, 3) := dw_167 wX1_isLine_c 0 4 rfl rfl rfl
theorem dX1_isLine_35 : decode cX1_isLine 35 = .ok (.iconst 0, 1) := dw_3 wX1_isLine_c rfl
theorem dX1_isLine_36 : decode cX1_isLine 36 = .ok (.ireturn, 1) := dw_172 wX1_isLine_c rfl
def wNX1_sumWith : Nat := 3065674170805307839989769992024176909505644978429606672854785121213943246826691650188984316153496180235853664599993023673810035325138177516659109112460879058965233404128432847856530495728006659
theorem wX1_sumWith_c : hz_cd cX1_sumWith wNX1_sumWith 80 := ⟨by decide +kernel, by decide +kernel⟩
theorem dX1_sumWith_0 : decode cX1_sumWith 0 = .ok (.iconst 0, 1) := dw_3 wX1_sumWith_c rfl
theorem dX1_sumWith_1 : decode cX1_sumWith 1 = .ok (.istore 4, 2) := dw_54 wX1_sumWith_c 4 rfl
theorem dX1_sumWith_3 : decode cX1_sumWith 3 = .ok (.iconst 0, 1) := dw_3 wX1_sumWith_c rfl
theorem dX1_sumWith_4 : decode cX1_sumWith 4 = .ok (.istore 5, 2) := dw_54 wX1_sumWith_c 5 rfl
theorem dX1_sumWith_6 : decode cX1_sumWith 6 = .ok (.iload 5, 2) := dw_21 wX1_sumWith_c 5 rfl
theorem dX1_sumWith_8 : decode cX1_sumWith 8 = .ok (.aload_n 0, 1) := dw_42 wX1_sumWith_c rfl
theorem dX1_sumWith_9 : decode cX1_sumWith 9 = .ok (.getfield 34, 3) := dw_180 wX1_sumWith_c 0 34 rfl rfl
theorem dX1_sumWith_12 : decode cX1_sumWith 12 = .ok (.if_icmp .ge 65, 3) := dw_162 wX1_sumWith_c 0 65 rfl rfl rfl
theorem dX1_sumWith_15 : decode cX1_sumWith 15 = .ok (.aload_n 0, 1) := dw_42 wX1_sumWith_c rfl
theorem dX1_sumWith_16 : decode cX1_sumWith 16 = .ok (.iload 5, 2) := dw_21 wX1_sumWith_c 5 rfl
theorem dX1_sumWith_18 : decode cX1_sumWith 18 = .ok (.iload_n 1, 1) := dw_27 wX1_sumWith_c rfl
theorem dX1_sumWith_19 : decode cX1_sumWith 19 = .ok (.iload_n 2, 1) := dw_28 wX1_sumWith_c rfl
theorem dX1_sumWith_20 : decode cX1_sumWith 20 = .ok (.iload_n 3, 1) := dw_29 wX1_sumWith_c rfl
theorem dX1_sumWith_21 : decode cX1_sumWith 21 = .ok (.invokevirtual 38, 3) := dw_182 wX1_sumWith_c 0 38 rfl rfl
theorem dX1_sumWith_24 : decode cX1_sumWith 24 = .ok (.ifCond .eq 47, 3) := dw_153 wX1_sumWith_c 0 47 rfl rfl rfl
theorem dX1_sumWith_27 : decode cX1_sumWith 27 = .ok (.iload 4, 2) := dw_21 wX1_sumWith_c 4 rfl
theorem dX1_sumWith_29 : decode cX1_sumWith 29 = .ok (.aload_n 0, 1) := dw_42 wX1_sumWith_c rfl
theorem dX1_sumWith_30 : decode cX1_sumWith 30 = .ok (.getfield 21, 3) := dw_180 wX1_sumWith_c 0 21 rfl rfl
theorem dX1_sumWith_33 : decode cX1_sumWith 33 = .ok (.iload 5, 2) := dw_21 wX1_sumWith_c 5 rfl
theorem dX1_sumWith_35 : decode cX1_sumWith 35 = .ok (.iaload, 1) := dw_46 wX1_sumWith_c rfl
theorem dX1_sumWith_36 : decode cX1_sumWith 36 = .ok (.ifCond .eq 14, 3) := dw_153 wX1_sumWith_c 0 14 rfl rfl rfl
theorem dX1_sumWith_39 : decode cX1_sumWith 39 = .ok (.aload_n 0, 1) := dw_42 wX1_sumWith_c rfl
theorem dX1_sumWith_40 : decode cX1_sumWith 40 = .ok (.getfield 21, 3) := dw_180 wX1_sumWith_c 0 21 rfl rfl
theorem dX1_sumWith_43 : decode cX1_sumWith 43 = .ok (.iload 5, 2) := dw_21 wX1_sumWith_c 5 rfl
theorem dX1_sumWith_45 : decode cX1_sumWith 45 = .ok (.iaload, 1) := dw_46 wX1_sumWith_c rfl
theorem dX1_sumWith_46 : decode cX1_sumWith 46 = .ok (.iconst 3, 1) := dw_6 wX1_sumWith_c rfl
theorem dX1_sumWith_47 : decode cX1_sumWith 47 = .ok (.if_icmp .ne 13, 3) := dw_160 wX1_sumWith_c 0 13 rfl rfl rfl
theorem dX1_sumWith_50 : decode cX1_sumWith 50 = .ok (.aload_n 0, 1) := dw_42 wX1_sumWith_c rfl
theorem dX1_sumWith_51 : decode cX1_sumWith 51 = .ok (.getfield 24, 3) := dw_180 wX1_sumWith_c 0 24 rfl rfl
theorem dX1_sumWith_54 : decode cX1_sumWith 54 = .ok (.iload 5, 2) := dw_21 wX1_sumWith_c 5 rfl
theorem dX1_sumWith_56 : decode cX1_sumWith 56 = .ok (.iaload, 1) := dw_46 wX1_sumWith_c rfl
theorem dX1_sumWith_57 : decode cX1_sumWith 57 = .ok (.goto 11, 3) := dw_167 wX1_sumWith_c 0 11 rfl rfl rfl
theorem dX1_sumWith_60 : decode cX1_sumWith 60 = .ok (.aload_n 0, 1) := dw_42 wX1_sumWith_c rfl
theorem dX1_sumWith_61 : decode cX1_sumWith 61 = .ok (.getfield 24, 3) := dw_180 wX1_sumWith_c 0 24 rfl rfl
theorem dX1_sumWith_64 : decode cX1_sumWith 64 = .ok (.iload 5, 2) := dw_21 wX1_sumWith_c 5 rfl
theorem dX1_sumWith_66 : decode cX1_sumWith 66 = .ok (.iaload, 1) := dw_46 wX1_sumWith_c rfl
theorem dX1_sumWith_67 : decode cX1_sumWith 67 = .ok (.ineg, 1) := dw_116 wX1_sumWith_c rfl
theorem dX1_sumWith_68 : decode cX1_sumWith 68 = .ok (.iadd, 1) := dw_96 wX1_sumWith_c rfl
theorem dX1_sumWith_69 : decode cX1_sumWith 69 = .ok (.istore 4, 2) := dw_54 wX1_sumWith_c 4 rfl
theorem dX1_sumWith_71 : decode cX1_sumWith 71 = .ok (.iinc 5 1, 3) := dw_132 wX1_sumWith_c 5 1 rfl rfl rfl
theorem dX1_sumWith_74 : decode cX1_sumWith 74 = .ok (.goto (-68), 3) := dn_167 wX1_sumWith_c 255 188 rfl (by decide)
theorem dX1_sumWith_77 : decode cX1_sumWith 77 = .ok (.iload 4, 2) := dw_21 wX1_sumWith_c 4 rfl
theorem dX1_sumWith_79 : decode cX1_sumWith 79 = .ok (.ireturn, 1) := dw_172 wX1_sumWith_c rfl
def wNX1_areTwins : Nat := 32006354588447733077641873602874348467898736619646771748981277364164927100434261977423706737617433857208571612369544643567762751718795818026
theorem wX1_areTwins_c : hz_cd cX1_areTwins wNX1_areTwins 58 := ⟨by decide +kernel, by decide +kernel⟩
theorem dX1_areTwins_0 : decode cX1_areTwins 0 = .ok (.aload_n 0, 1) := dw_42 wX1_areTwins_c rfl
theorem dX1_areTwins_1 : decode cX1_areTwins 1 = .ok (.getfield 21, 3) := dw_180 wX1_areTwins_c 0 21 rfl rfl
theorem dX1_areTwins_4 : decode cX1_areTwins 4 = .ok (.iload_n 1, 1) := dw_27 wX1_areTwins_c rfl
theorem dX1_areTwins_5 : decode cX1_areTwins 5 = .ok (.iaload, 1) := dw_46 wX1_areTwins_c rfl
theorem dX1_areTwins_6 : decode cX1_areTwins 6 = .ok (.iconst 1, 1) := dw_4 wX1_areTwins_c rfl
theorem dX1_areTwins_7 : decode cX1_areTwins 7 = .ok (.ixor, 1) := dw_130 wX1_areTwins_c rfl
theorem dX1_areTwins_8 : decode cX1_areTwins 8 = .ok (.aload_n 0, 1) := dw_42 wX1_areTwins_c rfl
theorem dX1_areTwins_9 : decode cX1_areTwins 9 = .ok (.getfield 21, 3) := dw_180 wX1_areTwins_c 0 21 rfl rfl
theorem dX1_areTwins_12 : decode cX1_areTwins 12 = .ok (.iload_n 2, 1) := dw_28 wX1_areTwins_c rfl
theorem dX1_areTwins_13 : decode cX1_areTwins 13 = .ok (.iaload, 1) := dw_46 wX1_areTwins_c rfl
theorem dX1_areTwins_14 : decode cX1_areTwins 14 = .ok (.if_icmp .ne 42, 3) := dw_160 wX1_areTwins_c 0 42 rfl rfl rfl
theorem dX1_areTwins_17 : decode cX1_areTwins 17 = .ok (.aload_n 0, 1) := dw_42 wX1_areTwins_c rfl
theorem dX1_areTwins_18 : decode cX1_areTwins 18 = .ok (.getfield 24, 3) := dw_180 wX1_areTwins_c 0 24 rfl rfl
theorem dX1_areTwins_21 : decode cX1_areTwins 21 = .ok (.iload_n 1, 1) := dw_27 wX1_areTwins_c rfl
theorem dX1_areTwins_22 : decode cX1_areTwins 22 = .ok (.iaload, 1) := dw_46 wX1_areTwins_c rfl
theorem dX1_areTwins_23 : decode cX1_areTwins 23 = .ok (.aload_n 0, 1) := dw_42 wX1_areTwins_c rfl
theorem dX1_areTwins_24 : decode cX1_areTwins 24 = .ok (.getfield 24, 3) := dw_180 wX1_areTwins_c 0 24 rfl rfl
theorem dX1_areTwins_27 : decode cX1_areTwins 27 = .ok (.iload_n 2, 1) := dw_28 wX1_areTwins_c rfl
theorem dX1_areTwins_28 : decode cX1_areTwins 28 = .ok (.iaload, 1) := dw_46 wX1_areTwins_c rfl
theorem dX1_areTwins_29 : decode cX1_areTwins 29 = .ok (.if_icmp .ne 27, 3) := dw_160 wX1_areTwins_c 0 27 rfl rfl rfl
theorem dX1_areTwins_32 : decode cX1_areTwins 32 = .ok (.aload_n 0, 1) := dw_42 wX1_areTwins_c rfl
theorem dX1_areTwins_33 : decode cX1_areTwins 33 = .ok (.getfield 18, 3) := dw_180 wX1_areTwins_c 0 18 rfl rfl
theorem dX1_areTwins_36 : decode cX1_areTwins 36 = .ok (.iload_n 1, 1) := dw_27 wX1_areTwins_c rfl
theorem dX1_areTwins_37 : decode cX1_areTwins 37 = .ok (.iaload, 1) := dw_46 wX1_areTwins_c rfl
theorem dX1_areTwins_38 : decode cX1_areTwins 38 = .ok (.aload_n 0, 1) := dw_42 wX1_areTwins_c rfl
theorem dX1_areTwins_39 : decode cX1_areTwins 39 = .ok (.getfield 18, 3) := dw_180 wX1_areTwins_c 0 18 rfl rfl
theorem dX1_areTwins_42 : decode cX1_areTwins 42 = .ok (.iload_n 2, 1) := dw_28 wX1_areTwins_c rfl
theorem dX1_areTwins_43 : decode cX1_areTwins 43 = .ok (.iaload, 1) := dw_46 wX1_areTwins_c rfl
theorem dX1_areTwins_44 : decode cX1_areTwins 44 = .ok (.isub, 1) := dw_100 wX1_areTwins_c rfl
theorem dX1_areTwins_45 : decode cX1_areTwins 45 = .ok (.invokestatic 49, 3) := dw_184 wX1_areTwins_c 0 49 rfl rfl
theorem dX1_areTwins_48 : decode cX1_areTwins 48 = .ok (.iconst 3, 1) := dw_6 wX1_areTwins_c rfl
theorem dX1_areTwins_49 : decode cX1_areTwins 49 = .ok (.if_icmp .gt 7, 3) := dw_163 wX1_areTwins_c 0 7 rfl rfl rfl
theorem dX1_areTwins_52 : decode cX1_areTwins 52 = .ok (.iconst 1, 1) := dw_4 wX1_areTwins_c rfl
theorem dX1_areTwins_53 : decode cX1_areTwins 53 = .ok (.goto 4, 3) := dw_167 wX1_areTwins_c 0 4 rfl rfl rfl
theorem dX1_areTwins_56 : decode cX1_areTwins 56 = .ok (.iconst 0, 1) := dw_3 wX1_areTwins_c rfl
theorem dX1_areTwins_57 : decode cX1_areTwins 57 = .ok (.ireturn, 1) := dw_172 wX1_areTwins_c rfl
def wNX1_disorder : Nat := 137546765336729920954408182545235330012847140287928041357661338692027900946281912461953507691666434677660993286810778439019069272130045760859350973699
theorem wX1_disorder_c : hz_cd cX1_disorder wNX1_disorder 62 := ⟨by decide +kernel, by decide +kernel⟩
theorem dX1_disorder_0 : decode cX1_disorder 0 = .ok (.iconst 0, 1) := dw_3 wX1_disorder_c rfl
theorem dX1_disorder_1 : decode cX1_disorder 1 = .ok (.istore_n 2, 1) := dw_61 wX1_disorder_c rfl
theorem dX1_disorder_2 : decode cX1_disorder 2 = .ok (.iconst 0, 1) := dw_3 wX1_disorder_c rfl
theorem dX1_disorder_3 : decode cX1_disorder 3 = .ok (.istore_n 3, 1) := dw_62 wX1_disorder_c rfl
theorem dX1_disorder_4 : decode cX1_disorder 4 = .ok (.iconst 0, 1) := dw_3 wX1_disorder_c rfl
theorem dX1_disorder_5 : decode cX1_disorder 5 = .ok (.istore 4, 2) := dw_54 wX1_disorder_c 4 rfl
theorem dX1_disorder_7 : decode cX1_disorder 7 = .ok (.iload 4, 2) := dw_21 wX1_disorder_c 4 rfl
theorem dX1_disorder_9 : decode cX1_disorder 9 = .ok (.aload_n 0, 1) := dw_42 wX1_disorder_c rfl
theorem dX1_disorder_10 : decode cX1_disorder 10 = .ok (.getfield 34, 3) := dw_180 wX1_disorder_c 0 34 rfl rfl
theorem dX1_disorder_13 : decode cX1_disorder 13 = .ok (.if_icmp .ge 47, 3) := dw_162 wX1_disorder_c 0 47 rfl rfl rfl
theorem dX1_disorder_16 : decode cX1_disorder 16 = .ok (.aload_n 0, 1) := dw_42 wX1_disorder_c rfl
theorem dX1_disorder_17 : decode cX1_disorder 17 = .ok (.getfield 9, 3) := dw_180 wX1_disorder_c 0 9 rfl rfl
theorem dX1_disorder_20 : decode cX1_disorder 20 = .ok (.iload 4, 2) := dw_21 wX1_disorder_c 4 rfl
theorem dX1_disorder_22 : decode cX1_disorder 22 = .ok (.iaload, 1) := dw_46 wX1_disorder_c rfl
theorem dX1_disorder_23 : decode cX1_disorder 23 = .ok (.iload_n 1, 1) := dw_27 wX1_disorder_c rfl
theorem dX1_disorder_24 : decode cX1_disorder 24 = .ok (.if_icmp .ne 30, 3) := dw_160 wX1_disorder_c 0 30 rfl rfl rfl
theorem dX1_disorder_27 : decode cX1_disorder 27 = .ok (.iload_n 2, 1) := dw_28 wX1_disorder_c rfl
theorem dX1_disorder_28 : decode cX1_disorder 28 = .ok (.aload_n 0, 1) := dw_42 wX1_disorder_c rfl
theorem dX1_disorder_29 : decode cX1_disorder 29 = .ok (.getfield 18, 3) := dw_180 wX1_disorder_c 0 18 rfl rfl
theorem dX1_disorder_32 : decode cX1_disorder 32 = .ok (.iload 4, 2) := dw_21 wX1_disorder_c 4 rfl
theorem dX1_disorder_34 : decode cX1_disorder 34 = .ok (.iaload, 1) := dw_46 wX1_disorder_c rfl
theorem dX1_disorder_35 : decode cX1_disorder 35 = .ok (.iload_n 3, 1) := dw_29 wX1_disorder_c rfl
theorem dX1_disorder_36 : decode cX1_disorder 36 = .ok (.if_icmp .ge 7, 3) := dw_162 wX1_disorder_c 0 7 rfl rfl rfl
theorem dX1_disorder_39 : decode cX1_disorder 39 = .ok (.iconst 1, 1) := dw_4 wX1_disorder_c rfl
theorem dX1_disorder_40 : decode cX1_disorder 40 = .ok (.goto 4, 3) := dw_167 wX1_disorder_c 0 4 rfl rfl rfl
theorem dX1_disorder_43 : decode cX1_disorder 43 = .ok (.iconst 0, 1) := dw_3 wX1_disorder_c rfl
theorem dX1_disorder_44 : decode cX1_disorder 44 = .ok (.iadd, 1) := dw_96 wX1_disorder_c rfl
theorem dX1_disorder_45 : decode cX1_disorder 45 = .ok (.istore_n 2, 1) := dw_61 wX1_disorder_c rfl
theorem dX1_disorder_46 : decode cX1_disorder 46 = .ok (.aload_n 0, 1) := dw_42 wX1_disorder_c rfl
theorem dX1_disorder_47 : decode cX1_disorder 47 = .ok (.getfield 18, 3) := dw_180 wX1_disorder_c 0 18 rfl rfl
theorem dX1_disorder_50 : decode cX1_disorder 50 = .ok (.iload 4, 2) := dw_21 wX1_disorder_c 4 rfl
theorem dX1_disorder_52 : decode cX1_disorder 52 = .ok (.iaload, 1) := dw_46 wX1_disorder_c rfl
theorem dX1_disorder_53 : decode cX1_disorder 53 = .ok (.istore_n 3, 1) := dw_62 wX1_disorder_c rfl
theorem dX1_disorder_54 : decode cX1_disorder 54 = .ok (.iinc 4 1, 3) := dw_132 wX1_disorder_c 4 1 rfl rfl rfl
theorem dX1_disorder_57 : decode cX1_disorder 57 = .ok (.goto (-50), 3) := dn_167 wX1_disorder_c 255 206 rfl (by decide)
theorem dX1_disorder_60 : decode cX1_disorder 60 = .ok (.iload_n 2, 1) := dw_28 wX1_disorder_c rfl
theorem dX1_disorder_61 : decode cX1_disorder 61 = .ok (.ireturn, 1) := dw_172 wX1_disorder_c rfl
def wNX1_takeTwin : Nat := 46778094831633565108622638646355326567661892763405677524341245066342738209399494393088273896882253495423846053391142213754909150724697777247195877258796931431660633164264148502874915945987
theorem wX1_takeTwin_c : hz_cd cX1_takeTwin wNX1_takeTwin 78 := ⟨by decide +kernel, by decide +kernel⟩
theorem dX1_takeTwin_0 : decode cX1_takeTwin 0 = .ok (.iconst 0, 1) := dw_3 wX1_takeTwin_c rfl
theorem dX1_takeTwin_1 : decode cX1_takeTwin 1 = .ok (.istore_n 3, 1) := dw_62 wX1_takeTwin_c rfl
theorem dX1_takeTwin_2 : decode cX1_takeTwin 2 = .ok (.iload_n 3, 1) := dw_29 wX1_takeTwin_c rfl
theorem dX1_takeTwin_3 : decode cX1_takeTwin 3 = .ok (.aload_n 0, 1) := dw_42 wX1_takeTwin_c rfl
theorem dX1_takeTwin_4 : decode cX1_takeTwin 4 = .ok (.getfield 34, 3) := dw_180 wX1_takeTwin_c 0 34 rfl rfl
theorem dX1_takeTwin_7 : decode cX1_takeTwin 7 = .ok (.if_icmp .ge 69, 3) := dw_162 wX1_takeTwin_c 0 69 rfl rfl rfl
theorem dX1_takeTwin_10 : decode cX1_takeTwin 10 = .ok (.aload_n 0, 1) := dw_42 wX1_takeTwin_c rfl
theorem dX1_takeTwin_11 : decode cX1_takeTwin 11 = .ok (.getfield 27, 3) := dw_180 wX1_takeTwin_c 0 27 rfl rfl
theorem dX1_takeTwin_14 : decode cX1_takeTwin 14 = .ok (.iload_n 3, 1) := dw_29 wX1_takeTwin_c rfl
theorem dX1_takeTwin_15 : decode cX1_takeTwin 15 = .ok (.iaload, 1) := dw_46 wX1_takeTwin_c rfl
theorem dX1_takeTwin_16 : decode cX1_takeTwin 16 = .ok (.istore 4, 2) := dw_54 wX1_takeTwin_c 4 rfl
theorem dX1_takeTwin_18 : decode cX1_takeTwin 18 = .ok (.aload_n 0, 1) := dw_42 wX1_takeTwin_c rfl
theorem dX1_takeTwin_19 : decode cX1_takeTwin 19 = .ok (.getfield 30, 3) := dw_180 wX1_takeTwin_c 0 30 rfl rfl
theorem dX1_takeTwin_22 : decode cX1_takeTwin 22 = .ok (.iload 4, 2) := dw_21 wX1_takeTwin_c 4 rfl
theorem dX1_takeTwin_24 : decode cX1_takeTwin 24 = .ok (.baload, 1) := dw_51 wX1_takeTwin_c rfl
theorem dX1_takeTwin_25 : decode cX1_takeTwin 25 = .ok (.ifCond .ne 45, 3) := dw_154 wX1_takeTwin_c 0 45 rfl rfl rfl
theorem dX1_takeTwin_28 : decode cX1_takeTwin 28 = .ok (.aload_n 0, 1) := dw_42 wX1_takeTwin_c rfl
theorem dX1_takeTwin_29 : decode cX1_takeTwin 29 = .ok (.iload 4, 2) := dw_21 wX1_takeTwin_c 4 rfl
theorem dX1_takeTwin_31 : decode cX1_takeTwin 31 = .ok (.aload_n 0, 1) := dw_42 wX1_takeTwin_c rfl
theorem dX1_takeTwin_32 : decode cX1_takeTwin 32 = .ok (.getfield 15, 3) := dw_180 wX1_takeTwin_c 0 15 rfl rfl
theorem dX1_takeTwin_35 : decode cX1_takeTwin 35 = .ok (.iload_n 1, 1) := dw_27 wX1_takeTwin_c rfl
theorem dX1_takeTwin_36 : decode cX1_takeTwin 36 = .ok (.iaload, 1) := dw_46 wX1_takeTwin_c rfl
theorem dX1_takeTwin_37 : decode cX1_takeTwin 37 = .ok (.aload_n 0, 1) := dw_42 wX1_takeTwin_c rfl
theorem dX1_takeTwin_38 : decode cX1_takeTwin 38 = .ok (.getfield 9, 3) := dw_180 wX1_takeTwin_c 0 9 rfl rfl
theorem dX1_takeTwin_41 : decode cX1_takeTwin 41 = .ok (.iload_n 1, 1) := dw_27 wX1_takeTwin_c rfl
theorem dX1_takeTwin_42 : decode cX1_takeTwin 42 = .ok (.iaload, 1) := dw_46 wX1_takeTwin_c rfl
theorem dX1_takeTwin_43 : decode cX1_takeTwin 43 = .ok (.iload_n 2, 1) := dw_28 wX1_takeTwin_c rfl
theorem dX1_takeTwin_44 : decode cX1_takeTwin 44 = .ok (.invokevirtual 38, 3) := dw_182 wX1_takeTwin_c 0 38 rfl rfl
theorem dX1_takeTwin_47 : decode cX1_takeTwin 47 = .ok (.ifCond .eq 23, 3) := dw_153 wX1_takeTwin_c 0 23 rfl rfl rfl
theorem dX1_takeTwin_50 : decode cX1_takeTwin 50 = .ok (.aload_n 0, 1) := dw_42 wX1_takeTwin_c rfl
theorem dX1_takeTwin_51 : decode cX1_takeTwin 51 = .ok (.iload_n 1, 1) := dw_27 wX1_takeTwin_c rfl
theorem dX1_takeTwin_52 : decode cX1_takeTwin 52 = .ok (.iload 4, 2) := dw_21 wX1_takeTwin_c 4 rfl
theorem dX1_takeTwin_54 : decode cX1_takeTwin 54 = .ok (.invokevirtual 46, 3) := dw_182 wX1_takeTwin_c 0 46 rfl rfl
theorem dX1_takeTwin_57 : decode cX1_takeTwin 57 = .ok (.ifCond .eq 13, 3) := dw_153 wX1_takeTwin_c 0 13 rfl rfl rfl
theorem dX1_takeTwin_60 : decode cX1_takeTwin 60 = .ok (.aload_n 0, 1) := dw_42 wX1_takeTwin_c rfl
theorem dX1_takeTwin_61 : decode cX1_takeTwin 61 = .ok (.getfield 30, 3) := dw_180 wX1_takeTwin_c 0 30 rfl rfl
theorem dX1_takeTwin_64 : decode cX1_takeTwin 64 = .ok (.iload 4, 2) := dw_21 wX1_takeTwin_c 4 rfl
theorem dX1_takeTwin_66 : decode cX1_takeTwin 66 = .ok (.iconst 1, 1) := dw_4 wX1_takeTwin_c rfl
theorem dX1_takeTwin_67 : decode cX1_takeTwin 67 = .ok (.bastore, 1) := dw_84 wX1_takeTwin_c rfl
theorem dX1_takeTwin_68 : decode cX1_takeTwin 68 = .ok (.iconst 1, 1) := dw_4 wX1_takeTwin_c rfl
theorem dX1_takeTwin_69 : decode cX1_takeTwin 69 = .ok (.ireturn, 1) := dw_172 wX1_takeTwin_c rfl
theorem dX1_takeTwin_70 : decode cX1_takeTwin 70 = .ok (.iinc 3 1, 3) := dw_132 wX1_takeTwin_c 3 1 rfl rfl rfl
theorem dX1_takeTwin_73 : decode cX1_takeTwin 73 = .ok (.goto (-71), 3) := dn_167 wX1_takeTwin_c 255 185 rfl (by decide)
theorem dX1_takeTwin_76 : decode cX1_takeTwin 76 = .ok (.iconst 0, 1) := dw_3 wX1_takeTwin_c rfl
theorem dX1_takeTwin_77 : decode cX1_takeTwin 77 = .ok (.ireturn, 1) := dw_172 wX1_takeTwin_c rfl
def wNX1_twinPairs : Nat := 3370744422300663840264834789786460405601353832203563618873596206094606380483644640120052352917034000907346747939858212776777245314291467685515347484211768367899370092284541495366635301889699001491756692995
theorem wX1_twinPairs_c : hz_cd cX1_twinPairs wNX1_twinPairs 85 := ⟨by decide +kernel, by decide +kernel⟩
theorem dX1_twinPairs_0 : decode cX1_twinPairs 0 = .ok (.iconst 0, 1) := dw_3 wX1_twinPairs_c rfl
theorem dX1_twinPairs_1 : decode cX1_twinPairs 1 = .ok (.istore 4, 2) := dw_54 wX1_twinPairs_c 4 rfl
theorem dX1_twinPairs_3 : decode cX1_twinPairs 3 = .ok (.iload 4, 2) := dw_21 wX1_twinPairs_c 4 rfl
theorem dX1_twinPairs_5 : decode cX1_twinPairs 5 = .ok (.aload_n 0, 1) := dw_42 wX1_twinPairs_c rfl
theorem dX1_twinPairs_6 : decode cX1_twinPairs 6 = .ok (.getfield 34, 3) := dw_180 wX1_twinPairs_c 0 34 rfl rfl
theorem dX1_twinPairs_9 : decode cX1_twinPairs 9 = .ok (.if_icmp .ge 17, 3) := dw_162 wX1_twinPairs_c 0 17 rfl rfl rfl
theorem dX1_twinPairs_12 : decode cX1_twinPairs 12 = .ok (.aload_n 0, 1) := dw_42 wX1_twinPairs_c rfl
theorem dX1_twinPairs_13 : decode cX1_twinPairs 13 = .ok (.getfield 30, 3) := dw_180 wX1_twinPairs_c 0 30 rfl rfl
theorem dX1_twinPairs_16 : decode cX1_twinPairs 16 = .ok (.iload 4, 2) := dw_21 wX1_twinPairs_c 4 rfl
theorem dX1_twinPairs_18 : decode cX1_twinPairs 18 = .ok (.iconst 0, 1) := dw_3 wX1_twinPairs_c rfl
theorem dX1_twinPairs_19 : decode cX1_twinPairs 19 = .ok (.bastore, 1) := dw_84 wX1_twinPairs_c rfl
theorem dX1_twinPairs_20 : decode cX1_twinPairs 20 = .ok (.iinc 4 1, 3) := dw_132 wX1_twinPairs_c 4 1 rfl rfl rfl
theorem dX1_twinPairs_23 : decode cX1_twinPairs 23 = .ok (.goto (-20), 3) := dn_167 wX1_twinPairs_c 255 236 rfl (by decide)
theorem dX1_twinPairs_26 : decode cX1_twinPairs 26 = .ok (.iconst 0, 1) := dw_3 wX1_twinPairs_c rfl
theorem dX1_twinPairs_27 : decode cX1_twinPairs 27 = .ok (.istore 4, 2) := dw_54 wX1_twinPairs_c 4 rfl
theorem dX1_twinPairs_29 : decode cX1_twinPairs 29 = .ok (.iconst 0, 1) := dw_3 wX1_twinPairs_c rfl
theorem dX1_twinPairs_30 : decode cX1_twinPairs 30 = .ok (.istore 5, 2) := dw_54 wX1_twinPairs_c 5 rfl
theorem dX1_twinPairs_32 : decode cX1_twinPairs 32 = .ok (.iload 5, 2) := dw_21 wX1_twinPairs_c 5 rfl
theorem dX1_twinPairs_34 : decode cX1_twinPairs 34 = .ok (.aload_n 0, 1) := dw_42 wX1_twinPairs_c rfl
theorem dX1_twinPairs_35 : decode cX1_twinPairs 35 = .ok (.getfield 34, 3) := dw_180 wX1_twinPairs_c 0 34 rfl rfl
theorem dX1_twinPairs_38 : decode cX1_twinPairs 38 = .ok (.if_icmp .ge 44, 3) := dw_162 wX1_twinPairs_c 0 44 rfl rfl rfl
theorem dX1_twinPairs_41 : decode cX1_twinPairs 41 = .ok (.aload_n 0, 1) := dw_42 wX1_twinPairs_c rfl
theorem dX1_twinPairs_42 : decode cX1_twinPairs 42 = .ok (.aload_n 0, 1) := dw_42 wX1_twinPairs_c rfl
theorem dX1_twinPairs_43 : decode cX1_twinPairs 43 = .ok (.getfield 27, 3) := dw_180 wX1_twinPairs_c 0 27 rfl rfl
theorem dX1_twinPairs_46 : decode cX1_twinPairs 46 = .ok (.iload 5, 2) := dw_21 wX1_twinPairs_c 5 rfl
theorem dX1_twinPairs_48 : decode cX1_twinPairs 48 = .ok (.iaload, 1) := dw_46 wX1_twinPairs_c rfl
theorem dX1_twinPairs_49 : decode cX1_twinPairs 49 = .ok (.iload_n 1, 1) := dw_27 wX1_twinPairs_c rfl
theorem dX1_twinPairs_50 : decode cX1_twinPairs 50 = .ok (.iload_n 2, 1) := dw_28 wX1_twinPairs_c rfl
theorem dX1_twinPairs_51 : decode cX1_twinPairs 51 = .ok (.iload_n 3, 1) := dw_29 wX1_twinPairs_c rfl
theorem dX1_twinPairs_52 : decode cX1_twinPairs 52 = .ok (.invokevirtual 38, 3) := dw_182 wX1_twinPairs_c 0 38 rfl rfl
theorem dX1_twinPairs_55 : decode cX1_twinPairs 55 = .ok (.ifCond .eq 21, 3) := dw_153 wX1_twinPairs_c 0 21 rfl rfl rfl
theorem dX1_twinPairs_58 : decode cX1_twinPairs 58 = .ok (.aload_n 0, 1) := dw_42 wX1_twinPairs_c rfl
theorem dX1_twinPairs_59 : decode cX1_twinPairs 59 = .ok (.aload_n 0, 1) := dw_42 wX1_twinPairs_c rfl
theorem dX1_twinPairs_60 : decode cX1_twinPairs 60 = .ok (.getfield 27, 3) := dw_180 wX1_twinPairs_c 0 27 rfl rfl
theorem dX1_twinPairs_63 : decode cX1_twinPairs 63 = .ok (.iload 5, 2) := dw_21 wX1_twinPairs_c 5 rfl
theorem dX1_twinPairs_65 : decode cX1_twinPairs 65 = .ok (.iaload, 1) := dw_46 wX1_twinPairs_c rfl
theorem dX1_twinPairs_66 : decode cX1_twinPairs 66 = .ok (.iload_n 3, 1) := dw_29 wX1_twinPairs_c rfl
theorem dX1_twinPairs_67 : decode cX1_twinPairs 67 = .ok (.invokevirtual 42, 3) := dw_182 wX1_twinPairs_c 0 42 rfl rfl
theorem dX1_twinPairs_70 : decode cX1_twinPairs 70 = .ok (.ifCond .eq 6, 3) := dw_153 wX1_twinPairs_c 0 6 rfl rfl rfl
theorem dX1_twinPairs_73 : decode cX1_twinPairs 73 = .ok (.iinc 4 1, 3) := dw_132 wX1_twinPairs_c 4 1 rfl rfl rfl
theorem dX1_twinPairs_76 : decode cX1_twinPairs 76 = .ok (.iinc 5 1, 3) := dw_132 wX1_twinPairs_c 5 1 rfl rfl rfl
theorem dX1_twinPairs_79 : decode cX1_twinPairs 79 = .ok (.goto (-47), 3) := dn_167 wX1_twinPairs_c 255 209 rfl (by decide)
theorem dX1_twinPairs_82 : decode cX1_twinPairs 82 = .ok (.iload 4, 2) := dw_21 wX1_twinPairs_c 4 rfl
theorem dX1_twinPairs_84 : decode cX1_twinPairs 84 = .ok (.ireturn, 1) := dw_172 wX1_twinPairs_c rfl
def wNX1_addLine : Nat := 2294533284658615587921922248063518052703235432900686832509032050510528250770552276822964891577159822722876893239500279057310277302156607249065694891653516656988638674477155420667410649674285842237085327783748098787158977065166628369365204584605168779160526962124901184559525675186460971506026923957320233753725648681604325880874
theorem wX1_addLine_c : hz_cd cX1_addLine wNX1_addLine 136 := ⟨by decide +kernel, by decide +kernel⟩
theorem dX1_addLine_0 : decode cX1_addLine 0 = .ok (.aload_n 0, 1) := dw_42 wX1_addLine_c rfl
theorem dX1_addLine_1 : decode cX1_addLine 1 = .ok (.getfield 34, 3) := dw_180 wX1_addLine_c 0 34 rfl rfl
theorem dX1_addLine_4 : decode cX1_addLine 4 = .ok (.sipush 400, 3) := dw_17 wX1_addLine_c 1 144 rfl rfl rfl
theorem dX1_addLine_7 : decode cX1_addLine 7 = .ok (.if_icmp .lt 4, 3) := dw_161 wX1_addLine_c 0 4 rfl rfl rfl
theorem dX1_addLine_11 : decode cX1_addLine 11 = .ok (.aload_n 0, 1) := dw_42 wX1_addLine_c rfl
theorem dX1_addLine_12 : decode cX1_addLine 12 = .ok (.getfield 9, 3) := dw_180 wX1_addLine_c 0 9 rfl rfl
theorem dX1_addLine_15 : decode cX1_addLine 15 = .ok (.aload_n 0, 1) := dw_42 wX1_addLine_c rfl
theorem dX1_addLine_16 : decode cX1_addLine 16 = .ok (.getfield 34, 3) := dw_180 wX1_addLine_c 0 34 rfl rfl
theorem dX1_addLine_19 : decode cX1_addLine 19 = .ok (.iload_n 1, 1) := dw_27 wX1_addLine_c rfl
theorem dX1_addLine_20 : decode cX1_addLine 20 = .ok (.iastore, 1) := dw_79 wX1_addLine_c rfl
theorem dX1_addLine_21 : decode cX1_addLine 21 = .ok (.aload_n 0, 1) := dw_42 wX1_addLine_c rfl
theorem dX1_addLine_22 : decode cX1_addLine 22 = .ok (.getfield 15, 3) := dw_180 wX1_addLine_c 0 15 rfl rfl
theorem dX1_addLine_25 : decode cX1_addLine 25 = .ok (.aload_n 0, 1) := dw_42 wX1_addLine_c rfl
theorem dX1_addLine_26 : decode cX1_addLine 26 = .ok (.getfield 34, 3) := dw_180 wX1_addLine_c 0 34 rfl rfl
theorem dX1_addLine_29 : decode cX1_addLine 29 = .ok (.iload_n 2, 1) := dw_28 wX1_addLine_c rfl
theorem dX1_addLine_30 : decode cX1_addLine 30 = .ok (.iastore, 1) := dw_79 wX1_addLine_c rfl
theorem dX1_addLine_31 : decode cX1_addLine 31 = .ok (.aload_n 0, 1) := dw_42 wX1_addLine_c rfl
theorem dX1_addLine_32 : decode cX1_addLine 32 = .ok (.getfield 18, 3) := dw_180 wX1_addLine_c 0 18 rfl rfl
theorem dX1_addLine_35 : decode cX1_addLine 35 = .ok (.aload_n 0, 1) := dw_42 wX1_addLine_c rfl
theorem dX1_addLine_36 : decode cX1_addLine 36 = .ok (.getfield 34, 3) := dw_180 wX1_addLine_c 0 34 rfl rfl
theorem dX1_addLine_39 : decode cX1_addLine 39 = .ok (.iload_n 3, 1) := dw_29 wX1_addLine_c rfl
theorem dX1_addLine_40 : decode cX1_addLine 40 = .ok (.iastore, 1) := dw_79 wX1_addLine_c rfl
theorem dX1_addLine_41 : decode cX1_addLine 41 = .ok (.aload_n 0, 1) := dw_42 wX1_addLine_c rfl
theorem dX1_addLine_42 : decode cX1_addLine 42 = .ok (.getfield 21, 3) := dw_180 wX1_addLine_c 0 21 rfl rfl
theorem dX1_addLine_45 : decode cX1_addLine 45 = .ok (.aload_n 0, 1) := dw_42 wX1_addLine_c rfl
theorem dX1_addLine_46 : decode cX1_addLine 46 = .ok (.getfield 34, 3) := dw_180 wX1_addLine_c 0 34 rfl rfl
theorem dX1_addLine_49 : decode cX1_addLine 49 = .ok (.iload 4, 2) := dw_21 wX1_addLine_c 4 rfl
theorem dX1_addLine_51 : decode cX1_addLine 51 = .ok (.iastore, 1) := dw_79 wX1_addLine_c rfl
theorem dX1_addLine_52 : decode cX1_addLine 52 = .ok (.aload_n 0, 1) := dw_42 wX1_addLine_c rfl
theorem dX1_addLine_53 : decode cX1_addLine 53 = .ok (.getfield 24, 3) := dw_180 wX1_addLine_c 0 24 rfl rfl
theorem dX1_addLine_56 : decode cX1_addLine 56 = .ok (.aload_n 0, 1) := dw_42 wX1_addLine_c rfl
theorem dX1_addLine_57 : decode cX1_addLine 57 = .ok (.getfield 34, 3) := dw_180 wX1_addLine_c 0 34 rfl rfl
theorem dX1_addLine_60 : decode cX1_addLine 60 = .ok (.iload 5, 2) := dw_21 wX1_addLine_c 5 rfl
theorem dX1_addLine_62 : decode cX1_addLine 62 = .ok (.iastore, 1) := dw_79 wX1_addLine_c rfl
theorem dX1_addLine_63 : decode cX1_addLine 63 = .ok (.aload_n 0, 1) := dw_42 wX1_addLine_c rfl
theorem dX1_addLine_64 : decode cX1_addLine 64 = .ok (.getfield 34, 3) := dw_180 wX1_addLine_c 0 34 rfl rfl
theorem dX1_addLine_67 : decode cX1_addLine 67 = .ok (.istore 6, 2) := dw_54 wX1_addLine_c 6 rfl
theorem dX1_addLine_69 : decode cX1_addLine 69 = .ok (.iload 6, 2) := dw_21 wX1_addLine_c 6 rfl
theorem dX1_addLine_71 : decode cX1_addLine 71 = .ok (.ifCond .le 43, 3) := dw_158 wX1_addLine_c 0 43 rfl rfl rfl
theorem dX1_addLine_74 : decode cX1_addLine 74 = .ok (.aload_n 0, 1) := dw_42 wX1_addLine_c rfl
theorem dX1_addLine_75 : decode cX1_addLine 75 = .ok (.getfield 18, 3) := dw_180 wX1_addLine_c 0 18 rfl rfl
theorem dX1_addLine_78 : decode cX1_addLine 78 = .ok (.aload_n 0, 1) := dw_42 wX1_addLine_c rfl
theorem dX1_addLine_79 : decode cX1_addLine 79 = .ok (.getfield 27, 3) := dw_180 wX1_addLine_c 0 27 rfl rfl
theorem dX1_addLine_82 : decode cX1_addLine 82 = .ok (.iload 6, 2) := dw_21 wX1_addLine_c 6 rfl
theorem dX1_addLine_84 : decode cX1_addLine 84 = .ok (.iconst 1, 1) := dw_4 wX1_addLine_c rfl
theorem dX1_addLine_85 : decode cX1_addLine 85 = .ok (.isub, 1) := dw_100 wX1_addLine_c rfl
theorem dX1_addLine_86 : decode cX1_addLine 86 = .ok (.iaload, 1) := dw_46 wX1_addLine_c rfl
theorem dX1_addLine_87 : decode cX1_addLine 87 = .ok (.iaload, 1) := dw_46 wX1_addLine_c rfl
theorem dX1_addLine_88 : decode cX1_addLine 88 = .ok (.iload_n 3, 1) := dw_29 wX1_addLine_c rfl
theorem dX1_addLine_89 : decode cX1_addLine 89 = .ok (.if_icmp .le 25, 3) := dw_164 wX1_addLine_c 0 25 rfl rfl rfl
theorem dX1_addLine_92 : decode cX1_addLine 92 = .ok (.aload_n 0, 1) := dw_42 wX1_addLine_c rfl
theorem dX1_addLine_93 : decode cX1_addLine 93 = .ok (.getfield 27, 3) := dw_180 wX1_addLine_c 0 27 rfl rfl
theorem dX1_addLine_96 : decode cX1_addLine 96 = .ok (.iload 6, 2) := dw_21 wX1_addLine_c 6 rfl
theorem dX1_addLine_98 : decode cX1_addLine 98 = .ok (.aload_n 0, 1) := dw_42 wX1_addLine_c rfl
theorem dX1_addLine_99 : decode cX1_addLine 99 = .ok (.getfield 27, 3) := dw_180 wX1_addLine_c 0 27 rfl rfl
theorem dX1_addLine_102 : decode cX1_addLine 102 = .ok (.iload 6, 2) := dw_21 wX1_addLine_c 6 rfl
theorem dX1_addLine_104 : decode cX1_addLine 104 = .ok (.iconst 1, 1) := dw_4 wX1_addLine_c rfl
theorem dX1_addLine_105 : decode cX1_addLine 105 = .ok (.isub, 1) := dw_100 wX1_addLine_c rfl
theorem dX1_addLine_106 : decode cX1_addLine 106 = .ok (.iaload, 1) := dw_46 wX1_addLine_c rfl
theorem dX1_addLine_107 : decode cX1_addLine 107 = .ok (.iastore, 1) := dw_79 wX1_addLine_c rfl
theorem dX1_addLine_108 : decode cX1_addLine 108 = .ok (.iinc 6 (-1), 3) := dn_132 wX1_addLine_c 6 255 rfl (by decide)
theorem dX1_addLine_111 : decode cX1_addLine 111 = .ok (.goto (-42), 3) := dn_167 wX1_addLine_c 255 214 rfl (by decide)
theorem dX1_addLine_114 : decode cX1_addLine 114 = .ok (.aload_n 0, 1) := dw_42 wX1_addLine_c rfl
theorem dX1_addLine_115 : decode cX1_addLine 115 = .ok (.getfield 27, 3) := dw_180 wX1_addLine_c 0 27 rfl rfl
theorem dX1_addLine_118 : decode cX1_addLine 118 = .ok (.iload 6, 2) := dw_21 wX1_addLine_c 6 rfl
theorem dX1_addLine_120 : decode cX1_addLine 120 = .ok (.aload_n 0, 1) := dw_42 wX1_addLine_c rfl
theorem dX1_addLine_121 : decode cX1_addLine 121 = .ok (.getfield 34, 3) := dw_180 wX1_addLine_c 0 34 rfl rfl
theorem dX1_addLine_124 : decode cX1_addLine 124 = .ok (.iastore, 1) := dw_79 wX1_addLine_c rfl
theorem dX1_addLine_125 : decode cX1_addLine 125 = .ok (.aload_n 0, 1) := dw_42 wX1_addLine_c rfl
theorem dX1_addLine_126 : decode cX1_addLine 126 = .ok (.dup, 1) := dw_89 wX1_addLine_c rfl
theorem dX1_addLine_127 : decode cX1_addLine 127 = .ok (.getfield 34, 3) := dw_180 wX1_addLine_c 0 34 rfl rfl
theorem dX1_addLine_130 : decode cX1_addLine 130 = .ok (.iconst 1, 1) := dw_4 wX1_addLine_c rfl
theorem dX1_addLine_131 : decode cX1_addLine 131 = .ok (.iadd, 1) := dw_96 wX1_addLine_c rfl
theorem dX1_addLine_132 : decode cX1_addLine 132 = .ok (.putfield 34, 3) := dw_181 wX1_addLine_c 0 34 rfl rfl
theorem dX1_addLine_135 : decode cX1_addLine 135 = .ok (.return_, 1) := dw_177 wX1_addLine_c rfl