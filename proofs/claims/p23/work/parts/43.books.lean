def wNX10_bookSum : Nat := 1147004873613346715520059743552574209040207410701160026833466676757154806677558174871672481166136087164534565994692261485685310588356766062449871061357791815691479726224761119563435662442051153988624369015321629825376905879628622847545073481219
theorem wX10_bookSum_c : hz_cd cX10_bookSum wNX10_bookSum 101 := ⟨by decide +kernel, by decide +kernel⟩
theorem dX10_bookSum_0 : decode cX10_bookSum 0 = .ok (.iconst 0, 1) := dw_3 wX10_bookSum_c rfl
theorem dX10_bookSum_1 : decode cX10_bookSum 1 = .ok (.istore 4, 2) := dw_54 wX10_bookSum_c 4 rfl
theorem dX10_bookSum_3 : decode cX10_bookSum 3 = .ok (.iconst 0, 1) := dw_3 wX10_bookSum_c rfl
theorem dX10_bookSum_4 : decode cX10_bookSum 4 = .ok (.istore 5, 2) := dw_54 wX10_bookSum_c 5 rfl
theorem dX10_bookSum_6 : decode cX10_bookSum 6 = .ok (.iload 5, 2) := dw_21 wX10_bookSum_c 5 rfl
theorem dX10_bookSum_8 : decode cX10_bookSum 8 = .ok (.aload_n 0, 1) := dw_42 wX10_bookSum_c rfl
theorem dX10_bookSum_9 : decode cX10_bookSum 9 = .ok (.getfield 351, 3) := dw_180 wX10_bookSum_c 1 95 rfl rfl
theorem dX10_bookSum_12 : decode cX10_bookSum 12 = .ok (.if_icmp .ge 86, 3) := dw_162 wX10_bookSum_c 0 86 rfl rfl rfl
theorem dX10_bookSum_15 : decode cX10_bookSum 15 = .ok (.aload_n 0, 1) := dw_42 wX10_bookSum_c rfl
theorem dX10_bookSum_16 : decode cX10_bookSum 16 = .ok (.getfield 63, 3) := dw_180 wX10_bookSum_c 0 63 rfl rfl
theorem dX10_bookSum_19 : decode cX10_bookSum 19 = .ok (.iload 5, 2) := dw_21 wX10_bookSum_c 5 rfl
theorem dX10_bookSum_21 : decode cX10_bookSum 21 = .ok (.iaload, 1) := dw_46 wX10_bookSum_c rfl
theorem dX10_bookSum_22 : decode cX10_bookSum 22 = .ok (.iload_n 1, 1) := dw_27 wX10_bookSum_c rfl
theorem dX10_bookSum_23 : decode cX10_bookSum 23 = .ok (.if_icmp .ne 69, 3) := dw_160 wX10_bookSum_c 0 69 rfl rfl rfl
theorem dX10_bookSum_26 : decode cX10_bookSum 26 = .ok (.aload_n 0, 1) := dw_42 wX10_bookSum_c rfl
theorem dX10_bookSum_27 : decode cX10_bookSum 27 = .ok (.getfield 66, 3) := dw_180 wX10_bookSum_c 0 66 rfl rfl
theorem dX10_bookSum_30 : decode cX10_bookSum 30 = .ok (.iload 5, 2) := dw_21 wX10_bookSum_c 5 rfl
theorem dX10_bookSum_32 : decode cX10_bookSum 32 = .ok (.iaload, 1) := dw_46 wX10_bookSum_c rfl
theorem dX10_bookSum_33 : decode cX10_bookSum 33 = .ok (.iload_n 2, 1) := dw_28 wX10_bookSum_c rfl
theorem dX10_bookSum_34 : decode cX10_bookSum 34 = .ok (.if_icmp .ne 58, 3) := dw_160 wX10_bookSum_c 0 58 rfl rfl rfl
theorem dX10_bookSum_37 : decode cX10_bookSum 37 = .ok (.aload_n 0, 1) := dw_42 wX10_bookSum_c rfl
theorem dX10_bookSum_38 : decode cX10_bookSum 38 = .ok (.getfield 69, 3) := dw_180 wX10_bookSum_c 0 69 rfl rfl
theorem dX10_bookSum_41 : decode cX10_bookSum 41 = .ok (.iload 5, 2) := dw_21 wX10_bookSum_c 5 rfl
theorem dX10_bookSum_43 : decode cX10_bookSum 43 = .ok (.iaload, 1) := dw_46 wX10_bookSum_c rfl
theorem dX10_bookSum_44 : decode cX10_bookSum 44 = .ok (.iload_n 3, 1) := dw_29 wX10_bookSum_c rfl
theorem dX10_bookSum_45 : decode cX10_bookSum 45 = .ok (.if_icmp .gt 47, 3) := dw_163 wX10_bookSum_c 0 47 rfl rfl rfl
theorem dX10_bookSum_48 : decode cX10_bookSum 48 = .ok (.iload 4, 2) := dw_21 wX10_bookSum_c 4 rfl
theorem dX10_bookSum_50 : decode cX10_bookSum 50 = .ok (.aload_n 0, 1) := dw_42 wX10_bookSum_c rfl
theorem dX10_bookSum_51 : decode cX10_bookSum 51 = .ok (.getfield 72, 3) := dw_180 wX10_bookSum_c 0 72 rfl rfl
theorem dX10_bookSum_54 : decode cX10_bookSum 54 = .ok (.iload 5, 2) := dw_21 wX10_bookSum_c 5 rfl
theorem dX10_bookSum_56 : decode cX10_bookSum 56 = .ok (.iaload, 1) := dw_46 wX10_bookSum_c rfl
theorem dX10_bookSum_57 : decode cX10_bookSum 57 = .ok (.ifCond .eq 14, 3) := dw_153 wX10_bookSum_c 0 14 rfl rfl rfl
theorem dX10_bookSum_60 : decode cX10_bookSum 60 = .ok (.aload_n 0, 1) := dw_42 wX10_bookSum_c rfl
theorem dX10_bookSum_61 : decode cX10_bookSum 61 = .ok (.getfield 72, 3) := dw_180 wX10_bookSum_c 0 72 rfl rfl
theorem dX10_bookSum_64 : decode cX10_bookSum 64 = .ok (.iload 5, 2) := dw_21 wX10_bookSum_c 5 rfl
theorem dX10_bookSum_66 : decode cX10_bookSum 66 = .ok (.iaload, 1) := dw_46 wX10_bookSum_c rfl
theorem dX10_bookSum_67 : decode cX10_bookSum 67 = .ok (.iconst 3, 1) := dw_6 wX10_bookSum_c rfl
theorem dX10_bookSum_68 : decode cX10_bookSum 68 = .ok (.if_icmp .ne 13, 3) := dw_160 wX10_bookSum_c 0 13 rfl rfl rfl
theorem dX10_bookSum_71 : decode cX10_bookSum 71 = .ok (.aload_n 0, 1) := dw_42 wX10_bookSum_c rfl
theorem dX10_bookSum_72 : decode cX10_bookSum 72 = .ok (.getfield 75, 3) := dw_180 wX10_bookSum_c 0 75 rfl rfl
theorem dX10_bookSum_75 : decode cX10_bookSum 75 = .ok (.iload 5, 2) := dw_21 wX10_bookSum_c 5 rfl
theorem dX10_bookSum_77 : decode cX10_bookSum 77 = .ok (.iaload, 1) := dw_46 wX10_bookSum_c rfl
theorem dX10_bookSum_78 : decode cX10_bookSum 78 = .ok (.goto 11, 3) := dw_167 wX10_bookSum_c 0 11 rfl rfl rfl
theorem dX10_bookSum_81 : decode cX10_bookSum 81 = .ok (.aload_n 0, 1) := dw_42 wX10_bookSum_c rfl
theorem dX10_bookSum_82 : decode cX10_bookSum 82 = .ok (.getfield 75, 3) := dw_180 wX10_bookSum_c 0 75 rfl rfl
theorem dX10_bookSum_85 : decode cX10_bookSum 85 = .ok (.iload 5, 2) := dw_21 wX10_bookSum_c 5 rfl
theorem dX10_bookSum_87 : decode cX10_bookSum 87 = .ok (.iaload, 1) := dw_46 wX10_bookSum_c rfl
theorem dX10_bookSum_88 : decode cX10_bookSum 88 = .ok (.ineg, 1) := dw_116 wX10_bookSum_c rfl
theorem dX10_bookSum_89 : decode cX10_bookSum 89 = .ok (.iadd, 1) := dw_96 wX10_bookSum_c rfl
theorem dX10_bookSum_90 : decode cX10_bookSum 90 = .ok (.istore 4, 2) := dw_54 wX10_bookSum_c 4 rfl
theorem dX10_bookSum_92 : decode cX10_bookSum 92 = .ok (.iinc 5 1, 3) := dw_132 wX10_bookSum_c 5 1 rfl rfl rfl
theorem dX10_bookSum_95 : decode cX10_bookSum 95 = .ok (.goto (-89), 3) := dn_167 wX10_bookSum_c 255 167 rfl (by decide)
theorem dX10_bookSum_98 : decode cX10_bookSum 98 = .ok (.iload 4, 2) := dw_21 wX10_bookSum_c 4 rfl
theorem dX10_bookSum_100 : decode cX10_bookSum 100 = .ok (.ireturn, 1) := dw_172 wX10_bookSum_c rfl
def wNX10_disorder : Nat := 2307651178394891636988431603264405494010503692680403515501445364664177706105086940362881578634420253895720360195988134929551524261954423638186642793365126403
theorem wX10_disorder_c : hz_cd cX10_disorder wNX10_disorder 65 := ⟨by decide +kernel, by decide +kernel⟩
theorem dX10_disorder_0 : decode cX10_disorder 0 = .ok (.iconst 0, 1) := dw_3 wX10_disorder_c rfl
theorem dX10_disorder_1 : decode cX10_disorder 1 = .ok (.istore_n 2, 1) := dw_61 wX10_disorder_c rfl
theorem dX10_disorder_2 : decode cX10_disorder 2 = .ok (.iconst (-1), 1) := dw_2 wX10_disorder_c rfl
theorem dX10_disorder_3 : decode cX10_disorder 3 = .ok (.istore_n 3, 1) := dw_62 wX10_disorder_c rfl
theorem dX10_disorder_4 : decode cX10_disorder 4 = .ok (.iconst 0, 1) := dw_3 wX10_disorder_c rfl
theorem dX10_disorder_5 : decode cX10_disorder 5 = .ok (.istore 4, 2) := dw_54 wX10_disorder_c 4 rfl
theorem dX10_disorder_7 : decode cX10_disorder 7 = .ok (.iload 4, 2) := dw_21 wX10_disorder_c 4 rfl
theorem dX10_disorder_9 : decode cX10_disorder 9 = .ok (.aload_n 0, 1) := dw_42 wX10_disorder_c rfl
theorem dX10_disorder_10 : decode cX10_disorder 10 = .ok (.getfield 351, 3) := dw_180 wX10_disorder_c 1 95 rfl rfl
theorem dX10_disorder_13 : decode cX10_disorder 13 = .ok (.if_icmp .ge 50, 3) := dw_162 wX10_disorder_c 0 50 rfl rfl rfl
theorem dX10_disorder_16 : decode cX10_disorder 16 = .ok (.aload_n 0, 1) := dw_42 wX10_disorder_c rfl
theorem dX10_disorder_17 : decode cX10_disorder 17 = .ok (.getfield 63, 3) := dw_180 wX10_disorder_c 0 63 rfl rfl
theorem dX10_disorder_20 : decode cX10_disorder 20 = .ok (.iload 4, 2) := dw_21 wX10_disorder_c 4 rfl
theorem dX10_disorder_22 : decode cX10_disorder 22 = .ok (.iaload, 1) := dw_46 wX10_disorder_c rfl
theorem dX10_disorder_23 : decode cX10_disorder 23 = .ok (.iload_n 1, 1) := dw_27 wX10_disorder_c rfl
theorem dX10_disorder_24 : decode cX10_disorder 24 = .ok (.if_icmp .eq 6, 3) := dw_159 wX10_disorder_c 0 6 rfl rfl rfl
theorem dX10_disorder_27 : decode cX10_disorder 27 = .ok (.goto 30, 3) := dw_167 wX10_disorder_c 0 30 rfl rfl rfl
theorem dX10_disorder_30 : decode cX10_disorder 30 = .ok (.iload_n 2, 1) := dw_28 wX10_disorder_c rfl
theorem dX10_disorder_31 : decode cX10_disorder 31 = .ok (.aload_n 0, 1) := dw_42 wX10_disorder_c rfl
theorem dX10_disorder_32 : decode cX10_disorder 32 = .ok (.getfield 69, 3) := dw_180 wX10_disorder_c 0 69 rfl rfl
theorem dX10_disorder_35 : decode cX10_disorder 35 = .ok (.iload 4, 2) := dw_21 wX10_disorder_c 4 rfl
theorem dX10_disorder_37 : decode cX10_disorder 37 = .ok (.iaload, 1) := dw_46 wX10_disorder_c rfl
theorem dX10_disorder_38 : decode cX10_disorder 38 = .ok (.iload_n 3, 1) := dw_29 wX10_disorder_c rfl
theorem dX10_disorder_39 : decode cX10_disorder 39 = .ok (.if_icmp .ge 7, 3) := dw_162 wX10_disorder_c 0 7 rfl rfl rfl
theorem dX10_disorder_42 : decode cX10_disorder 42 = .ok (.iconst 1, 1) := dw_4 wX10_disorder_c rfl
theorem dX10_disorder_43 : decode cX10_disorder 43 = .ok (.goto 4, 3) := dw_167 wX10_disorder_c 0 4 rfl rfl rfl
theorem dX10_disorder_46 : decode cX10_disorder 46 = .ok (.iconst 0, 1) := dw_3 wX10_disorder_c rfl
theorem dX10_disorder_47 : decode cX10_disorder 47 = .ok (.iadd, 1) := dw_96 wX10_disorder_c rfl
theorem dX10_disorder_48 : decode cX10_disorder 48 = .ok (.istore_n 2, 1) := dw_61 wX10_disorder_c rfl
theorem dX10_disorder_49 : decode cX10_disorder 49 = .ok (.aload_n 0, 1) := dw_42 wX10_disorder_c rfl
theorem dX10_disorder_50 : decode cX10_disorder 50 = .ok (.getfield 69, 3) := dw_180 wX10_disorder_c 0 69 rfl rfl
theorem dX10_disorder_53 : decode cX10_disorder 53 = .ok (.iload 4, 2) := dw_21 wX10_disorder_c 4 rfl
theorem dX10_disorder_55 : decode cX10_disorder 55 = .ok (.iaload, 1) := dw_46 wX10_disorder_c rfl
theorem dX10_disorder_56 : decode cX10_disorder 56 = .ok (.istore_n 3, 1) := dw_62 wX10_disorder_c rfl
theorem dX10_disorder_57 : decode cX10_disorder 57 = .ok (.iinc 4 1, 3) := dw_132 wX10_disorder_c 4 1 rfl rfl rfl
theorem dX10_disorder_60 : decode cX10_disorder 60 = .ok (.goto (-53), 3) := dn_167 wX10_disorder_c 255 203 rfl (by decide)
theorem dX10_disorder_63 : decode cX10_disorder 63 = .ok (.iload_n 2, 1) := dw_28 wX10_disorder_c rfl
theorem dX10_disorder_64 : decode cX10_disorder 64 = .ok (.ireturn, 1) := dw_172 wX10_disorder_c rfl
def wNX10_areTwins : Nat := 137466246221562552973413583499224988471076140737488792013137721105286355269497346830371297603754048755279818728219367569931293054746808657478800159786
theorem wX10_areTwins_c : hz_cd cX10_areTwins wNX10_areTwins 62 := ⟨by decide +kernel, by decide +kernel⟩
theorem dX10_areTwins_0 : decode cX10_areTwins 0 = .ok (.aload_n 0, 1) := dw_42 wX10_areTwins_c rfl
theorem dX10_areTwins_1 : decode cX10_areTwins 1 = .ok (.getfield 69, 3) := dw_180 wX10_areTwins_c 0 69 rfl rfl
theorem dX10_areTwins_4 : decode cX10_areTwins 4 = .ok (.iload_n 1, 1) := dw_27 wX10_areTwins_c rfl
theorem dX10_areTwins_5 : decode cX10_areTwins 5 = .ok (.iaload, 1) := dw_46 wX10_areTwins_c rfl
theorem dX10_areTwins_6 : decode cX10_areTwins 6 = .ok (.aload_n 0, 1) := dw_42 wX10_areTwins_c rfl
theorem dX10_areTwins_7 : decode cX10_areTwins 7 = .ok (.getfield 69, 3) := dw_180 wX10_areTwins_c 0 69 rfl rfl
theorem dX10_areTwins_10 : decode cX10_areTwins 10 = .ok (.iload_n 2, 1) := dw_28 wX10_areTwins_c rfl
theorem dX10_areTwins_11 : decode cX10_areTwins 11 = .ok (.iaload, 1) := dw_46 wX10_areTwins_c rfl
theorem dX10_areTwins_12 : decode cX10_areTwins 12 = .ok (.isub, 1) := dw_100 wX10_areTwins_c rfl
theorem dX10_areTwins_13 : decode cX10_areTwins 13 = .ok (.istore_n 3, 1) := dw_62 wX10_areTwins_c rfl
theorem dX10_areTwins_14 : decode cX10_areTwins 14 = .ok (.aload_n 0, 1) := dw_42 wX10_areTwins_c rfl
theorem dX10_areTwins_15 : decode cX10_areTwins 15 = .ok (.getfield 72, 3) := dw_180 wX10_areTwins_c 0 72 rfl rfl
theorem dX10_areTwins_18 : decode cX10_areTwins 18 = .ok (.iload_n 1, 1) := dw_27 wX10_areTwins_c rfl
theorem dX10_areTwins_19 : decode cX10_areTwins 19 = .ok (.iaload, 1) := dw_46 wX10_areTwins_c rfl
theorem dX10_areTwins_20 : decode cX10_areTwins 20 = .ok (.iconst 1, 1) := dw_4 wX10_areTwins_c rfl
theorem dX10_areTwins_21 : decode cX10_areTwins 21 = .ok (.ixor, 1) := dw_130 wX10_areTwins_c rfl
theorem dX10_areTwins_22 : decode cX10_areTwins 22 = .ok (.aload_n 0, 1) := dw_42 wX10_areTwins_c rfl
theorem dX10_areTwins_23 : decode cX10_areTwins 23 = .ok (.getfield 72, 3) := dw_180 wX10_areTwins_c 0 72 rfl rfl
theorem dX10_areTwins_26 : decode cX10_areTwins 26 = .ok (.iload_n 2, 1) := dw_28 wX10_areTwins_c rfl
theorem dX10_areTwins_27 : decode cX10_areTwins 27 = .ok (.iaload, 1) := dw_46 wX10_areTwins_c rfl
theorem dX10_areTwins_28 : decode cX10_areTwins 28 = .ok (.if_icmp .ne 32, 3) := dw_160 wX10_areTwins_c 0 32 rfl rfl rfl
theorem dX10_areTwins_31 : decode cX10_areTwins 31 = .ok (.aload_n 0, 1) := dw_42 wX10_areTwins_c rfl
theorem dX10_areTwins_32 : decode cX10_areTwins 32 = .ok (.getfield 75, 3) := dw_180 wX10_areTwins_c 0 75 rfl rfl
theorem dX10_areTwins_35 : decode cX10_areTwins 35 = .ok (.iload_n 1, 1) := dw_27 wX10_areTwins_c rfl
theorem dX10_areTwins_36 : decode cX10_areTwins 36 = .ok (.iaload, 1) := dw_46 wX10_areTwins_c rfl
theorem dX10_areTwins_37 : decode cX10_areTwins 37 = .ok (.aload_n 0, 1) := dw_42 wX10_areTwins_c rfl
theorem dX10_areTwins_38 : decode cX10_areTwins 38 = .ok (.getfield 75, 3) := dw_180 wX10_areTwins_c 0 75 rfl rfl
theorem dX10_areTwins_41 : decode cX10_areTwins 41 = .ok (.iload_n 2, 1) := dw_28 wX10_areTwins_c rfl
theorem dX10_areTwins_42 : decode cX10_areTwins 42 = .ok (.iaload, 1) := dw_46 wX10_areTwins_c rfl
theorem dX10_areTwins_43 : decode cX10_areTwins 43 = .ok (.if_icmp .ne 17, 3) := dw_160 wX10_areTwins_c 0 17 rfl rfl rfl
theorem dX10_areTwins_46 : decode cX10_areTwins 46 = .ok (.iload_n 3, 1) := dw_29 wX10_areTwins_c rfl
theorem dX10_areTwins_47 : decode cX10_areTwins 47 = .ok (.bipush (-3), 2) := dn_16 wX10_areTwins_c 253 rfl (by decide)
theorem dX10_areTwins_49 : decode cX10_areTwins 49 = .ok (.iconst 3, 1) := dw_6 wX10_areTwins_c rfl
theorem dX10_areTwins_50 : decode cX10_areTwins 50 = .ok (.invokestatic 228, 3) := dw_184 wX10_areTwins_c 0 228 rfl rfl
theorem dX10_areTwins_53 : decode cX10_areTwins 53 = .ok (.ifCond .eq 7, 3) := dw_153 wX10_areTwins_c 0 7 rfl rfl rfl
theorem dX10_areTwins_56 : decode cX10_areTwins 56 = .ok (.iconst 1, 1) := dw_4 wX10_areTwins_c rfl
theorem dX10_areTwins_57 : decode cX10_areTwins 57 = .ok (.goto 4, 3) := dw_167 wX10_areTwins_c 0 4 rfl rfl rfl
theorem dX10_areTwins_60 : decode cX10_areTwins 60 = .ok (.iconst 0, 1) := dw_3 wX10_areTwins_c rfl
theorem dX10_areTwins_61 : decode cX10_areTwins 61 = .ok (.ireturn, 1) := dw_172 wX10_areTwins_c rfl
def wNX10_alike : Nat := 48008810657284923475615064606622224958988110984948978618549410822394929765731030763136474001897948439052685335246435376443303694025090527307135787450370244317969337426185227606199753082156566986904357697363981296111141234836902015847722562357819017761333224672730849290195169883905128375646405960662921064015986830289120000816125760890939440888498858844583535317547708984071524537817255543037109984676930197473805895471561676863709744556890416950805125927189739618163265939726412412850104677614634611367587703024726560130805155935442906134019
theorem wX10_alike_c : hz_cd cX10_alike wNX10_alike 225 := ⟨by decide +kernel, by decide +kernel⟩
theorem dX10_alike_0 : decode cX10_alike 0 = .ok (.iconst 0, 1) := dw_3 wX10_alike_c rfl
theorem dX10_alike_1 : decode cX10_alike 1 = .ok (.istore 4, 2) := dw_54 wX10_alike_c 4 rfl
theorem dX10_alike_3 : decode cX10_alike 3 = .ok (.iload 4, 2) := dw_21 wX10_alike_c 4 rfl
theorem dX10_alike_5 : decode cX10_alike 5 = .ok (.aload_n 0, 1) := dw_42 wX10_alike_c rfl
theorem dX10_alike_6 : decode cX10_alike 6 = .ok (.getfield 351, 3) := dw_180 wX10_alike_c 1 95 rfl rfl
theorem dX10_alike_9 : decode cX10_alike 9 = .ok (.if_icmp .ge 17, 3) := dw_162 wX10_alike_c 0 17 rfl rfl rfl
theorem dX10_alike_12 : decode cX10_alike 12 = .ok (.aload_n 0, 1) := dw_42 wX10_alike_c rfl
theorem dX10_alike_13 : decode cX10_alike 13 = .ok (.getfield 78, 3) := dw_180 wX10_alike_c 0 78 rfl rfl
theorem dX10_alike_16 : decode cX10_alike 16 = .ok (.iload 4, 2) := dw_21 wX10_alike_c 4 rfl
theorem dX10_alike_18 : decode cX10_alike 18 = .ok (.iconst 0, 1) := dw_3 wX10_alike_c rfl
theorem dX10_alike_19 : decode cX10_alike 19 = .ok (.bastore, 1) := dw_84 wX10_alike_c rfl
theorem dX10_alike_20 : decode cX10_alike 20 = .ok (.iinc 4 1, 3) := dw_132 wX10_alike_c 4 1 rfl rfl rfl
theorem dX10_alike_23 : decode cX10_alike 23 = .ok (.goto (-20), 3) := dn_167 wX10_alike_c 255 236 rfl (by decide)
theorem dX10_alike_26 : decode cX10_alike 26 = .ok (.iconst 0, 1) := dw_3 wX10_alike_c rfl
theorem dX10_alike_27 : decode cX10_alike 27 = .ok (.istore 4, 2) := dw_54 wX10_alike_c 4 rfl
theorem dX10_alike_29 : decode cX10_alike 29 = .ok (.iconst 0, 1) := dw_3 wX10_alike_c rfl
theorem dX10_alike_30 : decode cX10_alike 30 = .ok (.istore 5, 2) := dw_54 wX10_alike_c 5 rfl
theorem dX10_alike_32 : decode cX10_alike 32 = .ok (.iload 5, 2) := dw_21 wX10_alike_c 5 rfl
theorem dX10_alike_34 : decode cX10_alike 34 = .ok (.iload_n 3, 1) := dw_29 wX10_alike_c rfl
theorem dX10_alike_35 : decode cX10_alike 35 = .ok (.if_icmp .gt 187, 3) := dw_163 wX10_alike_c 0 187 rfl rfl rfl
theorem dX10_alike_38 : decode cX10_alike 38 = .ok (.iconst 0, 1) := dw_3 wX10_alike_c rfl
theorem dX10_alike_39 : decode cX10_alike 39 = .ok (.istore 6, 2) := dw_54 wX10_alike_c 6 rfl
theorem dX10_alike_41 : decode cX10_alike 41 = .ok (.iload 6, 2) := dw_21 wX10_alike_c 6 rfl
theorem dX10_alike_43 : decode cX10_alike 43 = .ok (.aload_n 0, 1) := dw_42 wX10_alike_c rfl
theorem dX10_alike_44 : decode cX10_alike 44 = .ok (.getfield 351, 3) := dw_180 wX10_alike_c 1 95 rfl rfl
theorem dX10_alike_47 : decode cX10_alike 47 = .ok (.if_icmp .ge 169, 3) := dw_162 wX10_alike_c 0 169 rfl rfl rfl
theorem dX10_alike_50 : decode cX10_alike 50 = .ok (.aload_n 0, 1) := dw_42 wX10_alike_c rfl
theorem dX10_alike_51 : decode cX10_alike 51 = .ok (.getfield 69, 3) := dw_180 wX10_alike_c 0 69 rfl rfl
theorem dX10_alike_54 : decode cX10_alike 54 = .ok (.iload 6, 2) := dw_21 wX10_alike_c 6 rfl
theorem dX10_alike_56 : decode cX10_alike 56 = .ok (.iaload, 1) := dw_46 wX10_alike_c rfl
theorem dX10_alike_57 : decode cX10_alike 57 = .ok (.iload 5, 2) := dw_21 wX10_alike_c 5 rfl
theorem dX10_alike_59 : decode cX10_alike 59 = .ok (.if_icmp .ne 151, 3) := dw_160 wX10_alike_c 0 151 rfl rfl rfl
theorem dX10_alike_62 : decode cX10_alike 62 = .ok (.aload_n 0, 1) := dw_42 wX10_alike_c rfl
theorem dX10_alike_63 : decode cX10_alike 63 = .ok (.getfield 63, 3) := dw_180 wX10_alike_c 0 63 rfl rfl
theorem dX10_alike_66 : decode cX10_alike 66 = .ok (.iload 6, 2) := dw_21 wX10_alike_c 6 rfl
theorem dX10_alike_68 : decode cX10_alike 68 = .ok (.iaload, 1) := dw_46 wX10_alike_c rfl
theorem dX10_alike_69 : decode cX10_alike 69 = .ok (.iload_n 1, 1) := dw_27 wX10_alike_c rfl
theorem dX10_alike_70 : decode cX10_alike 70 = .ok (.if_icmp .ne 140, 3) := dw_160 wX10_alike_c 0 140 rfl rfl rfl
theorem dX10_alike_73 : decode cX10_alike 73 = .ok (.aload_n 0, 1) := dw_42 wX10_alike_c rfl
theorem dX10_alike_74 : decode cX10_alike 74 = .ok (.getfield 66, 3) := dw_180 wX10_alike_c 0 66 rfl rfl
theorem dX10_alike_77 : decode cX10_alike 77 = .ok (.iload 6, 2) := dw_21 wX10_alike_c 6 rfl
theorem dX10_alike_79 : decode cX10_alike 79 = .ok (.iaload, 1) := dw_46 wX10_alike_c rfl
theorem dX10_alike_80 : decode cX10_alike 80 = .ok (.iload_n 2, 1) := dw_28 wX10_alike_c rfl
theorem dX10_alike_81 : decode cX10_alike 81 = .ok (.if_icmp .eq 6, 3) := dw_159 wX10_alike_c 0 6 rfl rfl rfl
theorem dX10_alike_84 : decode cX10_alike 84 = .ok (.goto 126, 3) := dw_167 wX10_alike_c 0 126 rfl rfl rfl
theorem dX10_alike_87 : decode cX10_alike 87 = .ok (.iconst (-1), 1) := dw_2 wX10_alike_c rfl
theorem dX10_alike_88 : decode cX10_alike 88 = .ok (.istore 7, 2) := dw_54 wX10_alike_c 7 rfl
theorem dX10_alike_90 : decode cX10_alike 90 = .ok (.iconst 0, 1) := dw_3 wX10_alike_c rfl
theorem dX10_alike_91 : decode cX10_alike 91 = .ok (.istore 8, 2) := dw_54 wX10_alike_c 8 rfl
theorem dX10_alike_93 : decode cX10_alike 93 = .ok (.iload 8, 2) := dw_21 wX10_alike_c 8 rfl
theorem dX10_alike_95 : decode cX10_alike 95 = .ok (.aload_n 0, 1) := dw_42 wX10_alike_c rfl
theorem dX10_alike_96 : decode cX10_alike 96 = .ok (.getfield 351, 3) := dw_180 wX10_alike_c 1 95 rfl rfl
theorem dX10_alike_99 : decode cX10_alike 99 = .ok (.if_icmp .ge 92, 3) := dw_162 wX10_alike_c 0 92 rfl rfl rfl
theorem dX10_alike_102 : decode cX10_alike 102 = .ok (.aload_n 0, 1) := dw_42 wX10_alike_c rfl
theorem dX10_alike_103 : decode cX10_alike 103 = .ok (.getfield 78, 3) := dw_180 wX10_alike_c 0 78 rfl rfl
theorem dX10_alike_106 : decode cX10_alike 106 = .ok (.iload 8, 2) := dw_21 wX10_alike_c 8 rfl
theorem dX10_alike_108 : decode cX10_alike 108 = .ok (.baload, 1) := dw_51 wX10_alike_c rfl
theorem dX10_alike_109 : decode cX10_alike 109 = .ok (.ifCond .ne 76, 3) := dw_154 wX10_alike_c 0 76 rfl rfl rfl
theorem dX10_alike_112 : decode cX10_alike 112 = .ok (.aload_n 0, 1) := dw_42 wX10_alike_c rfl
theorem dX10_alike_113 : decode cX10_alike 113 = .ok (.getfield 63, 3) := dw_180 wX10_alike_c 0 63 rfl rfl
theorem dX10_alike_116 : decode cX10_alike 116 = .ok (.iload 8, 2) := dw_21 wX10_alike_c 8 rfl
theorem dX10_alike_118 : decode cX10_alike 118 = .ok (.iaload, 1) := dw_46 wX10_alike_c rfl
theorem dX10_alike_119 : decode cX10_alike 119 = .ok (.iload_n 2, 1) := dw_28 wX10_alike_c rfl
theorem dX10_alike_120 : decode cX10_alike 120 = .ok (.if_icmp .ne 65, 3) := dw_160 wX10_alike_c 0 65 rfl rfl rfl
theorem dX10_alike_123 : decode cX10_alike 123 = .ok (.aload_n 0, 1) := dw_42 wX10_alike_c rfl
theorem dX10_alike_124 : decode cX10_alike 124 = .ok (.getfield 66, 3) := dw_180 wX10_alike_c 0 66 rfl rfl
theorem dX10_alike_127 : decode cX10_alike 127 = .ok (.iload 8, 2) := dw_21 wX10_alike_c 8 rfl
theorem dX10_alike_129 : decode cX10_alike 129 = .ok (.iaload, 1) := dw_46 wX10_alike_c rfl
theorem dX10_alike_130 : decode cX10_alike 130 = .ok (.iload_n 1, 1) := dw_27 wX10_alike_c rfl
theorem dX10_alike_131 : decode cX10_alike 131 = .ok (.if_icmp .ne 54, 3) := dw_160 wX10_alike_c 0 54 rfl rfl rfl
theorem dX10_alike_134 : decode cX10_alike 134 = .ok (.aload_n 0, 1) := dw_42 wX10_alike_c rfl
theorem dX10_alike_135 : decode cX10_alike 135 = .ok (.getfield 69, 3) := dw_180 wX10_alike_c 0 69 rfl rfl
theorem dX10_alike_138 : decode cX10_alike 138 = .ok (.iload 8, 2) := dw_21 wX10_alike_c 8 rfl
theorem dX10_alike_140 : decode cX10_alike 140 = .ok (.iaload, 1) := dw_46 wX10_alike_c rfl
theorem dX10_alike_141 : decode cX10_alike 141 = .ok (.iload_n 3, 1) := dw_29 wX10_alike_c rfl
theorem dX10_alike_142 : decode cX10_alike 142 = .ok (.if_icmp .gt 43, 3) := dw_163 wX10_alike_c 0 43 rfl rfl rfl
theorem dX10_alike_145 : decode cX10_alike 145 = .ok (.aload_n 0, 1) := dw_42 wX10_alike_c rfl
theorem dX10_alike_146 : decode cX10_alike 146 = .ok (.iload 6, 2) := dw_21 wX10_alike_c 6 rfl
theorem dX10_alike_148 : decode cX10_alike 148 = .ok (.iload 8, 2) := dw_21 wX10_alike_c 8 rfl
theorem dX10_alike_150 : decode cX10_alike 150 = .ok (.invokevirtual 354, 3) := dw_182 wX10_alike_c 1 98 rfl rfl
theorem dX10_alike_153 : decode cX10_alike 153 = .ok (.ifCond .ne 6, 3) := dw_154 wX10_alike_c 0 6 rfl rfl rfl
theorem dX10_alike_156 : decode cX10_alike 156 = .ok (.goto 29, 3) := dw_167 wX10_alike_c 0 29 rfl rfl rfl
theorem dX10_alike_159 : decode cX10_alike 159 = .ok (.iload 7, 2) := dw_21 wX10_alike_c 7 rfl
theorem dX10_alike_161 : decode cX10_alike 161 = .ok (.ifCond .lt 20, 3) := dw_155 wX10_alike_c 0 20 rfl rfl rfl
theorem dX10_alike_164 : decode cX10_alike 164 = .ok (.aload_n 0, 1) := dw_42 wX10_alike_c rfl
theorem dX10_alike_165 : decode cX10_alike 165 = .ok (.getfield 69, 3) := dw_180 wX10_alike_c 0 69 rfl rfl
theorem dX10_alike_168 : decode cX10_alike 168 = .ok (.iload 8, 2) := dw_21 wX10_alike_c 8 rfl
theorem dX10_alike_170 : decode cX10_alike 170 = .ok (.iaload, 1) := dw_46 wX10_alike_c rfl
theorem dX10_alike_171 : decode cX10_alike 171 = .ok (.aload_n 0, 1) := dw_42 wX10_alike_c rfl
theorem dX10_alike_172 : decode cX10_alike 172 = .ok (.getfield 69, 3) := dw_180 wX10_alike_c 0 69 rfl rfl
theorem dX10_alike_175 : decode cX10_alike 175 = .ok (.iload 7, 2) := dw_21 wX10_alike_c 7 rfl
theorem dX10_alike_177 : decode cX10_alike 177 = .ok (.iaload, 1) := dw_46 wX10_alike_c rfl
theorem dX10_alike_178 : decode cX10_alike 178 = .ok (.if_icmp .ge 7, 3) := dw_162 wX10_alike_c 0 7 rfl rfl rfl
theorem dX10_alike_181 : decode cX10_alike 181 = .ok (.iload 8, 2) := dw_21 wX10_alike_c 8 rfl
theorem dX10_alike_183 : decode cX10_alike 183 = .ok (.istore 7, 2) := dw_54 wX10_alike_c 7 rfl
theorem dX10_alike_185 : decode cX10_alike 185 = .ok (.iinc 8 1, 3) := dw_132 wX10_alike_c 8 1 rfl rfl rfl
theorem dX10_alike_188 : decode cX10_alike 188 = .ok (.goto (-95), 3) := dn_167 wX10_alike_c 255 161 rfl (by decide)
theorem dX10_alike_191 : decode cX10_alike 191 = .ok (.iload 7, 2) := dw_21 wX10_alike_c 7 rfl
theorem dX10_alike_193 : decode cX10_alike 193 = .ok (.ifCond .ge 6, 3) := dw_156 wX10_alike_c 0 6 rfl rfl rfl
theorem dX10_alike_196 : decode cX10_alike 196 = .ok (.goto 14, 3) := dw_167 wX10_alike_c 0 14 rfl rfl rfl
theorem dX10_alike_199 : decode cX10_alike 199 = .ok (.aload_n 0, 1) := dw_42 wX10_alike_c rfl
theorem dX10_alike_200 : decode cX10_alike 200 = .ok (.getfield 78, 3) := dw_180 wX10_alike_c 0 78 rfl rfl
theorem dX10_alike_203 : decode cX10_alike 203 = .ok (.iload 7, 2) := dw_21 wX10_alike_c 7 rfl
theorem dX10_alike_205 : decode cX10_alike 205 = .ok (.iconst 1, 1) := dw_4 wX10_alike_c rfl
theorem dX10_alike_206 : decode cX10_alike 206 = .ok (.bastore, 1) := dw_84 wX10_alike_c rfl
theorem dX10_alike_207 : decode cX10_alike 207 = .ok (.iinc 4 1, 3) := dw_132 wX10_alike_c 4 1 rfl rfl rfl
theorem dX10_alike_210 : decode cX10_alike 210 = .ok (.iinc 6 1, 3) := dw_132 wX10_alike_c 6 1 rfl rfl rfl
theorem dX10_alike_213 : decode cX10_alike 213 = .ok (.goto (-172), 3) := dn_167 wX10_alike_c 255 84 rfl (by decide)
theorem dX10_alike_216 : decode cX10_alike 216 = .ok (.iinc 5 1, 3) := dw_132 wX10_alike_c 5 1 rfl rfl rfl
theorem dX10_alike_219 : decode cX10_alike 219 = .ok (.goto (-187), 3) := dn_167 wX10_alike_c 255 69 rfl (by decide)
theorem dX10_alike_222 : decode cX10_alike 222 = .ok (.iload 4, 2) := dw_21 wX10_alike_c 4 rfl
theorem dX10_alike_224 : decode cX10_alike 224 = .ok (.ireturn, 1) := dw_172 wX10_alike_c rfl
def wNX10_book : Nat := 786539886421544592577405838108005687256152237788330320251194614579906218155876976943321961339088800823344452883763839513439937719898067838806736147378352312565569081600507649553529490303498984234
theorem wX10_book_c : hz_cd cX10_book wNX10_book 81 := ⟨by decide +kernel, by decide +kernel⟩
theorem dX10_book_0 : decode cX10_book 0 = .ok (.aload_n 0, 1) := dw_42 wX10_book_c rfl
theorem dX10_book_1 : decode cX10_book 1 = .ok (.iload_n 1, 1) := dw_27 wX10_book_c rfl
theorem dX10_book_2 : decode cX10_book 2 = .ok (.invokevirtual 348, 3) := dw_182 wX10_book_c 1 92 rfl rfl
theorem dX10_book_5 : decode cX10_book 5 = .ok (.ifCond .eq 23, 3) := dw_153 wX10_book_c 0 23 rfl rfl rfl
theorem dX10_book_8 : decode cX10_book 8 = .ok (.aload_n 0, 1) := dw_42 wX10_book_c rfl
theorem dX10_book_9 : decode cX10_book 9 = .ok (.iload_n 2, 1) := dw_28 wX10_book_c rfl
theorem dX10_book_10 : decode cX10_book 10 = .ok (.invokevirtual 348, 3) := dw_182 wX10_book_c 1 92 rfl rfl
theorem dX10_book_13 : decode cX10_book 13 = .ok (.ifCond .eq 15, 3) := dw_153 wX10_book_c 0 15 rfl rfl rfl
theorem dX10_book_16 : decode cX10_book 16 = .ok (.iload_n 1, 1) := dw_27 wX10_book_c rfl
theorem dX10_book_17 : decode cX10_book 17 = .ok (.iload_n 2, 1) := dw_28 wX10_book_c rfl
theorem dX10_book_18 : decode cX10_book 18 = .ok (.if_icmp .eq 10, 3) := dw_159 wX10_book_c 0 10 rfl rfl rfl
theorem dX10_book_21 : decode cX10_book 21 = .ok (.iload_n 3, 1) := dw_29 wX10_book_c rfl
theorem dX10_book_22 : decode cX10_book 22 = .ok (.invokestatic 324, 3) := dw_184 wX10_book_c 1 68 rfl rfl
theorem dX10_book_25 : decode cX10_book 25 = .ok (.ifCond .ne 7, 3) := dw_154 wX10_book_c 0 7 rfl rfl rfl
theorem dX10_book_28 : decode cX10_book 28 = .ok (.ldc_w 357, 3) := dw_19 wX10_book_c 1 101 rfl rfl
theorem dX10_book_31 : decode cX10_book 31 = .ok (.ireturn, 1) := dw_172 wX10_book_c rfl
theorem dX10_book_32 : decode cX10_book 32 = .ok (.iload 4, 2) := dw_21 wX10_book_c 4 rfl
theorem dX10_book_34 : decode cX10_book 34 = .ok (.ifCond .ne 13, 3) := dw_154 wX10_book_c 0 13 rfl rfl rfl
theorem dX10_book_37 : decode cX10_book 37 = .ok (.aload_n 0, 1) := dw_42 wX10_book_c rfl
theorem dX10_book_38 : decode cX10_book 38 = .ok (.iload_n 1, 1) := dw_27 wX10_book_c rfl
theorem dX10_book_39 : decode cX10_book 39 = .ok (.iload_n 2, 1) := dw_28 wX10_book_c rfl
theorem dX10_book_40 : decode cX10_book 40 = .ok (.iload_n 3, 1) := dw_29 wX10_book_c rfl
theorem dX10_book_41 : decode cX10_book 41 = .ok (.invokevirtual 358, 3) := dw_182 wX10_book_c 1 102 rfl rfl
theorem dX10_book_44 : decode cX10_book 44 = .ok (.goto 36, 3) := dw_167 wX10_book_c 0 36 rfl rfl rfl
theorem dX10_book_47 : decode cX10_book 47 = .ok (.iload 4, 2) := dw_21 wX10_book_c 4 rfl
theorem dX10_book_49 : decode cX10_book 49 = .ok (.iconst 1, 1) := dw_4 wX10_book_c rfl
theorem dX10_book_50 : decode cX10_book 50 = .ok (.if_icmp .ne 13, 3) := dw_160 wX10_book_c 0 13 rfl rfl rfl
theorem dX10_book_53 : decode cX10_book 53 = .ok (.aload_n 0, 1) := dw_42 wX10_book_c rfl
theorem dX10_book_54 : decode cX10_book 54 = .ok (.iload_n 1, 1) := dw_27 wX10_book_c rfl
theorem dX10_book_55 : decode cX10_book 55 = .ok (.iload_n 2, 1) := dw_28 wX10_book_c rfl
theorem dX10_book_56 : decode cX10_book 56 = .ok (.iload_n 3, 1) := dw_29 wX10_book_c rfl
theorem dX10_book_57 : decode cX10_book 57 = .ok (.invokevirtual 361, 3) := dw_182 wX10_book_c 1 105 rfl rfl
theorem dX10_book_60 : decode cX10_book 60 = .ok (.goto 20, 3) := dw_167 wX10_book_c 0 20 rfl rfl rfl
theorem dX10_book_63 : decode cX10_book 63 = .ok (.iload 4, 2) := dw_21 wX10_book_c 4 rfl
theorem dX10_book_65 : decode cX10_book 65 = .ok (.iconst 2, 1) := dw_5 wX10_book_c rfl
theorem dX10_book_66 : decode cX10_book 66 = .ok (.if_icmp .ne 11, 3) := dw_160 wX10_book_c 0 11 rfl rfl rfl
theorem dX10_book_69 : decode cX10_book 69 = .ok (.aload_n 0, 1) := dw_42 wX10_book_c rfl
theorem dX10_book_70 : decode cX10_book 70 = .ok (.iload_n 1, 1) := dw_27 wX10_book_c rfl
theorem dX10_book_71 : decode cX10_book 71 = .ok (.invokevirtual 364, 3) := dw_182 wX10_book_c 1 108 rfl rfl
theorem dX10_book_74 : decode cX10_book 74 = .ok (.goto 6, 3) := dw_167 wX10_book_c 0 6 rfl rfl rfl
theorem dX10_book_77 : decode cX10_book 77 = .ok (.ldc_w 357, 3) := dw_19 wX10_book_c 1 101 rfl rfl
theorem dX10_book_80 : decode cX10_book 80 = .ok (.ireturn, 1) := dw_172 wX10_book_c rfl