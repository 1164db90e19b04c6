theorem dX2_layOutCode_177 : decode cX2_layOutCode 177 = .ok (.iload_n 2, 1) := by decide +kernel
theorem dX2_layOutCode_178 : decode cX2_layOutCode 178 = .ok (.iaload, 1) := by decide +kernel
theorem dX2_layOutCode_179 : decode cX2_layOutCode 179 = .ok (.iconst 1, 1) := by decide +kernel
theorem dX2_layOutCode_180 : decode cX2_layOutCode 180 = .ok (.iadd, 1) := by decide +kernel
theorem dX2_layOutCode_181 : decode cX2_layOutCode 181 = .ok (.imul, 1) := by decide +kernel
theorem dX2_layOutCode_182 : decode cX2_layOutCode 182 = .ok (.putfield 119, 3) := by decide +kernel
theorem dX2_layOutCode_185 : decode cX2_layOutCode 185 = .ok (.iinc 2 1, 3) := by decide +kernel
theorem dX2_layOutCode_188 : decode cX2_layOutCode 188 = .ok (.goto (-47), 3) := by decide +kernel
theorem dX2_layOutCode_191 : decode cX2_layOutCode 191 = .ok (.return_, 1) := by decide +kernel
theorem dX2_codeBehind_0 : decode cX2_codeBehind 0 = .ok (.aload_n 1, 1) := by decide +kernel
theorem dX2_codeBehind_1 : decode cX2_codeBehind 1 = .ok (.getfield 66, 3) := by decide +kernel
theorem dX2_codeBehind_4 : decode cX2_codeBehind 4 = .ok (.iload_n 2, 1) := by decide +kernel
theorem dX2_codeBehind_5 : decode cX2_codeBehind 5 = .ok (.iaload, 1) := by decide +kernel
theorem dX2_codeBehind_6 : decode cX2_codeBehind 6 = .ok (.istore 4, 2) := by decide +kernel
theorem dX2_codeBehind_8 : decode cX2_codeBehind 8 = .ok (.iload 4, 2) := by decide +kernel
theorem dX2_codeBehind_10 : decode cX2_codeBehind 10 = .ok (.ifCond .eq 14, 3) := by decide +kernel
theorem dX2_codeBehind_13 : decode cX2_codeBehind 13 = .ok (.iload_n 3, 1) := by decide +kernel
theorem dX2_codeBehind_14 : decode cX2_codeBehind 14 = .ok (.aload_n 0, 1) := by decide +kernel
theorem dX2_codeBehind_15 : decode cX2_codeBehind 15 = .ok (.getfield 24, 3) := by decide +kernel
theorem dX2_codeBehind_18 : decode cX2_codeBehind 18 = .ok (.iload_n 2, 1) := by decide +kernel
theorem dX2_codeBehind_19 : decode cX2_codeBehind 19 = .ok (.iaload, 1) := by decide +kernel
theorem dX2_codeBehind_20 : decode cX2_codeBehind 20 = .ok (.iand, 1) := by decide +kernel
theorem dX2_codeBehind_21 : decode cX2_codeBehind 21 = .ok (.ifCond .eq 5, 3) := by decide +kernel
theorem dX2_codeBehind_24 : decode cX2_codeBehind 24 = .ok (.iconst (-1), 1) := by decide +kernel
theorem dX2_codeBehind_25 : decode cX2_codeBehind 25 = .ok (.ireturn, 1) := by decide +kernel
theorem dX2_codeBehind_26 : decode cX2_codeBehind 26 = .ok (.iload 4, 2) := by decide +kernel
theorem dX2_codeBehind_28 : decode cX2_codeBehind 28 = .ok (.ifCond .le 32, 3) := by decide +kernel
theorem dX2_codeBehind_31 : decode cX2_codeBehind 31 = .ok (.aload_n 0, 1) := by decide +kernel
theorem dX2_codeBehind_32 : decode cX2_codeBehind 32 = .ok (.getfield 18, 3) := by decide +kernel
theorem dX2_codeBehind_35 : decode cX2_codeBehind 35 = .ok (.iload_n 2, 1) := by decide +kernel
theorem dX2_codeBehind_36 : decode cX2_codeBehind 36 = .ok (.iaload, 1) := by decide +kernel
theorem dX2_codeBehind_37 : decode cX2_codeBehind 37 = .ok (.ifCond .le 23, 3) := by decide +kernel
theorem dX2_codeBehind_40 : decode cX2_codeBehind 40 = .ok (.iload_n 3, 1) := by decide +kernel
theorem dX2_codeBehind_41 : decode cX2_codeBehind 41 = .ok (.aload_n 0, 1) := by decide +kernel
theorem dX2_codeBehind_42 : decode cX2_codeBehind 42 = .ok (.getfield 18, 3) := by decide +kernel
theorem dX2_codeBehind_45 : decode cX2_codeBehind 45 = .ok (.iload_n 2, 1) := by decide +kernel
theorem dX2_codeBehind_46 : decode cX2_codeBehind 46 = .ok (.iaload, 1) := by decide +kernel
theorem dX2_codeBehind_47 : decode cX2_codeBehind 47 = .ok (.idiv, 1) := by decide +kernel
theorem dX2_codeBehind_48 : decode cX2_codeBehind 48 = .ok (.iload 4, 2) := by decide +kernel
theorem dX2_codeBehind_50 : decode cX2_codeBehind 50 = .ok (.iconst 1, 1) := by decide +kernel
theorem dX2_codeBehind_51 : decode cX2_codeBehind 51 = .ok (.iadd, 1) := by decide +kernel
theorem dX2_codeBehind_52 : decode cX2_codeBehind 52 = .ok (.irem, 1) := by decide +kernel
theorem dX2_codeBehind_53 : decode cX2_codeBehind 53 = .ok (.iload 4, 2) := by decide +kernel
theorem dX2_codeBehind_55 : decode cX2_codeBehind 55 = .ok (.if_icmp .lt 5, 3) := by decide +kernel
theorem dX2_codeBehind_58 : decode cX2_codeBehind 58 = .ok (.iconst (-1), 1) := by decide +kernel
theorem dX2_codeBehind_59 : decode cX2_codeBehind 59 = .ok (.ireturn, 1) := by decide +kernel
theorem dX2_codeBehind_60 : decode cX2_codeBehind 60 = .ok (.iload_n 3, 1) := by decide +kernel
theorem dX2_codeBehind_61 : decode cX2_codeBehind 61 = .ok (.aload_n 0, 1) := by decide +kernel
theorem dX2_codeBehind_62 : decode cX2_codeBehind 62 = .ok (.getfield 21, 3) := by decide +kernel
theorem dX2_codeBehind_65 : decode cX2_codeBehind 65 = .ok (.iload_n 2, 1) := by decide +kernel
theorem dX2_codeBehind_66 : decode cX2_codeBehind 66 = .ok (.iaload, 1) := by decide +kernel
theorem dX2_codeBehind_67 : decode cX2_codeBehind 67 = .ok (.ior, 1) := by decide +kernel
theorem dX2_codeBehind_68 : decode cX2_codeBehind 68 = .ok (.aload_n 0, 1) := by decide +kernel
theorem dX2_codeBehind_69 : decode cX2_codeBehind 69 = .ok (.getfield 18, 3) := by decide +kernel
theorem dX2_codeBehind_72 : decode cX2_codeBehind 72 = .ok (.iload_n 2, 1) := by decide +kernel
theorem dX2_codeBehind_73 : decode cX2_codeBehind 73 = .ok (.iaload, 1) := by decide +kernel
theorem dX2_codeBehind_74 : decode cX2_codeBehind 74 = .ok (.iadd, 1) := by decide +kernel
theorem dX2_codeBehind_75 : decode cX2_codeBehind 75 = .ok (.ireturn, 1) := by decide +kernel
set_option maxRecDepth 20000 in
theorem ggX2_stateBehind_X2_codeBehind : GoodIn wsX2_stateBehind wsX2_codeBehind := goodIn_r _ [7, 8, 9, 10, 11, 12, 13, 14, 15, 16, 17, 18, 19, 20, 21, 22, 23, 24, 25, 26, 27, 28, 29, 30, 31, 32, 33, 34, 35, 36] (by decide +kernel) (by decide +kernel)
set_option maxRecDepth 20000 in
theorem gX2_stateBehind_X2_codeBehind : GoodIn wsX2_stateBehind (wsV RX2 122 RX2 yX2_codeBehind wsX2_codeBehind) := goodIn_app (goodIn_of _ (by decide +kernel)) ggX2_stateBehind_X2_codeBehind
theorem dX2_stateBehind_0 : decode cX2_stateBehind 0 = .ok (.aload_n 0, 1) := by decide +kernel
theorem dX2_stateBehind_1 : decode cX2_stateBehind 1 = .ok (.aload_n 1, 1) := by decide +kernel
theorem dX2_stateBehind_2 : decode cX2_stateBehind 2 = .ok (.iload_n 2, 1) := by decide +kernel
theorem dX2_stateBehind_3 : decode cX2_stateBehind 3 = .ok (.iload_n 3, 1) := by decide +kernel
theorem dX2_stateBehind_4 : decode cX2_stateBehind 4 = .ok (.invokevirtual 122, 3) := by decide +kernel
theorem dX2_stateBehind_7 : decode cX2_stateBehind 7 = .ok (.istore 4, 2) := by decide +kernel
theorem dX2_stateBehind_9 : decode cX2_stateBehind 9 = .ok (.iload 4, 2) := by decide +kernel
theorem dX2_stateBehind_11 : decode cX2_stateBehind 11 = .ok (.iconst (-1), 1) := by decide +kernel
theorem dX2_stateBehind_12 : decode cX2_stateBehind 12 = .ok (.if_icmp .ne 7, 3) := by decide +kernel
theorem dX2_stateBehind_15 : decode cX2_stateBehind 15 = .ok (.iconst (-1), 1) := by decide +kernel
theorem dX2_stateBehind_16 : decode cX2_stateBehind 16 = .ok (.goto 17, 3) := by decide +kernel
theorem dX2_stateBehind_19 : decode cX2_stateBehind 19 = .ok (.iload 4, 2) := by decide +kernel
theorem dX2_stateBehind_21 : decode cX2_stateBehind 21 = .ok (.aload_n 1, 1) := by decide +kernel
theorem dX2_stateBehind_22 : decode cX2_stateBehind 22 = .ok (.getfield 39, 3) := by decide +kernel
theorem dX2_stateBehind_25 : decode cX2_stateBehind 25 = .ok (.imul, 1) := by decide +kernel
theorem dX2_stateBehind_26 : decode cX2_stateBehind 26 = .ok (.aload_n 1, 1) := by decide +kernel
theorem dX2_stateBehind_27 : decode cX2_stateBehind 27 = .ok (.getfield 104, 3) := by decide +kernel
theorem dX2_stateBehind_30 : decode cX2_stateBehind 30 = .ok (.iload_n 2, 1) := by decide +kernel
theorem dX2_stateBehind_31 : decode cX2_stateBehind 31 = .ok (.iaload, 1) := by decide +kernel
theorem dX2_stateBehind_32 : decode cX2_stateBehind 32 = .ok (.iadd, 1) := by decide +kernel
theorem dX2_stateBehind_33 : decode cX2_stateBehind 33 = .ok (.ireturn, 1) := by decide +kernel
set_option maxRecDepth 20000 in
theorem ggX2_valueStates_X2_valueState : GoodIn wsX2_valueStates wsX2_valueState := goodIn_r _ [8, 9, 10, 11, 12, 13, 14, 15, 16, 17, 18, 19, 20, 21, 22, 23, 24, 7, 25, 26, 27, 28, 29, 30, 31, 32, 33, 34, 35, 36, 37, 38, 39, 40, 41, 52, 53, 54, 55, 56, 57, 58, 59, 60, 61, 62, 63, 64, 65, 66, 42, 43, 44, 45, 46, 47, 48, 49, 50, 51, 67, 68, 69, 70, 71, 72, 73, 74, 75, 76, 77, 78, 79] (by decide +kernel) (by decide +kernel)
set_option maxRecDepth 20000 in
theorem gX2_valueStates_X2_valueState : GoodIn wsX2_valueStates (wsV RX2 126 RX2 yX2_valueState wsX2_valueState) := goodIn_app (goodIn_of _ (by decide +kernel)) ggX2_valueStates_X2_valueState
theorem dX2_valueStates_0 : decode cX2_valueStates 0 = .ok (.aload_n 0, 1) := by decide +kernel
theorem dX2_valueStates_1 : decode cX2_valueStates 1 = .ok (.getfield 119, 3) := by decide +kernel
theorem dX2_valueStates_4 : decode cX2_valueStates 4 = .ok (.iconst 1, 1) := by decide +kernel
theorem dX2_valueStates_5 : decode cX2_valueStates 5 = .ok (.isub, 1) := by decide +kernel
theorem dX2_valueStates_6 : decode cX2_valueStates 6 = .ok (.istore_n 3, 1) := by decide +kernel
theorem dX2_valueStates_7 : decode cX2_valueStates 7 = .ok (.iload_n 3, 1) := by decide +kernel
theorem dX2_valueStates_8 : decode cX2_valueStates 8 = .ok (.ifCond .lt 42, 3) := by decide +kernel
theorem dX2_valueStates_11 : decode cX2_valueStates 11 = .ok (.aload_n 0, 1) := by decide +kernel
theorem dX2_valueStates_12 : decode cX2_valueStates 12 = .ok (.getfield 85, 3) := by decide +kernel
theorem dX2_valueStates_15 : decode cX2_valueStates 15 = .ok (.iconst 1, 1) := by decide +kernel
theorem dX2_valueStates_16 : decode cX2_valueStates 16 = .ok (.isub, 1) := by decide +kernel
theorem dX2_valueStates_17 : decode cX2_valueStates 17 = .ok (.istore 4, 2) := by decide +kernel
theorem dX2_valueStates_19 : decode cX2_valueStates 19 = .ok (.iload 4, 2) := by decide +kernel
theorem dX2_valueStates_21 : decode cX2_valueStates 21 = .ok (.ifCond .lt 23, 3) := by decide +kernel
theorem dX2_valueStates_24 : decode cX2_valueStates 24 = .ok (.aload_n 0, 1) := by decide +kernel
theorem dX2_valueStates_25 : decode cX2_valueStates 25 = .ok (.aload_n 1, 1) := by decide +kernel
theorem dX2_valueStates_26 : decode cX2_valueStates 26 = .ok (.aload_n 2, 1) := by decide +kernel
theorem dX2_valueStates_27 : decode cX2_valueStates 27 = .ok (.iload_n 3, 1) := by decide +kernel
theorem dX2_valueStates_28 : decode cX2_valueStates 28 = .ok (.aload_n 0, 1) := by decide +kernel
theorem dX2_valueStates_29 : decode cX2_valueStates 29 = .ok (.getfield 9, 3) := by decide +kernel
theorem dX2_valueStates_32 : decode cX2_valueStates 32 = .ok (.iload 4, 2) := by decide +kernel
theorem dX2_valueStates_34 : decode cX2_valueStates 34 = .ok (.iaload, 1) := by decide +kernel
theorem dX2_valueStates_35 : decode cX2_valueStates 35 = .ok (.invokevirtual 126, 3) := by decide +kernel
theorem dX2_valueStates_38 : decode cX2_valueStates 38 = .ok (.iinc 4 (-1), 3) := by decide +kernel
theorem dX2_valueStates_41 : decode cX2_valueStates 41 = .ok (.goto (-22), 3) := by decide +kernel
theorem dX2_valueStates_44 : decode cX2_valueStates 44 = .ok (.iinc 3 (-1), 3) := by decide +kernel
theorem dX2_valueStates_47 : decode cX2_valueStates 47 = .ok (.goto (-40), 3) := by decide +kernel
theorem dX2_valueStates_50 : decode cX2_valueStates 50 = .ok (.return_, 1) := by decide +kernel
set_option maxRecDepth 20000 in
theorem ggX2_valueState_X2_stateBehind : GoodIn wsX2_valueState wsX2_stateBehind := goodIn_r _ [18, 13, 19, 20, 21, 22, 17, 23, 24, 25, 26, 27, 35, 36, 37, 38, 39, 40, 41, 42, 43, 44, 45, 46, 47, 48, 49, 50, 51, 52, 53, 54, 55, 56, 57, 58, 59] (by decide +kernel) (by decide +kernel)
set_option maxRecDepth 20000 in
theorem gX2_valueState_X2_stateBehind : GoodIn wsX2_valueState (wsV RX2 130 RX2 yX2_stateBehind wsX2_stateBehind) := goodIn_app (goodIn_of _ (by decide +kernel)) ggX2_valueState_X2_stateBehind
set_option maxRecDepth 20000 in
theorem ggX2_valueState_X0_timesBy : GoodIn wsX2_valueState wsX0_timesBy := goodIn_r _ [32, 33, 34, 60, 61, 62, 63, 64, 65, 66, 67, 68, 69, 70, 71, 72] (by decide +kernel) (by decide +kernel)
set_option maxRecDepth 20000 in
theorem gX2_valueState_X0_timesBy : GoodIn wsX2_valueState (wsV RX2 142 RX0 yX0_timesBy wsX0_timesBy) := goodIn_app (goodIn_of _ (by decide +kernel)) ggX2_valueState_X0_timesBy
theorem dX2_valueState_0 : decode cX2_valueState 0 = .ok (.aload_n 1, 1) := by decide +kernel
theorem dX2_valueState_1 : decode cX2_valueState 1 = .ok (.getfield 98, 3) := by decide +kernel
theorem dX2_valueState_4 : decode cX2_valueState 4 = .ok (.iload 4, 2) := by decide +kernel
theorem dX2_valueState_6 : decode cX2_valueState 6 = .ok (.iaload, 1) := by decide +kernel
theorem dX2_valueState_7 : decode cX2_valueState 7 = .ok (.aload_n 1, 1) := by decide +kernel
theorem dX2_valueState_8 : decode cX2_valueState 8 = .ok (.getfield 98, 3) := by decide +kernel
theorem dX2_valueState_11 : decode cX2_valueState 11 = .ok (.iload 4, 2) := by decide +kernel
theorem dX2_valueState_13 : decode cX2_valueState 13 = .ok (.iconst 1, 1) := by decide +kernel
theorem dX2_valueState_14 : decode cX2_valueState 14 = .ok (.iadd, 1) := by decide +kernel
theorem dX2_valueState_15 : decode cX2_valueState 15 = .ok (.iaload, 1) := by decide +kernel
theorem dX2_valueState_16 : decode cX2_valueState 16 = .ok (.if_icmp .ne 7, 3) := by decide +kernel
theorem dX2_valueState_19 : decode cX2_valueState 19 = .ok (.iconst 1, 1) := by decide +kernel
theorem dX2_valueState_20 : decode cX2_valueState 20 = .ok (.goto 4, 3) := by decide +kernel
theorem dX2_valueState_23 : decode cX2_valueState 23 = .ok (.iconst 0, 1) := by decide +kernel
theorem dX2_valueState_24 : decode cX2_valueState 24 = .ok (.istore 5, 2) := by decide +kernel
theorem dX2_valueState_26 : decode cX2_valueState 26 = .ok (.iload 5, 2) := by decide +kernel
theorem dX2_valueState_28 : decode cX2_valueState 28 = .ok (.ifCond .eq 7, 3) := by decide +kernel
theorem dX2_valueState_31 : decode cX2_valueState 31 = .ok (.lconst 0, 1) := by decide +kernel
theorem dX2_valueState_32 : decode cX2_valueState 32 = .ok (.goto 6, 3) := by decide +kernel
theorem dX2_valueState_35 : decode cX2_valueState 35 = .ok (.ldc2_w 61, 3) := by decide +kernel
theorem dX2_valueState_38 : decode cX2_valueState 38 = .ok (.lstore 6, 2) := by decide +kernel
theorem dX2_valueState_40 : decode cX2_valueState 40 = .ok (.iload 5, 2) := by decide +kernel
theorem dX2_valueState_42 : decode cX2_valueState 42 = .ok (.ifCond .eq 7, 3) := by decide +kernel
theorem dX2_valueState_45 : decode cX2_valueState 45 = .ok (.lconst 0, 1) := by decide +kernel
theorem dX2_valueState_46 : decode cX2_valueState 46 = .ok (.goto 6, 3) := by decide +kernel
theorem dX2_valueState_49 : decode cX2_valueState 49 = .ok (.ldc2_w 61, 3) := by decide +kernel
theorem dX2_valueState_52 : decode cX2_valueState 52 = .ok (.lstore 8, 2) := by decide +kernel
theorem dX2_valueState_54 : decode cX2_valueState 54 = .ok (.aload_n 1, 1) := by decide +kernel
theorem dX2_valueState_55 : decode cX2_valueState 55 = .ok (.getfield 98, 3) := by decide +kernel
theorem dX2_valueState_58 : decode cX2_valueState 58 = .ok (.iload 4, 2) := by decide +kernel
theorem dX2_valueState_60 : decode cX2_valueState 60 = .ok (.iaload, 1) := by decide +kernel
theorem dX2_valueState_61 : decode cX2_valueState 61 = .ok (.istore 10, 2) := by decide +kernel
theorem dX2_valueState_63 : decode cX2_valueState 63 = .ok (.iload 10, 2) := by decide +kernel
theorem dX2_valueState_65 : decode cX2_valueState 65 = .ok (.aload_n 1, 1) := by decide +kernel
theorem dX2_valueState_66 : decode cX2_valueState 66 = .ok (.getfield 98, 3) := by decide +kernel
theorem dX2_valueState_69 : decode cX2_valueState 69 = .ok (.iload 4, 2) := by decide +kernel
theorem dX2_valueState_71 : decode cX2_valueState 71 = .ok (.iconst 1, 1) := by decide +kernel
theorem dX2_valueState_72 : decode cX2_valueState 72 = .ok (.iadd, 1) := by decide +kernel
theorem dX2_valueState_73 : decode cX2_valueState 73 = .ok (.iaload, 1) := by decide +kernel
theorem dX2_valueState_74 : decode cX2_valueState 74 = .ok (.if_icmp .ge 91, 3) := by decide +kernel
theorem dX2_valueState_77 : decode cX2_valueState 77 = .ok (.aload_n 0, 1) := by decide +kernel
theorem dX2_valueState_78 : decode cX2_valueState 78 = .ok (.aload_n 1, 1) := by decide +kernel
theorem dX2_valueState_79 : decode cX2_valueState 79 = .ok (.aload_n 1, 1) := by decide +kernel
theorem dX2_valueState_80 : decode cX2_valueState 80 = .ok (.getfield 101, 3) := by decide +kernel
theorem dX2_valueState_83 : decode cX2_valueState 83 = .ok (.iload 10, 2) := by decide +kernel
theorem dX2_valueState_85 : decode cX2_valueState 85 = .ok (.iaload, 1) := by decide +kernel
theorem dX2_valueState_86 : decode cX2_valueState 86 = .ok (.iload_n 3, 1) := by decide +kernel
theorem dX2_valueState_87 : decode cX2_valueState 87 = .ok (.invokevirtual 130, 3) := by decide +kernel
theorem dX2_valueState_90 : decode cX2_valueState 90 = .ok (.istore 11, 2) := by decide +kernel
theorem dX2_valueState_92 : decode cX2_valueState 92 = .ok (.iload 11, 2) := by decide +kernel
theorem dX2_valueState_94 : decode cX2_valueState 94 = .ok (.iconst (-1), 1) := by decide +kernel
theorem dX2_valueState_95 : decode cX2_valueState 95 = .ok (.if_icmp .eq 64, 3) := by decide +kernel
theorem dX2_valueState_98 : decode cX2_valueState 98 = .ok (.aload_n 0, 1) := by decide +kernel
theorem dX2_valueState_99 : decode cX2_valueState 99 = .ok (.getfield 28, 3) := by decide +kernel
theorem dX2_valueState_102 : decode cX2_valueState 102 = .ok (.iload 11, 2) := by decide +kernel
theorem dX2_valueState_104 : decode cX2_valueState 104 = .ok (.laload, 1) := by decide +kernel
theorem dX2_valueState_105 : decode cX2_valueState 105 = .ok (.ldc2_w 61, 3) := by decide +kernel
theorem dX2_valueState_108 : decode cX2_valueState 108 = .ok (.lcmp, 1) := by decide +kernel
theorem dX2_valueState_109 : decode cX2_valueState 109 = .ok (.ifCond .eq 50, 3) := by decide +kernel
theorem dX2_valueState_112 : decode cX2_valueState 112 = .ok (.lload 6, 2) := by decide +kernel
theorem dX2_valueState_114 : decode cX2_valueState 114 = .ok (.aload_n 0, 1) := by decide +kernel
theorem dX2_valueState_115 : decode cX2_valueState 115 = .ok (.getfield 28, 3) := by decide +kernel
theorem dX2_valueState_118 : decode cX2_valueState 118 = .ok (.iload 11, 2) := by decide +kernel
theorem dX2_valueState_120 : decode cX2_valueState 120 = .ok (.laload, 1) := by decide +kernel
theorem dX2_valueState_121 : decode cX2_valueState 121 = .ok (.invokestatic 133, 3) := by decide +kernel
theorem dX2_valueState_124 : decode cX2_valueState 124 = .ok (.lstore 6, 2) := by decide +kernel
theorem dX2_valueState_126 : decode cX2_valueState 126 = .ok (.lload 8, 2) := by decide +kernel
theorem dX2_valueState_128 : decode cX2_valueState 128 = .ok (.ldc2_w 61, 3) := by decide +kernel
theorem dX2_valueState_131 : decode cX2_valueState 131 = .ok (.lcmp, 1) := by decide +kernel
theorem dX2_valueState_132 : decode cX2_valueState 132 = .ok (.ifCond .ne 13, 3) := by decide +kernel
theorem dX2_valueState_135 : decode cX2_valueState 135 = .ok (.aload_n 0, 1) := by decide +kernel
theorem dX2_valueState_136 : decode cX2_valueState 136 = .ok (.getfield 32, 3) := by decide +kernel
theorem dX2_valueState_139 : decode cX2_valueState 139 = .ok (.iload 11, 2) := by decide +kernel
theorem dX2_valueState_141 : decode cX2_valueState 141 = .ok (.laload, 1) := by decide +kernel
theorem dX2_valueState_142 : decode cX2_valueState 142 = .ok (.goto 15, 3) := by decide +kernel
theorem dX2_valueState_145 : decode cX2_valueState 145 = .ok (.lload 8, 2) := by decide +kernel
theorem dX2_valueState_147 : decode cX2_valueState 147 = .ok (.aload_n 0, 1) := by decide +kernel
theorem dX2_valueState_148 : decode cX2_valueState 148 = .ok (.getfield 32, 3) := by decide +kernel
theorem dX2_valueState_151 : decode cX2_valueState 151 = .ok (.iload 11, 2) := by decide +kernel
theorem dX2_valueState_153 : decode cX2_valueState 153 = .ok (.laload, 1) := by decide +kernel
theorem dX2_valueState_154 : decode cX2_valueState 154 = .ok (.invokestatic 139, 3) := by decide +kernel
theorem dX2_valueState_157 : decode cX2_valueState 157 = .ok (.lstore 8, 2) := by decide +kernel
theorem dX2_valueState_159 : decode cX2_valueState 159 = .ok (.iinc 10 1, 3) := by decide +kernel
theorem dX2_valueState_162 : decode cX2_valueState 162 = .ok (.goto (-99), 3) := by decide +kernel
theorem dX2_valueState_165 : decode cX2_valueState 165 = .ok (.iload_n 3, 1) := by decide +kernel
theorem dX2_valueState_166 : decode cX2_valueState 166 = .ok (.aload_n 1, 1) := by decide +kernel
theorem dX2_valueState_167 : decode cX2_valueState 167 = .ok (.getfield 39, 3) := by decide +kernel
theorem dX2_valueState_170 : decode cX2_valueState 170 = .ok (.imul, 1) := by decide +kernel
theorem dX2_valueState_171 : decode cX2_valueState 171 = .ok (.iload 4, 2) := by decide +kernel
theorem dX2_valueState_173 : decode cX2_valueState 173 = .ok (.iadd, 1) := by decide +kernel
theorem dX2_valueState_174 : decode cX2_valueState 174 = .ok (.istore 10, 2) := by decide +kernel
theorem dX2_valueState_176 : decode cX2_valueState 176 = .ok (.aload_n 0, 1) := by decide +kernel
theorem dX2_valueState_177 : decode cX2_valueState 177 = .ok (.getfield 28, 3) := by decide +kernel
theorem dX2_valueState_180 : decode cX2_valueState 180 = .ok (.iload 10, 2) := by decide +kernel
theorem dX2_valueState_182 : decode cX2_valueState 182 = .ok (.lload 6, 2) := by decide +kernel
theorem dX2_valueState_184 : decode cX2_valueState 184 = .ok (.ldc2_w 61, 3) := by decide +kernel
theorem dX2_valueState_187 : decode cX2_valueState 187 = .ok (.lcmp, 1) := by decide +kernel
theorem dX2_valueState_188 : decode cX2_valueState 188 = .ok (.ifCond .ne 9, 3) := by decide +kernel
theorem dX2_valueState_191 : decode cX2_valueState 191 = .ok (.ldc2_w 61, 3) := by decide +kernel
theorem dX2_valueState_194 : decode cX2_valueState 194 = .ok (.goto 15, 3) := by decide +kernel
theorem dX2_valueState_197 : decode cX2_valueState 197 = .ok (.lload 6, 2) := by decide +kernel
theorem dX2_valueState_199 : decode cX2_valueState 199 = .ok (.aload_n 2, 1) := by decide +kernel
theorem dX2_valueState_200 : decode cX2_valueState 200 = .ok (.iconst 0, 1) := by decide +kernel
theorem dX2_valueState_201 : decode cX2_valueState 201 = .ok (.invokevirtual 142, 3) := by decide +kernel
theorem dX2_valueState_204 : decode cX2_valueState 204 = .ok (.iload 4, 2) := by decide +kernel
theorem dX2_valueState_206 : decode cX2_valueState 206 = .ok (.iaload, 1) := by decide +kernel
theorem dX2_valueState_207 : decode cX2_valueState 207 = .ok (.i2l, 1) := by decide +kernel
theorem dX2_valueState_208 : decode cX2_valueState 208 = .ok (.ladd, 1) := by decide +kernel
theorem dX2_valueState_209 : decode cX2_valueState 209 = .ok (.lastore, 1) := by decide +kernel
theorem dX2_valueState_210 : decode cX2_valueState 210 = .ok (.aload_n 0, 1) := by decide +kernel
theorem dX2_valueState_211 : decode cX2_valueState 211 = .ok (.getfield 32, 3) := by decide +kernel
theorem dX2_valueState_214 : decode cX2_valueState 214 = .ok (.iload 10, 2) := by decide +kernel
theorem dX2_valueState_216 : decode cX2_valueState 216 = .ok (.lload 8, 2) := by decide +kernel
theorem dX2_valueState_218 : decode cX2_valueState 218 = .ok (.ldc2_w 61, 3) := by decide +kernel
theorem dX2_valueState_221 : decode cX2_valueState 221 = .ok (.lcmp, 1) := by decide +kernel
theorem dX2_valueState_222 : decode cX2_valueState 222 = .ok (.ifCond .ne 9, 3) := by decide +kernel
theorem dX2_valueState_225 : decode cX2_valueState 225 = .ok (.ldc2_w 61, 3) := by decide +kernel
theorem dX2_valueState_228 : decode cX2_valueState 228 = .ok (.goto 15, 3) := by decide +kernel
theorem dX2_valueState_231 : decode cX2_valueState 231 = .ok (.lload 8, 2) := by decide +kernel
theorem dX2_valueState_233 : decode cX2_valueState 233 = .ok (.aload_n 2, 1) := by decide +kernel
theorem dX2_valueState_234 : decode cX2_valueState 234 = .ok (.iconst 1, 1) := by decide +kernel
theorem dX2_valueState_235 : decode cX2_valueState 235 = .ok (.invokevirtual 142, 3) := by decide +kernel
theorem dX2_valueState_238 : decode cX2_valueState 238 = .ok (.iload 4, 2) := by decide +kernel
theorem dX2_valueState_240 : decode cX2_valueState 240 = .ok (.iaload, 1) := by decide +kernel
theorem dX2_valueState_241 : decode cX2_valueState 241 = .ok (.i2l, 1) := by decide +kernel
theorem dX2_valueState_242 : decode cX2_valueState 242 = .ok (.ladd, 1) := by decide +kernel
theorem dX2_valueState_243 : decode cX2_valueState 243 = .ok (.lastore, 1) := by decide +kernel
theorem dX2_valueState_244 : decode cX2_valueState 244 = .ok (.return_, 1) := by decide +kernel
set_option maxRecDepth 20000 in
theorem ggX2_edgeOnWay_X2_lowestEdge : GoodIn wsX2_edgeOnWay wsX2_lowestEdge := goodIn_r _ [8, 9, 10, 2, 11, 12, 13, 14, 15, 16, 17, 18, 19, 20, 21, 22, 7, 23, 3, 24, 25, 26, 27, 28, 29, 30, 31, 32, 33, 34, 35, 36, 37, 38, 39, 40, 41, 42, 43, 44, 45, 46, 47, 48, 49, 50, 51, 52, 53, 54, 55, 56, 57, 58, 59, 60, 61, 62, 63, 64, 65, 66, 67, 68, 69] (by decide +kernel) (by decide +kernel)
set_option maxRecDepth 20000 in
theorem gX2_edgeOnWay_X2_lowestEdge : GoodIn wsX2_edgeOnWay (wsV RX2 146 RX2 yX2_lowestEdge wsX2_lowestEdge) := goodIn_app (goodIn_of _ (by decide +kernel)) ggX2_edgeOnWay_X2_lowestEdge
set_option maxRecDepth 20000 in
theorem ggX2_edgeOnWay_X2_codeBehind : GoodIn wsX2_edgeOnWay wsX2_codeBehind := goodIn_r _ [27, 28, 29, 30, 31, 42, 43, 44, 45, 46, 47, 48, 49, 50, 51, 52, 53, 54, 55, 56, 32, 33, 34, 35, 36, 37, 38, 39, 40, 41] (by decide +kernel) (by decide +kernel)
set_option maxRecDepth 20000 in
theorem gX2_edgeOnWay_X2_codeBehind : GoodIn wsX2_edgeOnWay (wsV RX2 122 RX2 yX2_codeBehind wsX2_codeBehind) := goodIn_app (goodIn_of _ (by decide +kernel)) ggX2_edgeOnWay_X2_codeBehind
theorem dX2_edgeOnWay_0 : decode cX2_edgeOnWay 0 = .ok (.iconst 0, 1) := by decide +kernel
theorem dX2_edgeOnWay_1 : decode cX2_edgeOnWay 1 = .ok (.istore 5, 2) := by decide +kernel
theorem dX2_edgeOnWay_3 : decode cX2_edgeOnWay 3 = .ok (.iconst 0, 1) := by decide +kernel
theorem dX2_edgeOnWay_4 : decode cX2_edgeOnWay 4 = .ok (.istore 6, 2) := by decide +kernel
theorem dX2_edgeOnWay_6 : decode cX2_edgeOnWay 6 = .ok (.aload_n 0, 1) := by decide +kernel
theorem dX2_edgeOnWay_7 : decode cX2_edgeOnWay 7 = .ok (.getfield 119, 3) := by decide +kernel
theorem dX2_edgeOnWay_10 : decode cX2_edgeOnWay 10 = .ok (.aload_n 1, 1) := by decide +kernel
theorem dX2_edgeOnWay_11 : decode cX2_edgeOnWay 11 = .ok (.getfield 39, 3) := by decide +kernel
theorem dX2_edgeOnWay_14 : decode cX2_edgeOnWay 14 = .ok (.imul, 1) := by decide +kernel
theorem dX2_edgeOnWay_15 : decode cX2_edgeOnWay 15 = .ok (.istore 7, 2) := by decide +kernel
theorem dX2_edgeOnWay_17 : decode cX2_edgeOnWay 17 = .ok (.iconst 0, 1) := by decide +kernel
theorem dX2_edgeOnWay_18 : decode cX2_edgeOnWay 18 = .ok (.istore 8, 2) := by decide +kernel
theorem dX2_edgeOnWay_20 : decode cX2_edgeOnWay 20 = .ok (.iload 8, 2) := by decide +kernel
theorem dX2_edgeOnWay_22 : decode cX2_edgeOnWay 22 = .ok (.iload 7, 2) := by decide +kernel
theorem dX2_edgeOnWay_24 : decode cX2_edgeOnWay 24 = .ok (.if_icmp .ge 58, 3) := by decide +kernel
theorem dX2_edgeOnWay_27 : decode cX2_edgeOnWay 27 = .ok (.aload_n 0, 1) := by decide +kernel
theorem dX2_edgeOnWay_28 : decode cX2_edgeOnWay 28 = .ok (.aload_n 1, 1) := by decide +kernel
theorem dX2_edgeOnWay_29 : decode cX2_edgeOnWay 29 = .ok (.aload_n 2, 1) := by decide +kernel
theorem dX2_edgeOnWay_30 : decode cX2_edgeOnWay 30 = .ok (.iload_n 3, 1) := by decide +kernel
theorem dX2_edgeOnWay_31 : decode cX2_edgeOnWay 31 = .ok (.iload 5, 2) := by decide +kernel
theorem dX2_edgeOnWay_33 : decode cX2_edgeOnWay 33 = .ok (.iload 6, 2) := by decide +kernel
theorem dX2_edgeOnWay_35 : decode cX2_edgeOnWay 35 = .ok (.invokevirtual 146, 3) := by decide +kernel
theorem dX2_edgeOnWay_38 : decode cX2_edgeOnWay 38 = .ok (.istore 9, 2) := by decide +kernel
theorem dX2_edgeOnWay_40 : decode cX2_edgeOnWay 40 = .ok (.iload 9, 2) := by decide +kernel
theorem dX2_edgeOnWay_42 : decode cX2_edgeOnWay 42 = .ok (.iconst (-1), 1) := by decide +kernel
theorem dX2_edgeOnWay_43 : decode cX2_edgeOnWay 43 = .ok (.if_icmp .eq 10, 3) := by decide +kernel
theorem dX2_edgeOnWay_46 : decode cX2_edgeOnWay 46 = .ok (.iload 8, 2) := by decide +kernel
theorem dX2_edgeOnWay_48 : decode cX2_edgeOnWay 48 = .ok (.iload 4, 2) := by decide +kernel
theorem dX2_edgeOnWay_50 : decode cX2_edgeOnWay 50 = .ok (.if_icmp .ne 6, 3) := by decide +kernel
theorem dX2_edgeOnWay_53 : decode cX2_edgeOnWay 53 = .ok (.iload 9, 2) := by decide +kernel
theorem dX2_edgeOnWay_55 : decode cX2_edgeOnWay 55 = .ok (.ireturn, 1) := by decide +kernel
theorem dX2_edgeOnWay_56 : decode cX2_edgeOnWay 56 = .ok (.aload_n 0, 1) := by decide +kernel
theorem dX2_edgeOnWay_57 : decode cX2_edgeOnWay 57 = .ok (.aload_n 1, 1) := by decide +kernel
theorem dX2_edgeOnWay_58 : decode cX2_edgeOnWay 58 = .ok (.iload 9, 2) := by decide +kernel
theorem dX2_edgeOnWay_60 : decode cX2_edgeOnWay 60 = .ok (.iload 5, 2) := by decide +kernel
theorem dX2_edgeOnWay_62 : decode cX2_edgeOnWay 62 = .ok (.invokevirtual 122, 3) := by decide +kernel
theorem dX2_edgeOnWay_65 : decode cX2_edgeOnWay 65 = .ok (.istore 5, 2) := by decide +kernel
theorem dX2_edgeOnWay_67 : decode cX2_edgeOnWay 67 = .ok (.aload_n 1, 1) := by decide +kernel
theorem dX2_edgeOnWay_68 : decode cX2_edgeOnWay 68 = .ok (.getfield 104, 3) := by decide +kernel
theorem dX2_edgeOnWay_71 : decode cX2_edgeOnWay 71 = .ok (.iload 9, 2) := by decide +kernel
theorem dX2_edgeOnWay_73 : decode cX2_edgeOnWay 73 = .ok (.iaload, 1) := by decide +kernel
theorem dX2_edgeOnWay_74 : decode cX2_edgeOnWay 74 = .ok (.istore 6, 2) := by decide +kernel
theorem dX2_edgeOnWay_76 : decode cX2_edgeOnWay 76 = .ok (.iinc 8 1, 3) := by decide +kernel
theorem dX2_edgeOnWay_79 : decode cX2_edgeOnWay 79 = .ok (.goto (-59), 3) := by decide +kernel
theorem dX2_edgeOnWay_82 : decode cX2_edgeOnWay 82 = .ok (.iconst (-1), 1) := by decide +kernel
theorem dX2_edgeOnWay_83 : decode cX2_edgeOnWay 83 = .ok (.ireturn, 1) := by decide +kernel
set_option maxRecDepth 20000 in
theorem ggX2_lowestEdge_X0_timesBy : GoodIn wsX2_lowestEdge wsX0_timesBy := goodIn_r _ [10, 11, 12, 52, 53, 54, 55, 56, 57, 58, 59, 60, 61, 62, 63, 64] (by decide +kernel) (by decide +kernel)
set_option maxRecDepth 20000 in
theorem gX2_lowestEdge_X0_timesBy : GoodIn wsX2_lowestEdge (wsV RX2 142 RX0 yX0_timesBy wsX0_timesBy) := goodIn_app (goodIn_of _ (by decide +kernel)) ggX2_lowestEdge_X0_timesBy
set_option maxRecDepth 20000 in
theorem ggX2_lowestEdge_X2_stateBehind : GoodIn wsX2_lowestEdge wsX2_stateBehind := goodIn_r _ [17, 3, 18, 19, 20, 21, 16, 22, 23, 24, 25, 26, 37, 38, 39, 40, 41, 42, 43, 44, 45, 46, 47, 48, 49, 50, 51, 27, 28, 29, 30, 31, 32, 33, 34, 35, 36] (by decide +kernel) (by decide +kernel)
set_option maxRecDepth 20000 in
theorem gX2_lowestEdge_X2_stateBehind : GoodIn wsX2_lowestEdge (wsV RX2 130 RX2 yX2_stateBehind wsX2_stateBehind) := goodIn_app (goodIn_of _ (by decide +kernel)) ggX2_lowestEdge_X2_stateBehind
theorem dX2_lowestEdge_0 : decode cX2_lowestEdge 0 = .ok (.iload_n 3, 1) := by decide +kernel
theorem dX2_lowestEdge_1 : decode cX2_lowestEdge 1 = .ok (.ifCond .ne 10, 3) := by decide +kernel
theorem dX2_lowestEdge_4 : decode cX2_lowestEdge 4 = .ok (.aload_n 0, 1) := by decide +kernel
theorem dX2_lowestEdge_5 : decode cX2_lowestEdge 5 = .ok (.getfield 28, 3) := by decide +kernel
theorem dX2_lowestEdge_8 : decode cX2_lowestEdge 8 = .ok (.goto 7, 3) := by decide +kernel
theorem dX2_lowestEdge_11 : decode cX2_lowestEdge 11 = .ok (.aload_n 0, 1) := by decide +kernel
theorem dX2_lowestEdge_12 : decode cX2_lowestEdge 12 = .ok (.getfield 32, 3) := by decide +kernel
theorem dX2_lowestEdge_15 : decode cX2_lowestEdge 15 = .ok (.astore 6, 2) := by decide +kernel
theorem dX2_lowestEdge_17 : decode cX2_lowestEdge 17 = .ok (.aload 6, 2) := by decide +kernel
theorem dX2_lowestEdge_19 : decode cX2_lowestEdge 19 = .ok (.iload 4, 2) := by decide +kernel
theorem dX2_lowestEdge_21 : decode cX2_lowestEdge 21 = .ok (.aload_n 1, 1) := by decide +kernel
theorem dX2_lowestEdge_22 : decode cX2_lowestEdge 22 = .ok (.getfield 39, 3) := by decide +kernel
theorem dX2_lowestEdge_25 : decode cX2_lowestEdge 25 = .ok (.imul, 1) := by decide +kernel
theorem dX2_lowestEdge_26 : decode cX2_lowestEdge 26 = .ok (.iload 5, 2) := by decide +kernel
theorem dX2_lowestEdge_28 : decode cX2_lowestEdge 28 = .ok (.iadd, 1) := by decide +kernel
theorem dX2_lowestEdge_29 : decode cX2_lowestEdge 29 = .ok (.laload, 1) := by decide +kernel
theorem dX2_lowestEdge_30 : decode cX2_lowestEdge 30 = .ok (.aload_n 2, 1) := by decide +kernel
theorem dX2_lowestEdge_31 : decode cX2_lowestEdge 31 = .ok (.iload_n 3, 1) := by decide +kernel
theorem dX2_lowestEdge_32 : decode cX2_lowestEdge 32 = .ok (.invokevirtual 142, 3) := by decide +kernel
theorem dX2_lowestEdge_35 : decode cX2_lowestEdge 35 = .ok (.iload 5, 2) := by decide +kernel
theorem dX2_lowestEdge_37 : decode cX2_lowestEdge 37 = .ok (.iaload, 1) := by decide +kernel
theorem dX2_lowestEdge_38 : decode cX2_lowestEdge 38 = .ok (.i2l, 1) := by decide +kernel
theorem dX2_lowestEdge_39 : decode cX2_lowestEdge 39 = .ok (.lsub, 1) := by decide +kernel
theorem dX2_lowestEdge_40 : decode cX2_lowestEdge 40 = .ok (.lstore 7, 2) := by decide +kernel
theorem dX2_lowestEdge_42 : decode cX2_lowestEdge 42 = .ok (.aload_n 1, 1) := by decide +kernel
theorem dX2_lowestEdge_43 : decode cX2_lowestEdge 43 = .ok (.getfield 98, 3) := by decide +kernel
theorem dX2_lowestEdge_46 : decode cX2_lowestEdge 46 = .ok (.iload 5, 2) := by decide +kernel
theorem dX2_lowestEdge_48 : decode cX2_lowestEdge 48 = .ok (.iaload, 1) := by decide +kernel
theorem dX2_lowestEdge_49 : decode cX2_lowestEdge 49 = .ok (.istore 9, 2) := by decide +kernel
theorem dX2_lowestEdge_51 : decode cX2_lowestEdge 51 = .ok (.iload 9, 2) := by decide +kernel
theorem dX2_lowestEdge_53 : decode cX2_lowestEdge 53 = .ok (.aload_n 1, 1) := by decide +kernel
theorem dX2_lowestEdge_54 : decode cX2_lowestEdge 54 = .ok (.getfield 98, 3) := by decide +kernel
theorem dX2_lowestEdge_57 : decode cX2_lowestEdge 57 = .ok (.iload 5, 2) := by decide +kernel
theorem dX2_lowestEdge_59 : decode cX2_lowestEdge 59 = .ok (.iconst 1, 1) := by decide +kernel
theorem dX2_lowestEdge_60 : decode cX2_lowestEdge 60 = .ok (.iadd, 1) := by decide +kernel
theorem dX2_lowestEdge_61 : decode cX2_lowestEdge 61 = .ok (.iaload, 1) := by decide +kernel
theorem dX2_lowestEdge_62 : decode cX2_lowestEdge 62 = .ok (.if_icmp .ge 50, 3) := by decide +kernel
theorem dX2_lowestEdge_65 : decode cX2_lowestEdge 65 = .ok (.aload_n 0, 1) := by decide +kernel
theorem dX2_lowestEdge_66 : decode cX2_lowestEdge 66 = .ok (.aload_n 1, 1) := by decide +kernel
theorem dX2_lowestEdge_67 : decode cX2_lowestEdge 67 = .ok (.aload_n 1, 1) := by decide +kernel
theorem dX2_lowestEdge_68 : decode cX2_lowestEdge 68 = .ok (.getfield 101, 3) := by decide +kernel
theorem dX2_lowestEdge_71 : decode cX2_lowestEdge 71 = .ok (.iload 9, 2) := by decide +kernel
theorem dX2_lowestEdge_73 : decode cX2_lowestEdge 73 = .ok (.iaload, 1) := by decide +kernel
theorem dX2_lowestEdge_74 : decode cX2_lowestEdge 74 = .ok (.iload 4, 2) := by decide +kernel
theorem dX2_lowestEdge_76 : decode cX2_lowestEdge 76 = .ok (.invokevirtual 130, 3) := by decide +kernel
theorem dX2_lowestEdge_79 : decode cX2_lowestEdge 79 = .ok (.istore 10, 2) := by decide +kernel
theorem dX2_lowestEdge_81 : decode cX2_lowestEdge 81 = .ok (.iload 10, 2) := by decide +kernel
theorem dX2_lowestEdge_83 : decode cX2_lowestEdge 83 = .ok (.iconst (-1), 1) := by decide +kernel
theorem dX2_lowestEdge_84 : decode cX2_lowestEdge 84 = .ok (.if_icmp .eq 22, 3) := by decide +kernel
theorem dX2_lowestEdge_87 : decode cX2_lowestEdge 87 = .ok (.aload 6, 2) := by decide +kernel
theorem dX2_lowestEdge_89 : decode cX2_lowestEdge 89 = .ok (.iload 10, 2) := by decide +kernel
theorem dX2_lowestEdge_91 : decode cX2_lowestEdge 91 = .ok (.laload, 1) := by decide +kernel
theorem dX2_lowestEdge_92 : decode cX2_lowestEdge 92 = .ok (.lload 7, 2) := by decide +kernel
theorem dX2_lowestEdge_94 : decode cX2_lowestEdge 94 = .ok (.lcmp, 1) := by decide +kernel
theorem dX2_lowestEdge_95 : decode cX2_lowestEdge 95 = .ok (.ifCond .ne 11, 3) := by decide +kernel
theorem dX2_lowestEdge_98 : decode cX2_lowestEdge 98 = .ok (.aload_n 1, 1) := by decide +kernel
theorem dX2_lowestEdge_99 : decode cX2_lowestEdge 99 = .ok (.getfield 101, 3) := by decide +kernel
theorem dX2_lowestEdge_102 : decode cX2_lowestEdge 102 = .ok (.iload 9, 2) := by decide +kernel
theorem dX2_lowestEdge_104 : decode cX2_lowestEdge 104 = .ok (.iaload, 1) := by decide +kernel
theorem dX2_lowestEdge_105 : decode cX2_lowestEdge 105 = .ok (.ireturn, 1) := by decide +kernel
theorem dX2_lowestEdge_106 : decode cX2_lowestEdge 106 = .ok (.iinc 9 1, 3) := by decide +kernel
theorem dX2_lowestEdge_109 : decode cX2_lowestEdge 109 = .ok (.goto (-58), 3) := by decide +kernel
theorem dX2_lowestEdge_112 : decode cX2_lowestEdge 112 = .ok (.iconst (-1), 1) := by decide +kernel
theorem dX2_lowestEdge_113 : decode cX2_lowestEdge 113 = .ok (.ireturn, 1) := by decide +kernel
set_option maxRecDepth 20000 in
theorem ggX3_init_X1_init : GoodIn wsX3_init wsX1_init := goodIn_r _ [19, 20, 2, 3, 21, 22, 23, 24, 25, 26, 27, 28, 29, 30, 31, 32, 66, 67, 68, 69, 70, 71, 72, 73, 74, 75, 76, 77, 78, 79, 80] (by decide +kernel) (by decide +kernel)
set_option maxRecDepth 20000 in
theorem gX3_init_X1_init_n9 : GoodIn wsX3_init (wsX1_init) := ggX3_init_X1_init
set_option maxRecDepth 20000 in
theorem ggX3_init_J9_floorMod_7cf53 : GoodIn wsX3_init wsJ9_floorMod_7cf53 := goodIn_r _ [36] (by decide +kernel) (by decide +kernel)
set_option maxRecDepth 20000 in
theorem gX3_init_J9_floorMod_7cf53 : GoodIn wsX3_init (va_wsS RX3 18 yJ9_floorMod_7cf53 wsJ9_floorMod_7cf53) := goodIn_app (goodIn_of _ (by decide +kernel)) ggX3_init_J9_floorMod_7cf53
set_option maxRecDepth 20000 in
theorem ggX3_init_X0_init : GoodIn wsX3_init wsX0_init := goodIn_r _ [39, 40, 2, 3, 41, 42, 21, 43, 44, 45, 46, 47, 48, 49, 50, 51, 52, 53, 86, 87, 88, 89, 90, 91, 92, 93, 94, 95, 96, 97, 98] (by decide +kernel) (by decide +kernel)
set_option maxRecDepth 20000 in
theorem gX3_init_X0_init : GoodIn wsX3_init (wsX0_init) := ggX3_init_X0_init
set_option maxRecDepth 20000 in
theorem ggX3_init_X2_init : GoodIn wsX3_init wsX2_init := goodIn_r _ [55, 56, 2, 3, 21, 57, 58, 59, 60, 61, 62, 63, 64, 65, 99, 100, 101, 102, 103, 104, 105, 106, 107, 108] (by decide +kernel) (by decide +kernel)
set_option maxRecDepth 20000 in
theorem gX3_init_X2_init_n33 : GoodIn wsX3_init (wsX2_init) := ggX3_init_X2_init
theorem dX3_init_0 : decode cX3_init 0 = .ok (.aload_n 0, 1) := by decide +kernel
theorem dX3_init_1 : decode cX3_init 1 = .ok (.invokespecial 1, 3) := by decide +kernel
theorem dX3_init_4 : decode cX3_init 4 = .ok (.aload_n 0, 1) := by decide +kernel
theorem dX3_init_5 : decode cX3_init 5 = .ok (.new 7, 3) := by decide +kernel
theorem dX3_init_8 : decode cX3_init 8 = .ok (.dup, 1) := by decide +kernel
theorem dX3_init_9 : decode cX3_init 9 = .ok (.invokespecial 9, 3) := by decide +kernel
theorem dX3_init_12 : decode cX3_init 12 = .ok (.putfield 10, 3) := by decide +kernel
theorem dX3_init_15 : decode cX3_init 15 = .ok (.aload_n 0, 1) := by decide +kernel
theorem dX3_init_16 : decode cX3_init 16 = .ok (.new 16, 3) := by decide +kernel
theorem dX3_init_19 : decode cX3_init 19 = .ok (.dup, 1) := by decide +kernel
theorem dX3_init_20 : decode cX3_init 20 = .ok (.iconst 1, 1) := by decide +kernel
theorem dX3_init_21 : decode cX3_init 21 = .ok (.iload_n 1, 1) := by decide +kernel
theorem dX3_init_22 : decode cX3_init 22 = .ok (.iconst 3, 1) := by decide +kernel
theorem dX3_init_23 : decode cX3_init 23 = .ok (.invokestatic 18, 3) := by decide +kernel
theorem dX3_init_26 : decode cX3_init 26 = .ok (.ishl, 1) := by decide +kernel
theorem dX3_init_27 : decode cX3_init 27 = .ok (.iconst 1, 1) := by decide +kernel
theorem dX3_init_28 : decode cX3_init 28 = .ok (.iload_n 2, 1) := by decide +kernel
theorem dX3_init_29 : decode cX3_init 29 = .ok (.iconst 1, 1) := by decide +kernel
theorem dX3_init_30 : decode cX3_init 30 = .ok (.isub, 1) := by decide +kernel
theorem dX3_init_31 : decode cX3_init 31 = .ok (.iconst 4, 1) := by decide +kernel
theorem dX3_init_32 : decode cX3_init 32 = .ok (.invokestatic 18, 3) := by decide +kernel
theorem dX3_init_35 : decode cX3_init 35 = .ok (.iadd, 1) := by decide +kernel
theorem dX3_init_36 : decode cX3_init 36 = .ok (.iload_n 3, 1) := by decide +kernel
theorem dX3_init_37 : decode cX3_init 37 = .ok (.sipush 1000, 3) := by decide +kernel
theorem dX3_init_40 : decode cX3_init 40 = .ok (.invokestatic 18, 3) := by decide +kernel
theorem dX3_init_43 : decode cX3_init 43 = .ok (.invokespecial 24, 3) := by decide +kernel
theorem dX3_init_46 : decode cX3_init 46 = .ok (.putfield 27, 3) := by decide +kernel
theorem dX3_init_49 : decode cX3_init 49 = .ok (.aload_n 0, 1) := by decide +kernel
theorem dX3_init_50 : decode cX3_init 50 = .ok (.new 31, 3) := by decide +kernel
theorem dX3_init_53 : decode cX3_init 53 = .ok (.dup, 1) := by decide +kernel
theorem dX3_init_54 : decode cX3_init 54 = .ok (.invokespecial 33, 3) := by decide +kernel
theorem dX3_init_57 : decode cX3_init 57 = .ok (.putfield 34, 3) := by decide +kernel
theorem dX3_init_60 : decode cX3_init 60 = .ok (.aload_n 0, 1) := by decide +kernel
theorem dX3_init_61 : decode cX3_init 61 = .ok (.iconst 0, 1) := by decide +kernel
theorem dX3_init_62 : decode cX3_init 62 = .ok (.putfield 38, 3) := by decide +kernel
theorem dX3_init_65 : decode cX3_init 65 = .ok (.aload_n 0, 1) := by decide +kernel
theorem dX3_init_66 : decode cX3_init 66 = .ok (.iconst 0, 1) := by decide +kernel
theorem dX3_init_67 : decode cX3_init 67 = .ok (.putfield 42, 3) := by decide +kernel
theorem dX3_init_70 : decode cX3_init 70 = .ok (.return_, 1) := by decide +kernel
set_option maxRecDepth 20000 in
theorem ggX3_block_X3_forgetAges : GoodIn wsX3_block wsX3_forgetAges := goodIn_r _ [12, 13, 14, 22, 23, 24, 25, 26] (by decide +kernel) (by decide +kernel)
set_option maxRecDepth 20000 in
theorem gX3_block_X3_forgetAges : GoodIn wsX3_block (wsV RX3 62 RX3 yX3_forgetAges wsX3_forgetAges) := goodIn_app (goodIn_of _ (by decide +kernel)) ggX3_block_X3_forgetAges
set_option maxRecDepth 20000 in
theorem ggX3_block_X1_addBlock : GoodIn wsX3_block wsX1_addBlock := goodIn_r _ [19, 20, 21, 27, 28, 29, 30, 31, 32, 33, 34, 35, 36, 37, 38, 39, 40, 41] (by decide +kernel) (by decide +kernel)
set_option maxRecDepth 20000 in
theorem gX3_block_X1_addBlock : GoodIn wsX3_block (wsV RX3 65 RX1 yX1_addBlock wsX1_addBlock) := goodIn_app (goodIn_of _ (by decide +kernel)) ggX3_block_X1_addBlock
theorem dX3_block_0 : decode cX3_block 0 = .ok (.iload_n 1, 1) := by decide +kernel
theorem dX3_block_1 : decode cX3_block 1 = .ok (.ifCond .lt 9, 3) := by decide +kernel
theorem dX3_block_4 : decode cX3_block 4 = .ok (.iload_n 1, 1) := by decide +kernel
theorem dX3_block_5 : decode cX3_block 5 = .ok (.ldc 45, 2) := by decide +kernel
theorem dX3_block_7 : decode cX3_block 7 = .ok (.if_icmp .le 13, 3) := by decide +kernel
theorem dX3_block_10 : decode cX3_block 10 = .ok (.new 46, 3) := by decide +kernel
theorem dX3_block_13 : decode cX3_block 13 = .ok (.dup, 1) := by decide +kernel
theorem dX3_block_14 : decode cX3_block 14 = .ok (.ldc 48, 2) := by decide +kernel
theorem dX3_block_16 : decode cX3_block 16 = .ok (.invokespecial 50, 3) := by decide +kernel
theorem dX3_block_19 : decode cX3_block 19 = .ok (.athrow, 1) := by decide +kernel
theorem dX3_block_20 : decode cX3_block 20 = .ok (.aload_n 0, 1) := by decide +kernel
theorem dX3_block_21 : decode cX3_block 21 = .ok (.getfield 10, 3) := by decide +kernel
theorem dX3_block_24 : decode cX3_block 24 = .ok (.getfield 53, 3) := by decide +kernel
theorem dX3_block_27 : decode cX3_block 27 = .ok (.bipush 40, 2) := by decide +kernel
theorem dX3_block_29 : decode cX3_block 29 = .ok (.if_icmp .lt 13, 3) := by decide +kernel
theorem dX3_block_32 : decode cX3_block 32 = .ok (.new 57, 3) := by decide +kernel
theorem dX3_block_35 : decode cX3_block 35 = .ok (.dup, 1) := by decide +kernel
theorem dX3_block_36 : decode cX3_block 36 = .ok (.ldc 59, 2) := by decide +kernel
theorem dX3_block_38 : decode cX3_block 38 = .ok (.invokespecial 61, 3) := by decide +kernel
theorem dX3_block_41 : decode cX3_block 41 = .ok (.athrow, 1) := by decide +kernel
theorem dX3_block_42 : decode cX3_block 42 = .ok (.aload_n 0, 1) := by decide +kernel
theorem dX3_block_43 : decode cX3_block 43 = .ok (.invokevirtual 62, 3) := by decide +kernel
theorem dX3_block_46 : decode cX3_block 46 = .ok (.aload_n 0, 1) := by decide +kernel
theorem dX3_block_47 : decode cX3_block 47 = .ok (.getfield 10, 3) := by decide +kernel
theorem dX3_block_50 : decode cX3_block 50 = .ok (.iload_n 1, 1) := by decide +kernel
theorem dX3_block_51 : decode cX3_block 51 = .ok (.invokevirtual 65, 3) := by decide +kernel
theorem dX3_block_54 : decode cX3_block 54 = .ok (.ireturn, 1) := by decide +kernel
set_option maxRecDepth 20000 in
theorem ggX3_touch_X1_hasBlock : GoodIn wsX3_touch wsX1_hasBlock := goodIn_r _ [11, 12, 41, 42, 43, 44, 45, 46, 47, 48, 49, 50, 51, 52, 53, 54, 55] (by decide +kernel) (by decide +kernel)
set_option maxRecDepth 20000 in
theorem gX3_touch_X1_hasBlock : GoodIn wsX3_touch (wsV RX3 69 RX1 yX1_hasBlock wsX1_hasBlock) := goodIn_app (goodIn_of _ (by decide +kernel)) ggX3_touch_X1_hasBlock
set_option maxRecDepth 20000 in
theorem ggX3_touch_X1_hasRoomFor : GoodIn wsX3_touch wsX1_hasRoomFor := goodIn_r _ [16, 17, 18, 19, 20, 10, 21, 22, 41, 42, 43, 44, 45, 46, 47, 48, 49, 50, 51, 52, 53, 54, 55] (by decide +kernel) (by decide +kernel)
set_option maxRecDepth 20000 in
theorem gX3_touch_X1_hasRoomFor : GoodIn wsX3_touch (wsV RX3 84 RX1 yX1_hasRoomFor wsX1_hasRoomFor) := goodIn_app (goodIn_of _ (by decide +kernel)) ggX3_touch_X1_hasRoomFor
set_option maxRecDepth 20000 in
theorem ggX3_touch_X3_forgetAges : GoodIn wsX3_touch wsX3_forgetAges := goodIn_r _ [27, 28, 29, 36, 37, 38, 39, 40] (by decide +kernel) (by decide +kernel)
set_option maxRecDepth 20000 in
theorem gX3_touch_X3_forgetAges : GoodIn wsX3_touch (wsV RX3 62 RX3 yX3_forgetAges wsX3_forgetAges) := goodIn_app (goodIn_of _ (by decide +kernel)) ggX3_touch_X3_forgetAges
set_option maxRecDepth 20000 in
theorem ggX3_touch_X1_addTouch : GoodIn wsX3_touch wsX1_addTouch := goodIn_r _ [33, 17, 22, 34, 35, 18, 19, 20, 10, 21, 41, 42, 43, 44, 45, 46, 47, 48, 49, 50, 51, 52, 53, 54, 55] (by decide +kernel) (by decide +kernel)
set_option maxRecDepth 20000 in
theorem gX3_touch_X1_addTouch : GoodIn wsX3_touch (wsV RX3 89 RX1 yX1_addTouch wsX1_addTouch) := goodIn_app (goodIn_of _ (by decide +kernel)) ggX3_touch_X1_addTouch
theorem dX3_touch_0 : decode cX3_touch 0 = .ok (.aload_n 0, 1) := by decide +kernel
theorem dX3_touch_1 : decode cX3_touch 1 = .ok (.getfield 10, 3) := by decide +kernel
theorem dX3_touch_4 : decode cX3_touch 4 = .ok (.iload_n 1, 1) := by decide +kernel
theorem dX3_touch_5 : decode cX3_touch 5 = .ok (.invokevirtual 69, 3) := by decide +kernel
theorem dX3_touch_8 : decode cX3_touch 8 = .ok (.ifCond .ne 13, 3) := by decide +kernel
theorem dX3_touch_11 : decode cX3_touch 11 = .ok (.new 73, 3) := by decide +kernel
theorem dX3_touch_14 : decode cX3_touch 14 = .ok (.dup, 1) := by decide +kernel
theorem dX3_touch_15 : decode cX3_touch 15 = .ok (.ldc 75, 2) := by decide +kernel
theorem dX3_touch_17 : decode cX3_touch 17 = .ok (.invokespecial 77, 3) := by decide +kernel
theorem dX3_touch_20 : decode cX3_touch 20 = .ok (.athrow, 1) := by decide +kernel
theorem dX3_touch_21 : decode cX3_touch 21 = .ok (.aload_n 0, 1) := by decide +kernel
theorem dX3_touch_22 : decode cX3_touch 22 = .ok (.getfield 10, 3) := by decide +kernel
theorem dX3_touch_25 : decode cX3_touch 25 = .ok (.getfield 78, 3) := by decide +kernel
theorem dX3_touch_28 : decode cX3_touch 28 = .ok (.iload_n 1, 1) := by decide +kernel
theorem dX3_touch_29 : decode cX3_touch 29 = .ok (.iaload, 1) := by decide +kernel
theorem dX3_touch_30 : decode cX3_touch 30 = .ok (.bipush 6, 2) := by decide +kernel
theorem dX3_touch_32 : decode cX3_touch 32 = .ok (.if_icmp .lt 13, 3) := by decide +kernel
theorem dX3_touch_35 : decode cX3_touch 35 = .ok (.new 57, 3) := by decide +kernel
theorem dX3_touch_38 : decode cX3_touch 38 = .ok (.dup, 1) := by decide +kernel
theorem dX3_touch_39 : decode cX3_touch 39 = .ok (.ldc 82, 2) := by decide +kernel
theorem dX3_touch_41 : decode cX3_touch 41 = .ok (.invokespecial 61, 3) := by decide +kernel
theorem dX3_touch_44 : decode cX3_touch 44 = .ok (.athrow, 1) := by decide +kernel
theorem dX3_touch_45 : decode cX3_touch 45 = .ok (.aload_n 0, 1) := by decide +kernel
theorem dX3_touch_46 : decode cX3_touch 46 = .ok (.getfield 10, 3) := by decide +kernel
theorem dX3_touch_49 : decode cX3_touch 49 = .ok (.iload_n 2, 1) := by decide +kernel
theorem dX3_touch_50 : decode cX3_touch 50 = .ok (.invokevirtual 84, 3) := by decide +kernel
theorem dX3_touch_53 : decode cX3_touch 53 = .ok (.ifCond .ne 13, 3) := by decide +kernel
theorem dX3_touch_56 : decode cX3_touch 56 = .ok (.new 57, 3) := by decide +kernel
theorem dX3_touch_59 : decode cX3_touch 59 = .ok (.dup, 1) := by decide +kernel
theorem dX3_touch_60 : decode cX3_touch 60 = .ok (.ldc 87, 2) := by decide +kernel
theorem dX3_touch_62 : decode cX3_touch 62 = .ok (.invokespecial 61, 3) := by decide +kernel
theorem dX3_touch_65 : decode cX3_touch 65 = .ok (.athrow, 1) := by decide +kernel
theorem dX3_touch_66 : decode cX3_touch 66 = .ok (.aload_n 0, 1) := by decide +kernel
theorem dX3_touch_67 : decode cX3_touch 67 = .ok (.invokevirtual 62, 3) := by decide +kernel
theorem dX3_touch_70 : decode cX3_touch 70 = .ok (.aload_n 0, 1) := by decide +kernel
theorem dX3_touch_71 : decode cX3_touch 71 = .ok (.getfield 10, 3) := by decide +kernel
theorem dX3_touch_74 : decode cX3_touch 74 = .ok (.iload_n 1, 1) := by decide +kernel
theorem dX3_touch_75 : decode cX3_touch 75 = .ok (.iload_n 2, 1) := by decide +kernel
theorem dX3_touch_76 : decode cX3_touch 76 = .ok (.invokevirtual 89, 3) := by decide +kernel
theorem dX3_touch_79 : decode cX3_touch 79 = .ok (.ireturn, 1) := by decide +kernel
set_option maxRecDepth 20000 in
theorem ggX3_edge_X1_hasBlock : GoodIn wsX3_edge wsX1_hasBlock := goodIn_r _ [11, 12, 35, 36, 37, 38, 39, 40, 41, 42, 43, 44, 45, 46, 47, 48, 49] (by decide +kernel) (by decide +kernel)
set_option maxRecDepth 20000 in
theorem gX3_edge_X1_hasBlock : GoodIn wsX3_edge (wsV RX3 69 RX1 yX1_hasBlock wsX1_hasBlock) := goodIn_app (goodIn_of _ (by decide +kernel)) ggX3_edge_X1_hasBlock
set_option maxRecDepth 20000 in
theorem ggX3_edge_X3_forgetAges : GoodIn wsX3_edge wsX3_forgetAges := goodIn_r _ [17, 18, 19, 30, 31, 32, 33, 34] (by decide +kernel) (by decide +kernel)
set_option maxRecDepth 20000 in
theorem gX3_edge_X3_forgetAges : GoodIn wsX3_edge (wsV RX3 62 RX3 yX3_forgetAges wsX3_forgetAges) := goodIn_app (goodIn_of _ (by decide +kernel)) ggX3_edge_X3_forgetAges
set_option maxRecDepth 20000 in
theorem ggX3_edge_X1_addEdge : GoodIn wsX3_edge wsX1_addEdge := goodIn_r _ [23, 24, 25, 26, 27, 28, 29, 35, 36, 37, 38, 39, 40, 41, 42, 43, 44, 45, 46, 47, 48, 49] (by decide +kernel) (by decide +kernel)
set_option maxRecDepth 20000 in
theorem gX3_edge_X1_addEdge : GoodIn wsX3_edge (wsV RX3 97 RX1 yX1_addEdge wsX1_addEdge) := goodIn_app (goodIn_of _ (by decide +kernel)) ggX3_edge_X1_addEdge
theorem dX3_edge_0 : decode cX3_edge 0 = .ok (.aload_n 0, 1) := by decide +kernel
theorem dX3_edge_1 : decode cX3_edge 1 = .ok (.getfield 10, 3) := by decide +kernel
theorem dX3_edge_4 : decode cX3_edge 4 = .ok (.iload_n 1, 1) := by decide +kernel
theorem dX3_edge_5 : decode cX3_edge 5 = .ok (.invokevirtual 69, 3) := by decide +kernel
theorem dX3_edge_8 : decode cX3_edge 8 = .ok (.ifCond .eq 14, 3) := by decide +kernel
theorem dX3_edge_11 : decode cX3_edge 11 = .ok (.aload_n 0, 1) := by decide +kernel
theorem dX3_edge_12 : decode cX3_edge 12 = .ok (.getfield 10, 3) := by decide +kernel
theorem dX3_edge_15 : decode cX3_edge 15 = .ok (.iload_n 2, 1) := by decide +kernel
theorem dX3_edge_16 : decode cX3_edge 16 = .ok (.invokevirtual 69, 3) := by decide +kernel
theorem dX3_edge_19 : decode cX3_edge 19 = .ok (.ifCond .ne 13, 3) := by decide +kernel
theorem dX3_edge_22 : decode cX3_edge 22 = .ok (.new 73, 3) := by decide +kernel
theorem dX3_edge_25 : decode cX3_edge 25 = .ok (.dup, 1) := by decide +kernel
theorem dX3_edge_26 : decode cX3_edge 26 = .ok (.ldc 75, 2) := by decide +kernel
theorem dX3_edge_28 : decode cX3_edge 28 = .ok (.invokespecial 77, 3) := by decide +kernel
theorem dX3_edge_31 : decode cX3_edge 31 = .ok (.athrow, 1) := by decide +kernel
theorem dX3_edge_32 : decode cX3_edge 32 = .ok (.aload_n 0, 1) := by decide +kernel
theorem dX3_edge_33 : decode cX3_edge 33 = .ok (.getfield 10, 3) := by decide +kernel
