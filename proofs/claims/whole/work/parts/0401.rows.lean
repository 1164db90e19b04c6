set_option maxRecDepth 20000 in
theorem ggX1_hasRoomFor_X1_slotOf : GoodIn wsX1_hasRoomFor wsX1_slotOf := goodIn_r _ [6, 1, 7, 8, 9, 10, 11, 12, 13, 14, 15, 16, 17, 18, 19, 20, 21, 22] (by decide +kernel) (by decide +kernel)
set_option maxRecDepth 20000 in
theorem gX1_hasRoomFor_X1_slotOf : GoodIn wsX1_hasRoomFor (wsV RX1 55 RX1 yX1_slotOf wsX1_slotOf) := goodIn_app (goodIn_of _ (by decide +kernel)) ggX1_hasRoomFor_X1_slotOf
theorem dX1_hasRoomFor_0 : decode cX1_hasRoomFor 0 = .ok (.aload_n 0, 1) := by decide +kernel
theorem dX1_hasRoomFor_1 : decode cX1_hasRoomFor 1 = .ok (.getfield 52, 3) := by decide +kernel
theorem dX1_hasRoomFor_4 : decode cX1_hasRoomFor 4 = .ok (.bipush 40, 2) := by decide +kernel
theorem dX1_hasRoomFor_6 : decode cX1_hasRoomFor 6 = .ok (.if_icmp .lt 12, 3) := by decide +kernel
theorem dX1_hasRoomFor_9 : decode cX1_hasRoomFor 9 = .ok (.aload_n 0, 1) := by decide +kernel
theorem dX1_hasRoomFor_10 : decode cX1_hasRoomFor 10 = .ok (.iload_n 1, 1) := by decide +kernel
theorem dX1_hasRoomFor_11 : decode cX1_hasRoomFor 11 = .ok (.invokevirtual 55, 3) := by decide +kernel
theorem dX1_hasRoomFor_14 : decode cX1_hasRoomFor 14 = .ok (.iconst (-1), 1) := by decide +kernel
theorem dX1_hasRoomFor_15 : decode cX1_hasRoomFor 15 = .ok (.if_icmp .eq 7, 3) := by decide +kernel
theorem dX1_hasRoomFor_18 : decode cX1_hasRoomFor 18 = .ok (.iconst 1, 1) := by decide +kernel
theorem dX1_hasRoomFor_19 : decode cX1_hasRoomFor 19 = .ok (.goto 4, 3) := by decide +kernel
theorem dX1_hasRoomFor_22 : decode cX1_hasRoomFor 22 = .ok (.iconst 0, 1) := by decide +kernel
theorem dX1_hasRoomFor_23 : decode cX1_hasRoomFor 23 = .ok (.ireturn, 1) := by decide +kernel
theorem dX1_slotOf_0 : decode cX1_slotOf 0 = .ok (.iconst 0, 1) := by decide +kernel
theorem dX1_slotOf_1 : decode cX1_slotOf 1 = .ok (.istore_n 2, 1) := by decide +kernel
theorem dX1_slotOf_2 : decode cX1_slotOf 2 = .ok (.iload_n 2, 1) := by decide +kernel
theorem dX1_slotOf_3 : decode cX1_slotOf 3 = .ok (.aload_n 0, 1) := by decide +kernel
theorem dX1_slotOf_4 : decode cX1_slotOf 4 = .ok (.getfield 52, 3) := by decide +kernel
theorem dX1_slotOf_7 : decode cX1_slotOf 7 = .ok (.if_icmp .ge 21, 3) := by decide +kernel
theorem dX1_slotOf_10 : decode cX1_slotOf 10 = .ok (.aload_n 0, 1) := by decide +kernel
theorem dX1_slotOf_11 : decode cX1_slotOf 11 = .ok (.getfield 21, 3) := by decide +kernel
theorem dX1_slotOf_14 : decode cX1_slotOf 14 = .ok (.iload_n 2, 1) := by decide +kernel
theorem dX1_slotOf_15 : decode cX1_slotOf 15 = .ok (.iaload, 1) := by decide +kernel
theorem dX1_slotOf_16 : decode cX1_slotOf 16 = .ok (.iload_n 1, 1) := by decide +kernel
theorem dX1_slotOf_17 : decode cX1_slotOf 17 = .ok (.if_icmp .ne 5, 3) := by decide +kernel
theorem dX1_slotOf_20 : decode cX1_slotOf 20 = .ok (.iload_n 2, 1) := by decide +kernel
theorem dX1_slotOf_21 : decode cX1_slotOf 21 = .ok (.ireturn, 1) := by decide +kernel
theorem dX1_slotOf_22 : decode cX1_slotOf 22 = .ok (.iinc 2 1, 3) := by decide +kernel
theorem dX1_slotOf_25 : decode cX1_slotOf 25 = .ok (.goto (-23), 3) := by decide +kernel
theorem dX1_slotOf_28 : decode cX1_slotOf 28 = .ok (.iconst (-1), 1) := by decide +kernel
theorem dX1_slotOf_29 : decode cX1_slotOf 29 = .ok (.ireturn, 1) := by decide +kernel
theorem dX1_addBlock_0 : decode cX1_addBlock 0 = .ok (.aload_n 0, 1) := by decide +kernel
theorem dX1_addBlock_1 : decode cX1_addBlock 1 = .ok (.getfield 9, 3) := by decide +kernel
theorem dX1_addBlock_4 : decode cX1_addBlock 4 = .ok (.aload_n 0, 1) := by decide +kernel
theorem dX1_addBlock_5 : decode cX1_addBlock 5 = .ok (.getfield 45, 3) := by decide +kernel
theorem dX1_addBlock_8 : decode cX1_addBlock 8 = .ok (.iload_n 1, 1) := by decide +kernel
theorem dX1_addBlock_9 : decode cX1_addBlock 9 = .ok (.iastore, 1) := by decide +kernel
theorem dX1_addBlock_10 : decode cX1_addBlock 10 = .ok (.aload_n 0, 1) := by decide +kernel
theorem dX1_addBlock_11 : decode cX1_addBlock 11 = .ok (.dup, 1) := by decide +kernel
theorem dX1_addBlock_12 : decode cX1_addBlock 12 = .ok (.getfield 45, 3) := by decide +kernel
theorem dX1_addBlock_15 : decode cX1_addBlock 15 = .ok (.iconst 1, 1) := by decide +kernel
theorem dX1_addBlock_16 : decode cX1_addBlock 16 = .ok (.iadd, 1) := by decide +kernel
theorem dX1_addBlock_17 : decode cX1_addBlock 17 = .ok (.putfield 45, 3) := by decide +kernel
theorem dX1_addBlock_20 : decode cX1_addBlock 20 = .ok (.aload_n 0, 1) := by decide +kernel
theorem dX1_addBlock_21 : decode cX1_addBlock 21 = .ok (.getfield 45, 3) := by decide +kernel
theorem dX1_addBlock_24 : decode cX1_addBlock 24 = .ok (.iconst 1, 1) := by decide +kernel
theorem dX1_addBlock_25 : decode cX1_addBlock 25 = .ok (.isub, 1) := by decide +kernel
theorem dX1_addBlock_26 : decode cX1_addBlock 26 = .ok (.ireturn, 1) := by decide +kernel
set_option maxRecDepth 20000 in
theorem ggX1_addTouch_X1_slotOf : GoodIn wsX1_addTouch wsX1_slotOf := goodIn_r _ [9, 1, 2, 10, 11, 12, 13, 14, 15, 16, 17, 18, 19, 20, 21, 22, 23, 24] (by decide +kernel) (by decide +kernel)
set_option maxRecDepth 20000 in
theorem gX1_addTouch_X1_slotOf : GoodIn wsX1_addTouch (wsV RX1 55 RX1 yX1_slotOf wsX1_slotOf) := goodIn_app (goodIn_of _ (by decide +kernel)) ggX1_addTouch_X1_slotOf
theorem dX1_addTouch_0 : decode cX1_addTouch 0 = .ok (.aload_n 0, 1) := by decide +kernel
theorem dX1_addTouch_1 : decode cX1_addTouch 1 = .ok (.iload_n 2, 1) := by decide +kernel
theorem dX1_addTouch_2 : decode cX1_addTouch 2 = .ok (.invokevirtual 55, 3) := by decide +kernel
theorem dX1_addTouch_5 : decode cX1_addTouch 5 = .ok (.istore_n 3, 1) := by decide +kernel
theorem dX1_addTouch_6 : decode cX1_addTouch 6 = .ok (.iload_n 3, 1) := by decide +kernel
theorem dX1_addTouch_7 : decode cX1_addTouch 7 = .ok (.iconst (-1), 1) := by decide +kernel
theorem dX1_addTouch_8 : decode cX1_addTouch 8 = .ok (.if_icmp .ne 25, 3) := by decide +kernel
theorem dX1_addTouch_11 : decode cX1_addTouch 11 = .ok (.aload_n 0, 1) := by decide +kernel
theorem dX1_addTouch_12 : decode cX1_addTouch 12 = .ok (.getfield 52, 3) := by decide +kernel
theorem dX1_addTouch_15 : decode cX1_addTouch 15 = .ok (.istore_n 3, 1) := by decide +kernel
theorem dX1_addTouch_16 : decode cX1_addTouch 16 = .ok (.aload_n 0, 1) := by decide +kernel
theorem dX1_addTouch_17 : decode cX1_addTouch 17 = .ok (.getfield 21, 3) := by decide +kernel
theorem dX1_addTouch_20 : decode cX1_addTouch 20 = .ok (.iload_n 3, 1) := by decide +kernel
theorem dX1_addTouch_21 : decode cX1_addTouch 21 = .ok (.iload_n 2, 1) := by decide +kernel
theorem dX1_addTouch_22 : decode cX1_addTouch 22 = .ok (.iastore, 1) := by decide +kernel
theorem dX1_addTouch_23 : decode cX1_addTouch 23 = .ok (.aload_n 0, 1) := by decide +kernel
theorem dX1_addTouch_24 : decode cX1_addTouch 24 = .ok (.dup, 1) := by decide +kernel
theorem dX1_addTouch_25 : decode cX1_addTouch 25 = .ok (.getfield 52, 3) := by decide +kernel
theorem dX1_addTouch_28 : decode cX1_addTouch 28 = .ok (.iconst 1, 1) := by decide +kernel
theorem dX1_addTouch_29 : decode cX1_addTouch 29 = .ok (.iadd, 1) := by decide +kernel
theorem dX1_addTouch_30 : decode cX1_addTouch 30 = .ok (.putfield 52, 3) := by decide +kernel
theorem dX1_addTouch_33 : decode cX1_addTouch 33 = .ok (.aload_n 0, 1) := by decide +kernel
theorem dX1_addTouch_34 : decode cX1_addTouch 34 = .ok (.getfield 18, 3) := by decide +kernel
theorem dX1_addTouch_37 : decode cX1_addTouch 37 = .ok (.iload_n 1, 1) := by decide +kernel
theorem dX1_addTouch_38 : decode cX1_addTouch 38 = .ok (.bipush 6, 2) := by decide +kernel
theorem dX1_addTouch_40 : decode cX1_addTouch 40 = .ok (.imul, 1) := by decide +kernel
theorem dX1_addTouch_41 : decode cX1_addTouch 41 = .ok (.aload_n 0, 1) := by decide +kernel
theorem dX1_addTouch_42 : decode cX1_addTouch 42 = .ok (.getfield 15, 3) := by decide +kernel
theorem dX1_addTouch_45 : decode cX1_addTouch 45 = .ok (.iload_n 1, 1) := by decide +kernel
theorem dX1_addTouch_46 : decode cX1_addTouch 46 = .ok (.iaload, 1) := by decide +kernel
theorem dX1_addTouch_47 : decode cX1_addTouch 47 = .ok (.iadd, 1) := by decide +kernel
theorem dX1_addTouch_48 : decode cX1_addTouch 48 = .ok (.iload_n 3, 1) := by decide +kernel
theorem dX1_addTouch_49 : decode cX1_addTouch 49 = .ok (.iastore, 1) := by decide +kernel
theorem dX1_addTouch_50 : decode cX1_addTouch 50 = .ok (.aload_n 0, 1) := by decide +kernel
theorem dX1_addTouch_51 : decode cX1_addTouch 51 = .ok (.getfield 15, 3) := by decide +kernel
theorem dX1_addTouch_54 : decode cX1_addTouch 54 = .ok (.iload_n 1, 1) := by decide +kernel
theorem dX1_addTouch_55 : decode cX1_addTouch 55 = .ok (.dup2, 1) := by decide +kernel
theorem dX1_addTouch_56 : decode cX1_addTouch 56 = .ok (.iaload, 1) := by decide +kernel
theorem dX1_addTouch_57 : decode cX1_addTouch 57 = .ok (.iconst 1, 1) := by decide +kernel
theorem dX1_addTouch_58 : decode cX1_addTouch 58 = .ok (.iadd, 1) := by decide +kernel
theorem dX1_addTouch_59 : decode cX1_addTouch 59 = .ok (.iastore, 1) := by decide +kernel
theorem dX1_addTouch_60 : decode cX1_addTouch 60 = .ok (.aload_n 0, 1) := by decide +kernel
theorem dX1_addTouch_61 : decode cX1_addTouch 61 = .ok (.getfield 15, 3) := by decide +kernel
theorem dX1_addTouch_64 : decode cX1_addTouch 64 = .ok (.iload_n 1, 1) := by decide +kernel
theorem dX1_addTouch_65 : decode cX1_addTouch 65 = .ok (.iaload, 1) := by decide +kernel
theorem dX1_addTouch_66 : decode cX1_addTouch 66 = .ok (.ireturn, 1) := by decide +kernel
theorem dX1_addEdge_0 : decode cX1_addEdge 0 = .ok (.aload_n 0, 1) := by decide +kernel
theorem dX1_addEdge_1 : decode cX1_addEdge 1 = .ok (.getfield 49, 3) := by decide +kernel
theorem dX1_addEdge_4 : decode cX1_addEdge 4 = .ok (.istore_n 3, 1) := by decide +kernel
theorem dX1_addEdge_5 : decode cX1_addEdge 5 = .ok (.aload_n 0, 1) := by decide +kernel
theorem dX1_addEdge_6 : decode cX1_addEdge 6 = .ok (.getfield 24, 3) := by decide +kernel
theorem dX1_addEdge_9 : decode cX1_addEdge 9 = .ok (.iload_n 3, 1) := by decide +kernel
theorem dX1_addEdge_10 : decode cX1_addEdge 10 = .ok (.iload_n 1, 1) := by decide +kernel
theorem dX1_addEdge_11 : decode cX1_addEdge 11 = .ok (.iastore, 1) := by decide +kernel
theorem dX1_addEdge_12 : decode cX1_addEdge 12 = .ok (.aload_n 0, 1) := by decide +kernel
theorem dX1_addEdge_13 : decode cX1_addEdge 13 = .ok (.getfield 27, 3) := by decide +kernel
theorem dX1_addEdge_16 : decode cX1_addEdge 16 = .ok (.iload_n 3, 1) := by decide +kernel
theorem dX1_addEdge_17 : decode cX1_addEdge 17 = .ok (.iload_n 2, 1) := by decide +kernel
theorem dX1_addEdge_18 : decode cX1_addEdge 18 = .ok (.iastore, 1) := by decide +kernel
theorem dX1_addEdge_19 : decode cX1_addEdge 19 = .ok (.aload_n 0, 1) := by decide +kernel
theorem dX1_addEdge_20 : decode cX1_addEdge 20 = .ok (.getfield 30, 3) := by decide +kernel
theorem dX1_addEdge_23 : decode cX1_addEdge 23 = .ok (.iload_n 3, 1) := by decide +kernel
theorem dX1_addEdge_24 : decode cX1_addEdge 24 = .ok (.iconst (-1), 1) := by decide +kernel
theorem dX1_addEdge_25 : decode cX1_addEdge 25 = .ok (.iastore, 1) := by decide +kernel
theorem dX1_addEdge_26 : decode cX1_addEdge 26 = .ok (.aload_n 0, 1) := by decide +kernel
theorem dX1_addEdge_27 : decode cX1_addEdge 27 = .ok (.getfield 42, 3) := by decide +kernel
theorem dX1_addEdge_30 : decode cX1_addEdge 30 = .ok (.iload_n 1, 1) := by decide +kernel
theorem dX1_addEdge_31 : decode cX1_addEdge 31 = .ok (.iconst 1, 1) := by decide +kernel
theorem dX1_addEdge_32 : decode cX1_addEdge 32 = .ok (.iadd, 1) := by decide +kernel
theorem dX1_addEdge_33 : decode cX1_addEdge 33 = .ok (.iaload, 1) := by decide +kernel
theorem dX1_addEdge_34 : decode cX1_addEdge 34 = .ok (.istore 4, 2) := by decide +kernel
theorem dX1_addEdge_36 : decode cX1_addEdge 36 = .ok (.iload_n 3, 1) := by decide +kernel
theorem dX1_addEdge_37 : decode cX1_addEdge 37 = .ok (.istore 5, 2) := by decide +kernel
theorem dX1_addEdge_39 : decode cX1_addEdge 39 = .ok (.iload 5, 2) := by decide +kernel
theorem dX1_addEdge_41 : decode cX1_addEdge 41 = .ok (.iload 4, 2) := by decide +kernel
theorem dX1_addEdge_43 : decode cX1_addEdge 43 = .ok (.if_icmp .le 25, 3) := by decide +kernel
theorem dX1_addEdge_46 : decode cX1_addEdge 46 = .ok (.aload_n 0, 1) := by decide +kernel
theorem dX1_addEdge_47 : decode cX1_addEdge 47 = .ok (.getfield 39, 3) := by decide +kernel
theorem dX1_addEdge_50 : decode cX1_addEdge 50 = .ok (.iload 5, 2) := by decide +kernel
theorem dX1_addEdge_52 : decode cX1_addEdge 52 = .ok (.aload_n 0, 1) := by decide +kernel
theorem dX1_addEdge_53 : decode cX1_addEdge 53 = .ok (.getfield 39, 3) := by decide +kernel
theorem dX1_addEdge_56 : decode cX1_addEdge 56 = .ok (.iload 5, 2) := by decide +kernel
theorem dX1_addEdge_58 : decode cX1_addEdge 58 = .ok (.iconst 1, 1) := by decide +kernel
theorem dX1_addEdge_59 : decode cX1_addEdge 59 = .ok (.isub, 1) := by decide +kernel
theorem dX1_addEdge_60 : decode cX1_addEdge 60 = .ok (.iaload, 1) := by decide +kernel
theorem dX1_addEdge_61 : decode cX1_addEdge 61 = .ok (.iastore, 1) := by decide +kernel
theorem dX1_addEdge_62 : decode cX1_addEdge 62 = .ok (.iinc 5 (-1), 3) := by decide +kernel
theorem dX1_addEdge_65 : decode cX1_addEdge 65 = .ok (.goto (-26), 3) := by decide +kernel
theorem dX1_addEdge_68 : decode cX1_addEdge 68 = .ok (.aload_n 0, 1) := by decide +kernel
theorem dX1_addEdge_69 : decode cX1_addEdge 69 = .ok (.getfield 39, 3) := by decide +kernel
theorem dX1_addEdge_72 : decode cX1_addEdge 72 = .ok (.iload 4, 2) := by decide +kernel
theorem dX1_addEdge_74 : decode cX1_addEdge 74 = .ok (.iload_n 3, 1) := by decide +kernel
theorem dX1_addEdge_75 : decode cX1_addEdge 75 = .ok (.iastore, 1) := by decide +kernel
theorem dX1_addEdge_76 : decode cX1_addEdge 76 = .ok (.iload_n 1, 1) := by decide +kernel
theorem dX1_addEdge_77 : decode cX1_addEdge 77 = .ok (.iconst 1, 1) := by decide +kernel
theorem dX1_addEdge_78 : decode cX1_addEdge 78 = .ok (.iadd, 1) := by decide +kernel
theorem dX1_addEdge_79 : decode cX1_addEdge 79 = .ok (.istore 5, 2) := by decide +kernel
theorem dX1_addEdge_81 : decode cX1_addEdge 81 = .ok (.iload 5, 2) := by decide +kernel
theorem dX1_addEdge_83 : decode cX1_addEdge 83 = .ok (.bipush 40, 2) := by decide +kernel
theorem dX1_addEdge_85 : decode cX1_addEdge 85 = .ok (.if_icmp .gt 20, 3) := by decide +kernel
theorem dX1_addEdge_88 : decode cX1_addEdge 88 = .ok (.aload_n 0, 1) := by decide +kernel
theorem dX1_addEdge_89 : decode cX1_addEdge 89 = .ok (.getfield 42, 3) := by decide +kernel
theorem dX1_addEdge_92 : decode cX1_addEdge 92 = .ok (.iload 5, 2) := by decide +kernel
theorem dX1_addEdge_94 : decode cX1_addEdge 94 = .ok (.dup2, 1) := by decide +kernel
theorem dX1_addEdge_95 : decode cX1_addEdge 95 = .ok (.iaload, 1) := by decide +kernel
theorem dX1_addEdge_96 : decode cX1_addEdge 96 = .ok (.iconst 1, 1) := by decide +kernel
theorem dX1_addEdge_97 : decode cX1_addEdge 97 = .ok (.iadd, 1) := by decide +kernel
theorem dX1_addEdge_98 : decode cX1_addEdge 98 = .ok (.iastore, 1) := by decide +kernel
theorem dX1_addEdge_99 : decode cX1_addEdge 99 = .ok (.iinc 5 1, 3) := by decide +kernel
theorem dX1_addEdge_102 : decode cX1_addEdge 102 = .ok (.goto (-21), 3) := by decide +kernel
theorem dX1_addEdge_105 : decode cX1_addEdge 105 = .ok (.aload_n 0, 1) := by decide +kernel
theorem dX1_addEdge_106 : decode cX1_addEdge 106 = .ok (.dup, 1) := by decide +kernel
theorem dX1_addEdge_107 : decode cX1_addEdge 107 = .ok (.getfield 49, 3) := by decide +kernel
theorem dX1_addEdge_110 : decode cX1_addEdge 110 = .ok (.iconst 1, 1) := by decide +kernel
theorem dX1_addEdge_111 : decode cX1_addEdge 111 = .ok (.iadd, 1) := by decide +kernel
theorem dX1_addEdge_112 : decode cX1_addEdge 112 = .ok (.putfield 49, 3) := by decide +kernel
theorem dX1_addEdge_115 : decode cX1_addEdge 115 = .ok (.iload_n 3, 1) := by decide +kernel
theorem dX1_addEdge_116 : decode cX1_addEdge 116 = .ok (.ireturn, 1) := by decide +kernel
theorem dX1_addPair_0 : decode cX1_addPair 0 = .ok (.aload_n 0, 1) := by decide +kernel
theorem dX1_addPair_1 : decode cX1_addPair 1 = .ok (.getfield 33, 3) := by decide +kernel
theorem dX1_addPair_4 : decode cX1_addPair 4 = .ok (.aload_n 0, 1) := by decide +kernel
theorem dX1_addPair_5 : decode cX1_addPair 5 = .ok (.getfield 59, 3) := by decide +kernel
theorem dX1_addPair_8 : decode cX1_addPair 8 = .ok (.iload_n 1, 1) := by decide +kernel
theorem dX1_addPair_9 : decode cX1_addPair 9 = .ok (.iastore, 1) := by decide +kernel
theorem dX1_addPair_10 : decode cX1_addPair 10 = .ok (.aload_n 0, 1) := by decide +kernel
theorem dX1_addPair_11 : decode cX1_addPair 11 = .ok (.getfield 36, 3) := by decide +kernel
theorem dX1_addPair_14 : decode cX1_addPair 14 = .ok (.aload_n 0, 1) := by decide +kernel
theorem dX1_addPair_15 : decode cX1_addPair 15 = .ok (.getfield 59, 3) := by decide +kernel
theorem dX1_addPair_18 : decode cX1_addPair 18 = .ok (.iload_n 2, 1) := by decide +kernel
theorem dX1_addPair_19 : decode cX1_addPair 19 = .ok (.iastore, 1) := by decide +kernel
theorem dX1_addPair_20 : decode cX1_addPair 20 = .ok (.aload_n 0, 1) := by decide +kernel
theorem dX1_addPair_21 : decode cX1_addPair 21 = .ok (.dup, 1) := by decide +kernel
theorem dX1_addPair_22 : decode cX1_addPair 22 = .ok (.getfield 59, 3) := by decide +kernel
theorem dX1_addPair_25 : decode cX1_addPair 25 = .ok (.iconst 1, 1) := by decide +kernel
theorem dX1_addPair_26 : decode cX1_addPair 26 = .ok (.iadd, 1) := by decide +kernel
theorem dX1_addPair_27 : decode cX1_addPair 27 = .ok (.putfield 59, 3) := by decide +kernel
theorem dX1_addPair_30 : decode cX1_addPair 30 = .ok (.aload_n 0, 1) := by decide +kernel
theorem dX1_addPair_31 : decode cX1_addPair 31 = .ok (.getfield 59, 3) := by decide +kernel
theorem dX1_addPair_34 : decode cX1_addPair 34 = .ok (.ireturn, 1) := by decide +kernel
theorem dX2_init_0 : decode cX2_init 0 = .ok (.aload_n 0, 1) := by decide +kernel
theorem dX2_init_1 : decode cX2_init 1 = .ok (.invokespecial 3, 3) := by decide +kernel
theorem dX2_init_4 : decode cX2_init 4 = .ok (.aload_n 0, 1) := by decide +kernel
theorem dX2_init_5 : decode cX2_init 5 = .ok (.bipush 40, 2) := by decide +kernel
theorem dX2_init_7 : decode cX2_init 7 = .ok (.newarray .int, 2) := by decide +kernel
theorem dX2_init_9 : decode cX2_init 9 = .ok (.putfield 9, 3) := by decide +kernel
theorem dX2_init_12 : decode cX2_init 12 = .ok (.aload_n 0, 1) := by decide +kernel
theorem dX2_init_13 : decode cX2_init 13 = .ok (.bipush 40, 2) := by decide +kernel
theorem dX2_init_15 : decode cX2_init 15 = .ok (.newarray .int, 2) := by decide +kernel
theorem dX2_init_17 : decode cX2_init 17 = .ok (.putfield 15, 3) := by decide +kernel
theorem dX2_init_20 : decode cX2_init 20 = .ok (.aload_n 0, 1) := by decide +kernel
theorem dX2_init_21 : decode cX2_init 21 = .ok (.bipush 80, 2) := by decide +kernel
theorem dX2_init_23 : decode cX2_init 23 = .ok (.newarray .int, 2) := by decide +kernel
theorem dX2_init_25 : decode cX2_init 25 = .ok (.putfield 18, 3) := by decide +kernel
theorem dX2_init_28 : decode cX2_init 28 = .ok (.aload_n 0, 1) := by decide +kernel
theorem dX2_init_29 : decode cX2_init 29 = .ok (.bipush 80, 2) := by decide +kernel
theorem dX2_init_31 : decode cX2_init 31 = .ok (.newarray .int, 2) := by decide +kernel
theorem dX2_init_33 : decode cX2_init 33 = .ok (.putfield 21, 3) := by decide +kernel
theorem dX2_init_36 : decode cX2_init 36 = .ok (.aload_n 0, 1) := by decide +kernel
theorem dX2_init_37 : decode cX2_init 37 = .ok (.bipush 80, 2) := by decide +kernel
theorem dX2_init_39 : decode cX2_init 39 = .ok (.newarray .int, 2) := by decide +kernel
theorem dX2_init_41 : decode cX2_init 41 = .ok (.putfield 24, 3) := by decide +kernel
theorem dX2_init_44 : decode cX2_init 44 = .ok (.aload_n 0, 1) := by decide +kernel
theorem dX2_init_45 : decode cX2_init 45 = .ok (.ldc 27, 2) := by decide +kernel
theorem dX2_init_47 : decode cX2_init 47 = .ok (.newarray .long, 2) := by decide +kernel
theorem dX2_init_49 : decode cX2_init 49 = .ok (.putfield 28, 3) := by decide +kernel
theorem dX2_init_52 : decode cX2_init 52 = .ok (.aload_n 0, 1) := by decide +kernel
theorem dX2_init_53 : decode cX2_init 53 = .ok (.ldc 27, 2) := by decide +kernel
theorem dX2_init_55 : decode cX2_init 55 = .ok (.newarray .long, 2) := by decide +kernel
theorem dX2_init_57 : decode cX2_init 57 = .ok (.putfield 32, 3) := by decide +kernel
theorem dX2_init_60 : decode cX2_init 60 = .ok (.return_, 1) := by decide +kernel
theorem dX2_mostOfAll_0 : decode cX2_mostOfAll 0 = .ok (.aload_n 0, 1) := by decide +kernel
theorem dX2_mostOfAll_1 : decode cX2_mostOfAll 1 = .ok (.getfield 28, 3) := by decide +kernel
theorem dX2_mostOfAll_4 : decode cX2_mostOfAll 4 = .ok (.iconst 0, 1) := by decide +kernel
theorem dX2_mostOfAll_5 : decode cX2_mostOfAll 5 = .ok (.laload, 1) := by decide +kernel
theorem dX2_mostOfAll_6 : decode cX2_mostOfAll 6 = .ok (.lreturn, 1) := by decide +kernel
theorem dX2_fewestOfAll_0 : decode cX2_fewestOfAll 0 = .ok (.aload_n 0, 1) := by decide +kernel
theorem dX2_fewestOfAll_1 : decode cX2_fewestOfAll 1 = .ok (.getfield 32, 3) := by decide +kernel
theorem dX2_fewestOfAll_4 : decode cX2_fewestOfAll 4 = .ok (.iconst 0, 1) := by decide +kernel
theorem dX2_fewestOfAll_5 : decode cX2_fewestOfAll 5 = .ok (.laload, 1) := by decide +kernel
theorem dX2_fewestOfAll_6 : decode cX2_fewestOfAll 6 = .ok (.lreturn, 1) := by decide +kernel
set_option maxRecDepth 20000 in
theorem ggX2_solve_X2_fitsInStates : GoodIn wsX2_solve wsX2_fitsInStates := goodIn_r _ [9, 2, 10, 11, 12, 13, 14, 8, 15, 16, 17, 18, 93, 94, 95, 96, 97, 98, 99, 100, 101, 102, 103, 104, 105, 106, 107] (by decide +kernel) (by decide +kernel)
set_option maxRecDepth 20000 in
theorem gX2_solve_X2_fitsInStates : GoodIn wsX2_solve (wsV RX2 45 RX2 yX2_fitsInStates wsX2_fitsInStates) := goodIn_app (goodIn_of _ (by decide +kernel)) ggX2_solve_X2_fitsInStates
set_option maxRecDepth 20000 in
theorem ggX2_solve_X2_orderBlocks : GoodIn wsX2_solve wsX2_orderBlocks := goodIn_r _ [22, 23, 2, 24, 25, 26, 27, 28, 12, 29, 30, 31, 32, 33, 8, 34, 10, 35, 36, 37, 38, 39, 40, 41, 42, 43, 83, 84, 85, 86, 87, 88, 89, 90, 91, 92, 93, 94, 95, 96, 97, 98, 99, 100, 101, 102, 103, 104, 105, 106, 107, 108, 109, 110, 111, 112, 113, 114, 115, 116, 117, 118, 119, 120] (by decide +kernel) (by decide +kernel)
set_option maxRecDepth 20000 in
theorem gX2_solve_X2_orderBlocks : GoodIn wsX2_solve (wsV RX2 49 RX2 yX2_orderBlocks wsX2_orderBlocks) := goodIn_app (goodIn_of _ (by decide +kernel)) ggX2_solve_X2_orderBlocks
set_option maxRecDepth 20000 in
theorem ggX2_solve_X2_layOutCode : GoodIn wsX2_solve wsX2_layOutCode := goodIn_r _ [47, 48, 49, 50, 51, 10, 16, 17, 18, 12, 36, 37, 38, 39, 13, 14, 8, 15, 83, 84, 85, 86, 87, 88, 89, 90, 91, 92, 93, 94, 95, 96, 97, 98, 99, 100, 101, 102, 103, 104, 105, 106, 107] (by decide +kernel) (by decide +kernel)
set_option maxRecDepth 20000 in
theorem gX2_solve_X2_layOutCode : GoodIn wsX2_solve (wsV RX2 53 RX2 yX2_layOutCode wsX2_layOutCode) := goodIn_app (goodIn_of _ (by decide +kernel)) ggX2_solve_X2_layOutCode
set_option maxRecDepth 20000 in
theorem ggX2_solve_X2_valueStates : GoodIn wsX2_solve wsX2_valueStates := goodIn_r _ [55, 51, 23, 26, 56, 57, 58, 8, 59, 27, 4, 28, 3, 60, 61, 62, 63, 64, 65, 66, 67, 2, 68, 69, 70, 71, 29, 72, 73, 74, 75, 12, 50, 48, 49, 76, 77, 78, 79, 80, 81, 82, 83, 84, 85, 86, 87, 88, 89, 90, 91, 92, 93, 94, 95, 96, 97, 98, 99, 100, 101, 102, 103, 104, 105, 106, 107, 108, 109, 110, 111, 112, 113, 114, 115, 116, 117, 118, 119, 120] (by decide +kernel) (by decide +kernel)
set_option maxRecDepth 20000 in
theorem gX2_solve_X2_valueStates : GoodIn wsX2_solve (wsV RX2 57 RX2 yX2_valueStates wsX2_valueStates) := goodIn_app (goodIn_of _ (by decide +kernel)) ggX2_solve_X2_valueStates
theorem dX2_solve_0 : decode cX2_solve 0 = .ok (.aload_n 0, 1) := by decide +kernel
theorem dX2_solve_1 : decode cX2_solve 1 = .ok (.iconst 0, 1) := by decide +kernel
theorem dX2_solve_2 : decode cX2_solve 2 = .ok (.putfield 35, 3) := by decide +kernel
theorem dX2_solve_5 : decode cX2_solve 5 = .ok (.aload_n 1, 1) := by decide +kernel
theorem dX2_solve_6 : decode cX2_solve 6 = .ok (.getfield 39, 3) := by decide +kernel
theorem dX2_solve_9 : decode cX2_solve 9 = .ok (.ifCond .eq 20, 3) := by decide +kernel
theorem dX2_solve_12 : decode cX2_solve 12 = .ok (.aload_n 0, 1) := by decide +kernel
theorem dX2_solve_13 : decode cX2_solve 13 = .ok (.aload_n 1, 1) := by decide +kernel
theorem dX2_solve_14 : decode cX2_solve 14 = .ok (.invokevirtual 45, 3) := by decide +kernel
theorem dX2_solve_17 : decode cX2_solve 17 = .ok (.ifCond .eq 12, 3) := by decide +kernel
theorem dX2_solve_20 : decode cX2_solve 20 = .ok (.aload_n 0, 1) := by decide +kernel
theorem dX2_solve_21 : decode cX2_solve 21 = .ok (.aload_n 1, 1) := by decide +kernel
theorem dX2_solve_22 : decode cX2_solve 22 = .ok (.aload_n 2, 1) := by decide +kernel
theorem dX2_solve_23 : decode cX2_solve 23 = .ok (.invokevirtual 49, 3) := by decide +kernel
theorem dX2_solve_26 : decode cX2_solve 26 = .ok (.ifCond .ne 4, 3) := by decide +kernel
theorem dX2_solve_29 : decode cX2_solve 29 = .ok (.return_, 1) := by decide +kernel
theorem dX2_solve_30 : decode cX2_solve 30 = .ok (.aload_n 0, 1) := by decide +kernel
theorem dX2_solve_31 : decode cX2_solve 31 = .ok (.aload_n 1, 1) := by decide +kernel
theorem dX2_solve_32 : decode cX2_solve 32 = .ok (.invokevirtual 53, 3) := by decide +kernel
theorem dX2_solve_35 : decode cX2_solve 35 = .ok (.aload_n 0, 1) := by decide +kernel
theorem dX2_solve_36 : decode cX2_solve 36 = .ok (.aload_n 1, 1) := by decide +kernel
theorem dX2_solve_37 : decode cX2_solve 37 = .ok (.aload_n 2, 1) := by decide +kernel
theorem dX2_solve_38 : decode cX2_solve 38 = .ok (.invokevirtual 57, 3) := by decide +kernel
theorem dX2_solve_41 : decode cX2_solve 41 = .ok (.aload_n 0, 1) := by decide +kernel
theorem dX2_solve_42 : decode cX2_solve 42 = .ok (.aload_n 0, 1) := by decide +kernel
theorem dX2_solve_43 : decode cX2_solve 43 = .ok (.getfield 28, 3) := by decide +kernel
theorem dX2_solve_46 : decode cX2_solve 46 = .ok (.iconst 0, 1) := by decide +kernel
theorem dX2_solve_47 : decode cX2_solve 47 = .ok (.laload, 1) := by decide +kernel
theorem dX2_solve_48 : decode cX2_solve 48 = .ok (.ldc2_w 61, 3) := by decide +kernel
theorem dX2_solve_51 : decode cX2_solve 51 = .ok (.lcmp, 1) := by decide +kernel
theorem dX2_solve_52 : decode cX2_solve 52 = .ok (.ifCond .eq 7, 3) := by decide +kernel
theorem dX2_solve_55 : decode cX2_solve 55 = .ok (.iconst 1, 1) := by decide +kernel
theorem dX2_solve_56 : decode cX2_solve 56 = .ok (.goto 4, 3) := by decide +kernel
theorem dX2_solve_59 : decode cX2_solve 59 = .ok (.iconst 0, 1) := by decide +kernel
theorem dX2_solve_60 : decode cX2_solve 60 = .ok (.putfield 35, 3) := by decide +kernel
theorem dX2_solve_63 : decode cX2_solve 63 = .ok (.return_, 1) := by decide +kernel
set_option maxRecDepth 20000 in
theorem ggX2_fitsInStates_X2_isInPair : GoodIn wsX2_fitsInStates wsX2_isInPair := goodIn_r _ [8, 9, 10, 11, 12, 13, 14, 15, 16, 17, 18, 19, 20, 21, 22, 23, 24, 25, 26] (by decide +kernel) (by decide +kernel)
set_option maxRecDepth 20000 in
theorem gX2_fitsInStates_X2_isInPair : GoodIn wsX2_fitsInStates (va_wsS RX2 69 yX2_isInPair wsX2_isInPair) := goodIn_app (goodIn_of _ (by decide +kernel)) ggX2_fitsInStates_X2_isInPair
theorem dX2_fitsInStates_0 : decode cX2_fitsInStates 0 = .ok (.aload_n 1, 1) := by decide +kernel
theorem dX2_fitsInStates_1 : decode cX2_fitsInStates 1 = .ok (.getfield 39, 3) := by decide +kernel
theorem dX2_fitsInStates_4 : decode cX2_fitsInStates 4 = .ok (.istore_n 2, 1) := by decide +kernel
theorem dX2_fitsInStates_5 : decode cX2_fitsInStates 5 = .ok (.iconst 0, 1) := by decide +kernel
theorem dX2_fitsInStates_6 : decode cX2_fitsInStates 6 = .ok (.istore_n 3, 1) := by decide +kernel
theorem dX2_fitsInStates_7 : decode cX2_fitsInStates 7 = .ok (.iload_n 3, 1) := by decide +kernel
theorem dX2_fitsInStates_8 : decode cX2_fitsInStates 8 = .ok (.aload_n 1, 1) := by decide +kernel
theorem dX2_fitsInStates_9 : decode cX2_fitsInStates 9 = .ok (.getfield 63, 3) := by decide +kernel
theorem dX2_fitsInStates_12 : decode cX2_fitsInStates 12 = .ok (.if_icmp .ge 48, 3) := by decide +kernel
theorem dX2_fitsInStates_15 : decode cX2_fitsInStates 15 = .ok (.iload_n 2, 1) := by decide +kernel
theorem dX2_fitsInStates_16 : decode cX2_fitsInStates 16 = .ok (.ldc 27, 2) := by decide +kernel
theorem dX2_fitsInStates_18 : decode cX2_fitsInStates 18 = .ok (.if_icmp .gt 42, 3) := by decide +kernel
theorem dX2_fitsInStates_21 : decode cX2_fitsInStates 21 = .ok (.aload_n 1, 1) := by decide +kernel
theorem dX2_fitsInStates_22 : decode cX2_fitsInStates 22 = .ok (.getfield 66, 3) := by decide +kernel
theorem dX2_fitsInStates_25 : decode cX2_fitsInStates 25 = .ok (.iload_n 3, 1) := by decide +kernel
theorem dX2_fitsInStates_26 : decode cX2_fitsInStates 26 = .ok (.iaload, 1) := by decide +kernel
theorem dX2_fitsInStates_27 : decode cX2_fitsInStates 27 = .ok (.iconst (-1), 1) := by decide +kernel
theorem dX2_fitsInStates_28 : decode cX2_fitsInStates 28 = .ok (.if_icmp .eq 14, 3) := by decide +kernel
theorem dX2_fitsInStates_31 : decode cX2_fitsInStates 31 = .ok (.iload_n 2, 1) := by decide +kernel
theorem dX2_fitsInStates_32 : decode cX2_fitsInStates 32 = .ok (.aload_n 1, 1) := by decide +kernel
theorem dX2_fitsInStates_33 : decode cX2_fitsInStates 33 = .ok (.getfield 66, 3) := by decide +kernel
theorem dX2_fitsInStates_36 : decode cX2_fitsInStates 36 = .ok (.iload_n 3, 1) := by decide +kernel
theorem dX2_fitsInStates_37 : decode cX2_fitsInStates 37 = .ok (.iaload, 1) := by decide +kernel
theorem dX2_fitsInStates_38 : decode cX2_fitsInStates 38 = .ok (.iconst 1, 1) := by decide +kernel
theorem dX2_fitsInStates_39 : decode cX2_fitsInStates 39 = .ok (.iadd, 1) := by decide +kernel
theorem dX2_fitsInStates_40 : decode cX2_fitsInStates 40 = .ok (.imul, 1) := by decide +kernel
theorem dX2_fitsInStates_41 : decode cX2_fitsInStates 41 = .ok (.istore_n 2, 1) := by decide +kernel
theorem dX2_fitsInStates_42 : decode cX2_fitsInStates 42 = .ok (.aload_n 1, 1) := by decide +kernel
theorem dX2_fitsInStates_43 : decode cX2_fitsInStates 43 = .ok (.iload_n 3, 1) := by decide +kernel
theorem dX2_fitsInStates_44 : decode cX2_fitsInStates 44 = .ok (.invokestatic 69, 3) := by decide +kernel
theorem dX2_fitsInStates_47 : decode cX2_fitsInStates 47 = .ok (.ifCond .eq 7, 3) := by decide +kernel
theorem dX2_fitsInStates_50 : decode cX2_fitsInStates 50 = .ok (.iload_n 2, 1) := by decide +kernel
theorem dX2_fitsInStates_51 : decode cX2_fitsInStates 51 = .ok (.iconst 2, 1) := by decide +kernel
theorem dX2_fitsInStates_52 : decode cX2_fitsInStates 52 = .ok (.imul, 1) := by decide +kernel
theorem dX2_fitsInStates_53 : decode cX2_fitsInStates 53 = .ok (.istore_n 2, 1) := by decide +kernel
theorem dX2_fitsInStates_54 : decode cX2_fitsInStates 54 = .ok (.iinc 3 1, 3) := by decide +kernel
theorem dX2_fitsInStates_57 : decode cX2_fitsInStates 57 = .ok (.goto (-50), 3) := by decide +kernel
theorem dX2_fitsInStates_60 : decode cX2_fitsInStates 60 = .ok (.iload_n 2, 1) := by decide +kernel
theorem dX2_fitsInStates_61 : decode cX2_fitsInStates 61 = .ok (.ldc 27, 2) := by decide +kernel
theorem dX2_fitsInStates_63 : decode cX2_fitsInStates 63 = .ok (.if_icmp .gt 7, 3) := by decide +kernel
theorem dX2_fitsInStates_66 : decode cX2_fitsInStates 66 = .ok (.iconst 1, 1) := by decide +kernel
theorem dX2_fitsInStates_67 : decode cX2_fitsInStates 67 = .ok (.goto 4, 3) := by decide +kernel
theorem dX2_fitsInStates_70 : decode cX2_fitsInStates 70 = .ok (.iconst 0, 1) := by decide +kernel
theorem dX2_fitsInStates_71 : decode cX2_fitsInStates 71 = .ok (.ireturn, 1) := by decide +kernel
theorem dX2_isInPair_0 : decode cX2_isInPair 0 = .ok (.iconst 0, 1) := by decide +kernel
theorem dX2_isInPair_1 : decode cX2_isInPair 1 = .ok (.istore_n 2, 1) := by decide +kernel
theorem dX2_isInPair_2 : decode cX2_isInPair 2 = .ok (.iload_n 2, 1) := by decide +kernel
theorem dX2_isInPair_3 : decode cX2_isInPair 3 = .ok (.aload_n 0, 1) := by decide +kernel
theorem dX2_isInPair_4 : decode cX2_isInPair 4 = .ok (.getfield 73, 3) := by decide +kernel
theorem dX2_isInPair_7 : decode cX2_isInPair 7 = .ok (.if_icmp .ge 31, 3) := by decide +kernel
theorem dX2_isInPair_10 : decode cX2_isInPair 10 = .ok (.aload_n 0, 1) := by decide +kernel
theorem dX2_isInPair_11 : decode cX2_isInPair 11 = .ok (.getfield 76, 3) := by decide +kernel
theorem dX2_isInPair_14 : decode cX2_isInPair 14 = .ok (.iload_n 2, 1) := by decide +kernel
theorem dX2_isInPair_15 : decode cX2_isInPair 15 = .ok (.iaload, 1) := by decide +kernel
theorem dX2_isInPair_16 : decode cX2_isInPair 16 = .ok (.iload_n 1, 1) := by decide +kernel
theorem dX2_isInPair_17 : decode cX2_isInPair 17 = .ok (.if_icmp .eq 13, 3) := by decide +kernel
theorem dX2_isInPair_20 : decode cX2_isInPair 20 = .ok (.aload_n 0, 1) := by decide +kernel
theorem dX2_isInPair_21 : decode cX2_isInPair 21 = .ok (.getfield 79, 3) := by decide +kernel
theorem dX2_isInPair_24 : decode cX2_isInPair 24 = .ok (.iload_n 2, 1) := by decide +kernel
theorem dX2_isInPair_25 : decode cX2_isInPair 25 = .ok (.iaload, 1) := by decide +kernel
theorem dX2_isInPair_26 : decode cX2_isInPair 26 = .ok (.iload_n 1, 1) := by decide +kernel
theorem dX2_isInPair_27 : decode cX2_isInPair 27 = .ok (.if_icmp .ne 5, 3) := by decide +kernel
theorem dX2_isInPair_30 : decode cX2_isInPair 30 = .ok (.iconst 1, 1) := by decide +kernel
theorem dX2_isInPair_31 : decode cX2_isInPair 31 = .ok (.ireturn, 1) := by decide +kernel
theorem dX2_isInPair_32 : decode cX2_isInPair 32 = .ok (.iinc 2 1, 3) := by decide +kernel
theorem dX2_isInPair_35 : decode cX2_isInPair 35 = .ok (.goto (-33), 3) := by decide +kernel
theorem dX2_isInPair_38 : decode cX2_isInPair 38 = .ok (.iconst 0, 1) := by decide +kernel
theorem dX2_isInPair_39 : decode cX2_isInPair 39 = .ok (.ireturn, 1) := by decide +kernel
set_option maxRecDepth 20000 in
theorem ggX2_orderBlocks_X2_countArriving : GoodIn wsX2_orderBlocks wsX2_countArriving := goodIn_r _ [15, 4, 16, 8, 3, 17, 9, 18, 19, 20, 21, 26, 27, 28, 29, 30, 31, 32, 33, 34, 35, 36, 37, 38, 39, 40, 41, 42, 43, 44, 45, 46, 47, 48, 49, 50, 51, 52, 53, 54, 55, 56, 57, 58, 59, 60, 61, 62, 63] (by decide +kernel) (by decide +kernel)
set_option maxRecDepth 20000 in
theorem gX2_orderBlocks_X2_countArriving : GoodIn wsX2_orderBlocks (wsV RX2 82 RX2 yX2_countArriving wsX2_countArriving) := goodIn_app (goodIn_of _ (by decide +kernel)) ggX2_orderBlocks_X2_countArriving
set_option maxRecDepth 20000 in
theorem ggX2_orderBlocks_X2_putInOrder : GoodIn wsX2_orderBlocks wsX2_putInOrder := goodIn_r _ [25, 1, 5, 26, 27, 28, 29, 30, 31, 32, 33, 34, 35] (by decide +kernel) (by decide +kernel)
set_option maxRecDepth 20000 in
theorem gX2_orderBlocks_X2_putInOrder : GoodIn wsX2_orderBlocks (wsV RX2 94 RX2 yX2_putInOrder wsX2_putInOrder) := goodIn_app (goodIn_of _ (by decide +kernel)) ggX2_orderBlocks_X2_putInOrder
theorem dX2_orderBlocks_0 : decode cX2_orderBlocks 0 = .ok (.aload_n 0, 1) := by decide +kernel
theorem dX2_orderBlocks_1 : decode cX2_orderBlocks 1 = .ok (.aload_n 1, 1) := by decide +kernel
theorem dX2_orderBlocks_2 : decode cX2_orderBlocks 2 = .ok (.aload_n 2, 1) := by decide +kernel
theorem dX2_orderBlocks_3 : decode cX2_orderBlocks 3 = .ok (.invokevirtual 82, 3) := by decide +kernel
theorem dX2_orderBlocks_6 : decode cX2_orderBlocks 6 = .ok (.aload_n 0, 1) := by decide +kernel
theorem dX2_orderBlocks_7 : decode cX2_orderBlocks 7 = .ok (.iconst 0, 1) := by decide +kernel
theorem dX2_orderBlocks_8 : decode cX2_orderBlocks 8 = .ok (.putfield 85, 3) := by decide +kernel
theorem dX2_orderBlocks_11 : decode cX2_orderBlocks 11 = .ok (.iconst 0, 1) := by decide +kernel
theorem dX2_orderBlocks_12 : decode cX2_orderBlocks 12 = .ok (.istore_n 3, 1) := by decide +kernel
theorem dX2_orderBlocks_13 : decode cX2_orderBlocks 13 = .ok (.iload_n 3, 1) := by decide +kernel
theorem dX2_orderBlocks_14 : decode cX2_orderBlocks 14 = .ok (.aload_n 1, 1) := by decide +kernel
theorem dX2_orderBlocks_15 : decode cX2_orderBlocks 15 = .ok (.getfield 39, 3) := by decide +kernel
theorem dX2_orderBlocks_18 : decode cX2_orderBlocks 18 = .ok (.if_icmp .ge 32, 3) := by decide +kernel
theorem dX2_orderBlocks_21 : decode cX2_orderBlocks 21 = .ok (.aload_n 2, 1) := by decide +kernel
theorem dX2_orderBlocks_22 : decode cX2_orderBlocks 22 = .ok (.getfield 88, 3) := by decide +kernel
theorem dX2_orderBlocks_25 : decode cX2_orderBlocks 25 = .ok (.iload_n 3, 1) := by decide +kernel
theorem dX2_orderBlocks_26 : decode cX2_orderBlocks 26 = .ok (.baload, 1) := by decide +kernel
theorem dX2_orderBlocks_27 : decode cX2_orderBlocks 27 = .ok (.ifCond .eq 17, 3) := by decide +kernel
theorem dX2_orderBlocks_30 : decode cX2_orderBlocks 30 = .ok (.aload_n 0, 1) := by decide +kernel
theorem dX2_orderBlocks_31 : decode cX2_orderBlocks 31 = .ok (.getfield 15, 3) := by decide +kernel
theorem dX2_orderBlocks_34 : decode cX2_orderBlocks 34 = .ok (.iload_n 3, 1) := by decide +kernel
theorem dX2_orderBlocks_35 : decode cX2_orderBlocks 35 = .ok (.iaload, 1) := by decide +kernel
theorem dX2_orderBlocks_36 : decode cX2_orderBlocks 36 = .ok (.ifCond .ne 8, 3) := by decide +kernel
theorem dX2_orderBlocks_39 : decode cX2_orderBlocks 39 = .ok (.aload_n 0, 1) := by decide +kernel
theorem dX2_orderBlocks_40 : decode cX2_orderBlocks 40 = .ok (.iload_n 3, 1) := by decide +kernel
theorem dX2_orderBlocks_41 : decode cX2_orderBlocks 41 = .ok (.invokevirtual 94, 3) := by decide +kernel
theorem dX2_orderBlocks_44 : decode cX2_orderBlocks 44 = .ok (.iinc 3 1, 3) := by decide +kernel
theorem dX2_orderBlocks_47 : decode cX2_orderBlocks 47 = .ok (.goto (-34), 3) := by decide +kernel
theorem dX2_orderBlocks_50 : decode cX2_orderBlocks 50 = .ok (.iconst 0, 1) := by decide +kernel
theorem dX2_orderBlocks_51 : decode cX2_orderBlocks 51 = .ok (.istore_n 3, 1) := by decide +kernel
theorem dX2_orderBlocks_52 : decode cX2_orderBlocks 52 = .ok (.iload_n 3, 1) := by decide +kernel
theorem dX2_orderBlocks_53 : decode cX2_orderBlocks 53 = .ok (.aload_n 0, 1) := by decide +kernel
theorem dX2_orderBlocks_54 : decode cX2_orderBlocks 54 = .ok (.getfield 85, 3) := by decide +kernel
theorem dX2_orderBlocks_57 : decode cX2_orderBlocks 57 = .ok (.if_icmp .ge 114, 3) := by decide +kernel
theorem dX2_orderBlocks_60 : decode cX2_orderBlocks 60 = .ok (.iload_n 3, 1) := by decide +kernel
theorem dX2_orderBlocks_61 : decode cX2_orderBlocks 61 = .ok (.bipush 40, 2) := by decide +kernel
theorem dX2_orderBlocks_63 : decode cX2_orderBlocks 63 = .ok (.if_icmp .ge 108, 3) := by decide +kernel
theorem dX2_orderBlocks_66 : decode cX2_orderBlocks 66 = .ok (.aload_n 0, 1) := by decide +kernel
theorem dX2_orderBlocks_67 : decode cX2_orderBlocks 67 = .ok (.getfield 9, 3) := by decide +kernel
theorem dX2_orderBlocks_70 : decode cX2_orderBlocks 70 = .ok (.iload_n 3, 1) := by decide +kernel
theorem dX2_orderBlocks_71 : decode cX2_orderBlocks 71 = .ok (.iaload, 1) := by decide +kernel
theorem dX2_orderBlocks_72 : decode cX2_orderBlocks 72 = .ok (.istore 4, 2) := by decide +kernel
theorem dX2_orderBlocks_74 : decode cX2_orderBlocks 74 = .ok (.aload_n 1, 1) := by decide +kernel
theorem dX2_orderBlocks_75 : decode cX2_orderBlocks 75 = .ok (.getfield 98, 3) := by decide +kernel
theorem dX2_orderBlocks_78 : decode cX2_orderBlocks 78 = .ok (.iload 4, 2) := by decide +kernel
theorem dX2_orderBlocks_80 : decode cX2_orderBlocks 80 = .ok (.iaload, 1) := by decide +kernel
theorem dX2_orderBlocks_81 : decode cX2_orderBlocks 81 = .ok (.istore 5, 2) := by decide +kernel
theorem dX2_orderBlocks_83 : decode cX2_orderBlocks 83 = .ok (.iload 5, 2) := by decide +kernel
theorem dX2_orderBlocks_85 : decode cX2_orderBlocks 85 = .ok (.aload_n 1, 1) := by decide +kernel
theorem dX2_orderBlocks_86 : decode cX2_orderBlocks 86 = .ok (.getfield 98, 3) := by decide +kernel
theorem dX2_orderBlocks_89 : decode cX2_orderBlocks 89 = .ok (.iload 4, 2) := by decide +kernel
theorem dX2_orderBlocks_91 : decode cX2_orderBlocks 91 = .ok (.iconst 1, 1) := by decide +kernel
theorem dX2_orderBlocks_92 : decode cX2_orderBlocks 92 = .ok (.iadd, 1) := by decide +kernel
theorem dX2_orderBlocks_93 : decode cX2_orderBlocks 93 = .ok (.iaload, 1) := by decide +kernel
theorem dX2_orderBlocks_94 : decode cX2_orderBlocks 94 = .ok (.if_icmp .ge 71, 3) := by decide +kernel
theorem dX2_orderBlocks_97 : decode cX2_orderBlocks 97 = .ok (.aload_n 1, 1) := by decide +kernel
theorem dX2_orderBlocks_98 : decode cX2_orderBlocks 98 = .ok (.getfield 101, 3) := by decide +kernel
theorem dX2_orderBlocks_101 : decode cX2_orderBlocks 101 = .ok (.iload 5, 2) := by decide +kernel
theorem dX2_orderBlocks_103 : decode cX2_orderBlocks 103 = .ok (.iaload, 1) := by decide +kernel
theorem dX2_orderBlocks_104 : decode cX2_orderBlocks 104 = .ok (.istore 6, 2) := by decide +kernel
theorem dX2_orderBlocks_106 : decode cX2_orderBlocks 106 = .ok (.aload_n 1, 1) := by decide +kernel
theorem dX2_orderBlocks_107 : decode cX2_orderBlocks 107 = .ok (.getfield 66, 3) := by decide +kernel
theorem dX2_orderBlocks_110 : decode cX2_orderBlocks 110 = .ok (.iload 6, 2) := by decide +kernel
theorem dX2_orderBlocks_112 : decode cX2_orderBlocks 112 = .ok (.iaload, 1) := by decide +kernel
theorem dX2_orderBlocks_113 : decode cX2_orderBlocks 113 = .ok (.iconst (-1), 1) := by decide +kernel
theorem dX2_orderBlocks_114 : decode cX2_orderBlocks 114 = .ok (.if_icmp .ne 45, 3) := by decide +kernel
theorem dX2_orderBlocks_117 : decode cX2_orderBlocks 117 = .ok (.aload_n 0, 1) := by decide +kernel
theorem dX2_orderBlocks_118 : decode cX2_orderBlocks 118 = .ok (.getfield 15, 3) := by decide +kernel
theorem dX2_orderBlocks_121 : decode cX2_orderBlocks 121 = .ok (.aload_n 1, 1) := by decide +kernel
theorem dX2_orderBlocks_122 : decode cX2_orderBlocks 122 = .ok (.getfield 104, 3) := by decide +kernel
theorem dX2_orderBlocks_125 : decode cX2_orderBlocks 125 = .ok (.iload 6, 2) := by decide +kernel
theorem dX2_orderBlocks_127 : decode cX2_orderBlocks 127 = .ok (.iaload, 1) := by decide +kernel
theorem dX2_orderBlocks_128 : decode cX2_orderBlocks 128 = .ok (.dup2, 1) := by decide +kernel
theorem dX2_orderBlocks_129 : decode cX2_orderBlocks 129 = .ok (.iaload, 1) := by decide +kernel
theorem dX2_orderBlocks_130 : decode cX2_orderBlocks 130 = .ok (.iconst 1, 1) := by decide +kernel
theorem dX2_orderBlocks_131 : decode cX2_orderBlocks 131 = .ok (.isub, 1) := by decide +kernel
theorem dX2_orderBlocks_132 : decode cX2_orderBlocks 132 = .ok (.iastore, 1) := by decide +kernel
theorem dX2_orderBlocks_133 : decode cX2_orderBlocks 133 = .ok (.aload_n 0, 1) := by decide +kernel
theorem dX2_orderBlocks_134 : decode cX2_orderBlocks 134 = .ok (.getfield 15, 3) := by decide +kernel
theorem dX2_orderBlocks_137 : decode cX2_orderBlocks 137 = .ok (.aload_n 1, 1) := by decide +kernel
theorem dX2_orderBlocks_138 : decode cX2_orderBlocks 138 = .ok (.getfield 104, 3) := by decide +kernel
theorem dX2_orderBlocks_141 : decode cX2_orderBlocks 141 = .ok (.iload 6, 2) := by decide +kernel
theorem dX2_orderBlocks_143 : decode cX2_orderBlocks 143 = .ok (.iaload, 1) := by decide +kernel
theorem dX2_orderBlocks_144 : decode cX2_orderBlocks 144 = .ok (.iaload, 1) := by decide +kernel
theorem dX2_orderBlocks_145 : decode cX2_orderBlocks 145 = .ok (.ifCond .ne 14, 3) := by decide +kernel
theorem dX2_orderBlocks_148 : decode cX2_orderBlocks 148 = .ok (.aload_n 0, 1) := by decide +kernel
theorem dX2_orderBlocks_149 : decode cX2_orderBlocks 149 = .ok (.aload_n 1, 1) := by decide +kernel
theorem dX2_orderBlocks_150 : decode cX2_orderBlocks 150 = .ok (.getfield 104, 3) := by decide +kernel
theorem dX2_orderBlocks_153 : decode cX2_orderBlocks 153 = .ok (.iload 6, 2) := by decide +kernel
theorem dX2_orderBlocks_155 : decode cX2_orderBlocks 155 = .ok (.iaload, 1) := by decide +kernel
theorem dX2_orderBlocks_156 : decode cX2_orderBlocks 156 = .ok (.invokevirtual 94, 3) := by decide +kernel
theorem dX2_orderBlocks_159 : decode cX2_orderBlocks 159 = .ok (.iinc 5 1, 3) := by decide +kernel
theorem dX2_orderBlocks_162 : decode cX2_orderBlocks 162 = .ok (.goto (-79), 3) := by decide +kernel
theorem dX2_orderBlocks_165 : decode cX2_orderBlocks 165 = .ok (.iinc 3 1, 3) := by decide +kernel
theorem dX2_orderBlocks_168 : decode cX2_orderBlocks 168 = .ok (.goto (-116), 3) := by decide +kernel
theorem dX2_orderBlocks_171 : decode cX2_orderBlocks 171 = .ok (.aload_n 0, 1) := by decide +kernel
theorem dX2_orderBlocks_172 : decode cX2_orderBlocks 172 = .ok (.getfield 85, 3) := by decide +kernel
theorem dX2_orderBlocks_175 : decode cX2_orderBlocks 175 = .ok (.aload_n 2, 1) := by decide +kernel
theorem dX2_orderBlocks_176 : decode cX2_orderBlocks 176 = .ok (.getfield 107, 3) := by decide +kernel
theorem dX2_orderBlocks_179 : decode cX2_orderBlocks 179 = .ok (.if_icmp .ne 7, 3) := by decide +kernel
theorem dX2_orderBlocks_182 : decode cX2_orderBlocks 182 = .ok (.iconst 1, 1) := by decide +kernel
theorem dX2_orderBlocks_183 : decode cX2_orderBlocks 183 = .ok (.goto 4, 3) := by decide +kernel
theorem dX2_orderBlocks_186 : decode cX2_orderBlocks 186 = .ok (.iconst 0, 1) := by decide +kernel
theorem dX2_orderBlocks_187 : decode cX2_orderBlocks 187 = .ok (.ireturn, 1) := by decide +kernel
set_option maxRecDepth 20000 in
theorem ggX2_countArriving_J7_fill_53178 : GoodIn wsX2_countArriving wsJ7_fill_53178 := goodIn_r _ [10] (by decide +kernel) (by decide +kernel)
set_option maxRecDepth 20000 in
theorem gX2_countArriving_J7_fill_53178 : GoodIn wsX2_countArriving (va_wsS RX2 110 yJ7_fill_53178 wsJ7_fill_53178) := goodIn_app (goodIn_of _ (by decide +kernel)) ggX2_countArriving_J7_fill_53178
theorem dX2_countArriving_0 : decode cX2_countArriving 0 = .ok (.aload_n 0, 1) := by decide +kernel
theorem dX2_countArriving_1 : decode cX2_countArriving 1 = .ok (.getfield 15, 3) := by decide +kernel
theorem dX2_countArriving_4 : decode cX2_countArriving 4 = .ok (.iconst 0, 1) := by decide +kernel
theorem dX2_countArriving_5 : decode cX2_countArriving 5 = .ok (.invokestatic 110, 3) := by decide +kernel
theorem dX2_countArriving_8 : decode cX2_countArriving 8 = .ok (.iconst 0, 1) := by decide +kernel
theorem dX2_countArriving_9 : decode cX2_countArriving 9 = .ok (.istore_n 3, 1) := by decide +kernel
theorem dX2_countArriving_10 : decode cX2_countArriving 10 = .ok (.iload_n 3, 1) := by decide +kernel
theorem dX2_countArriving_11 : decode cX2_countArriving 11 = .ok (.aload_n 1, 1) := by decide +kernel
theorem dX2_countArriving_12 : decode cX2_countArriving 12 = .ok (.getfield 63, 3) := by decide +kernel
theorem dX2_countArriving_15 : decode cX2_countArriving 15 = .ok (.if_icmp .ge 48, 3) := by decide +kernel
theorem dX2_countArriving_18 : decode cX2_countArriving 18 = .ok (.aload_n 1, 1) := by decide +kernel
theorem dX2_countArriving_19 : decode cX2_countArriving 19 = .ok (.getfield 66, 3) := by decide +kernel
theorem dX2_countArriving_22 : decode cX2_countArriving 22 = .ok (.iload_n 3, 1) := by decide +kernel
theorem dX2_countArriving_23 : decode cX2_countArriving 23 = .ok (.iaload, 1) := by decide +kernel
theorem dX2_countArriving_24 : decode cX2_countArriving 24 = .ok (.iconst (-1), 1) := by decide +kernel
theorem dX2_countArriving_25 : decode cX2_countArriving 25 = .ok (.if_icmp .ne 32, 3) := by decide +kernel
theorem dX2_countArriving_28 : decode cX2_countArriving 28 = .ok (.aload_n 2, 1) := by decide +kernel
theorem dX2_countArriving_29 : decode cX2_countArriving 29 = .ok (.getfield 88, 3) := by decide +kernel
theorem dX2_countArriving_32 : decode cX2_countArriving 32 = .ok (.aload_n 1, 1) := by decide +kernel
theorem dX2_countArriving_33 : decode cX2_countArriving 33 = .ok (.getfield 116, 3) := by decide +kernel
theorem dX2_countArriving_36 : decode cX2_countArriving 36 = .ok (.iload_n 3, 1) := by decide +kernel
theorem dX2_countArriving_37 : decode cX2_countArriving 37 = .ok (.iaload, 1) := by decide +kernel
theorem dX2_countArriving_38 : decode cX2_countArriving 38 = .ok (.baload, 1) := by decide +kernel
theorem dX2_countArriving_39 : decode cX2_countArriving 39 = .ok (.ifCond .eq 18, 3) := by decide +kernel
theorem dX2_countArriving_42 : decode cX2_countArriving 42 = .ok (.aload_n 0, 1) := by decide +kernel
theorem dX2_countArriving_43 : decode cX2_countArriving 43 = .ok (.getfield 15, 3) := by decide +kernel
theorem dX2_countArriving_46 : decode cX2_countArriving 46 = .ok (.aload_n 1, 1) := by decide +kernel
theorem dX2_countArriving_47 : decode cX2_countArriving 47 = .ok (.getfield 104, 3) := by decide +kernel
theorem dX2_countArriving_50 : decode cX2_countArriving 50 = .ok (.iload_n 3, 1) := by decide +kernel
theorem dX2_countArriving_51 : decode cX2_countArriving 51 = .ok (.iaload, 1) := by decide +kernel
theorem dX2_countArriving_52 : decode cX2_countArriving 52 = .ok (.dup2, 1) := by decide +kernel
theorem dX2_countArriving_53 : decode cX2_countArriving 53 = .ok (.iaload, 1) := by decide +kernel
theorem dX2_countArriving_54 : decode cX2_countArriving 54 = .ok (.iconst 1, 1) := by decide +kernel
theorem dX2_countArriving_55 : decode cX2_countArriving 55 = .ok (.iadd, 1) := by decide +kernel
theorem dX2_countArriving_56 : decode cX2_countArriving 56 = .ok (.iastore, 1) := by decide +kernel
theorem dX2_countArriving_57 : decode cX2_countArriving 57 = .ok (.iinc 3 1, 3) := by decide +kernel
theorem dX2_countArriving_60 : decode cX2_countArriving 60 = .ok (.goto (-50), 3) := by decide +kernel
theorem dX2_countArriving_63 : decode cX2_countArriving 63 = .ok (.return_, 1) := by decide +kernel
theorem dX2_putInOrder_0 : decode cX2_putInOrder 0 = .ok (.aload_n 0, 1) := by decide +kernel
theorem dX2_putInOrder_1 : decode cX2_putInOrder 1 = .ok (.getfield 85, 3) := by decide +kernel
theorem dX2_putInOrder_4 : decode cX2_putInOrder 4 = .ok (.bipush 40, 2) := by decide +kernel
theorem dX2_putInOrder_6 : decode cX2_putInOrder 6 = .ok (.if_icmp .ge 23, 3) := by decide +kernel
theorem dX2_putInOrder_9 : decode cX2_putInOrder 9 = .ok (.aload_n 0, 1) := by decide +kernel
theorem dX2_putInOrder_10 : decode cX2_putInOrder 10 = .ok (.getfield 9, 3) := by decide +kernel
theorem dX2_putInOrder_13 : decode cX2_putInOrder 13 = .ok (.aload_n 0, 1) := by decide +kernel
theorem dX2_putInOrder_14 : decode cX2_putInOrder 14 = .ok (.getfield 85, 3) := by decide +kernel
theorem dX2_putInOrder_17 : decode cX2_putInOrder 17 = .ok (.iload_n 1, 1) := by decide +kernel
theorem dX2_putInOrder_18 : decode cX2_putInOrder 18 = .ok (.iastore, 1) := by decide +kernel
theorem dX2_putInOrder_19 : decode cX2_putInOrder 19 = .ok (.aload_n 0, 1) := by decide +kernel
theorem dX2_putInOrder_20 : decode cX2_putInOrder 20 = .ok (.dup, 1) := by decide +kernel
theorem dX2_putInOrder_21 : decode cX2_putInOrder 21 = .ok (.getfield 85, 3) := by decide +kernel
theorem dX2_putInOrder_24 : decode cX2_putInOrder 24 = .ok (.iconst 1, 1) := by decide +kernel
theorem dX2_putInOrder_25 : decode cX2_putInOrder 25 = .ok (.iadd, 1) := by decide +kernel
theorem dX2_putInOrder_26 : decode cX2_putInOrder 26 = .ok (.putfield 85, 3) := by decide +kernel
theorem dX2_putInOrder_29 : decode cX2_putInOrder 29 = .ok (.return_, 1) := by decide +kernel
set_option maxRecDepth 20000 in
theorem ggX2_layOutCode_J7_fill_53178 : GoodIn wsX2_layOutCode wsJ7_fill_53178 := goodIn_r _ [13] (by decide +kernel) (by decide +kernel)
set_option maxRecDepth 20000 in
theorem gX2_layOutCode_J7_fill_53178 : GoodIn wsX2_layOutCode (va_wsS RX2 110 yJ7_fill_53178 wsJ7_fill_53178) := goodIn_app (goodIn_of _ (by decide +kernel)) ggX2_layOutCode_J7_fill_53178
set_option maxRecDepth 20000 in
theorem ggX2_layOutCode_X2_isInPair : GoodIn wsX2_layOutCode wsX2_isInPair := goodIn_r _ [17, 6, 7, 8, 28, 29, 30, 31, 32, 33, 34, 35, 36, 37, 38, 39, 40, 41, 42] (by decide +kernel) (by decide +kernel)
set_option maxRecDepth 20000 in
theorem gX2_layOutCode_X2_isInPair : GoodIn wsX2_layOutCode (va_wsS RX2 69 yX2_isInPair wsX2_isInPair) := goodIn_app (goodIn_of _ (by decide +kernel)) ggX2_layOutCode_X2_isInPair
theorem dX2_layOutCode_0 : decode cX2_layOutCode 0 = .ok (.aload_n 0, 1) := by decide +kernel
theorem dX2_layOutCode_1 : decode cX2_layOutCode 1 = .ok (.getfield 18, 3) := by decide +kernel
theorem dX2_layOutCode_4 : decode cX2_layOutCode 4 = .ok (.iconst 0, 1) := by decide +kernel
theorem dX2_layOutCode_5 : decode cX2_layOutCode 5 = .ok (.invokestatic 110, 3) := by decide +kernel
theorem dX2_layOutCode_8 : decode cX2_layOutCode 8 = .ok (.aload_n 0, 1) := by decide +kernel
theorem dX2_layOutCode_9 : decode cX2_layOutCode 9 = .ok (.getfield 21, 3) := by decide +kernel
theorem dX2_layOutCode_12 : decode cX2_layOutCode 12 = .ok (.iconst 0, 1) := by decide +kernel
theorem dX2_layOutCode_13 : decode cX2_layOutCode 13 = .ok (.invokestatic 110, 3) := by decide +kernel
theorem dX2_layOutCode_16 : decode cX2_layOutCode 16 = .ok (.aload_n 0, 1) := by decide +kernel
theorem dX2_layOutCode_17 : decode cX2_layOutCode 17 = .ok (.getfield 24, 3) := by decide +kernel
theorem dX2_layOutCode_20 : decode cX2_layOutCode 20 = .ok (.iconst 0, 1) := by decide +kernel
theorem dX2_layOutCode_21 : decode cX2_layOutCode 21 = .ok (.invokestatic 110, 3) := by decide +kernel
theorem dX2_layOutCode_24 : decode cX2_layOutCode 24 = .ok (.aload_n 0, 1) := by decide +kernel
theorem dX2_layOutCode_25 : decode cX2_layOutCode 25 = .ok (.iconst 1, 1) := by decide +kernel
theorem dX2_layOutCode_26 : decode cX2_layOutCode 26 = .ok (.putfield 119, 3) := by decide +kernel
theorem dX2_layOutCode_29 : decode cX2_layOutCode 29 = .ok (.iconst 0, 1) := by decide +kernel
theorem dX2_layOutCode_30 : decode cX2_layOutCode 30 = .ok (.istore_n 2, 1) := by decide +kernel
theorem dX2_layOutCode_31 : decode cX2_layOutCode 31 = .ok (.iload_n 2, 1) := by decide +kernel
theorem dX2_layOutCode_32 : decode cX2_layOutCode 32 = .ok (.aload_n 1, 1) := by decide +kernel
theorem dX2_layOutCode_33 : decode cX2_layOutCode 33 = .ok (.getfield 63, 3) := by decide +kernel
theorem dX2_layOutCode_36 : decode cX2_layOutCode 36 = .ok (.if_icmp .ge 37, 3) := by decide +kernel
theorem dX2_layOutCode_39 : decode cX2_layOutCode 39 = .ok (.aload_n 1, 1) := by decide +kernel
theorem dX2_layOutCode_40 : decode cX2_layOutCode 40 = .ok (.iload_n 2, 1) := by decide +kernel
theorem dX2_layOutCode_41 : decode cX2_layOutCode 41 = .ok (.invokestatic 69, 3) := by decide +kernel
theorem dX2_layOutCode_44 : decode cX2_layOutCode 44 = .ok (.ifCond .eq 23, 3) := by decide +kernel
theorem dX2_layOutCode_47 : decode cX2_layOutCode 47 = .ok (.aload_n 0, 1) := by decide +kernel
theorem dX2_layOutCode_48 : decode cX2_layOutCode 48 = .ok (.getfield 21, 3) := by decide +kernel
theorem dX2_layOutCode_51 : decode cX2_layOutCode 51 = .ok (.iload_n 2, 1) := by decide +kernel
theorem dX2_layOutCode_52 : decode cX2_layOutCode 52 = .ok (.aload_n 0, 1) := by decide +kernel
theorem dX2_layOutCode_53 : decode cX2_layOutCode 53 = .ok (.getfield 119, 3) := by decide +kernel
theorem dX2_layOutCode_56 : decode cX2_layOutCode 56 = .ok (.iastore, 1) := by decide +kernel
theorem dX2_layOutCode_57 : decode cX2_layOutCode 57 = .ok (.aload_n 0, 1) := by decide +kernel
theorem dX2_layOutCode_58 : decode cX2_layOutCode 58 = .ok (.dup, 1) := by decide +kernel
theorem dX2_layOutCode_59 : decode cX2_layOutCode 59 = .ok (.getfield 119, 3) := by decide +kernel
theorem dX2_layOutCode_62 : decode cX2_layOutCode 62 = .ok (.iconst 2, 1) := by decide +kernel
theorem dX2_layOutCode_63 : decode cX2_layOutCode 63 = .ok (.imul, 1) := by decide +kernel
theorem dX2_layOutCode_64 : decode cX2_layOutCode 64 = .ok (.putfield 119, 3) := by decide +kernel
theorem dX2_layOutCode_67 : decode cX2_layOutCode 67 = .ok (.iinc 2 1, 3) := by decide +kernel
theorem dX2_layOutCode_70 : decode cX2_layOutCode 70 = .ok (.goto (-39), 3) := by decide +kernel
theorem dX2_layOutCode_73 : decode cX2_layOutCode 73 = .ok (.iconst 0, 1) := by decide +kernel
theorem dX2_layOutCode_74 : decode cX2_layOutCode 74 = .ok (.istore_n 2, 1) := by decide +kernel
theorem dX2_layOutCode_75 : decode cX2_layOutCode 75 = .ok (.iload_n 2, 1) := by decide +kernel
theorem dX2_layOutCode_76 : decode cX2_layOutCode 76 = .ok (.aload_n 1, 1) := by decide +kernel
theorem dX2_layOutCode_77 : decode cX2_layOutCode 77 = .ok (.getfield 73, 3) := by decide +kernel
theorem dX2_layOutCode_80 : decode cX2_layOutCode 80 = .ok (.if_icmp .ge 59, 3) := by decide +kernel
theorem dX2_layOutCode_83 : decode cX2_layOutCode 83 = .ok (.aload_n 0, 1) := by decide +kernel
theorem dX2_layOutCode_84 : decode cX2_layOutCode 84 = .ok (.getfield 24, 3) := by decide +kernel
theorem dX2_layOutCode_87 : decode cX2_layOutCode 87 = .ok (.aload_n 1, 1) := by decide +kernel
theorem dX2_layOutCode_88 : decode cX2_layOutCode 88 = .ok (.getfield 76, 3) := by decide +kernel
theorem dX2_layOutCode_91 : decode cX2_layOutCode 91 = .ok (.iload_n 2, 1) := by decide +kernel
theorem dX2_layOutCode_92 : decode cX2_layOutCode 92 = .ok (.iaload, 1) := by decide +kernel
theorem dX2_layOutCode_93 : decode cX2_layOutCode 93 = .ok (.dup2, 1) := by decide +kernel
theorem dX2_layOutCode_94 : decode cX2_layOutCode 94 = .ok (.iaload, 1) := by decide +kernel
theorem dX2_layOutCode_95 : decode cX2_layOutCode 95 = .ok (.aload_n 0, 1) := by decide +kernel
theorem dX2_layOutCode_96 : decode cX2_layOutCode 96 = .ok (.getfield 21, 3) := by decide +kernel
theorem dX2_layOutCode_99 : decode cX2_layOutCode 99 = .ok (.aload_n 1, 1) := by decide +kernel
theorem dX2_layOutCode_100 : decode cX2_layOutCode 100 = .ok (.getfield 79, 3) := by decide +kernel
theorem dX2_layOutCode_103 : decode cX2_layOutCode 103 = .ok (.iload_n 2, 1) := by decide +kernel
theorem dX2_layOutCode_104 : decode cX2_layOutCode 104 = .ok (.iaload, 1) := by decide +kernel
theorem dX2_layOutCode_105 : decode cX2_layOutCode 105 = .ok (.iaload, 1) := by decide +kernel
theorem dX2_layOutCode_106 : decode cX2_layOutCode 106 = .ok (.ior, 1) := by decide +kernel
theorem dX2_layOutCode_107 : decode cX2_layOutCode 107 = .ok (.iastore, 1) := by decide +kernel
theorem dX2_layOutCode_108 : decode cX2_layOutCode 108 = .ok (.aload_n 0, 1) := by decide +kernel
theorem dX2_layOutCode_109 : decode cX2_layOutCode 109 = .ok (.getfield 24, 3) := by decide +kernel
theorem dX2_layOutCode_112 : decode cX2_layOutCode 112 = .ok (.aload_n 1, 1) := by decide +kernel
theorem dX2_layOutCode_113 : decode cX2_layOutCode 113 = .ok (.getfield 79, 3) := by decide +kernel
theorem dX2_layOutCode_116 : decode cX2_layOutCode 116 = .ok (.iload_n 2, 1) := by decide +kernel
theorem dX2_layOutCode_117 : decode cX2_layOutCode 117 = .ok (.iaload, 1) := by decide +kernel
theorem dX2_layOutCode_118 : decode cX2_layOutCode 118 = .ok (.dup2, 1) := by decide +kernel
theorem dX2_layOutCode_119 : decode cX2_layOutCode 119 = .ok (.iaload, 1) := by decide +kernel
theorem dX2_layOutCode_120 : decode cX2_layOutCode 120 = .ok (.aload_n 0, 1) := by decide +kernel
theorem dX2_layOutCode_121 : decode cX2_layOutCode 121 = .ok (.getfield 21, 3) := by decide +kernel
theorem dX2_layOutCode_124 : decode cX2_layOutCode 124 = .ok (.aload_n 1, 1) := by decide +kernel
theorem dX2_layOutCode_125 : decode cX2_layOutCode 125 = .ok (.getfield 76, 3) := by decide +kernel
theorem dX2_layOutCode_128 : decode cX2_layOutCode 128 = .ok (.iload_n 2, 1) := by decide +kernel
theorem dX2_layOutCode_129 : decode cX2_layOutCode 129 = .ok (.iaload, 1) := by decide +kernel
theorem dX2_layOutCode_130 : decode cX2_layOutCode 130 = .ok (.iaload, 1) := by decide +kernel
theorem dX2_layOutCode_131 : decode cX2_layOutCode 131 = .ok (.ior, 1) := by decide +kernel
theorem dX2_layOutCode_132 : decode cX2_layOutCode 132 = .ok (.iastore, 1) := by decide +kernel
theorem dX2_layOutCode_133 : decode cX2_layOutCode 133 = .ok (.iinc 2 1, 3) := by decide +kernel
theorem dX2_layOutCode_136 : decode cX2_layOutCode 136 = .ok (.goto (-61), 3) := by decide +kernel
theorem dX2_layOutCode_139 : decode cX2_layOutCode 139 = .ok (.iconst 0, 1) := by decide +kernel
theorem dX2_layOutCode_140 : decode cX2_layOutCode 140 = .ok (.istore_n 2, 1) := by decide +kernel
theorem dX2_layOutCode_141 : decode cX2_layOutCode 141 = .ok (.iload_n 2, 1) := by decide +kernel
theorem dX2_layOutCode_142 : decode cX2_layOutCode 142 = .ok (.aload_n 1, 1) := by decide +kernel
theorem dX2_layOutCode_143 : decode cX2_layOutCode 143 = .ok (.getfield 63, 3) := by decide +kernel
theorem dX2_layOutCode_146 : decode cX2_layOutCode 146 = .ok (.if_icmp .ge 45, 3) := by decide +kernel
theorem dX2_layOutCode_149 : decode cX2_layOutCode 149 = .ok (.aload_n 1, 1) := by decide +kernel
theorem dX2_layOutCode_150 : decode cX2_layOutCode 150 = .ok (.getfield 66, 3) := by decide +kernel
theorem dX2_layOutCode_153 : decode cX2_layOutCode 153 = .ok (.iload_n 2, 1) := by decide +kernel
theorem dX2_layOutCode_154 : decode cX2_layOutCode 154 = .ok (.iaload, 1) := by decide +kernel
theorem dX2_layOutCode_155 : decode cX2_layOutCode 155 = .ok (.ifCond .le 30, 3) := by decide +kernel
theorem dX2_layOutCode_158 : decode cX2_layOutCode 158 = .ok (.aload_n 0, 1) := by decide +kernel
theorem dX2_layOutCode_159 : decode cX2_layOutCode 159 = .ok (.getfield 18, 3) := by decide +kernel
theorem dX2_layOutCode_162 : decode cX2_layOutCode 162 = .ok (.iload_n 2, 1) := by decide +kernel
theorem dX2_layOutCode_163 : decode cX2_layOutCode 163 = .ok (.aload_n 0, 1) := by decide +kernel
theorem dX2_layOutCode_164 : decode cX2_layOutCode 164 = .ok (.getfield 119, 3) := by decide +kernel
theorem dX2_layOutCode_167 : decode cX2_layOutCode 167 = .ok (.iastore, 1) := by decide +kernel
theorem dX2_layOutCode_168 : decode cX2_layOutCode 168 = .ok (.aload_n 0, 1) := by decide +kernel
theorem dX2_layOutCode_169 : decode cX2_layOutCode 169 = .ok (.dup, 1) := by decide +kernel
theorem dX2_layOutCode_170 : decode cX2_layOutCode 170 = .ok (.getfield 119, 3) := by decide +kernel
theorem dX2_layOutCode_173 : decode cX2_layOutCode 173 = .ok (.aload_n 1, 1) := by decide +kernel
theorem dX2_layOutCode_174 : decode cX2_layOutCode 174 = .ok (.getfield 66, 3) := by decide +kernel
