theorem dX1_load_41 : decode cX1_load 41 = .ok (.lstore 6, 2) := by decide +kernel
theorem dX1_load_43 : decode cX1_load 43 = .ok (.iconst 0, 1) := by decide +kernel
theorem dX1_load_44 : decode cX1_load 44 = .ok (.istore 8, 2) := by decide +kernel
theorem dX1_load_46 : decode cX1_load 46 = .ok (.iload 8, 2) := by decide +kernel
theorem dX1_load_48 : decode cX1_load 48 = .ok (.iload_n 1, 1) := by decide +kernel
theorem dX1_load_49 : decode cX1_load 49 = .ok (.if_icmp .ge 40, 3) := by decide +kernel
theorem dX1_load_52 : decode cX1_load 52 = .ok (.lload 4, 2) := by decide +kernel
theorem dX1_load_54 : decode cX1_load 54 = .ok (.aload_n 0, 1) := by decide +kernel
theorem dX1_load_55 : decode cX1_load 55 = .ok (.getfield 17, 3) := by decide +kernel
theorem dX1_load_58 : decode cX1_load 58 = .ok (.lload_n 2, 1) := by decide +kernel
theorem dX1_load_59 : decode cX1_load 59 = .ok (.l2i, 1) := by decide +kernel
theorem dX1_load_60 : decode cX1_load 60 = .ok (.iload 8, 2) := by decide +kernel
theorem dX1_load_62 : decode cX1_load 62 = .ok (.iadd, 1) := by decide +kernel
theorem dX1_load_63 : decode cX1_load 63 = .ok (.baload, 1) := by decide +kernel
theorem dX1_load_64 : decode cX1_load 64 = .ok (.sipush 255, 3) := by decide +kernel
theorem dX1_load_67 : decode cX1_load 67 = .ok (.iand, 1) := by decide +kernel
theorem dX1_load_68 : decode cX1_load 68 = .ok (.i2l, 1) := by decide +kernel
theorem dX1_load_69 : decode cX1_load 69 = .ok (.lload 6, 2) := by decide +kernel
theorem dX1_load_71 : decode cX1_load 71 = .ok (.lmul, 1) := by decide +kernel
theorem dX1_load_72 : decode cX1_load 72 = .ok (.ladd, 1) := by decide +kernel
theorem dX1_load_73 : decode cX1_load 73 = .ok (.lstore 4, 2) := by decide +kernel
theorem dX1_load_75 : decode cX1_load 75 = .ok (.lload 6, 2) := by decide +kernel
theorem dX1_load_77 : decode cX1_load 77 = .ok (.ldc2_w 106, 3) := by decide +kernel
theorem dX1_load_80 : decode cX1_load 80 = .ok (.lmul, 1) := by decide +kernel
theorem dX1_load_81 : decode cX1_load 81 = .ok (.lstore 6, 2) := by decide +kernel
theorem dX1_load_83 : decode cX1_load 83 = .ok (.iinc 8 1, 3) := by decide +kernel
theorem dX1_load_86 : decode cX1_load 86 = .ok (.goto (-40), 3) := by decide +kernel
theorem dX1_load_89 : decode cX1_load 89 = .ok (.aload_n 0, 1) := by decide +kernel
theorem dX1_load_90 : decode cX1_load 90 = .ok (.getfield 56, 3) := by decide +kernel
theorem dX1_load_93 : decode cX1_load 93 = .ok (.iconst 2, 1) := by decide +kernel
theorem dX1_load_94 : decode cX1_load 94 = .ok (.if_icmp .ge 22, 3) := by decide +kernel
theorem dX1_load_97 : decode cX1_load 97 = .ok (.lload 4, 2) := by decide +kernel
theorem dX1_load_99 : decode cX1_load 99 = .ok (.lload 6, 2) := by decide +kernel
theorem dX1_load_101 : decode cX1_load 101 = .ok (.ldc2_w 108, 3) := by decide +kernel
theorem dX1_load_104 : decode cX1_load 104 = .ok (.ldiv, 1) := by decide +kernel
theorem dX1_load_105 : decode cX1_load 105 = .ok (.lcmp, 1) := by decide +kernel
theorem dX1_load_106 : decode cX1_load 106 = .ok (.ifCond .lt 10, 3) := by decide +kernel
theorem dX1_load_109 : decode cX1_load 109 = .ok (.lload 4, 2) := by decide +kernel
theorem dX1_load_111 : decode cX1_load 111 = .ok (.lload 6, 2) := by decide +kernel
theorem dX1_load_113 : decode cX1_load 113 = .ok (.lsub, 1) := by decide +kernel
theorem dX1_load_114 : decode cX1_load 114 = .ok (.lstore 4, 2) := by decide +kernel
theorem dX1_load_116 : decode cX1_load 116 = .ok (.aload_n 0, 1) := by decide +kernel
theorem dX1_load_117 : decode cX1_load 117 = .ok (.aload_n 0, 1) := by decide +kernel
theorem dX1_load_118 : decode cX1_load 118 = .ok (.getfield 53, 3) := by decide +kernel
theorem dX1_load_121 : decode cX1_load 121 = .ok (.lload 4, 2) := by decide +kernel
theorem dX1_load_123 : decode cX1_load 123 = .ok (.invokevirtual 35, 3) := by decide +kernel
theorem dX1_load_126 : decode cX1_load 126 = .ok (.iconst 0, 1) := by decide +kernel
theorem dX1_load_127 : decode cX1_load 127 = .ok (.ireturn, 1) := by decide +kernel
set_option maxRecDepth 20000 in
theorem ggX1_store_X1_width : GoodIn wsX1_store wsX1_width := goodIn_r _ [11, 12, 25, 26, 27, 28, 29, 30, 31, 32, 33, 34, 35, 36] (by decide +kernel) (by decide +kernel)
set_option maxRecDepth 20000 in
theorem gX1_store_X1_width : GoodIn wsX1_store (wsV RX1 98 RX1 yX1_width wsX1_width) := goodIn_app (goodIn_of _ (by decide +kernel)) ggX1_store_X1_width
set_option maxRecDepth 20000 in
theorem ggX1_store_X1_withSign : GoodIn wsX1_store wsX1_withSign := goodIn_r _ [15] (by decide +kernel) (by decide +kernel)
set_option maxRecDepth 20000 in
theorem gX1_store_X1_withSign : GoodIn wsX1_store (va_wsS RX1 69 yX1_withSign wsX1_withSign) := goodIn_app (goodIn_of _ (by decide +kernel)) ggX1_store_X1_withSign
set_option maxRecDepth 20000 in
theorem ggX1_store_X1_plain : GoodIn wsX1_store wsX1_plain := goodIn_r _ [18, 19] (by decide +kernel) (by decide +kernel)
set_option maxRecDepth 20000 in
theorem gX1_store_X1_plain : GoodIn wsX1_store (va_wsS RX1 31 yX1_plain wsX1_plain) := goodIn_app (goodIn_of _ (by decide +kernel)) ggX1_store_X1_plain
set_option maxRecDepth 20000 in
theorem ggX1_store_X1_isThere : GoodIn wsX1_store wsX1_isThere := goodIn_r _ [23, 24] (by decide +kernel) (by decide +kernel)
set_option maxRecDepth 20000 in
theorem gX1_store_X1_isThere : GoodIn wsX1_store (wsV RX1 102 RX1 yX1_isThere wsX1_isThere) := goodIn_app (goodIn_of _ (by decide +kernel)) ggX1_store_X1_isThere
theorem dX1_store_0 : decode cX1_store 0 = .ok (.aload_n 0, 1) := by decide +kernel
theorem dX1_store_1 : decode cX1_store 1 = .ok (.iconst 0, 1) := by decide +kernel
theorem dX1_store_2 : decode cX1_store 2 = .ok (.invokevirtual 98, 3) := by decide +kernel
theorem dX1_store_5 : decode cX1_store 5 = .ok (.istore_n 1, 1) := by decide +kernel
theorem dX1_store_6 : decode cX1_store 6 = .ok (.iload_n 1, 1) := by decide +kernel
theorem dX1_store_7 : decode cX1_store 7 = .ok (.ifCond .ne 5, 3) := by decide +kernel
theorem dX1_store_10 : decode cX1_store 10 = .ok (.iconst 3, 1) := by decide +kernel
theorem dX1_store_11 : decode cX1_store 11 = .ok (.ireturn, 1) := by decide +kernel
theorem dX1_store_12 : decode cX1_store 12 = .ok (.aload_n 0, 1) := by decide +kernel
theorem dX1_store_13 : decode cX1_store 13 = .ok (.getfield 59, 3) := by decide +kernel
theorem dX1_store_16 : decode cX1_store 16 = .ok (.aload_n 0, 1) := by decide +kernel
theorem dX1_store_17 : decode cX1_store 17 = .ok (.getfield 66, 3) := by decide +kernel
theorem dX1_store_20 : decode cX1_store 20 = .ok (.bipush 32, 2) := by decide +kernel
theorem dX1_store_22 : decode cX1_store 22 = .ok (.imul, 1) := by decide +kernel
theorem dX1_store_23 : decode cX1_store 23 = .ok (.aload_n 0, 1) := by decide +kernel
theorem dX1_store_24 : decode cX1_store 24 = .ok (.getfield 53, 3) := by decide +kernel
theorem dX1_store_27 : decode cX1_store 27 = .ok (.iadd, 1) := by decide +kernel
theorem dX1_store_28 : decode cX1_store 28 = .ok (.bipush 12, 2) := by decide +kernel
theorem dX1_store_30 : decode cX1_store 30 = .ok (.invokestatic 69, 3) := by decide +kernel
theorem dX1_store_33 : decode cX1_store 33 = .ok (.i2l, 1) := by decide +kernel
theorem dX1_store_34 : decode cX1_store 34 = .ok (.ladd, 1) := by decide +kernel
theorem dX1_store_35 : decode cX1_store 35 = .ok (.invokestatic 31, 3) := by decide +kernel
theorem dX1_store_38 : decode cX1_store 38 = .ok (.lstore_n 2, 1) := by decide +kernel
theorem dX1_store_39 : decode cX1_store 39 = .ok (.aload_n 0, 1) := by decide +kernel
theorem dX1_store_40 : decode cX1_store 40 = .ok (.lload_n 2, 1) := by decide +kernel
theorem dX1_store_41 : decode cX1_store 41 = .ok (.iload_n 1, 1) := by decide +kernel
theorem dX1_store_42 : decode cX1_store 42 = .ok (.invokevirtual 102, 3) := by decide +kernel
theorem dX1_store_45 : decode cX1_store 45 = .ok (.ifCond .ne 5, 3) := by decide +kernel
theorem dX1_store_48 : decode cX1_store 48 = .ok (.iconst 4, 1) := by decide +kernel
theorem dX1_store_49 : decode cX1_store 49 = .ok (.ireturn, 1) := by decide +kernel
theorem dX1_store_50 : decode cX1_store 50 = .ok (.aload_n 0, 1) := by decide +kernel
theorem dX1_store_51 : decode cX1_store 51 = .ok (.getfield 63, 3) := by decide +kernel
theorem dX1_store_54 : decode cX1_store 54 = .ok (.lstore 4, 2) := by decide +kernel
theorem dX1_store_56 : decode cX1_store 56 = .ok (.iconst 0, 1) := by decide +kernel
theorem dX1_store_57 : decode cX1_store 57 = .ok (.istore 6, 2) := by decide +kernel
theorem dX1_store_59 : decode cX1_store 59 = .ok (.iload 6, 2) := by decide +kernel
theorem dX1_store_61 : decode cX1_store 61 = .ok (.iload_n 1, 1) := by decide +kernel
theorem dX1_store_62 : decode cX1_store 62 = .ok (.if_icmp .ge 35, 3) := by decide +kernel
theorem dX1_store_65 : decode cX1_store 65 = .ok (.aload_n 0, 1) := by decide +kernel
theorem dX1_store_66 : decode cX1_store 66 = .ok (.getfield 17, 3) := by decide +kernel
theorem dX1_store_69 : decode cX1_store 69 = .ok (.lload_n 2, 1) := by decide +kernel
theorem dX1_store_70 : decode cX1_store 70 = .ok (.l2i, 1) := by decide +kernel
theorem dX1_store_71 : decode cX1_store 71 = .ok (.iload 6, 2) := by decide +kernel
theorem dX1_store_73 : decode cX1_store 73 = .ok (.iadd, 1) := by decide +kernel
theorem dX1_store_74 : decode cX1_store 74 = .ok (.lload 4, 2) := by decide +kernel
theorem dX1_store_76 : decode cX1_store 76 = .ok (.ldc2_w 106, 3) := by decide +kernel
theorem dX1_store_79 : decode cX1_store 79 = .ok (.lrem, 1) := by decide +kernel
theorem dX1_store_80 : decode cX1_store 80 = .ok (.l2i, 1) := by decide +kernel
theorem dX1_store_81 : decode cX1_store 81 = .ok (.i2b, 1) := by decide +kernel
theorem dX1_store_82 : decode cX1_store 82 = .ok (.bastore, 1) := by decide +kernel
theorem dX1_store_83 : decode cX1_store 83 = .ok (.lload 4, 2) := by decide +kernel
theorem dX1_store_85 : decode cX1_store 85 = .ok (.ldc2_w 106, 3) := by decide +kernel
theorem dX1_store_88 : decode cX1_store 88 = .ok (.ldiv, 1) := by decide +kernel
theorem dX1_store_89 : decode cX1_store 89 = .ok (.lstore 4, 2) := by decide +kernel
theorem dX1_store_91 : decode cX1_store 91 = .ok (.iinc 6 1, 3) := by decide +kernel
theorem dX1_store_94 : decode cX1_store 94 = .ok (.goto (-35), 3) := by decide +kernel
theorem dX1_store_97 : decode cX1_store 97 = .ok (.iconst 0, 1) := by decide +kernel
theorem dX1_store_98 : decode cX1_store 98 = .ok (.ireturn, 1) := by decide +kernel
set_option maxRecDepth 20000 in
theorem ggX1_number_X1_give : GoodIn wsX1_number wsX1_give := goodIn_r _ [13, 14, 15, 16, 12, 17, 18, 45, 46, 47, 48, 49, 50, 51, 52, 53, 54, 55, 56] (by decide +kernel) (by decide +kernel)
set_option maxRecDepth 20000 in
theorem gX1_number_X1_give : GoodIn wsX1_number (wsV RX1 35 RX1 yX1_give wsX1_give) := goodIn_app (goodIn_of _ (by decide +kernel)) ggX1_number_X1_give
set_option maxRecDepth 20000 in
theorem ggX1_number_X1_plain : GoodIn wsX1_number wsX1_plain := goodIn_r _ [17, 18] (by decide +kernel) (by decide +kernel)
set_option maxRecDepth 20000 in
theorem gX1_number_X1_plain : GoodIn wsX1_number (va_wsS RX1 31 yX1_plain wsX1_plain) := goodIn_app (goodIn_of _ (by decide +kernel)) ggX1_number_X1_plain
set_option maxRecDepth 20000 in
theorem ggX1_number_X1_made : GoodIn wsX1_number wsX1_made := goodIn_r _ [21, 22, 23, 24, 12, 25, 26, 27, 28, 29, 30, 31, 32, 33, 34] (by decide +kernel) (by decide +kernel)
set_option maxRecDepth 20000 in
theorem gX1_number_X1_made : GoodIn wsX1_number (va_wsS RX1 110 yX1_made wsX1_made) := goodIn_app (goodIn_of _ (by decide +kernel)) ggX1_number_X1_made
set_option maxRecDepth 20000 in
theorem ggX1_number_X1_product : GoodIn wsX1_number wsX1_product := goodIn_r _ [38, 6, 8, 4, 31, 39, 27, 28, 12, 29, 30, 32, 33, 34, 40, 41, 42, 43, 44, 45, 46, 47, 48, 49, 50, 51, 52, 53, 54, 55, 56] (by decide +kernel) (by decide +kernel)
set_option maxRecDepth 20000 in
theorem gX1_number_X1_product : GoodIn wsX1_number (wsV RX1 114 RX1 yX1_product wsX1_product) := goodIn_app (goodIn_of _ (by decide +kernel)) ggX1_number_X1_product
theorem dX1_number_0 : decode cX1_number 0 = .ok (.iload_n 1, 1) := by decide +kernel
theorem dX1_number_1 : decode cX1_number 1 = .ok (.bipush 55, 2) := by decide +kernel
theorem dX1_number_3 : decode cX1_number 3 = .ok (.if_icmp .eq 9, 3) := by decide +kernel
theorem dX1_number_6 : decode cX1_number 6 = .ok (.iload_n 1, 1) := by decide +kernel
theorem dX1_number_7 : decode cX1_number 7 = .ok (.bipush 23, 2) := by decide +kernel
theorem dX1_number_9 : decode cX1_number 9 = .ok (.if_icmp .ne 38, 3) := by decide +kernel
theorem dX1_number_12 : decode cX1_number 12 = .ok (.aload_n 0, 1) := by decide +kernel
theorem dX1_number_13 : decode cX1_number 13 = .ok (.aload_n 0, 1) := by decide +kernel
theorem dX1_number_14 : decode cX1_number 14 = .ok (.getfield 53, 3) := by decide +kernel
theorem dX1_number_17 : decode cX1_number 17 = .ok (.iload_n 2, 1) := by decide +kernel
theorem dX1_number_18 : decode cX1_number 18 = .ok (.bipush 12, 2) := by decide +kernel
theorem dX1_number_20 : decode cX1_number 20 = .ok (.ishr, 1) := by decide +kernel
theorem dX1_number_21 : decode cX1_number 21 = .ok (.i2l, 1) := by decide +kernel
theorem dX1_number_22 : decode cX1_number 22 = .ok (.ldc2_w 96, 3) := by decide +kernel
theorem dX1_number_25 : decode cX1_number 25 = .ok (.lmul, 1) := by decide +kernel
theorem dX1_number_26 : decode cX1_number 26 = .ok (.iload_n 1, 1) := by decide +kernel
theorem dX1_number_27 : decode cX1_number 27 = .ok (.bipush 23, 2) := by decide +kernel
theorem dX1_number_29 : decode cX1_number 29 = .ok (.if_icmp .ne 10, 3) := by decide +kernel
theorem dX1_number_32 : decode cX1_number 32 = .ok (.aload_n 0, 1) := by decide +kernel
theorem dX1_number_33 : decode cX1_number 33 = .ok (.getfield 39, 3) := by decide +kernel
theorem dX1_number_36 : decode cX1_number 36 = .ok (.goto 4, 3) := by decide +kernel
theorem dX1_number_39 : decode cX1_number 39 = .ok (.iconst 0, 1) := by decide +kernel
theorem dX1_number_40 : decode cX1_number 40 = .ok (.i2l, 1) := by decide +kernel
theorem dX1_number_41 : decode cX1_number 41 = .ok (.ladd, 1) := by decide +kernel
theorem dX1_number_42 : decode cX1_number 42 = .ok (.invokevirtual 35, 3) := by decide +kernel
theorem dX1_number_45 : decode cX1_number 45 = .ok (.iconst 0, 1) := by decide +kernel
theorem dX1_number_46 : decode cX1_number 46 = .ok (.ireturn, 1) := by decide +kernel
theorem dX1_number_47 : decode cX1_number 47 = .ok (.iload_n 1, 1) := by decide +kernel
theorem dX1_number_48 : decode cX1_number 48 = .ok (.bipush 19, 2) := by decide +kernel
theorem dX1_number_50 : decode cX1_number 50 = .ok (.if_icmp .ne 125, 3) := by decide +kernel
theorem dX1_number_53 : decode cX1_number 53 = .ok (.iload_n 2, 1) := by decide +kernel
theorem dX1_number_54 : decode cX1_number 54 = .ok (.i2l, 1) := by decide +kernel
theorem dX1_number_55 : decode cX1_number 55 = .ok (.invokestatic 31, 3) := by decide +kernel
theorem dX1_number_58 : decode cX1_number 58 = .ok (.bipush 20, 2) := by decide +kernel
theorem dX1_number_60 : decode cX1_number 60 = .ok (.lshr, 1) := by decide +kernel
theorem dX1_number_61 : decode cX1_number 61 = .ok (.l2i, 1) := by decide +kernel
theorem dX1_number_62 : decode cX1_number 62 = .ok (.bipush 31, 2) := by decide +kernel
theorem dX1_number_64 : decode cX1_number 64 = .ok (.iand, 1) := by decide +kernel
theorem dX1_number_65 : decode cX1_number 65 = .ok (.istore_n 3, 1) := by decide +kernel
theorem dX1_number_66 : decode cX1_number 66 = .ok (.aload_n 0, 1) := by decide +kernel
theorem dX1_number_67 : decode cX1_number 67 = .ok (.getfield 56, 3) := by decide +kernel
theorem dX1_number_70 : decode cX1_number 70 = .ok (.iconst 1, 1) := by decide +kernel
theorem dX1_number_71 : decode cX1_number 71 = .ok (.if_icmp .eq 11, 3) := by decide +kernel
theorem dX1_number_74 : decode cX1_number 74 = .ok (.aload_n 0, 1) := by decide +kernel
theorem dX1_number_75 : decode cX1_number 75 = .ok (.getfield 56, 3) := by decide +kernel
theorem dX1_number_78 : decode cX1_number 78 = .ok (.iconst 5, 1) := by decide +kernel
theorem dX1_number_79 : decode cX1_number 79 = .ok (.if_icmp .ne 7, 3) := by decide +kernel
theorem dX1_number_82 : decode cX1_number 82 = .ok (.iconst 1, 1) := by decide +kernel
theorem dX1_number_83 : decode cX1_number 83 = .ok (.goto 4, 3) := by decide +kernel
theorem dX1_number_86 : decode cX1_number 86 = .ok (.iconst 0, 1) := by decide +kernel
theorem dX1_number_87 : decode cX1_number 87 = .ok (.istore 4, 2) := by decide +kernel
theorem dX1_number_89 : decode cX1_number 89 = .ok (.iload 4, 2) := by decide +kernel
theorem dX1_number_91 : decode cX1_number 91 = .ok (.ifCond .eq 29, 3) := by decide +kernel
theorem dX1_number_94 : decode cX1_number 94 = .ok (.aload_n 0, 1) := by decide +kernel
theorem dX1_number_95 : decode cX1_number 95 = .ok (.getfield 66, 3) := by decide +kernel
theorem dX1_number_98 : decode cX1_number 98 = .ok (.ifCond .eq 22, 3) := by decide +kernel
theorem dX1_number_101 : decode cX1_number 101 = .ok (.aload_n 0, 1) := by decide +kernel
theorem dX1_number_102 : decode cX1_number 102 = .ok (.getfield 56, 3) := by decide +kernel
theorem dX1_number_105 : decode cX1_number 105 = .ok (.iconst 5, 1) := by decide +kernel
theorem dX1_number_106 : decode cX1_number 106 = .ok (.if_icmp .ne 12, 3) := by decide +kernel
theorem dX1_number_109 : decode cX1_number 109 = .ok (.aload_n 0, 1) := by decide +kernel
theorem dX1_number_110 : decode cX1_number 110 = .ok (.getfield 66, 3) := by decide +kernel
theorem dX1_number_113 : decode cX1_number 113 = .ok (.bipush 32, 2) := by decide +kernel
theorem dX1_number_115 : decode cX1_number 115 = .ok (.if_icmp .eq 5, 3) := by decide +kernel
theorem dX1_number_118 : decode cX1_number 118 = .ok (.iconst 3, 1) := by decide +kernel
theorem dX1_number_119 : decode cX1_number 119 = .ok (.ireturn, 1) := by decide +kernel
theorem dX1_number_120 : decode cX1_number 120 = .ok (.aload_n 0, 1) := by decide +kernel
theorem dX1_number_121 : decode cX1_number 121 = .ok (.aload_n 0, 1) := by decide +kernel
theorem dX1_number_122 : decode cX1_number 122 = .ok (.getfield 53, 3) := by decide +kernel
theorem dX1_number_125 : decode cX1_number 125 = .ok (.iload 4, 2) := by decide +kernel
theorem dX1_number_127 : decode cX1_number 127 = .ok (.ifCond .eq 23, 3) := by decide +kernel
theorem dX1_number_130 : decode cX1_number 130 = .ok (.aload_n 0, 1) := by decide +kernel
theorem dX1_number_131 : decode cX1_number 131 = .ok (.getfield 56, 3) := by decide +kernel
theorem dX1_number_134 : decode cX1_number 134 = .ok (.aload_n 0, 1) := by decide +kernel
theorem dX1_number_135 : decode cX1_number 135 = .ok (.getfield 66, 3) := by decide +kernel
theorem dX1_number_138 : decode cX1_number 138 = .ok (.aload_n 0, 1) := by decide +kernel
theorem dX1_number_139 : decode cX1_number 139 = .ok (.getfield 59, 3) := by decide +kernel
theorem dX1_number_142 : decode cX1_number 142 = .ok (.iload_n 3, 1) := by decide +kernel
theorem dX1_number_143 : decode cX1_number 143 = .ok (.i2l, 1) := by decide +kernel
theorem dX1_number_144 : decode cX1_number 144 = .ok (.invokestatic 110, 3) := by decide +kernel
theorem dX1_number_147 : decode cX1_number 147 = .ok (.goto 23, 3) := by decide +kernel
theorem dX1_number_150 : decode cX1_number 150 = .ok (.aload_n 0, 1) := by decide +kernel
theorem dX1_number_151 : decode cX1_number 151 = .ok (.getfield 56, 3) := by decide +kernel
theorem dX1_number_154 : decode cX1_number 154 = .ok (.iconst 0, 1) := by decide +kernel
theorem dX1_number_155 : decode cX1_number 155 = .ok (.aload_n 0, 1) := by decide +kernel
theorem dX1_number_156 : decode cX1_number 156 = .ok (.getfield 59, 3) := by decide +kernel
theorem dX1_number_159 : decode cX1_number 159 = .ok (.aload_n 0, 1) := by decide +kernel
theorem dX1_number_160 : decode cX1_number 160 = .ok (.getfield 73, 3) := by decide +kernel
theorem dX1_number_163 : decode cX1_number 163 = .ok (.i2l, 1) := by decide +kernel
theorem dX1_number_164 : decode cX1_number 164 = .ok (.invokestatic 31, 3) := by decide +kernel
theorem dX1_number_167 : decode cX1_number 167 = .ok (.invokestatic 110, 3) := by decide +kernel
theorem dX1_number_170 : decode cX1_number 170 = .ok (.invokevirtual 35, 3) := by decide +kernel
theorem dX1_number_173 : decode cX1_number 173 = .ok (.iconst 0, 1) := by decide +kernel
theorem dX1_number_174 : decode cX1_number 174 = .ok (.ireturn, 1) := by decide +kernel
theorem dX1_number_175 : decode cX1_number 175 = .ok (.iload_n 1, 1) := by decide +kernel
theorem dX1_number_176 : decode cX1_number 176 = .ok (.bipush 51, 2) := by decide +kernel
theorem dX1_number_178 : decode cX1_number 178 = .ok (.if_icmp .eq 5, 3) := by decide +kernel
theorem dX1_number_181 : decode cX1_number 181 = .ok (.iconst 3, 1) := by decide +kernel
theorem dX1_number_182 : decode cX1_number 182 = .ok (.ireturn, 1) := by decide +kernel
theorem dX1_number_183 : decode cX1_number 183 = .ok (.aload_n 0, 1) := by decide +kernel
theorem dX1_number_184 : decode cX1_number 184 = .ok (.getfield 66, 3) := by decide +kernel
theorem dX1_number_187 : decode cX1_number 187 = .ok (.iconst 1, 1) := by decide +kernel
theorem dX1_number_188 : decode cX1_number 188 = .ok (.if_icmp .ne 18, 3) := by decide +kernel
theorem dX1_number_191 : decode cX1_number 191 = .ok (.aload_n 0, 1) := by decide +kernel
theorem dX1_number_192 : decode cX1_number 192 = .ok (.aload_n 0, 1) := by decide +kernel
theorem dX1_number_193 : decode cX1_number 193 = .ok (.getfield 53, 3) := by decide +kernel
theorem dX1_number_196 : decode cX1_number 196 = .ok (.aload_n 0, 1) := by decide +kernel
theorem dX1_number_197 : decode cX1_number 197 = .ok (.invokevirtual 114, 3) := by decide +kernel
theorem dX1_number_200 : decode cX1_number 200 = .ok (.invokevirtual 35, 3) := by decide +kernel
theorem dX1_number_203 : decode cX1_number 203 = .ok (.goto 66, 3) := by decide +kernel
theorem dX1_number_206 : decode cX1_number 206 = .ok (.aload_n 0, 1) := by decide +kernel
theorem dX1_number_207 : decode cX1_number 207 = .ok (.getfield 66, 3) := by decide +kernel
theorem dX1_number_210 : decode cX1_number 210 = .ok (.ifCond .eq 27, 3) := by decide +kernel
theorem dX1_number_213 : decode cX1_number 213 = .ok (.aload_n 0, 1) := by decide +kernel
theorem dX1_number_214 : decode cX1_number 214 = .ok (.getfield 66, 3) := by decide +kernel
theorem dX1_number_217 : decode cX1_number 217 = .ok (.bipush 32, 2) := by decide +kernel
theorem dX1_number_219 : decode cX1_number 219 = .ok (.if_icmp .ne 48, 3) := by decide +kernel
theorem dX1_number_222 : decode cX1_number 222 = .ok (.aload_n 0, 1) := by decide +kernel
theorem dX1_number_223 : decode cX1_number 223 = .ok (.getfield 56, 3) := by decide +kernel
theorem dX1_number_226 : decode cX1_number 226 = .ok (.ifCond .eq 11, 3) := by decide +kernel
theorem dX1_number_229 : decode cX1_number 229 = .ok (.aload_n 0, 1) := by decide +kernel
theorem dX1_number_230 : decode cX1_number 230 = .ok (.getfield 56, 3) := by decide +kernel
theorem dX1_number_233 : decode cX1_number 233 = .ok (.iconst 5, 1) := by decide +kernel
theorem dX1_number_234 : decode cX1_number 234 = .ok (.if_icmp .ne 33, 3) := by decide +kernel
theorem dX1_number_237 : decode cX1_number 237 = .ok (.aload_n 0, 1) := by decide +kernel
theorem dX1_number_238 : decode cX1_number 238 = .ok (.aload_n 0, 1) := by decide +kernel
theorem dX1_number_239 : decode cX1_number 239 = .ok (.getfield 53, 3) := by decide +kernel
theorem dX1_number_242 : decode cX1_number 242 = .ok (.aload_n 0, 1) := by decide +kernel
theorem dX1_number_243 : decode cX1_number 243 = .ok (.getfield 56, 3) := by decide +kernel
theorem dX1_number_246 : decode cX1_number 246 = .ok (.aload_n 0, 1) := by decide +kernel
theorem dX1_number_247 : decode cX1_number 247 = .ok (.getfield 66, 3) := by decide +kernel
theorem dX1_number_250 : decode cX1_number 250 = .ok (.aload_n 0, 1) := by decide +kernel
theorem dX1_number_251 : decode cX1_number 251 = .ok (.getfield 59, 3) := by decide +kernel
theorem dX1_number_254 : decode cX1_number 254 = .ok (.aload_n 0, 1) := by decide +kernel
theorem dX1_number_255 : decode cX1_number 255 = .ok (.getfield 63, 3) := by decide +kernel
theorem dX1_number_258 : decode cX1_number 258 = .ok (.invokestatic 110, 3) := by decide +kernel
theorem dX1_number_261 : decode cX1_number 261 = .ok (.invokevirtual 35, 3) := by decide +kernel
theorem dX1_number_264 : decode cX1_number 264 = .ok (.goto 5, 3) := by decide +kernel
theorem dX1_number_267 : decode cX1_number 267 = .ok (.iconst 3, 1) := by decide +kernel
theorem dX1_number_268 : decode cX1_number 268 = .ok (.ireturn, 1) := by decide +kernel
theorem dX1_number_269 : decode cX1_number 269 = .ok (.iconst 0, 1) := by decide +kernel
theorem dX1_number_270 : decode cX1_number 270 = .ok (.ireturn, 1) := by decide +kernel
theorem dX1_power_0 : decode cX1_power 0 = .ok (.lconst 1, 1) := by decide +kernel
theorem dX1_power_1 : decode cX1_power 1 = .ok (.lstore_n 2, 1) := by decide +kernel
theorem dX1_power_2 : decode cX1_power 2 = .ok (.lconst 0, 1) := by decide +kernel
theorem dX1_power_3 : decode cX1_power 3 = .ok (.lstore 4, 2) := by decide +kernel
theorem dX1_power_5 : decode cX1_power 5 = .ok (.lload 4, 2) := by decide +kernel
theorem dX1_power_7 : decode cX1_power 7 = .ok (.lload_n 0, 1) := by decide +kernel
theorem dX1_power_8 : decode cX1_power 8 = .ok (.lcmp, 1) := by decide +kernel
theorem dX1_power_9 : decode cX1_power 9 = .ok (.ifCond .ge 18, 3) := by decide +kernel
theorem dX1_power_12 : decode cX1_power 12 = .ok (.lload_n 2, 1) := by decide +kernel
theorem dX1_power_13 : decode cX1_power 13 = .ok (.ldc2_w 108, 3) := by decide +kernel
theorem dX1_power_16 : decode cX1_power 16 = .ok (.lmul, 1) := by decide +kernel
theorem dX1_power_17 : decode cX1_power 17 = .ok (.lstore_n 2, 1) := by decide +kernel
theorem dX1_power_18 : decode cX1_power 18 = .ok (.lload 4, 2) := by decide +kernel
theorem dX1_power_20 : decode cX1_power 20 = .ok (.lconst 1, 1) := by decide +kernel
theorem dX1_power_21 : decode cX1_power 21 = .ok (.ladd, 1) := by decide +kernel
theorem dX1_power_22 : decode cX1_power 22 = .ok (.lstore 4, 2) := by decide +kernel
theorem dX1_power_24 : decode cX1_power 24 = .ok (.goto (-19), 3) := by decide +kernel
theorem dX1_power_27 : decode cX1_power 27 = .ok (.lload_n 2, 1) := by decide +kernel
theorem dX1_power_28 : decode cX1_power 28 = .ok (.lreturn, 1) := by decide +kernel
set_option maxRecDepth 20000 in
theorem ggX1_made_X1_power : GoodIn wsX1_made wsX1_power := goodIn_r _ [5, 6] (by decide +kernel) (by decide +kernel)
set_option maxRecDepth 20000 in
theorem gX1_made_X1_power : GoodIn wsX1_made (va_wsS RX1 120 yX1_power wsX1_power) := goodIn_app (goodIn_of _ (by decide +kernel)) ggX1_made_X1_power
set_option maxRecDepth 20000 in
theorem ggX1_made_X1_signed : GoodIn wsX1_made wsX1_signed := goodIn_r _ [9, 10, 11] (by decide +kernel) (by decide +kernel)
set_option maxRecDepth 20000 in
theorem gX1_made_X1_signed : GoodIn wsX1_made (va_wsS RX1 93 yX1_signed wsX1_signed) := goodIn_app (goodIn_of _ (by decide +kernel)) ggX1_made_X1_signed
set_option maxRecDepth 20000 in
theorem ggX1_made_X1_down : GoodIn wsX1_made wsX1_down := goodIn_r _ [14] (by decide +kernel) (by decide +kernel)
set_option maxRecDepth 20000 in
theorem gX1_made_X1_down : GoodIn wsX1_made (va_wsS RX1 123 yX1_down wsX1_down) := goodIn_app (goodIn_of _ (by decide +kernel)) ggX1_made_X1_down
theorem dX1_made_0 : decode cX1_made 0 = .ok (.iload_n 0, 1) := by decide +kernel
theorem dX1_made_1 : decode cX1_made 1 = .ok (.tableswitch 150 0 6 #[43, 61, 73, 92, 105, 110, 145], 43) := by decide +kernel
theorem dX1_made_44 : decode cX1_made 44 = .ok (.iload_n 1, 1) := by decide +kernel
theorem dX1_made_45 : decode cX1_made 45 = .ok (.bipush 32, 2) := by decide +kernel
theorem dX1_made_47 : decode cX1_made 47 = .ok (.if_icmp .ne 10, 3) := by decide +kernel
theorem dX1_made_50 : decode cX1_made 50 = .ok (.lload_n 2, 1) := by decide +kernel
theorem dX1_made_51 : decode cX1_made 51 = .ok (.lload 4, 2) := by decide +kernel
theorem dX1_made_53 : decode cX1_made 53 = .ok (.lsub, 1) := by decide +kernel
theorem dX1_made_54 : decode cX1_made 54 = .ok (.goto 7, 3) := by decide +kernel
theorem dX1_made_57 : decode cX1_made 57 = .ok (.lload_n 2, 1) := by decide +kernel
theorem dX1_made_58 : decode cX1_made 58 = .ok (.lload 4, 2) := by decide +kernel
theorem dX1_made_60 : decode cX1_made 60 = .ok (.ladd, 1) := by decide +kernel
theorem dX1_made_61 : decode cX1_made 61 = .ok (.lreturn, 1) := by decide +kernel
theorem dX1_made_62 : decode cX1_made 62 = .ok (.lload_n 2, 1) := by decide +kernel
theorem dX1_made_63 : decode cX1_made 63 = .ok (.lload 4, 2) := by decide +kernel
theorem dX1_made_65 : decode cX1_made 65 = .ok (.ldc2_w 118, 3) := by decide +kernel
theorem dX1_made_68 : decode cX1_made 68 = .ok (.lrem, 1) := by decide +kernel
theorem dX1_made_69 : decode cX1_made 69 = .ok (.invokestatic 120, 3) := by decide +kernel
theorem dX1_made_72 : decode cX1_made 72 = .ok (.lmul, 1) := by decide +kernel
theorem dX1_made_73 : decode cX1_made 73 = .ok (.lreturn, 1) := by decide +kernel
theorem dX1_made_74 : decode cX1_made 74 = .ok (.lload_n 2, 1) := by decide +kernel
theorem dX1_made_75 : decode cX1_made 75 = .ok (.invokestatic 93, 3) := by decide +kernel
theorem dX1_made_78 : decode cX1_made 78 = .ok (.lload 4, 2) := by decide +kernel
theorem dX1_made_80 : decode cX1_made 80 = .ok (.invokestatic 93, 3) := by decide +kernel
theorem dX1_made_83 : decode cX1_made 83 = .ok (.lcmp, 1) := by decide +kernel
theorem dX1_made_84 : decode cX1_made 84 = .ok (.ifCond .ge 7, 3) := by decide +kernel
theorem dX1_made_87 : decode cX1_made 87 = .ok (.lconst 1, 1) := by decide +kernel
theorem dX1_made_88 : decode cX1_made 88 = .ok (.goto 4, 3) := by decide +kernel
theorem dX1_made_91 : decode cX1_made 91 = .ok (.lconst 0, 1) := by decide +kernel
theorem dX1_made_92 : decode cX1_made 92 = .ok (.lreturn, 1) := by decide +kernel
theorem dX1_made_93 : decode cX1_made 93 = .ok (.lload_n 2, 1) := by decide +kernel
theorem dX1_made_94 : decode cX1_made 94 = .ok (.lload 4, 2) := by decide +kernel
theorem dX1_made_96 : decode cX1_made 96 = .ok (.lcmp, 1) := by decide +kernel
theorem dX1_made_97 : decode cX1_made 97 = .ok (.ifCond .ge 7, 3) := by decide +kernel
theorem dX1_made_100 : decode cX1_made 100 = .ok (.lconst 1, 1) := by decide +kernel
theorem dX1_made_101 : decode cX1_made 101 = .ok (.goto 4, 3) := by decide +kernel
theorem dX1_made_104 : decode cX1_made 104 = .ok (.lconst 0, 1) := by decide +kernel
theorem dX1_made_105 : decode cX1_made 105 = .ok (.lreturn, 1) := by decide +kernel
theorem dX1_made_106 : decode cX1_made 106 = .ok (.lload_n 2, 1) := by decide +kernel
theorem dX1_made_107 : decode cX1_made 107 = .ok (.lload 4, 2) := by decide +kernel
theorem dX1_made_109 : decode cX1_made 109 = .ok (.lxor, 1) := by decide +kernel
theorem dX1_made_110 : decode cX1_made 110 = .ok (.lreturn, 1) := by decide +kernel
theorem dX1_made_111 : decode cX1_made 111 = .ok (.iload_n 1, 1) := by decide +kernel
theorem dX1_made_112 : decode cX1_made 112 = .ok (.ifCond .ne 17, 3) := by decide +kernel
theorem dX1_made_115 : decode cX1_made 115 = .ok (.lload_n 2, 1) := by decide +kernel
theorem dX1_made_116 : decode cX1_made 116 = .ok (.lload 4, 2) := by decide +kernel
theorem dX1_made_118 : decode cX1_made 118 = .ok (.ldc2_w 118, 3) := by decide +kernel
theorem dX1_made_121 : decode cX1_made 121 = .ok (.lrem, 1) := by decide +kernel
theorem dX1_made_122 : decode cX1_made 122 = .ok (.invokestatic 120, 3) := by decide +kernel
theorem dX1_made_125 : decode cX1_made 125 = .ok (.ldiv, 1) := by decide +kernel
theorem dX1_made_126 : decode cX1_made 126 = .ok (.goto 19, 3) := by decide +kernel
theorem dX1_made_129 : decode cX1_made 129 = .ok (.lload_n 2, 1) := by decide +kernel
theorem dX1_made_130 : decode cX1_made 130 = .ok (.invokestatic 93, 3) := by decide +kernel
theorem dX1_made_133 : decode cX1_made 133 = .ok (.lload 4, 2) := by decide +kernel
theorem dX1_made_135 : decode cX1_made 135 = .ok (.ldc2_w 118, 3) := by decide +kernel
theorem dX1_made_138 : decode cX1_made 138 = .ok (.lrem, 1) := by decide +kernel
theorem dX1_made_139 : decode cX1_made 139 = .ok (.invokestatic 120, 3) := by decide +kernel
theorem dX1_made_142 : decode cX1_made 142 = .ok (.invokestatic 123, 3) := by decide +kernel
theorem dX1_made_145 : decode cX1_made 145 = .ok (.lreturn, 1) := by decide +kernel
theorem dX1_made_146 : decode cX1_made 146 = .ok (.lload_n 2, 1) := by decide +kernel
theorem dX1_made_147 : decode cX1_made 147 = .ok (.lload 4, 2) := by decide +kernel
theorem dX1_made_149 : decode cX1_made 149 = .ok (.lor, 1) := by decide +kernel
theorem dX1_made_150 : decode cX1_made 150 = .ok (.lreturn, 1) := by decide +kernel
theorem dX1_made_151 : decode cX1_made 151 = .ok (.lload_n 2, 1) := by decide +kernel
theorem dX1_made_152 : decode cX1_made 152 = .ok (.lload 4, 2) := by decide +kernel
theorem dX1_made_154 : decode cX1_made 154 = .ok (.land, 1) := by decide +kernel
theorem dX1_made_155 : decode cX1_made 155 = .ok (.lreturn, 1) := by decide +kernel
theorem dX1_down_0 : decode cX1_down 0 = .ok (.lload_n 0, 1) := by decide +kernel
theorem dX1_down_1 : decode cX1_down 1 = .ok (.lload_n 2, 1) := by decide +kernel
theorem dX1_down_2 : decode cX1_down 2 = .ok (.ldiv, 1) := by decide +kernel
theorem dX1_down_3 : decode cX1_down 3 = .ok (.lstore 4, 2) := by decide +kernel
theorem dX1_down_5 : decode cX1_down 5 = .ok (.lload 4, 2) := by decide +kernel
theorem dX1_down_7 : decode cX1_down 7 = .ok (.lload_n 2, 1) := by decide +kernel
theorem dX1_down_8 : decode cX1_down 8 = .ok (.lmul, 1) := by decide +kernel
theorem dX1_down_9 : decode cX1_down 9 = .ok (.lload_n 0, 1) := by decide +kernel
theorem dX1_down_10 : decode cX1_down 10 = .ok (.lcmp, 1) := by decide +kernel
theorem dX1_down_11 : decode cX1_down 11 = .ok (.ifCond .le 10, 3) := by decide +kernel
theorem dX1_down_14 : decode cX1_down 14 = .ok (.lload 4, 2) := by decide +kernel
theorem dX1_down_16 : decode cX1_down 16 = .ok (.lconst 1, 1) := by decide +kernel
theorem dX1_down_17 : decode cX1_down 17 = .ok (.lsub, 1) := by decide +kernel
theorem dX1_down_18 : decode cX1_down 18 = .ok (.goto 5, 3) := by decide +kernel
theorem dX1_down_21 : decode cX1_down 21 = .ok (.lload 4, 2) := by decide +kernel
theorem dX1_down_23 : decode cX1_down 23 = .ok (.lreturn, 1) := by decide +kernel
set_option maxRecDepth 20000 in
theorem ggX1_product_X1_signed : GoodIn wsX1_product wsX1_signed := goodIn_r _ [9, 10, 4] (by decide +kernel) (by decide +kernel)
set_option maxRecDepth 20000 in
theorem gX1_product_X1_signed : GoodIn wsX1_product (va_wsS RX1 93 yX1_signed wsX1_signed) := goodIn_app (goodIn_of _ (by decide +kernel)) ggX1_product_X1_signed
set_option maxRecDepth 20000 in
theorem ggX1_product_X1_down : GoodIn wsX1_product wsX1_down := goodIn_r _ [13] (by decide +kernel) (by decide +kernel)
set_option maxRecDepth 20000 in
theorem gX1_product_X1_down : GoodIn wsX1_product (va_wsS RX1 123 yX1_down wsX1_down) := goodIn_app (goodIn_of _ (by decide +kernel)) ggX1_product_X1_down
set_option maxRecDepth 20000 in
theorem ggX1_product_X1_upper : GoodIn wsX1_product wsX1_upper := goodIn_r _ [17, 1, 18, 2, 19, 20, 21, 22, 23, 24, 25, 26, 27, 28, 29, 30] (by decide +kernel) (by decide +kernel)
set_option maxRecDepth 20000 in
theorem gX1_product_X1_upper : GoodIn wsX1_product (wsV RX1 127 RX1 yX1_upper wsX1_upper) := goodIn_app (goodIn_of _ (by decide +kernel)) ggX1_product_X1_upper
theorem dX1_product_0 : decode cX1_product 0 = .ok (.aload_n 0, 1) := by decide +kernel
theorem dX1_product_1 : decode cX1_product 1 = .ok (.getfield 59, 3) := by decide +kernel
theorem dX1_product_4 : decode cX1_product 4 = .ok (.invokestatic 93, 3) := by decide +kernel
theorem dX1_product_7 : decode cX1_product 7 = .ok (.lstore_n 1, 1) := by decide +kernel
theorem dX1_product_8 : decode cX1_product 8 = .ok (.aload_n 0, 1) := by decide +kernel
theorem dX1_product_9 : decode cX1_product 9 = .ok (.getfield 63, 3) := by decide +kernel
theorem dX1_product_12 : decode cX1_product 12 = .ok (.invokestatic 93, 3) := by decide +kernel
theorem dX1_product_15 : decode cX1_product 15 = .ok (.lstore_n 3, 1) := by decide +kernel
theorem dX1_product_16 : decode cX1_product 16 = .ok (.aload_n 0, 1) := by decide +kernel
theorem dX1_product_17 : decode cX1_product 17 = .ok (.getfield 56, 3) := by decide +kernel
theorem dX1_product_20 : decode cX1_product 20 = .ok (.tableswitch 140 0 6 #[44, 48, 58, 71, 76, 95, 120], 44) := by decide +kernel
theorem dX1_product_64 : decode cX1_product 64 = .ok (.lload_n 1, 1) := by decide +kernel
theorem dX1_product_65 : decode cX1_product 65 = .ok (.lload_n 3, 1) := by decide +kernel
theorem dX1_product_66 : decode cX1_product 66 = .ok (.lmul, 1) := by decide +kernel
theorem dX1_product_67 : decode cX1_product 67 = .ok (.lreturn, 1) := by decide +kernel
theorem dX1_product_68 : decode cX1_product 68 = .ok (.lload_n 1, 1) := by decide +kernel
theorem dX1_product_69 : decode cX1_product 69 = .ok (.lload_n 3, 1) := by decide +kernel
theorem dX1_product_70 : decode cX1_product 70 = .ok (.lmul, 1) := by decide +kernel
theorem dX1_product_71 : decode cX1_product 71 = .ok (.ldc2_w 29, 3) := by decide +kernel
theorem dX1_product_74 : decode cX1_product 74 = .ok (.invokestatic 123, 3) := by decide +kernel
theorem dX1_product_77 : decode cX1_product 77 = .ok (.lreturn, 1) := by decide +kernel
theorem dX1_product_78 : decode cX1_product 78 = .ok (.lload_n 1, 1) := by decide +kernel
theorem dX1_product_79 : decode cX1_product 79 = .ok (.aload_n 0, 1) := by decide +kernel
theorem dX1_product_80 : decode cX1_product 80 = .ok (.getfield 63, 3) := by decide +kernel
theorem dX1_product_83 : decode cX1_product 83 = .ok (.lmul, 1) := by decide +kernel
theorem dX1_product_84 : decode cX1_product 84 = .ok (.ldc2_w 29, 3) := by decide +kernel
theorem dX1_product_87 : decode cX1_product 87 = .ok (.invokestatic 123, 3) := by decide +kernel
theorem dX1_product_90 : decode cX1_product 90 = .ok (.lreturn, 1) := by decide +kernel
theorem dX1_product_91 : decode cX1_product 91 = .ok (.aload_n 0, 1) := by decide +kernel
theorem dX1_product_92 : decode cX1_product 92 = .ok (.invokevirtual 127, 3) := by decide +kernel
theorem dX1_product_95 : decode cX1_product 95 = .ok (.lreturn, 1) := by decide +kernel
theorem dX1_product_96 : decode cX1_product 96 = .ok (.aload_n 0, 1) := by decide +kernel
theorem dX1_product_97 : decode cX1_product 97 = .ok (.getfield 63, 3) := by decide +kernel
theorem dX1_product_100 : decode cX1_product 100 = .ok (.lconst 0, 1) := by decide +kernel
theorem dX1_product_101 : decode cX1_product 101 = .ok (.lcmp, 1) := by decide +kernel
theorem dX1_product_102 : decode cX1_product 102 = .ok (.ifCond .ne 9, 3) := by decide +kernel
theorem dX1_product_105 : decode cX1_product 105 = .ok (.ldc2_w 130, 3) := by decide +kernel
theorem dX1_product_108 : decode cX1_product 108 = .ok (.goto 6, 3) := by decide +kernel
theorem dX1_product_111 : decode cX1_product 111 = .ok (.lload_n 1, 1) := by decide +kernel
theorem dX1_product_112 : decode cX1_product 112 = .ok (.lload_n 3, 1) := by decide +kernel
theorem dX1_product_113 : decode cX1_product 113 = .ok (.ldiv, 1) := by decide +kernel
theorem dX1_product_114 : decode cX1_product 114 = .ok (.lreturn, 1) := by decide +kernel
theorem dX1_product_115 : decode cX1_product 115 = .ok (.aload_n 0, 1) := by decide +kernel
theorem dX1_product_116 : decode cX1_product 116 = .ok (.getfield 63, 3) := by decide +kernel
theorem dX1_product_119 : decode cX1_product 119 = .ok (.lconst 0, 1) := by decide +kernel
theorem dX1_product_120 : decode cX1_product 120 = .ok (.lcmp, 1) := by decide +kernel
theorem dX1_product_121 : decode cX1_product 121 = .ok (.ifCond .ne 9, 3) := by decide +kernel
theorem dX1_product_124 : decode cX1_product 124 = .ok (.ldc2_w 130, 3) := by decide +kernel
theorem dX1_product_127 : decode cX1_product 127 = .ok (.goto 12, 3) := by decide +kernel
theorem dX1_product_130 : decode cX1_product 130 = .ok (.aload_n 0, 1) := by decide +kernel
theorem dX1_product_131 : decode cX1_product 131 = .ok (.getfield 59, 3) := by decide +kernel
theorem dX1_product_134 : decode cX1_product 134 = .ok (.aload_n 0, 1) := by decide +kernel
