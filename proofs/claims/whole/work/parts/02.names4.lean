theorem dX1_step_20 : decode cX1_step 20 = .ok (.iconst 4, 1) := by decide +kernel
theorem dX1_step_21 : decode cX1_step 21 = .ok (.idiv, 1) := by decide +kernel
theorem dX1_step_22 : decode cX1_step 22 = .ok (.aload_n 0, 1) := by decide +kernel
theorem dX1_step_23 : decode cX1_step 23 = .ok (.getfield 21, 3) := by decide +kernel
theorem dX1_step_26 : decode cX1_step 26 = .ok (.if_icmp .lt 5, 3) := by decide +kernel
theorem dX1_step_29 : decode cX1_step 29 = .ok (.iconst 2, 1) := by decide +kernel
theorem dX1_step_30 : decode cX1_step 30 = .ok (.ireturn, 1) := by decide +kernel
theorem dX1_step_31 : decode cX1_step 31 = .ok (.aload_n 0, 1) := by decide +kernel
theorem dX1_step_32 : decode cX1_step 32 = .ok (.getfield 7, 3) := by decide +kernel
theorem dX1_step_35 : decode cX1_step 35 = .ok (.aload_n 0, 1) := by decide +kernel
theorem dX1_step_36 : decode cX1_step 36 = .ok (.getfield 39, 3) := by decide +kernel
theorem dX1_step_39 : decode cX1_step 39 = .ok (.iconst 4, 1) := by decide +kernel
theorem dX1_step_40 : decode cX1_step 40 = .ok (.idiv, 1) := by decide +kernel
theorem dX1_step_41 : decode cX1_step 41 = .ok (.iaload, 1) := by decide +kernel
theorem dX1_step_42 : decode cX1_step 42 = .ok (.istore_n 1, 1) := by decide +kernel
theorem dX1_step_43 : decode cX1_step 43 = .ok (.iload_n 1, 1) := by decide +kernel
theorem dX1_step_44 : decode cX1_step 44 = .ok (.bipush 115, 2) := by decide +kernel
theorem dX1_step_46 : decode cX1_step 46 = .ok (.if_icmp .ne 25, 3) := by decide +kernel
theorem dX1_step_49 : decode cX1_step 49 = .ok (.aload_n 0, 1) := by decide +kernel
theorem dX1_step_50 : decode cX1_step 50 = .ok (.dup, 1) := by decide +kernel
theorem dX1_step_51 : decode cX1_step 51 = .ok (.getfield 42, 3) := by decide +kernel
theorem dX1_step_54 : decode cX1_step 54 = .ok (.iconst 1, 1) := by decide +kernel
theorem dX1_step_55 : decode cX1_step 55 = .ok (.iadd, 1) := by decide +kernel
theorem dX1_step_56 : decode cX1_step 56 = .ok (.putfield 42, 3) := by decide +kernel
theorem dX1_step_59 : decode cX1_step 59 = .ok (.aload_n 0, 1) := by decide +kernel
theorem dX1_step_60 : decode cX1_step 60 = .ok (.dup, 1) := by decide +kernel
theorem dX1_step_61 : decode cX1_step 61 = .ok (.getfield 39, 3) := by decide +kernel
theorem dX1_step_64 : decode cX1_step 64 = .ok (.iconst 4, 1) := by decide +kernel
theorem dX1_step_65 : decode cX1_step 65 = .ok (.iadd, 1) := by decide +kernel
theorem dX1_step_66 : decode cX1_step 66 = .ok (.putfield 39, 3) := by decide +kernel
theorem dX1_step_69 : decode cX1_step 69 = .ok (.iconst 1, 1) := by decide +kernel
theorem dX1_step_70 : decode cX1_step 70 = .ok (.ireturn, 1) := by decide +kernel
theorem dX1_step_71 : decode cX1_step 71 = .ok (.aload_n 0, 1) := by decide +kernel
theorem dX1_step_72 : decode cX1_step 72 = .ok (.iload_n 1, 1) := by decide +kernel
theorem dX1_step_73 : decode cX1_step 73 = .ok (.bipush 7, 2) := by decide +kernel
theorem dX1_step_75 : decode cX1_step 75 = .ok (.iconst 5, 1) := by decide +kernel
theorem dX1_step_76 : decode cX1_step 76 = .ok (.invokestatic 49, 3) := by decide +kernel
theorem dX1_step_79 : decode cX1_step 79 = .ok (.putfield 53, 3) := by decide +kernel
theorem dX1_step_82 : decode cX1_step 82 = .ok (.aload_n 0, 1) := by decide +kernel
theorem dX1_step_83 : decode cX1_step 83 = .ok (.iload_n 1, 1) := by decide +kernel
theorem dX1_step_84 : decode cX1_step 84 = .ok (.bipush 12, 2) := by decide +kernel
theorem dX1_step_86 : decode cX1_step 86 = .ok (.iconst 3, 1) := by decide +kernel
theorem dX1_step_87 : decode cX1_step 87 = .ok (.invokestatic 49, 3) := by decide +kernel
theorem dX1_step_90 : decode cX1_step 90 = .ok (.putfield 56, 3) := by decide +kernel
theorem dX1_step_93 : decode cX1_step 93 = .ok (.aload_n 0, 1) := by decide +kernel
theorem dX1_step_94 : decode cX1_step 94 = .ok (.aload_n 0, 1) := by decide +kernel
theorem dX1_step_95 : decode cX1_step 95 = .ok (.getfield 13, 3) := by decide +kernel
theorem dX1_step_98 : decode cX1_step 98 = .ok (.iload_n 1, 1) := by decide +kernel
theorem dX1_step_99 : decode cX1_step 99 = .ok (.bipush 15, 2) := by decide +kernel
theorem dX1_step_101 : decode cX1_step 101 = .ok (.iconst 5, 1) := by decide +kernel
theorem dX1_step_102 : decode cX1_step 102 = .ok (.invokestatic 49, 3) := by decide +kernel
theorem dX1_step_105 : decode cX1_step 105 = .ok (.laload, 1) := by decide +kernel
theorem dX1_step_106 : decode cX1_step 106 = .ok (.putfield 59, 3) := by decide +kernel
theorem dX1_step_109 : decode cX1_step 109 = .ok (.aload_n 0, 1) := by decide +kernel
theorem dX1_step_110 : decode cX1_step 110 = .ok (.aload_n 0, 1) := by decide +kernel
theorem dX1_step_111 : decode cX1_step 111 = .ok (.getfield 13, 3) := by decide +kernel
theorem dX1_step_114 : decode cX1_step 114 = .ok (.iload_n 1, 1) := by decide +kernel
theorem dX1_step_115 : decode cX1_step 115 = .ok (.bipush 20, 2) := by decide +kernel
theorem dX1_step_117 : decode cX1_step 117 = .ok (.iconst 5, 1) := by decide +kernel
theorem dX1_step_118 : decode cX1_step 118 = .ok (.invokestatic 49, 3) := by decide +kernel
theorem dX1_step_121 : decode cX1_step 121 = .ok (.laload, 1) := by decide +kernel
theorem dX1_step_122 : decode cX1_step 122 = .ok (.putfield 63, 3) := by decide +kernel
theorem dX1_step_125 : decode cX1_step 125 = .ok (.aload_n 0, 1) := by decide +kernel
theorem dX1_step_126 : decode cX1_step 126 = .ok (.iload_n 1, 1) := by decide +kernel
theorem dX1_step_127 : decode cX1_step 127 = .ok (.bipush 25, 2) := by decide +kernel
theorem dX1_step_129 : decode cX1_step 129 = .ok (.bipush 7, 2) := by decide +kernel
theorem dX1_step_131 : decode cX1_step 131 = .ok (.invokestatic 49, 3) := by decide +kernel
theorem dX1_step_134 : decode cX1_step 134 = .ok (.putfield 66, 3) := by decide +kernel
theorem dX1_step_137 : decode cX1_step 137 = .ok (.aload_n 0, 1) := by decide +kernel
theorem dX1_step_138 : decode cX1_step 138 = .ok (.iload_n 1, 1) := by decide +kernel
theorem dX1_step_139 : decode cX1_step 139 = .ok (.bipush 20, 2) := by decide +kernel
theorem dX1_step_141 : decode cX1_step 141 = .ok (.bipush 12, 2) := by decide +kernel
theorem dX1_step_143 : decode cX1_step 143 = .ok (.invokestatic 49, 3) := by decide +kernel
theorem dX1_step_146 : decode cX1_step 146 = .ok (.bipush 12, 2) := by decide +kernel
theorem dX1_step_148 : decode cX1_step 148 = .ok (.invokestatic 69, 3) := by decide +kernel
theorem dX1_step_151 : decode cX1_step 151 = .ok (.putfield 73, 3) := by decide +kernel
theorem dX1_step_154 : decode cX1_step 154 = .ok (.aload_n 0, 1) := by decide +kernel
theorem dX1_step_155 : decode cX1_step 155 = .ok (.iload_n 1, 1) := by decide +kernel
theorem dX1_step_156 : decode cX1_step 156 = .ok (.iconst 0, 1) := by decide +kernel
theorem dX1_step_157 : decode cX1_step 157 = .ok (.bipush 7, 2) := by decide +kernel
theorem dX1_step_159 : decode cX1_step 159 = .ok (.invokestatic 49, 3) := by decide +kernel
theorem dX1_step_162 : decode cX1_step 162 = .ok (.iload_n 1, 1) := by decide +kernel
theorem dX1_step_163 : decode cX1_step 163 = .ok (.invokevirtual 76, 3) := by decide +kernel
theorem dX1_step_166 : decode cX1_step 166 = .ok (.istore_n 2, 1) := by decide +kernel
theorem dX1_step_167 : decode cX1_step 167 = .ok (.iload_n 2, 1) := by decide +kernel
theorem dX1_step_168 : decode cX1_step 168 = .ok (.ifCond .le 5, 3) := by decide +kernel
theorem dX1_step_171 : decode cX1_step 171 = .ok (.iload_n 2, 1) := by decide +kernel
theorem dX1_step_172 : decode cX1_step 172 = .ok (.ireturn, 1) := by decide +kernel
theorem dX1_step_173 : decode cX1_step 173 = .ok (.aload_n 0, 1) := by decide +kernel
theorem dX1_step_174 : decode cX1_step 174 = .ok (.dup, 1) := by decide +kernel
theorem dX1_step_175 : decode cX1_step 175 = .ok (.getfield 42, 3) := by decide +kernel
theorem dX1_step_178 : decode cX1_step 178 = .ok (.iconst 1, 1) := by decide +kernel
theorem dX1_step_179 : decode cX1_step 179 = .ok (.iadd, 1) := by decide +kernel
theorem dX1_step_180 : decode cX1_step 180 = .ok (.putfield 42, 3) := by decide +kernel
theorem dX1_step_183 : decode cX1_step 183 = .ok (.iconst 0, 1) := by decide +kernel
theorem dX1_step_184 : decode cX1_step 184 = .ok (.ireturn, 1) := by decide +kernel
set_option maxRecDepth 20000 in
theorem ggX1_work_X1_branch : GoodIn wsX1_work wsX1_branch := goodIn_r _ [11, 4, 5, 12, 3, 13, 14, 10, 15, 16, 17, 18, 19, 20, 21, 22, 23, 24, 25, 26, 27, 78, 79, 80, 81, 82, 83, 84, 85, 86, 87, 88, 89] (by decide +kernel) (by decide +kernel)
set_option maxRecDepth 20000 in
theorem gX1_work_X1_branch : GoodIn wsX1_work (wsV RX1 79 RX1 yX1_branch wsX1_branch) := goodIn_app (goodIn_of _ (by decide +kernel)) ggX1_work_X1_branch
set_option maxRecDepth 20000 in
theorem ggX1_work_X1_bits : GoodIn wsX1_work wsX1_bits := goodIn_r _ [20, 21, 22, 10, 23, 24] (by decide +kernel) (by decide +kernel)
set_option maxRecDepth 20000 in
theorem gX1_work_X1_bits : GoodIn wsX1_work (va_wsS RX1 49 yX1_bits wsX1_bits) := goodIn_app (goodIn_of _ (by decide +kernel)) ggX1_work_X1_bits
set_option maxRecDepth 20000 in
theorem ggX1_work_X1_give : GoodIn wsX1_work wsX1_give := goodIn_r _ [31, 32, 21, 22, 10, 23, 24, 78, 79, 80, 81, 82, 83, 84, 85, 86, 87, 88, 89] (by decide +kernel) (by decide +kernel)
set_option maxRecDepth 20000 in
theorem gX1_work_X1_give : GoodIn wsX1_work (wsV RX1 35 RX1 yX1_give wsX1_give) := goodIn_app (goodIn_of _ (by decide +kernel)) ggX1_work_X1_give
set_option maxRecDepth 20000 in
theorem ggX1_work_X1_withSign : GoodIn wsX1_work wsX1_withSign := goodIn_r _ [27] (by decide +kernel) (by decide +kernel)
set_option maxRecDepth 20000 in
theorem gX1_work_X1_withSign : GoodIn wsX1_work (va_wsS RX1 69 yX1_withSign wsX1_withSign) := goodIn_app (goodIn_of _ (by decide +kernel)) ggX1_work_X1_withSign
set_option maxRecDepth 20000 in
theorem ggX1_work_X1_load : GoodIn wsX1_work wsX1_load := goodIn_r _ [36, 5, 6, 37, 38, 4, 39, 2, 40, 41, 42, 10, 43, 21, 22, 23, 24, 44, 45, 46, 47, 48, 28, 29, 30, 31, 32, 78, 79, 80, 81, 82, 83, 84, 85, 86, 87, 88, 89] (by decide +kernel) (by decide +kernel)
set_option maxRecDepth 20000 in
theorem gX1_work_X1_load : GoodIn wsX1_work (wsV RX1 84 RX1 yX1_load wsX1_load) := goodIn_app (goodIn_of _ (by decide +kernel)) ggX1_work_X1_load
set_option maxRecDepth 20000 in
theorem ggX1_work_X1_store : GoodIn wsX1_work wsX1_store := goodIn_r _ [52, 5, 53, 2, 12, 37, 38, 40, 41, 42, 10, 43, 4, 25, 26, 27, 21, 22, 23, 24, 44, 45, 46, 47, 48, 78, 79, 80, 81, 82, 83, 84, 85, 86, 87, 88, 89] (by decide +kernel) (by decide +kernel)
set_option maxRecDepth 20000 in
theorem gX1_work_X1_store : GoodIn wsX1_work (wsV RX1 87 RX1 yX1_store wsX1_store) := goodIn_app (goodIn_of _ (by decide +kernel)) ggX1_work_X1_store
set_option maxRecDepth 20000 in
theorem ggX1_work_X1_number : GoodIn wsX1_work wsX1_number := goodIn_r _ [57, 2, 48, 3, 4, 53, 5, 6, 12, 28, 29, 30, 10, 31, 32, 21, 22, 23, 24, 58, 59, 60, 61, 62, 63, 64, 39, 13, 14, 15, 16, 17, 65, 66, 67, 68, 69, 70, 71, 72, 73, 74, 75, 76, 77, 78, 79, 80, 81, 82, 83, 84, 85, 86, 87, 88, 89] (by decide +kernel) (by decide +kernel)
set_option maxRecDepth 20000 in
theorem gX1_work_X1_number : GoodIn wsX1_work (wsV RX1 90 RX1 yX1_number wsX1_number) := goodIn_app (goodIn_of _ (by decide +kernel)) ggX1_work_X1_number
theorem dX1_work_0 : decode cX1_work 0 = .ok (.iload_n 1, 1) := by decide +kernel
theorem dX1_work_1 : decode cX1_work 1 = .ok (.bipush 99, 2) := by decide +kernel
theorem dX1_work_3 : decode cX1_work 3 = .ok (.if_icmp .ne 9, 3) := by decide +kernel
theorem dX1_work_6 : decode cX1_work 6 = .ok (.aload_n 0, 1) := by decide +kernel
theorem dX1_work_7 : decode cX1_work 7 = .ok (.iload_n 2, 1) := by decide +kernel
theorem dX1_work_8 : decode cX1_work 8 = .ok (.invokevirtual 79, 3) := by decide +kernel
theorem dX1_work_11 : decode cX1_work 11 = .ok (.ireturn, 1) := by decide +kernel
theorem dX1_work_12 : decode cX1_work 12 = .ok (.iload_n 1, 1) := by decide +kernel
theorem dX1_work_13 : decode cX1_work 13 = .ok (.bipush 111, 2) := by decide +kernel
theorem dX1_work_15 : decode cX1_work 15 = .ok (.if_icmp .ne 82, 3) := by decide +kernel
theorem dX1_work_18 : decode cX1_work 18 = .ok (.iload_n 2, 1) := by decide +kernel
theorem dX1_work_19 : decode cX1_work 19 = .ok (.bipush 21, 2) := by decide +kernel
theorem dX1_work_21 : decode cX1_work 21 = .ok (.bipush 10, 2) := by decide +kernel
theorem dX1_work_23 : decode cX1_work 23 = .ok (.invokestatic 49, 3) := by decide +kernel
theorem dX1_work_26 : decode cX1_work 26 = .ok (.iconst 2, 1) := by decide +kernel
theorem dX1_work_27 : decode cX1_work 27 = .ok (.imul, 1) := by decide +kernel
theorem dX1_work_28 : decode cX1_work 28 = .ok (.iload_n 2, 1) := by decide +kernel
theorem dX1_work_29 : decode cX1_work 29 = .ok (.bipush 20, 2) := by decide +kernel
theorem dX1_work_31 : decode cX1_work 31 = .ok (.iconst 1, 1) := by decide +kernel
theorem dX1_work_32 : decode cX1_work 32 = .ok (.invokestatic 49, 3) := by decide +kernel
theorem dX1_work_35 : decode cX1_work 35 = .ok (.sipush 2048, 3) := by decide +kernel
theorem dX1_work_38 : decode cX1_work 38 = .ok (.imul, 1) := by decide +kernel
theorem dX1_work_39 : decode cX1_work 39 = .ok (.iadd, 1) := by decide +kernel
theorem dX1_work_40 : decode cX1_work 40 = .ok (.iload_n 2, 1) := by decide +kernel
theorem dX1_work_41 : decode cX1_work 41 = .ok (.bipush 12, 2) := by decide +kernel
theorem dX1_work_43 : decode cX1_work 43 = .ok (.bipush 8, 2) := by decide +kernel
theorem dX1_work_45 : decode cX1_work 45 = .ok (.invokestatic 49, 3) := by decide +kernel
theorem dX1_work_48 : decode cX1_work 48 = .ok (.sipush 4096, 3) := by decide +kernel
theorem dX1_work_51 : decode cX1_work 51 = .ok (.imul, 1) := by decide +kernel
theorem dX1_work_52 : decode cX1_work 52 = .ok (.iadd, 1) := by decide +kernel
theorem dX1_work_53 : decode cX1_work 53 = .ok (.iload_n 2, 1) := by decide +kernel
theorem dX1_work_54 : decode cX1_work 54 = .ok (.bipush 31, 2) := by decide +kernel
theorem dX1_work_56 : decode cX1_work 56 = .ok (.iconst 1, 1) := by decide +kernel
theorem dX1_work_57 : decode cX1_work 57 = .ok (.invokestatic 49, 3) := by decide +kernel
theorem dX1_work_60 : decode cX1_work 60 = .ok (.ldc 83, 2) := by decide +kernel
theorem dX1_work_62 : decode cX1_work 62 = .ok (.imul, 1) := by decide +kernel
theorem dX1_work_63 : decode cX1_work 63 = .ok (.iadd, 1) := by decide +kernel
theorem dX1_work_64 : decode cX1_work 64 = .ok (.istore_n 3, 1) := by decide +kernel
theorem dX1_work_65 : decode cX1_work 65 = .ok (.aload_n 0, 1) := by decide +kernel
theorem dX1_work_66 : decode cX1_work 66 = .ok (.aload_n 0, 1) := by decide +kernel
theorem dX1_work_67 : decode cX1_work 67 = .ok (.getfield 53, 3) := by decide +kernel
theorem dX1_work_70 : decode cX1_work 70 = .ok (.aload_n 0, 1) := by decide +kernel
theorem dX1_work_71 : decode cX1_work 71 = .ok (.getfield 39, 3) := by decide +kernel
theorem dX1_work_74 : decode cX1_work 74 = .ok (.iconst 4, 1) := by decide +kernel
theorem dX1_work_75 : decode cX1_work 75 = .ok (.iadd, 1) := by decide +kernel
theorem dX1_work_76 : decode cX1_work 76 = .ok (.i2l, 1) := by decide +kernel
theorem dX1_work_77 : decode cX1_work 77 = .ok (.invokevirtual 35, 3) := by decide +kernel
theorem dX1_work_80 : decode cX1_work 80 = .ok (.aload_n 0, 1) := by decide +kernel
theorem dX1_work_81 : decode cX1_work 81 = .ok (.dup, 1) := by decide +kernel
theorem dX1_work_82 : decode cX1_work 82 = .ok (.getfield 39, 3) := by decide +kernel
theorem dX1_work_85 : decode cX1_work 85 = .ok (.iload_n 3, 1) := by decide +kernel
theorem dX1_work_86 : decode cX1_work 86 = .ok (.bipush 21, 2) := by decide +kernel
theorem dX1_work_88 : decode cX1_work 88 = .ok (.invokestatic 69, 3) := by decide +kernel
theorem dX1_work_91 : decode cX1_work 91 = .ok (.iadd, 1) := by decide +kernel
theorem dX1_work_92 : decode cX1_work 92 = .ok (.putfield 39, 3) := by decide +kernel
theorem dX1_work_95 : decode cX1_work 95 = .ok (.iconst 0, 1) := by decide +kernel
theorem dX1_work_96 : decode cX1_work 96 = .ok (.ireturn, 1) := by decide +kernel
theorem dX1_work_97 : decode cX1_work 97 = .ok (.iload_n 1, 1) := by decide +kernel
theorem dX1_work_98 : decode cX1_work 98 = .ok (.bipush 103, 2) := by decide +kernel
theorem dX1_work_100 : decode cX1_work 100 = .ok (.if_icmp .ne 47, 3) := by decide +kernel
theorem dX1_work_103 : decode cX1_work 103 = .ok (.aload_n 0, 1) := by decide +kernel
theorem dX1_work_104 : decode cX1_work 104 = .ok (.getfield 56, 3) := by decide +kernel
theorem dX1_work_107 : decode cX1_work 107 = .ok (.ifCond .ne 40, 3) := by decide +kernel
theorem dX1_work_110 : decode cX1_work 110 = .ok (.aload_n 0, 1) := by decide +kernel
theorem dX1_work_111 : decode cX1_work 111 = .ok (.getfield 59, 3) := by decide +kernel
theorem dX1_work_114 : decode cX1_work 114 = .ok (.aload_n 0, 1) := by decide +kernel
theorem dX1_work_115 : decode cX1_work 115 = .ok (.getfield 73, 3) := by decide +kernel
theorem dX1_work_118 : decode cX1_work 118 = .ok (.i2l, 1) := by decide +kernel
theorem dX1_work_119 : decode cX1_work 119 = .ok (.ladd, 1) := by decide +kernel
theorem dX1_work_120 : decode cX1_work 120 = .ok (.l2i, 1) := by decide +kernel
theorem dX1_work_121 : decode cX1_work 121 = .ok (.bipush (-2), 2) := by decide +kernel
theorem dX1_work_123 : decode cX1_work 123 = .ok (.iand, 1) := by decide +kernel
theorem dX1_work_124 : decode cX1_work 124 = .ok (.istore_n 3, 1) := by decide +kernel
theorem dX1_work_125 : decode cX1_work 125 = .ok (.aload_n 0, 1) := by decide +kernel
theorem dX1_work_126 : decode cX1_work 126 = .ok (.aload_n 0, 1) := by decide +kernel
theorem dX1_work_127 : decode cX1_work 127 = .ok (.getfield 53, 3) := by decide +kernel
theorem dX1_work_130 : decode cX1_work 130 = .ok (.aload_n 0, 1) := by decide +kernel
theorem dX1_work_131 : decode cX1_work 131 = .ok (.getfield 39, 3) := by decide +kernel
theorem dX1_work_134 : decode cX1_work 134 = .ok (.iconst 4, 1) := by decide +kernel
theorem dX1_work_135 : decode cX1_work 135 = .ok (.iadd, 1) := by decide +kernel
theorem dX1_work_136 : decode cX1_work 136 = .ok (.i2l, 1) := by decide +kernel
theorem dX1_work_137 : decode cX1_work 137 = .ok (.invokevirtual 35, 3) := by decide +kernel
theorem dX1_work_140 : decode cX1_work 140 = .ok (.aload_n 0, 1) := by decide +kernel
theorem dX1_work_141 : decode cX1_work 141 = .ok (.iload_n 3, 1) := by decide +kernel
theorem dX1_work_142 : decode cX1_work 142 = .ok (.putfield 39, 3) := by decide +kernel
theorem dX1_work_145 : decode cX1_work 145 = .ok (.iconst 0, 1) := by decide +kernel
theorem dX1_work_146 : decode cX1_work 146 = .ok (.ireturn, 1) := by decide +kernel
theorem dX1_work_147 : decode cX1_work 147 = .ok (.iload_n 1, 1) := by decide +kernel
theorem dX1_work_148 : decode cX1_work 148 = .ok (.iconst 3, 1) := by decide +kernel
theorem dX1_work_149 : decode cX1_work 149 = .ok (.if_icmp .ne 10, 3) := by decide +kernel
theorem dX1_work_152 : decode cX1_work 152 = .ok (.aload_n 0, 1) := by decide +kernel
theorem dX1_work_153 : decode cX1_work 153 = .ok (.invokevirtual 84, 3) := by decide +kernel
theorem dX1_work_156 : decode cX1_work 156 = .ok (.goto 22, 3) := by decide +kernel
theorem dX1_work_159 : decode cX1_work 159 = .ok (.iload_n 1, 1) := by decide +kernel
theorem dX1_work_160 : decode cX1_work 160 = .ok (.bipush 35, 2) := by decide +kernel
theorem dX1_work_162 : decode cX1_work 162 = .ok (.if_icmp .ne 10, 3) := by decide +kernel
theorem dX1_work_165 : decode cX1_work 165 = .ok (.aload_n 0, 1) := by decide +kernel
theorem dX1_work_166 : decode cX1_work 166 = .ok (.invokevirtual 87, 3) := by decide +kernel
theorem dX1_work_169 : decode cX1_work 169 = .ok (.goto 9, 3) := by decide +kernel
theorem dX1_work_172 : decode cX1_work 172 = .ok (.aload_n 0, 1) := by decide +kernel
theorem dX1_work_173 : decode cX1_work 173 = .ok (.iload_n 1, 1) := by decide +kernel
theorem dX1_work_174 : decode cX1_work 174 = .ok (.iload_n 2, 1) := by decide +kernel
theorem dX1_work_175 : decode cX1_work 175 = .ok (.invokevirtual 90, 3) := by decide +kernel
theorem dX1_work_178 : decode cX1_work 178 = .ok (.istore_n 3, 1) := by decide +kernel
theorem dX1_work_179 : decode cX1_work 179 = .ok (.iload_n 3, 1) := by decide +kernel
theorem dX1_work_180 : decode cX1_work 180 = .ok (.ifCond .ne 13, 3) := by decide +kernel
theorem dX1_work_183 : decode cX1_work 183 = .ok (.aload_n 0, 1) := by decide +kernel
theorem dX1_work_184 : decode cX1_work 184 = .ok (.dup, 1) := by decide +kernel
theorem dX1_work_185 : decode cX1_work 185 = .ok (.getfield 39, 3) := by decide +kernel
theorem dX1_work_188 : decode cX1_work 188 = .ok (.iconst 4, 1) := by decide +kernel
theorem dX1_work_189 : decode cX1_work 189 = .ok (.iadd, 1) := by decide +kernel
theorem dX1_work_190 : decode cX1_work 190 = .ok (.putfield 39, 3) := by decide +kernel
theorem dX1_work_193 : decode cX1_work 193 = .ok (.iload_n 3, 1) := by decide +kernel
theorem dX1_work_194 : decode cX1_work 194 = .ok (.ireturn, 1) := by decide +kernel
set_option maxRecDepth 20000 in
theorem ggX1_branch_X1_signed : GoodIn wsX1_branch wsX1_signed := goodIn_r _ [8, 9, 10] (by decide +kernel) (by decide +kernel)
set_option maxRecDepth 20000 in
theorem gX1_branch_X1_signed : GoodIn wsX1_branch (va_wsS RX1 93 yX1_signed wsX1_signed) := goodIn_app (goodIn_of _ (by decide +kernel)) ggX1_branch_X1_signed
set_option maxRecDepth 20000 in
theorem ggX1_branch_X1_bits : GoodIn wsX1_branch wsX1_bits := goodIn_r _ [13, 14, 15, 7, 16, 17] (by decide +kernel) (by decide +kernel)
set_option maxRecDepth 20000 in
theorem gX1_branch_X1_bits : GoodIn wsX1_branch (va_wsS RX1 49 yX1_bits wsX1_bits) := goodIn_app (goodIn_of _ (by decide +kernel)) ggX1_branch_X1_bits
set_option maxRecDepth 20000 in
theorem ggX1_branch_X1_withSign : GoodIn wsX1_branch wsX1_withSign := goodIn_r _ [20] (by decide +kernel) (by decide +kernel)
set_option maxRecDepth 20000 in
theorem gX1_branch_X1_withSign : GoodIn wsX1_branch (va_wsS RX1 69 yX1_withSign wsX1_withSign) := goodIn_app (goodIn_of _ (by decide +kernel)) ggX1_branch_X1_withSign
theorem dX1_branch_0 : decode cX1_branch 0 = .ok (.aload_n 0, 1) := by decide +kernel
theorem dX1_branch_1 : decode cX1_branch 1 = .ok (.getfield 56, 3) := by decide +kernel
theorem dX1_branch_4 : decode cX1_branch 4 = .ok (.tableswitch 186 0 7 #[48, 69, 186, 186, 90, 117, 144, 165], 48) := by decide +kernel
theorem dX1_branch_52 : decode cX1_branch 52 = .ok (.aload_n 0, 1) := by decide +kernel
theorem dX1_branch_53 : decode cX1_branch 53 = .ok (.getfield 59, 3) := by decide +kernel
theorem dX1_branch_56 : decode cX1_branch 56 = .ok (.aload_n 0, 1) := by decide +kernel
theorem dX1_branch_57 : decode cX1_branch 57 = .ok (.getfield 63, 3) := by decide +kernel
theorem dX1_branch_60 : decode cX1_branch 60 = .ok (.lcmp, 1) := by decide +kernel
theorem dX1_branch_61 : decode cX1_branch 61 = .ok (.ifCond .ne 7, 3) := by decide +kernel
theorem dX1_branch_64 : decode cX1_branch 64 = .ok (.iconst 1, 1) := by decide +kernel
theorem dX1_branch_65 : decode cX1_branch 65 = .ok (.goto 4, 3) := by decide +kernel
theorem dX1_branch_68 : decode cX1_branch 68 = .ok (.iconst 0, 1) := by decide +kernel
theorem dX1_branch_69 : decode cX1_branch 69 = .ok (.istore_n 2, 1) := by decide +kernel
theorem dX1_branch_70 : decode cX1_branch 70 = .ok (.goto 122, 3) := by decide +kernel
theorem dX1_branch_73 : decode cX1_branch 73 = .ok (.aload_n 0, 1) := by decide +kernel
theorem dX1_branch_74 : decode cX1_branch 74 = .ok (.getfield 59, 3) := by decide +kernel
theorem dX1_branch_77 : decode cX1_branch 77 = .ok (.aload_n 0, 1) := by decide +kernel
theorem dX1_branch_78 : decode cX1_branch 78 = .ok (.getfield 63, 3) := by decide +kernel
theorem dX1_branch_81 : decode cX1_branch 81 = .ok (.lcmp, 1) := by decide +kernel
theorem dX1_branch_82 : decode cX1_branch 82 = .ok (.ifCond .eq 7, 3) := by decide +kernel
theorem dX1_branch_85 : decode cX1_branch 85 = .ok (.iconst 1, 1) := by decide +kernel
theorem dX1_branch_86 : decode cX1_branch 86 = .ok (.goto 4, 3) := by decide +kernel
theorem dX1_branch_89 : decode cX1_branch 89 = .ok (.iconst 0, 1) := by decide +kernel
theorem dX1_branch_90 : decode cX1_branch 90 = .ok (.istore_n 2, 1) := by decide +kernel
theorem dX1_branch_91 : decode cX1_branch 91 = .ok (.goto 101, 3) := by decide +kernel
theorem dX1_branch_94 : decode cX1_branch 94 = .ok (.aload_n 0, 1) := by decide +kernel
theorem dX1_branch_95 : decode cX1_branch 95 = .ok (.getfield 59, 3) := by decide +kernel
theorem dX1_branch_98 : decode cX1_branch 98 = .ok (.invokestatic 93, 3) := by decide +kernel
theorem dX1_branch_101 : decode cX1_branch 101 = .ok (.aload_n 0, 1) := by decide +kernel
theorem dX1_branch_102 : decode cX1_branch 102 = .ok (.getfield 63, 3) := by decide +kernel
theorem dX1_branch_105 : decode cX1_branch 105 = .ok (.invokestatic 93, 3) := by decide +kernel
theorem dX1_branch_108 : decode cX1_branch 108 = .ok (.lcmp, 1) := by decide +kernel
theorem dX1_branch_109 : decode cX1_branch 109 = .ok (.ifCond .ge 7, 3) := by decide +kernel
theorem dX1_branch_112 : decode cX1_branch 112 = .ok (.iconst 1, 1) := by decide +kernel
theorem dX1_branch_113 : decode cX1_branch 113 = .ok (.goto 4, 3) := by decide +kernel
theorem dX1_branch_116 : decode cX1_branch 116 = .ok (.iconst 0, 1) := by decide +kernel
theorem dX1_branch_117 : decode cX1_branch 117 = .ok (.istore_n 2, 1) := by decide +kernel
theorem dX1_branch_118 : decode cX1_branch 118 = .ok (.goto 74, 3) := by decide +kernel
theorem dX1_branch_121 : decode cX1_branch 121 = .ok (.aload_n 0, 1) := by decide +kernel
theorem dX1_branch_122 : decode cX1_branch 122 = .ok (.getfield 59, 3) := by decide +kernel
theorem dX1_branch_125 : decode cX1_branch 125 = .ok (.invokestatic 93, 3) := by decide +kernel
theorem dX1_branch_128 : decode cX1_branch 128 = .ok (.aload_n 0, 1) := by decide +kernel
theorem dX1_branch_129 : decode cX1_branch 129 = .ok (.getfield 63, 3) := by decide +kernel
theorem dX1_branch_132 : decode cX1_branch 132 = .ok (.invokestatic 93, 3) := by decide +kernel
theorem dX1_branch_135 : decode cX1_branch 135 = .ok (.lcmp, 1) := by decide +kernel
theorem dX1_branch_136 : decode cX1_branch 136 = .ok (.ifCond .lt 7, 3) := by decide +kernel
theorem dX1_branch_139 : decode cX1_branch 139 = .ok (.iconst 1, 1) := by decide +kernel
theorem dX1_branch_140 : decode cX1_branch 140 = .ok (.goto 4, 3) := by decide +kernel
theorem dX1_branch_143 : decode cX1_branch 143 = .ok (.iconst 0, 1) := by decide +kernel
theorem dX1_branch_144 : decode cX1_branch 144 = .ok (.istore_n 2, 1) := by decide +kernel
theorem dX1_branch_145 : decode cX1_branch 145 = .ok (.goto 47, 3) := by decide +kernel
theorem dX1_branch_148 : decode cX1_branch 148 = .ok (.aload_n 0, 1) := by decide +kernel
theorem dX1_branch_149 : decode cX1_branch 149 = .ok (.getfield 59, 3) := by decide +kernel
theorem dX1_branch_152 : decode cX1_branch 152 = .ok (.aload_n 0, 1) := by decide +kernel
theorem dX1_branch_153 : decode cX1_branch 153 = .ok (.getfield 63, 3) := by decide +kernel
theorem dX1_branch_156 : decode cX1_branch 156 = .ok (.lcmp, 1) := by decide +kernel
theorem dX1_branch_157 : decode cX1_branch 157 = .ok (.ifCond .ge 7, 3) := by decide +kernel
theorem dX1_branch_160 : decode cX1_branch 160 = .ok (.iconst 1, 1) := by decide +kernel
theorem dX1_branch_161 : decode cX1_branch 161 = .ok (.goto 4, 3) := by decide +kernel
theorem dX1_branch_164 : decode cX1_branch 164 = .ok (.iconst 0, 1) := by decide +kernel
theorem dX1_branch_165 : decode cX1_branch 165 = .ok (.istore_n 2, 1) := by decide +kernel
theorem dX1_branch_166 : decode cX1_branch 166 = .ok (.goto 26, 3) := by decide +kernel
theorem dX1_branch_169 : decode cX1_branch 169 = .ok (.aload_n 0, 1) := by decide +kernel
theorem dX1_branch_170 : decode cX1_branch 170 = .ok (.getfield 59, 3) := by decide +kernel
theorem dX1_branch_173 : decode cX1_branch 173 = .ok (.aload_n 0, 1) := by decide +kernel
theorem dX1_branch_174 : decode cX1_branch 174 = .ok (.getfield 63, 3) := by decide +kernel
theorem dX1_branch_177 : decode cX1_branch 177 = .ok (.lcmp, 1) := by decide +kernel
theorem dX1_branch_178 : decode cX1_branch 178 = .ok (.ifCond .lt 7, 3) := by decide +kernel
theorem dX1_branch_181 : decode cX1_branch 181 = .ok (.iconst 1, 1) := by decide +kernel
theorem dX1_branch_182 : decode cX1_branch 182 = .ok (.goto 4, 3) := by decide +kernel
theorem dX1_branch_185 : decode cX1_branch 185 = .ok (.iconst 0, 1) := by decide +kernel
theorem dX1_branch_186 : decode cX1_branch 186 = .ok (.istore_n 2, 1) := by decide +kernel
theorem dX1_branch_187 : decode cX1_branch 187 = .ok (.goto 5, 3) := by decide +kernel
theorem dX1_branch_190 : decode cX1_branch 190 = .ok (.iconst 3, 1) := by decide +kernel
theorem dX1_branch_191 : decode cX1_branch 191 = .ok (.ireturn, 1) := by decide +kernel
theorem dX1_branch_192 : decode cX1_branch 192 = .ok (.iload_n 1, 1) := by decide +kernel
theorem dX1_branch_193 : decode cX1_branch 193 = .ok (.bipush 8, 2) := by decide +kernel
theorem dX1_branch_195 : decode cX1_branch 195 = .ok (.iconst 4, 1) := by decide +kernel
theorem dX1_branch_196 : decode cX1_branch 196 = .ok (.invokestatic 49, 3) := by decide +kernel
theorem dX1_branch_199 : decode cX1_branch 199 = .ok (.iconst 2, 1) := by decide +kernel
theorem dX1_branch_200 : decode cX1_branch 200 = .ok (.imul, 1) := by decide +kernel
theorem dX1_branch_201 : decode cX1_branch 201 = .ok (.iload_n 1, 1) := by decide +kernel
theorem dX1_branch_202 : decode cX1_branch 202 = .ok (.bipush 25, 2) := by decide +kernel
theorem dX1_branch_204 : decode cX1_branch 204 = .ok (.bipush 6, 2) := by decide +kernel
theorem dX1_branch_206 : decode cX1_branch 206 = .ok (.invokestatic 49, 3) := by decide +kernel
theorem dX1_branch_209 : decode cX1_branch 209 = .ok (.bipush 32, 2) := by decide +kernel
theorem dX1_branch_211 : decode cX1_branch 211 = .ok (.imul, 1) := by decide +kernel
theorem dX1_branch_212 : decode cX1_branch 212 = .ok (.iadd, 1) := by decide +kernel
theorem dX1_branch_213 : decode cX1_branch 213 = .ok (.iload_n 1, 1) := by decide +kernel
theorem dX1_branch_214 : decode cX1_branch 214 = .ok (.bipush 7, 2) := by decide +kernel
theorem dX1_branch_216 : decode cX1_branch 216 = .ok (.iconst 1, 1) := by decide +kernel
theorem dX1_branch_217 : decode cX1_branch 217 = .ok (.invokestatic 49, 3) := by decide +kernel
theorem dX1_branch_220 : decode cX1_branch 220 = .ok (.sipush 2048, 3) := by decide +kernel
theorem dX1_branch_223 : decode cX1_branch 223 = .ok (.imul, 1) := by decide +kernel
theorem dX1_branch_224 : decode cX1_branch 224 = .ok (.iadd, 1) := by decide +kernel
theorem dX1_branch_225 : decode cX1_branch 225 = .ok (.iload_n 1, 1) := by decide +kernel
theorem dX1_branch_226 : decode cX1_branch 226 = .ok (.bipush 31, 2) := by decide +kernel
theorem dX1_branch_228 : decode cX1_branch 228 = .ok (.iconst 1, 1) := by decide +kernel
theorem dX1_branch_229 : decode cX1_branch 229 = .ok (.invokestatic 49, 3) := by decide +kernel
theorem dX1_branch_232 : decode cX1_branch 232 = .ok (.sipush 4096, 3) := by decide +kernel
theorem dX1_branch_235 : decode cX1_branch 235 = .ok (.imul, 1) := by decide +kernel
theorem dX1_branch_236 : decode cX1_branch 236 = .ok (.iadd, 1) := by decide +kernel
theorem dX1_branch_237 : decode cX1_branch 237 = .ok (.istore_n 3, 1) := by decide +kernel
theorem dX1_branch_238 : decode cX1_branch 238 = .ok (.aload_n 0, 1) := by decide +kernel
theorem dX1_branch_239 : decode cX1_branch 239 = .ok (.dup, 1) := by decide +kernel
theorem dX1_branch_240 : decode cX1_branch 240 = .ok (.getfield 39, 3) := by decide +kernel
theorem dX1_branch_243 : decode cX1_branch 243 = .ok (.iload_n 2, 1) := by decide +kernel
theorem dX1_branch_244 : decode cX1_branch 244 = .ok (.ifCond .eq 12, 3) := by decide +kernel
theorem dX1_branch_247 : decode cX1_branch 247 = .ok (.iload_n 3, 1) := by decide +kernel
theorem dX1_branch_248 : decode cX1_branch 248 = .ok (.bipush 13, 2) := by decide +kernel
theorem dX1_branch_250 : decode cX1_branch 250 = .ok (.invokestatic 69, 3) := by decide +kernel
theorem dX1_branch_253 : decode cX1_branch 253 = .ok (.goto 4, 3) := by decide +kernel
theorem dX1_branch_256 : decode cX1_branch 256 = .ok (.iconst 4, 1) := by decide +kernel
theorem dX1_branch_257 : decode cX1_branch 257 = .ok (.iadd, 1) := by decide +kernel
theorem dX1_branch_258 : decode cX1_branch 258 = .ok (.putfield 39, 3) := by decide +kernel
theorem dX1_branch_261 : decode cX1_branch 261 = .ok (.iconst 0, 1) := by decide +kernel
theorem dX1_branch_262 : decode cX1_branch 262 = .ok (.ireturn, 1) := by decide +kernel
theorem dX1_width_0 : decode cX1_width 0 = .ok (.aload_n 0, 1) := by decide +kernel
theorem dX1_width_1 : decode cX1_width 1 = .ok (.getfield 56, 3) := by decide +kernel
theorem dX1_width_4 : decode cX1_width 4 = .ok (.ifCond .eq 15, 3) := by decide +kernel
theorem dX1_width_7 : decode cX1_width 7 = .ok (.iload_n 1, 1) := by decide +kernel
theorem dX1_width_8 : decode cX1_width 8 = .ok (.ifCond .eq 15, 3) := by decide +kernel
theorem dX1_width_11 : decode cX1_width 11 = .ok (.aload_n 0, 1) := by decide +kernel
theorem dX1_width_12 : decode cX1_width 12 = .ok (.getfield 56, 3) := by decide +kernel
theorem dX1_width_15 : decode cX1_width 15 = .ok (.iconst 4, 1) := by decide +kernel
theorem dX1_width_16 : decode cX1_width 16 = .ok (.if_icmp .ne 7, 3) := by decide +kernel
theorem dX1_width_19 : decode cX1_width 19 = .ok (.iconst 1, 1) := by decide +kernel
theorem dX1_width_20 : decode cX1_width 20 = .ok (.goto 40, 3) := by decide +kernel
theorem dX1_width_23 : decode cX1_width 23 = .ok (.aload_n 0, 1) := by decide +kernel
theorem dX1_width_24 : decode cX1_width 24 = .ok (.getfield 56, 3) := by decide +kernel
theorem dX1_width_27 : decode cX1_width 27 = .ok (.iconst 1, 1) := by decide +kernel
theorem dX1_width_28 : decode cX1_width 28 = .ok (.if_icmp .eq 15, 3) := by decide +kernel
theorem dX1_width_31 : decode cX1_width 31 = .ok (.iload_n 1, 1) := by decide +kernel
theorem dX1_width_32 : decode cX1_width 32 = .ok (.ifCond .eq 15, 3) := by decide +kernel
theorem dX1_width_35 : decode cX1_width 35 = .ok (.aload_n 0, 1) := by decide +kernel
theorem dX1_width_36 : decode cX1_width 36 = .ok (.getfield 56, 3) := by decide +kernel
theorem dX1_width_39 : decode cX1_width 39 = .ok (.iconst 5, 1) := by decide +kernel
theorem dX1_width_40 : decode cX1_width 40 = .ok (.if_icmp .ne 7, 3) := by decide +kernel
theorem dX1_width_43 : decode cX1_width 43 = .ok (.iconst 2, 1) := by decide +kernel
theorem dX1_width_44 : decode cX1_width 44 = .ok (.goto 16, 3) := by decide +kernel
theorem dX1_width_47 : decode cX1_width 47 = .ok (.aload_n 0, 1) := by decide +kernel
theorem dX1_width_48 : decode cX1_width 48 = .ok (.getfield 56, 3) := by decide +kernel
theorem dX1_width_51 : decode cX1_width 51 = .ok (.iconst 2, 1) := by decide +kernel
theorem dX1_width_52 : decode cX1_width 52 = .ok (.if_icmp .ne 7, 3) := by decide +kernel
theorem dX1_width_55 : decode cX1_width 55 = .ok (.iconst 4, 1) := by decide +kernel
theorem dX1_width_56 : decode cX1_width 56 = .ok (.goto 4, 3) := by decide +kernel
theorem dX1_width_59 : decode cX1_width 59 = .ok (.iconst 0, 1) := by decide +kernel
theorem dX1_width_60 : decode cX1_width 60 = .ok (.ireturn, 1) := by decide +kernel
theorem dX1_isThere_0 : decode cX1_isThere 0 = .ok (.lload_n 1, 1) := by decide +kernel
theorem dX1_isThere_1 : decode cX1_isThere 1 = .ok (.iload_n 3, 1) := by decide +kernel
theorem dX1_isThere_2 : decode cX1_isThere 2 = .ok (.i2l, 1) := by decide +kernel
theorem dX1_isThere_3 : decode cX1_isThere 3 = .ok (.lrem, 1) := by decide +kernel
theorem dX1_isThere_4 : decode cX1_isThere 4 = .ok (.lconst 0, 1) := by decide +kernel
theorem dX1_isThere_5 : decode cX1_isThere 5 = .ok (.lcmp, 1) := by decide +kernel
theorem dX1_isThere_6 : decode cX1_isThere 6 = .ok (.ifCond .ne 18, 3) := by decide +kernel
theorem dX1_isThere_9 : decode cX1_isThere 9 = .ok (.lload_n 1, 1) := by decide +kernel
theorem dX1_isThere_10 : decode cX1_isThere 10 = .ok (.iload_n 3, 1) := by decide +kernel
theorem dX1_isThere_11 : decode cX1_isThere 11 = .ok (.i2l, 1) := by decide +kernel
theorem dX1_isThere_12 : decode cX1_isThere 12 = .ok (.ladd, 1) := by decide +kernel
theorem dX1_isThere_13 : decode cX1_isThere 13 = .ok (.ldc2_w 96, 3) := by decide +kernel
theorem dX1_isThere_16 : decode cX1_isThere 16 = .ok (.lcmp, 1) := by decide +kernel
theorem dX1_isThere_17 : decode cX1_isThere 17 = .ok (.ifCond .gt 7, 3) := by decide +kernel
theorem dX1_isThere_20 : decode cX1_isThere 20 = .ok (.iconst 1, 1) := by decide +kernel
theorem dX1_isThere_21 : decode cX1_isThere 21 = .ok (.goto 4, 3) := by decide +kernel
theorem dX1_isThere_24 : decode cX1_isThere 24 = .ok (.iconst 0, 1) := by decide +kernel
theorem dX1_isThere_25 : decode cX1_isThere 25 = .ok (.ireturn, 1) := by decide +kernel
set_option maxRecDepth 20000 in
theorem ggX1_load_X1_width : GoodIn wsX1_load wsX1_width := goodIn_r _ [12, 5, 27, 28, 29, 30, 31, 32, 33, 34, 35, 36, 37, 38] (by decide +kernel) (by decide +kernel)
set_option maxRecDepth 20000 in
theorem gX1_load_X1_width : GoodIn wsX1_load (wsV RX1 98 RX1 yX1_width wsX1_width) := goodIn_app (goodIn_of _ (by decide +kernel)) ggX1_load_X1_width
set_option maxRecDepth 20000 in
theorem ggX1_load_X1_plain : GoodIn wsX1_load wsX1_plain := goodIn_r _ [15, 16] (by decide +kernel) (by decide +kernel)
set_option maxRecDepth 20000 in
theorem gX1_load_X1_plain : GoodIn wsX1_load (va_wsS RX1 31 yX1_plain wsX1_plain) := goodIn_app (goodIn_of _ (by decide +kernel)) ggX1_load_X1_plain
set_option maxRecDepth 20000 in
theorem ggX1_load_X1_isThere : GoodIn wsX1_load wsX1_isThere := goodIn_r _ [20, 21] (by decide +kernel) (by decide +kernel)
set_option maxRecDepth 20000 in
theorem gX1_load_X1_isThere : GoodIn wsX1_load (wsV RX1 102 RX1 yX1_isThere wsX1_isThere) := goodIn_app (goodIn_of _ (by decide +kernel)) ggX1_load_X1_isThere
set_option maxRecDepth 20000 in
theorem ggX1_load_X1_give : GoodIn wsX1_load wsX1_give := goodIn_r _ [25, 26, 13, 14, 11, 15, 16, 27, 28, 29, 30, 31, 32, 33, 34, 35, 36, 37, 38] (by decide +kernel) (by decide +kernel)
set_option maxRecDepth 20000 in
theorem gX1_load_X1_give : GoodIn wsX1_load (wsV RX1 35 RX1 yX1_give wsX1_give) := goodIn_app (goodIn_of _ (by decide +kernel)) ggX1_load_X1_give
theorem dX1_load_0 : decode cX1_load 0 = .ok (.aload_n 0, 1) := by decide +kernel
theorem dX1_load_1 : decode cX1_load 1 = .ok (.iconst 1, 1) := by decide +kernel
theorem dX1_load_2 : decode cX1_load 2 = .ok (.invokevirtual 98, 3) := by decide +kernel
theorem dX1_load_5 : decode cX1_load 5 = .ok (.istore_n 1, 1) := by decide +kernel
theorem dX1_load_6 : decode cX1_load 6 = .ok (.iload_n 1, 1) := by decide +kernel
theorem dX1_load_7 : decode cX1_load 7 = .ok (.ifCond .ne 5, 3) := by decide +kernel
theorem dX1_load_10 : decode cX1_load 10 = .ok (.iconst 3, 1) := by decide +kernel
theorem dX1_load_11 : decode cX1_load 11 = .ok (.ireturn, 1) := by decide +kernel
theorem dX1_load_12 : decode cX1_load 12 = .ok (.aload_n 0, 1) := by decide +kernel
theorem dX1_load_13 : decode cX1_load 13 = .ok (.getfield 59, 3) := by decide +kernel
theorem dX1_load_16 : decode cX1_load 16 = .ok (.aload_n 0, 1) := by decide +kernel
theorem dX1_load_17 : decode cX1_load 17 = .ok (.getfield 73, 3) := by decide +kernel
theorem dX1_load_20 : decode cX1_load 20 = .ok (.i2l, 1) := by decide +kernel
theorem dX1_load_21 : decode cX1_load 21 = .ok (.ladd, 1) := by decide +kernel
theorem dX1_load_22 : decode cX1_load 22 = .ok (.invokestatic 31, 3) := by decide +kernel
theorem dX1_load_25 : decode cX1_load 25 = .ok (.lstore_n 2, 1) := by decide +kernel
theorem dX1_load_26 : decode cX1_load 26 = .ok (.aload_n 0, 1) := by decide +kernel
theorem dX1_load_27 : decode cX1_load 27 = .ok (.lload_n 2, 1) := by decide +kernel
theorem dX1_load_28 : decode cX1_load 28 = .ok (.iload_n 1, 1) := by decide +kernel
theorem dX1_load_29 : decode cX1_load 29 = .ok (.invokevirtual 102, 3) := by decide +kernel
theorem dX1_load_32 : decode cX1_load 32 = .ok (.ifCond .ne 5, 3) := by decide +kernel
theorem dX1_load_35 : decode cX1_load 35 = .ok (.iconst 4, 1) := by decide +kernel
theorem dX1_load_36 : decode cX1_load 36 = .ok (.ireturn, 1) := by decide +kernel
theorem dX1_load_37 : decode cX1_load 37 = .ok (.lconst 0, 1) := by decide +kernel
theorem dX1_load_38 : decode cX1_load 38 = .ok (.lstore 4, 2) := by decide +kernel
theorem dX1_load_40 : decode cX1_load 40 = .ok (.lconst 1, 1) := by decide +kernel
