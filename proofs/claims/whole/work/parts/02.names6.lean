theorem dX1_product_135 : decode cX1_product 135 = .ok (.getfield 63, 3) := by decide +kernel
theorem dX1_product_138 : decode cX1_product 138 = .ok (.ldiv, 1) := by decide +kernel
theorem dX1_product_139 : decode cX1_product 139 = .ok (.lreturn, 1) := by decide +kernel
theorem dX1_product_140 : decode cX1_product 140 = .ok (.aload_n 0, 1) := by decide +kernel
theorem dX1_product_141 : decode cX1_product 141 = .ok (.getfield 63, 3) := by decide +kernel
theorem dX1_product_144 : decode cX1_product 144 = .ok (.lconst 0, 1) := by decide +kernel
theorem dX1_product_145 : decode cX1_product 145 = .ok (.lcmp, 1) := by decide +kernel
theorem dX1_product_146 : decode cX1_product 146 = .ok (.ifCond .ne 10, 3) := by decide +kernel
theorem dX1_product_149 : decode cX1_product 149 = .ok (.aload_n 0, 1) := by decide +kernel
theorem dX1_product_150 : decode cX1_product 150 = .ok (.getfield 59, 3) := by decide +kernel
theorem dX1_product_153 : decode cX1_product 153 = .ok (.goto 6, 3) := by decide +kernel
theorem dX1_product_156 : decode cX1_product 156 = .ok (.lload_n 1, 1) := by decide +kernel
theorem dX1_product_157 : decode cX1_product 157 = .ok (.lload_n 3, 1) := by decide +kernel
theorem dX1_product_158 : decode cX1_product 158 = .ok (.lrem, 1) := by decide +kernel
theorem dX1_product_159 : decode cX1_product 159 = .ok (.lreturn, 1) := by decide +kernel
theorem dX1_product_160 : decode cX1_product 160 = .ok (.aload_n 0, 1) := by decide +kernel
theorem dX1_product_161 : decode cX1_product 161 = .ok (.getfield 63, 3) := by decide +kernel
theorem dX1_product_164 : decode cX1_product 164 = .ok (.lconst 0, 1) := by decide +kernel
theorem dX1_product_165 : decode cX1_product 165 = .ok (.lcmp, 1) := by decide +kernel
theorem dX1_product_166 : decode cX1_product 166 = .ok (.ifCond .ne 10, 3) := by decide +kernel
theorem dX1_product_169 : decode cX1_product 169 = .ok (.aload_n 0, 1) := by decide +kernel
theorem dX1_product_170 : decode cX1_product 170 = .ok (.getfield 59, 3) := by decide +kernel
theorem dX1_product_173 : decode cX1_product 173 = .ok (.goto 12, 3) := by decide +kernel
theorem dX1_product_176 : decode cX1_product 176 = .ok (.aload_n 0, 1) := by decide +kernel
theorem dX1_product_177 : decode cX1_product 177 = .ok (.getfield 59, 3) := by decide +kernel
theorem dX1_product_180 : decode cX1_product 180 = .ok (.aload_n 0, 1) := by decide +kernel
theorem dX1_product_181 : decode cX1_product 181 = .ok (.getfield 63, 3) := by decide +kernel
theorem dX1_product_184 : decode cX1_product 184 = .ok (.lrem, 1) := by decide +kernel
theorem dX1_product_185 : decode cX1_product 185 = .ok (.lreturn, 1) := by decide +kernel
theorem dX1_upper_0 : decode cX1_upper 0 = .ok (.aload_n 0, 1) := by decide +kernel
theorem dX1_upper_1 : decode cX1_upper 1 = .ok (.getfield 59, 3) := by decide +kernel
theorem dX1_upper_4 : decode cX1_upper 4 = .ok (.ldc2_w 132, 3) := by decide +kernel
theorem dX1_upper_7 : decode cX1_upper 7 = .ok (.ldiv, 1) := by decide +kernel
theorem dX1_upper_8 : decode cX1_upper 8 = .ok (.lstore_n 1, 1) := by decide +kernel
theorem dX1_upper_9 : decode cX1_upper 9 = .ok (.aload_n 0, 1) := by decide +kernel
theorem dX1_upper_10 : decode cX1_upper 10 = .ok (.getfield 59, 3) := by decide +kernel
theorem dX1_upper_13 : decode cX1_upper 13 = .ok (.ldc2_w 132, 3) := by decide +kernel
theorem dX1_upper_16 : decode cX1_upper 16 = .ok (.lrem, 1) := by decide +kernel
theorem dX1_upper_17 : decode cX1_upper 17 = .ok (.lstore_n 3, 1) := by decide +kernel
theorem dX1_upper_18 : decode cX1_upper 18 = .ok (.aload_n 0, 1) := by decide +kernel
theorem dX1_upper_19 : decode cX1_upper 19 = .ok (.getfield 63, 3) := by decide +kernel
theorem dX1_upper_22 : decode cX1_upper 22 = .ok (.ldc2_w 132, 3) := by decide +kernel
theorem dX1_upper_25 : decode cX1_upper 25 = .ok (.ldiv, 1) := by decide +kernel
theorem dX1_upper_26 : decode cX1_upper 26 = .ok (.lstore 5, 2) := by decide +kernel
theorem dX1_upper_28 : decode cX1_upper 28 = .ok (.aload_n 0, 1) := by decide +kernel
theorem dX1_upper_29 : decode cX1_upper 29 = .ok (.getfield 63, 3) := by decide +kernel
theorem dX1_upper_32 : decode cX1_upper 32 = .ok (.ldc2_w 132, 3) := by decide +kernel
theorem dX1_upper_35 : decode cX1_upper 35 = .ok (.lrem, 1) := by decide +kernel
theorem dX1_upper_36 : decode cX1_upper 36 = .ok (.lstore 7, 2) := by decide +kernel
theorem dX1_upper_38 : decode cX1_upper 38 = .ok (.lload_n 1, 1) := by decide +kernel
theorem dX1_upper_39 : decode cX1_upper 39 = .ok (.lload 7, 2) := by decide +kernel
theorem dX1_upper_41 : decode cX1_upper 41 = .ok (.lmul, 1) := by decide +kernel
theorem dX1_upper_42 : decode cX1_upper 42 = .ok (.lload_n 3, 1) := by decide +kernel
theorem dX1_upper_43 : decode cX1_upper 43 = .ok (.lload 7, 2) := by decide +kernel
theorem dX1_upper_45 : decode cX1_upper 45 = .ok (.lmul, 1) := by decide +kernel
theorem dX1_upper_46 : decode cX1_upper 46 = .ok (.ldc2_w 132, 3) := by decide +kernel
theorem dX1_upper_49 : decode cX1_upper 49 = .ok (.ldiv, 1) := by decide +kernel
theorem dX1_upper_50 : decode cX1_upper 50 = .ok (.ladd, 1) := by decide +kernel
theorem dX1_upper_51 : decode cX1_upper 51 = .ok (.lstore 9, 2) := by decide +kernel
theorem dX1_upper_53 : decode cX1_upper 53 = .ok (.lload_n 3, 1) := by decide +kernel
theorem dX1_upper_54 : decode cX1_upper 54 = .ok (.lload 5, 2) := by decide +kernel
theorem dX1_upper_56 : decode cX1_upper 56 = .ok (.lmul, 1) := by decide +kernel
theorem dX1_upper_57 : decode cX1_upper 57 = .ok (.lload 9, 2) := by decide +kernel
theorem dX1_upper_59 : decode cX1_upper 59 = .ok (.ldc2_w 132, 3) := by decide +kernel
theorem dX1_upper_62 : decode cX1_upper 62 = .ok (.lrem, 1) := by decide +kernel
theorem dX1_upper_63 : decode cX1_upper 63 = .ok (.ladd, 1) := by decide +kernel
theorem dX1_upper_64 : decode cX1_upper 64 = .ok (.lstore 11, 2) := by decide +kernel
theorem dX1_upper_66 : decode cX1_upper 66 = .ok (.lload_n 1, 1) := by decide +kernel
theorem dX1_upper_67 : decode cX1_upper 67 = .ok (.lload 5, 2) := by decide +kernel
theorem dX1_upper_69 : decode cX1_upper 69 = .ok (.lmul, 1) := by decide +kernel
theorem dX1_upper_70 : decode cX1_upper 70 = .ok (.lload 9, 2) := by decide +kernel
theorem dX1_upper_72 : decode cX1_upper 72 = .ok (.ldc2_w 132, 3) := by decide +kernel
theorem dX1_upper_75 : decode cX1_upper 75 = .ok (.ldiv, 1) := by decide +kernel
theorem dX1_upper_76 : decode cX1_upper 76 = .ok (.ladd, 1) := by decide +kernel
theorem dX1_upper_77 : decode cX1_upper 77 = .ok (.lload 11, 2) := by decide +kernel
theorem dX1_upper_79 : decode cX1_upper 79 = .ok (.ldc2_w 132, 3) := by decide +kernel
theorem dX1_upper_82 : decode cX1_upper 82 = .ok (.ldiv, 1) := by decide +kernel
theorem dX1_upper_83 : decode cX1_upper 83 = .ok (.ladd, 1) := by decide +kernel
theorem dX1_upper_84 : decode cX1_upper 84 = .ok (.lreturn, 1) := by decide +kernel
set_option maxRecDepth 20000 in
theorem ggL_law_X0_init : GoodIn wsL_law wsX0_init := goodIn_r _ [8, 9, 10, 11, 12, 13, 14, 15, 16, 17, 18, 330, 331, 332, 333, 334, 335] (by decide +kernel) (by decide +kernel)
set_option maxRecDepth 20000 in
theorem gL_law_X0_init : GoodIn wsL_law (wsX0_init) := ggL_law_X0_init
set_option maxRecDepth 20000 in
theorem ggL_law_X1_init : GoodIn wsL_law wsX1_init := goodIn_r _ [21, 22, 10, 11, 12, 23, 24, 25, 26, 27, 336, 337, 338, 339, 340, 341, 342, 343, 344, 345, 346, 347] (by decide +kernel) (by decide +kernel)
set_option maxRecDepth 20000 in
theorem gL_law_X1_init : GoodIn wsL_law (wsX1_init) := ggL_law_X1_init
set_option maxRecDepth 20000 in
theorem ggL_law_X0_word : GoodIn wsL_law wsX0_word := goodIn_r _ [31, 16, 13, 330, 331, 332, 333, 334, 335] (by decide +kernel) (by decide +kernel)
set_option maxRecDepth 20000 in
theorem gL_law_X0_word : GoodIn wsL_law (wsV RL 13 RX0 yX0_word wsX0_word) := goodIn_app (goodIn_of _ (by decide +kernel)) ggL_law_X0_word
set_option maxRecDepth 20000 in
theorem ggL_law_X1_word : GoodIn wsL_law wsX1_word := goodIn_r _ [35, 36, 23, 336, 337, 338, 339, 340, 341, 342, 343, 344, 345, 346, 347] (by decide +kernel) (by decide +kernel)
set_option maxRecDepth 20000 in
theorem gL_law_X1_word : GoodIn wsL_law (wsV RL 17 RX1 yX1_word wsX1_word) := goodIn_app (goodIn_of _ (by decide +kernel)) ggL_law_X1_word
set_option maxRecDepth 20000 in
theorem ggL_law_X0_put : GoodIn wsL_law wsX0_put := goodIn_r _ [40, 41, 42, 2, 43, 44, 45, 46, 47, 14, 330, 331, 332, 333, 334, 335] (by decide +kernel) (by decide +kernel)
set_option maxRecDepth 20000 in
theorem gL_law_X0_put : GoodIn wsL_law (wsV RL 18 RX0 yX0_put wsX0_put) := goodIn_app (goodIn_of _ (by decide +kernel)) ggL_law_X0_put
set_option maxRecDepth 20000 in
theorem ggL_law_X1_put : GoodIn wsL_law wsX1_put := goodIn_r _ [51, 52, 53, 54, 5, 55, 25, 56, 57, 58, 59, 336, 337, 338, 339, 340, 341, 342, 343, 344, 345, 346, 347] (by decide +kernel) (by decide +kernel)
set_option maxRecDepth 20000 in
theorem gL_law_X1_put : GoodIn wsL_law (wsV RL 22 RX1 yX1_put wsX1_put) := goodIn_app (goodIn_of _ (by decide +kernel)) ggL_law_X1_put
set_option maxRecDepth 20000 in
theorem ggL_law_X0_get : GoodIn wsL_law wsX0_get := goodIn_r _ [63, 14, 41, 42, 2, 43, 330, 331, 332, 333, 334, 335] (by decide +kernel) (by decide +kernel)
set_option maxRecDepth 20000 in
theorem gL_law_X0_get : GoodIn wsL_law (wsV RL 23 RX0 yX0_get wsX0_get) := goodIn_app (goodIn_of _ (by decide +kernel)) ggL_law_X0_get
set_option maxRecDepth 20000 in
theorem ggL_law_X1_get : GoodIn wsL_law wsX1_get := goodIn_r _ [67, 25, 336, 337, 338, 339, 340, 341, 342, 343, 344, 345, 346, 347] (by decide +kernel) (by decide +kernel)
set_option maxRecDepth 20000 in
theorem gL_law_X1_get : GoodIn wsL_law (wsV RL 26 RX1 yX1_get wsX1_get) := goodIn_app (goodIn_of _ (by decide +kernel)) ggL_law_X1_get
set_option maxRecDepth 20000 in
theorem ggL_law_X0_poke : GoodIn wsL_law wsX0_poke := goodIn_r _ [71, 72, 73, 2, 74, 75, 76, 77, 78, 79, 80, 81, 15, 82, 83, 84, 330, 331, 332, 333, 334, 335] (by decide +kernel) (by decide +kernel)
set_option maxRecDepth 20000 in
theorem gL_law_X0_poke : GoodIn wsL_law (wsV RL 27 RX0 yX0_poke wsX0_poke) := goodIn_app (goodIn_of _ (by decide +kernel)) ggL_law_X0_poke
set_option maxRecDepth 20000 in
theorem ggL_law_X1_poke : GoodIn wsL_law wsX1_poke := goodIn_r _ [88, 27, 336, 337, 338, 339, 340, 341, 342, 343, 344, 345, 346, 347] (by decide +kernel) (by decide +kernel)
set_option maxRecDepth 20000 in
theorem gL_law_X1_poke : GoodIn wsL_law (wsV RL 30 RX1 yX1_poke wsX1_poke) := goodIn_app (goodIn_of _ (by decide +kernel)) ggL_law_X1_poke
set_option maxRecDepth 20000 in
theorem ggL_law_X0_peek : GoodIn wsL_law wsX0_peek := goodIn_r _ [92, 72, 73, 2, 74, 75, 76, 77, 93, 94, 95, 96, 15, 82, 83, 84, 330, 331, 332, 333, 334, 335] (by decide +kernel) (by decide +kernel)
set_option maxRecDepth 20000 in
theorem gL_law_X0_peek : GoodIn wsL_law (wsV RL 31 RX0 yX0_peek wsX0_peek) := goodIn_app (goodIn_of _ (by decide +kernel)) ggL_law_X0_peek
set_option maxRecDepth 20000 in
theorem ggL_law_X1_peek : GoodIn wsL_law wsX1_peek := goodIn_r _ [100, 27, 336, 337, 338, 339, 340, 341, 342, 343, 344, 345, 346, 347] (by decide +kernel) (by decide +kernel)
set_option maxRecDepth 20000 in
theorem gL_law_X1_peek : GoodIn wsL_law (wsV RL 34 RX1 yX1_peek wsX1_peek) := goodIn_app (goodIn_of _ (by decide +kernel)) ggL_law_X1_peek
set_option maxRecDepth 20000 in
theorem ggL_law_X0_go : GoodIn wsL_law wsX0_go := goodIn_r _ [104, 17, 75, 76, 2, 77, 330, 331, 332, 333, 334, 335] (by decide +kernel) (by decide +kernel)
set_option maxRecDepth 20000 in
theorem gL_law_X0_go : GoodIn wsL_law (wsV RL 35 RX0 yX0_go wsX0_go) := goodIn_app (goodIn_of _ (by decide +kernel)) ggL_law_X0_go
set_option maxRecDepth 20000 in
theorem ggL_law_X1_go : GoodIn wsL_law wsX1_go := goodIn_r _ [108, 109, 336, 337, 338, 339, 340, 341, 342, 343, 344, 345, 346, 347] (by decide +kernel) (by decide +kernel)
set_option maxRecDepth 20000 in
theorem gL_law_X1_go : GoodIn wsL_law (wsV RL 39 RX1 yX1_go wsX1_go) := goodIn_app (goodIn_of _ (by decide +kernel)) ggL_law_X1_go
set_option maxRecDepth 20000 in
theorem ggL_law_X0_pc : GoodIn wsL_law wsX0_pc := goodIn_r _ [113, 17, 330, 331, 332, 333, 334, 335] (by decide +kernel) (by decide +kernel)
set_option maxRecDepth 20000 in
theorem gL_law_X0_pc : GoodIn wsL_law (wsV RL 40 RX0 yX0_pc wsX0_pc) := goodIn_app (goodIn_of _ (by decide +kernel)) ggL_law_X0_pc
set_option maxRecDepth 20000 in
theorem ggL_law_X1_pc : GoodIn wsL_law wsX1_pc := goodIn_r _ [117, 109, 336, 337, 338, 339, 340, 341, 342, 343, 344, 345, 346, 347] (by decide +kernel) (by decide +kernel)
set_option maxRecDepth 20000 in
theorem gL_law_X1_pc : GoodIn wsL_law (wsV RL 44 RX1 yX1_pc wsX1_pc) := goodIn_app (goodIn_of _ (by decide +kernel)) ggL_law_X1_pc
set_option maxRecDepth 20000 in
theorem ggL_law_X0_run : GoodIn wsL_law wsX0_run := goodIn_r _ [121, 122, 123, 124, 2, 125, 17, 13, 18, 126, 127, 128, 129, 16, 75, 76, 77, 130, 131, 132, 133, 134, 135, 136, 137, 138, 139, 140, 141, 142, 143, 144, 145, 146, 147, 14, 148, 149, 150, 151, 152, 153, 154, 155, 156, 157, 158, 159, 160, 161, 162, 163, 164, 165, 166, 167, 44, 45, 46, 47, 168, 169, 170, 171, 172, 173, 174, 175, 176, 177, 178, 179, 180, 181, 182, 183, 184, 185, 186, 187, 188, 189, 190, 191, 192, 193, 194, 195, 196, 197, 198, 199, 200, 201, 202, 203, 72, 73, 74, 93, 94, 95, 96, 15, 82, 83, 84, 204, 205, 206, 207, 208, 209, 210, 211, 212, 213, 214, 215, 216, 217, 78, 79, 80, 81, 218, 219, 220, 221, 222, 223, 224, 225, 226, 227, 228, 229, 230, 231, 232, 233, 234, 235, 236, 237, 238, 239, 240, 241, 242, 243, 330, 331, 332, 333, 334, 335] (by decide +kernel) (by decide +kernel)
set_option maxRecDepth 20000 in
theorem gL_law_X0_run : GoodIn wsL_law (wsV RL 45 RX0 yX0_run wsX0_run) := goodIn_app (goodIn_of _ (by decide +kernel)) ggL_law_X0_run
set_option maxRecDepth 20000 in
theorem ggL_law_X1_run : GoodIn wsL_law wsX1_run := goodIn_r _ [247, 248, 249, 250, 5, 251, 109, 36, 23, 252, 253, 254, 25, 255, 256, 257, 258, 259, 260, 261, 56, 57, 58, 59, 262, 263, 264, 265, 266, 267, 268, 269, 270, 271, 272, 273, 274, 275, 276, 277, 278, 52, 53, 54, 55, 279, 280, 281, 282, 27, 283, 284, 285, 286, 287, 288, 289, 290, 291, 292, 293, 294, 295, 296, 297, 298, 299, 300, 301, 302, 303, 304, 305, 306, 307, 308, 309, 310, 311, 312, 313, 314, 315, 316, 317, 318, 319, 320, 321, 336, 337, 338, 339, 340, 341, 342, 343, 344, 345, 346, 347] (by decide +kernel) (by decide +kernel)
set_option maxRecDepth 20000 in
theorem gL_law_X1_run : GoodIn wsL_law (wsV RL 48 RX1 yX1_run wsX1_run) := goodIn_app (goodIn_of _ (by decide +kernel)) ggL_law_X1_run
set_option maxRecDepth 20000 in
theorem ggL_law_X0_steps : GoodIn wsL_law wsX0_steps := goodIn_r _ [325, 18, 330, 331, 332, 333, 334, 335] (by decide +kernel) (by decide +kernel)
set_option maxRecDepth 20000 in
theorem gL_law_X0_steps : GoodIn wsL_law (wsV RL 49 RX0 yX0_steps wsX0_steps) := goodIn_app (goodIn_of _ (by decide +kernel)) ggL_law_X0_steps
set_option maxRecDepth 20000 in
theorem ggL_law_X1_steps : GoodIn wsL_law wsX1_steps := goodIn_r _ [329, 252, 336, 337, 338, 339, 340, 341, 342, 343, 344, 345, 346, 347] (by decide +kernel) (by decide +kernel)
set_option maxRecDepth 20000 in
theorem gL_law_X1_steps : GoodIn wsL_law (wsV RL 52 RX1 yX1_steps wsX1_steps) := goodIn_app (goodIn_of _ (by decide +kernel)) ggL_law_X1_steps
theorem dL_law_0 : decode cL_law 0 = .ok (.new 7, 3) := by decide +kernel
theorem dL_law_3 : decode cL_law 3 = .ok (.dup, 1) := by decide +kernel
theorem dL_law_4 : decode cL_law 4 = .ok (.invokespecial 9, 3) := by decide +kernel
theorem dL_law_7 : decode cL_law 7 = .ok (.astore_n 1, 1) := by decide +kernel
theorem dL_law_8 : decode cL_law 8 = .ok (.new 10, 3) := by decide +kernel
theorem dL_law_11 : decode cL_law 11 = .ok (.dup, 1) := by decide +kernel
theorem dL_law_12 : decode cL_law 12 = .ok (.invokespecial 12, 3) := by decide +kernel
theorem dL_law_15 : decode cL_law 15 = .ok (.astore_n 2, 1) := by decide +kernel
theorem dL_law_16 : decode cL_law 16 = .ok (.iconst 0, 1) := by decide +kernel
theorem dL_law_17 : decode cL_law 17 = .ok (.istore_n 3, 1) := by decide +kernel
theorem dL_law_18 : decode cL_law 18 = .ok (.iload_n 3, 1) := by decide +kernel
theorem dL_law_19 : decode cL_law 19 = .ok (.aload_n 0, 1) := by decide +kernel
theorem dL_law_20 : decode cL_law 20 = .ok (.arraylength, 1) := by decide +kernel
theorem dL_law_21 : decode cL_law 21 = .ok (.iconst 3, 1) := by decide +kernel
theorem dL_law_22 : decode cL_law 22 = .ok (.isub, 1) := by decide +kernel
theorem dL_law_23 : decode cL_law 23 = .ok (.if_icmp .gt 274, 3) := by decide +kernel
theorem dL_law_26 : decode cL_law 26 = .ok (.aload_n 0, 1) := by decide +kernel
theorem dL_law_27 : decode cL_law 27 = .ok (.iload_n 3, 1) := by decide +kernel
theorem dL_law_28 : decode cL_law 28 = .ok (.iaload, 1) := by decide +kernel
theorem dL_law_29 : decode cL_law 29 = .ok (.bipush 15, 2) := by decide +kernel
theorem dL_law_31 : decode cL_law 31 = .ok (.iand, 1) := by decide +kernel
theorem dL_law_32 : decode cL_law 32 = .ok (.tableswitch 259 0 8 #[52, 75, 108, 131, 164, 187, 210, 223, 246], 52) := by decide +kernel
theorem dL_law_84 : decode cL_law 84 = .ok (.aload_n 1, 1) := by decide +kernel
theorem dL_law_85 : decode cL_law 85 = .ok (.aload_n 0, 1) := by decide +kernel
theorem dL_law_86 : decode cL_law 86 = .ok (.iload_n 3, 1) := by decide +kernel
theorem dL_law_87 : decode cL_law 87 = .ok (.iconst 1, 1) := by decide +kernel
theorem dL_law_88 : decode cL_law 88 = .ok (.iadd, 1) := by decide +kernel
theorem dL_law_89 : decode cL_law 89 = .ok (.iaload, 1) := by decide +kernel
theorem dL_law_90 : decode cL_law 90 = .ok (.invokevirtual 13, 3) := by decide +kernel
theorem dL_law_93 : decode cL_law 93 = .ok (.aload_n 2, 1) := by decide +kernel
theorem dL_law_94 : decode cL_law 94 = .ok (.aload_n 0, 1) := by decide +kernel
theorem dL_law_95 : decode cL_law 95 = .ok (.iload_n 3, 1) := by decide +kernel
theorem dL_law_96 : decode cL_law 96 = .ok (.iconst 1, 1) := by decide +kernel
theorem dL_law_97 : decode cL_law 97 = .ok (.iadd, 1) := by decide +kernel
theorem dL_law_98 : decode cL_law 98 = .ok (.iaload, 1) := by decide +kernel
theorem dL_law_99 : decode cL_law 99 = .ok (.invokevirtual 17, 3) := by decide +kernel
theorem dL_law_102 : decode cL_law 102 = .ok (.if_icmp .eq 189, 3) := by decide +kernel
theorem dL_law_105 : decode cL_law 105 = .ok (.iconst 0, 1) := by decide +kernel
theorem dL_law_106 : decode cL_law 106 = .ok (.ireturn, 1) := by decide +kernel
theorem dL_law_107 : decode cL_law 107 = .ok (.aload_n 1, 1) := by decide +kernel
theorem dL_law_108 : decode cL_law 108 = .ok (.aload_n 0, 1) := by decide +kernel
theorem dL_law_109 : decode cL_law 109 = .ok (.iload_n 3, 1) := by decide +kernel
theorem dL_law_110 : decode cL_law 110 = .ok (.iconst 1, 1) := by decide +kernel
theorem dL_law_111 : decode cL_law 111 = .ok (.iadd, 1) := by decide +kernel
theorem dL_law_112 : decode cL_law 112 = .ok (.iaload, 1) := by decide +kernel
theorem dL_law_113 : decode cL_law 113 = .ok (.aload_n 0, 1) := by decide +kernel
theorem dL_law_114 : decode cL_law 114 = .ok (.iload_n 3, 1) := by decide +kernel
theorem dL_law_115 : decode cL_law 115 = .ok (.iconst 2, 1) := by decide +kernel
theorem dL_law_116 : decode cL_law 116 = .ok (.iadd, 1) := by decide +kernel
theorem dL_law_117 : decode cL_law 117 = .ok (.iaload, 1) := by decide +kernel
theorem dL_law_118 : decode cL_law 118 = .ok (.invokevirtual 18, 3) := by decide +kernel
theorem dL_law_121 : decode cL_law 121 = .ok (.aload_n 2, 1) := by decide +kernel
theorem dL_law_122 : decode cL_law 122 = .ok (.aload_n 0, 1) := by decide +kernel
theorem dL_law_123 : decode cL_law 123 = .ok (.iload_n 3, 1) := by decide +kernel
theorem dL_law_124 : decode cL_law 124 = .ok (.iconst 1, 1) := by decide +kernel
theorem dL_law_125 : decode cL_law 125 = .ok (.iadd, 1) := by decide +kernel
theorem dL_law_126 : decode cL_law 126 = .ok (.iaload, 1) := by decide +kernel
theorem dL_law_127 : decode cL_law 127 = .ok (.aload_n 0, 1) := by decide +kernel
theorem dL_law_128 : decode cL_law 128 = .ok (.iload_n 3, 1) := by decide +kernel
theorem dL_law_129 : decode cL_law 129 = .ok (.iconst 2, 1) := by decide +kernel
theorem dL_law_130 : decode cL_law 130 = .ok (.iadd, 1) := by decide +kernel
theorem dL_law_131 : decode cL_law 131 = .ok (.iaload, 1) := by decide +kernel
theorem dL_law_132 : decode cL_law 132 = .ok (.invokevirtual 22, 3) := by decide +kernel
theorem dL_law_135 : decode cL_law 135 = .ok (.if_icmp .eq 156, 3) := by decide +kernel
theorem dL_law_138 : decode cL_law 138 = .ok (.iconst 0, 1) := by decide +kernel
theorem dL_law_139 : decode cL_law 139 = .ok (.ireturn, 1) := by decide +kernel
theorem dL_law_140 : decode cL_law 140 = .ok (.aload_n 1, 1) := by decide +kernel
theorem dL_law_141 : decode cL_law 141 = .ok (.aload_n 0, 1) := by decide +kernel
theorem dL_law_142 : decode cL_law 142 = .ok (.iload_n 3, 1) := by decide +kernel
theorem dL_law_143 : decode cL_law 143 = .ok (.iconst 1, 1) := by decide +kernel
theorem dL_law_144 : decode cL_law 144 = .ok (.iadd, 1) := by decide +kernel
theorem dL_law_145 : decode cL_law 145 = .ok (.iaload, 1) := by decide +kernel
theorem dL_law_146 : decode cL_law 146 = .ok (.invokevirtual 23, 3) := by decide +kernel
theorem dL_law_149 : decode cL_law 149 = .ok (.aload_n 2, 1) := by decide +kernel
theorem dL_law_150 : decode cL_law 150 = .ok (.aload_n 0, 1) := by decide +kernel
theorem dL_law_151 : decode cL_law 151 = .ok (.iload_n 3, 1) := by decide +kernel
theorem dL_law_152 : decode cL_law 152 = .ok (.iconst 1, 1) := by decide +kernel
theorem dL_law_153 : decode cL_law 153 = .ok (.iadd, 1) := by decide +kernel
theorem dL_law_154 : decode cL_law 154 = .ok (.iaload, 1) := by decide +kernel
theorem dL_law_155 : decode cL_law 155 = .ok (.invokevirtual 26, 3) := by decide +kernel
theorem dL_law_158 : decode cL_law 158 = .ok (.if_icmp .eq 133, 3) := by decide +kernel
theorem dL_law_161 : decode cL_law 161 = .ok (.iconst 0, 1) := by decide +kernel
theorem dL_law_162 : decode cL_law 162 = .ok (.ireturn, 1) := by decide +kernel
theorem dL_law_163 : decode cL_law 163 = .ok (.aload_n 1, 1) := by decide +kernel
theorem dL_law_164 : decode cL_law 164 = .ok (.aload_n 0, 1) := by decide +kernel
theorem dL_law_165 : decode cL_law 165 = .ok (.iload_n 3, 1) := by decide +kernel
theorem dL_law_166 : decode cL_law 166 = .ok (.iconst 1, 1) := by decide +kernel
theorem dL_law_167 : decode cL_law 167 = .ok (.iadd, 1) := by decide +kernel
theorem dL_law_168 : decode cL_law 168 = .ok (.iaload, 1) := by decide +kernel
theorem dL_law_169 : decode cL_law 169 = .ok (.aload_n 0, 1) := by decide +kernel
theorem dL_law_170 : decode cL_law 170 = .ok (.iload_n 3, 1) := by decide +kernel
theorem dL_law_171 : decode cL_law 171 = .ok (.iconst 2, 1) := by decide +kernel
theorem dL_law_172 : decode cL_law 172 = .ok (.iadd, 1) := by decide +kernel
theorem dL_law_173 : decode cL_law 173 = .ok (.iaload, 1) := by decide +kernel
theorem dL_law_174 : decode cL_law 174 = .ok (.invokevirtual 27, 3) := by decide +kernel
theorem dL_law_177 : decode cL_law 177 = .ok (.aload_n 2, 1) := by decide +kernel
theorem dL_law_178 : decode cL_law 178 = .ok (.aload_n 0, 1) := by decide +kernel
theorem dL_law_179 : decode cL_law 179 = .ok (.iload_n 3, 1) := by decide +kernel
theorem dL_law_180 : decode cL_law 180 = .ok (.iconst 1, 1) := by decide +kernel
theorem dL_law_181 : decode cL_law 181 = .ok (.iadd, 1) := by decide +kernel
theorem dL_law_182 : decode cL_law 182 = .ok (.iaload, 1) := by decide +kernel
theorem dL_law_183 : decode cL_law 183 = .ok (.aload_n 0, 1) := by decide +kernel
theorem dL_law_184 : decode cL_law 184 = .ok (.iload_n 3, 1) := by decide +kernel
theorem dL_law_185 : decode cL_law 185 = .ok (.iconst 2, 1) := by decide +kernel
theorem dL_law_186 : decode cL_law 186 = .ok (.iadd, 1) := by decide +kernel
theorem dL_law_187 : decode cL_law 187 = .ok (.iaload, 1) := by decide +kernel
theorem dL_law_188 : decode cL_law 188 = .ok (.invokevirtual 30, 3) := by decide +kernel
theorem dL_law_191 : decode cL_law 191 = .ok (.if_icmp .eq 100, 3) := by decide +kernel
theorem dL_law_194 : decode cL_law 194 = .ok (.iconst 0, 1) := by decide +kernel
theorem dL_law_195 : decode cL_law 195 = .ok (.ireturn, 1) := by decide +kernel
theorem dL_law_196 : decode cL_law 196 = .ok (.aload_n 1, 1) := by decide +kernel
theorem dL_law_197 : decode cL_law 197 = .ok (.aload_n 0, 1) := by decide +kernel
theorem dL_law_198 : decode cL_law 198 = .ok (.iload_n 3, 1) := by decide +kernel
theorem dL_law_199 : decode cL_law 199 = .ok (.iconst 1, 1) := by decide +kernel
theorem dL_law_200 : decode cL_law 200 = .ok (.iadd, 1) := by decide +kernel
theorem dL_law_201 : decode cL_law 201 = .ok (.iaload, 1) := by decide +kernel
theorem dL_law_202 : decode cL_law 202 = .ok (.invokevirtual 31, 3) := by decide +kernel
theorem dL_law_205 : decode cL_law 205 = .ok (.aload_n 2, 1) := by decide +kernel
theorem dL_law_206 : decode cL_law 206 = .ok (.aload_n 0, 1) := by decide +kernel
theorem dL_law_207 : decode cL_law 207 = .ok (.iload_n 3, 1) := by decide +kernel
theorem dL_law_208 : decode cL_law 208 = .ok (.iconst 1, 1) := by decide +kernel
theorem dL_law_209 : decode cL_law 209 = .ok (.iadd, 1) := by decide +kernel
theorem dL_law_210 : decode cL_law 210 = .ok (.iaload, 1) := by decide +kernel
theorem dL_law_211 : decode cL_law 211 = .ok (.invokevirtual 34, 3) := by decide +kernel
theorem dL_law_214 : decode cL_law 214 = .ok (.if_icmp .eq 77, 3) := by decide +kernel
theorem dL_law_217 : decode cL_law 217 = .ok (.iconst 0, 1) := by decide +kernel
theorem dL_law_218 : decode cL_law 218 = .ok (.ireturn, 1) := by decide +kernel
theorem dL_law_219 : decode cL_law 219 = .ok (.aload_n 1, 1) := by decide +kernel
theorem dL_law_220 : decode cL_law 220 = .ok (.aload_n 0, 1) := by decide +kernel
theorem dL_law_221 : decode cL_law 221 = .ok (.iload_n 3, 1) := by decide +kernel
theorem dL_law_222 : decode cL_law 222 = .ok (.iconst 1, 1) := by decide +kernel
theorem dL_law_223 : decode cL_law 223 = .ok (.iadd, 1) := by decide +kernel
theorem dL_law_224 : decode cL_law 224 = .ok (.iaload, 1) := by decide +kernel
theorem dL_law_225 : decode cL_law 225 = .ok (.invokevirtual 35, 3) := by decide +kernel
theorem dL_law_228 : decode cL_law 228 = .ok (.aload_n 2, 1) := by decide +kernel
theorem dL_law_229 : decode cL_law 229 = .ok (.aload_n 0, 1) := by decide +kernel
theorem dL_law_230 : decode cL_law 230 = .ok (.iload_n 3, 1) := by decide +kernel
theorem dL_law_231 : decode cL_law 231 = .ok (.iconst 1, 1) := by decide +kernel
theorem dL_law_232 : decode cL_law 232 = .ok (.iadd, 1) := by decide +kernel
theorem dL_law_233 : decode cL_law 233 = .ok (.iaload, 1) := by decide +kernel
theorem dL_law_234 : decode cL_law 234 = .ok (.invokevirtual 39, 3) := by decide +kernel
theorem dL_law_237 : decode cL_law 237 = .ok (.if_icmp .eq 54, 3) := by decide +kernel
theorem dL_law_240 : decode cL_law 240 = .ok (.iconst 0, 1) := by decide +kernel
theorem dL_law_241 : decode cL_law 241 = .ok (.ireturn, 1) := by decide +kernel
theorem dL_law_242 : decode cL_law 242 = .ok (.aload_n 1, 1) := by decide +kernel
theorem dL_law_243 : decode cL_law 243 = .ok (.invokevirtual 40, 3) := by decide +kernel
theorem dL_law_246 : decode cL_law 246 = .ok (.aload_n 2, 1) := by decide +kernel
theorem dL_law_247 : decode cL_law 247 = .ok (.invokevirtual 44, 3) := by decide +kernel
theorem dL_law_250 : decode cL_law 250 = .ok (.if_icmp .eq 41, 3) := by decide +kernel
theorem dL_law_253 : decode cL_law 253 = .ok (.iconst 0, 1) := by decide +kernel
theorem dL_law_254 : decode cL_law 254 = .ok (.ireturn, 1) := by decide +kernel
theorem dL_law_255 : decode cL_law 255 = .ok (.aload_n 1, 1) := by decide +kernel
theorem dL_law_256 : decode cL_law 256 = .ok (.aload_n 0, 1) := by decide +kernel
theorem dL_law_257 : decode cL_law 257 = .ok (.iload_n 3, 1) := by decide +kernel
theorem dL_law_258 : decode cL_law 258 = .ok (.iconst 1, 1) := by decide +kernel
theorem dL_law_259 : decode cL_law 259 = .ok (.iadd, 1) := by decide +kernel
theorem dL_law_260 : decode cL_law 260 = .ok (.iaload, 1) := by decide +kernel
theorem dL_law_261 : decode cL_law 261 = .ok (.invokevirtual 45, 3) := by decide +kernel
theorem dL_law_264 : decode cL_law 264 = .ok (.aload_n 2, 1) := by decide +kernel
theorem dL_law_265 : decode cL_law 265 = .ok (.aload_n 0, 1) := by decide +kernel
theorem dL_law_266 : decode cL_law 266 = .ok (.iload_n 3, 1) := by decide +kernel
theorem dL_law_267 : decode cL_law 267 = .ok (.iconst 1, 1) := by decide +kernel
theorem dL_law_268 : decode cL_law 268 = .ok (.iadd, 1) := by decide +kernel
theorem dL_law_269 : decode cL_law 269 = .ok (.iaload, 1) := by decide +kernel
theorem dL_law_270 : decode cL_law 270 = .ok (.invokevirtual 48, 3) := by decide +kernel
theorem dL_law_273 : decode cL_law 273 = .ok (.if_icmp .eq 18, 3) := by decide +kernel
theorem dL_law_276 : decode cL_law 276 = .ok (.iconst 0, 1) := by decide +kernel
theorem dL_law_277 : decode cL_law 277 = .ok (.ireturn, 1) := by decide +kernel
theorem dL_law_278 : decode cL_law 278 = .ok (.aload_n 1, 1) := by decide +kernel
theorem dL_law_279 : decode cL_law 279 = .ok (.invokevirtual 49, 3) := by decide +kernel
theorem dL_law_282 : decode cL_law 282 = .ok (.aload_n 2, 1) := by decide +kernel
theorem dL_law_283 : decode cL_law 283 = .ok (.invokevirtual 52, 3) := by decide +kernel
theorem dL_law_286 : decode cL_law 286 = .ok (.if_icmp .eq 5, 3) := by decide +kernel
theorem dL_law_289 : decode cL_law 289 = .ok (.iconst 0, 1) := by decide +kernel
theorem dL_law_290 : decode cL_law 290 = .ok (.ireturn, 1) := by decide +kernel
theorem dL_law_291 : decode cL_law 291 = .ok (.iinc 3 3, 3) := by decide +kernel
theorem dL_law_294 : decode cL_law 294 = .ok (.goto (-276), 3) := by decide +kernel
theorem dL_law_297 : decode cL_law 297 = .ok (.iconst 1, 1) := by decide +kernel
theorem dL_law_298 : decode cL_law 298 = .ok (.ireturn, 1) := by decide +kernel
