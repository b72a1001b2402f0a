theorem dX0_isMultiple_8 : decode cX0_isMultiple 8 = .ok (.iconst 1, 1) := by decide +kernel
theorem dX0_isMultiple_9 : decode cX0_isMultiple 9 = .ok (.goto 4, 3) := by decide +kernel
theorem dX0_isMultiple_12 : decode cX0_isMultiple 12 = .ok (.iconst 0, 1) := by decide +kernel
theorem dX0_isMultiple_13 : decode cX0_isMultiple 13 = .ok (.ireturn, 1) := by decide +kernel
set_option maxRecDepth 20000 in
theorem ggX0_isAddress_X0_isMultiple : GoodIn wsX0_isAddress wsX0_isMultiple := goodIn_r _ [4] (by decide +kernel) (by decide +kernel)
set_option maxRecDepth 20000 in
theorem gX0_isAddress_X0_isMultiple : GoodIn wsX0_isAddress (va_wsS RX0 49 yX0_isMultiple wsX0_isMultiple) := goodIn_app (goodIn_of _ (by decide +kernel)) ggX0_isAddress_X0_isMultiple
theorem dX0_isAddress_0 : decode cX0_isAddress 0 = .ok (.iload_n 0, 1) := by decide +kernel
theorem dX0_isAddress_1 : decode cX0_isAddress 1 = .ok (.ifCond .lt 24, 3) := by decide +kernel
theorem dX0_isAddress_4 : decode cX0_isAddress 4 = .ok (.iload_n 0, 1) := by decide +kernel
theorem dX0_isAddress_5 : decode cX0_isAddress 5 = .ok (.sipush 4096, 3) := by decide +kernel
theorem dX0_isAddress_8 : decode cX0_isAddress 8 = .ok (.iload_n 1, 1) := by decide +kernel
theorem dX0_isAddress_9 : decode cX0_isAddress 9 = .ok (.isub, 1) := by decide +kernel
theorem dX0_isAddress_10 : decode cX0_isAddress 10 = .ok (.if_icmp .gt 15, 3) := by decide +kernel
theorem dX0_isAddress_13 : decode cX0_isAddress 13 = .ok (.iload_n 0, 1) := by decide +kernel
theorem dX0_isAddress_14 : decode cX0_isAddress 14 = .ok (.iload_n 1, 1) := by decide +kernel
theorem dX0_isAddress_15 : decode cX0_isAddress 15 = .ok (.invokestatic 49, 3) := by decide +kernel
theorem dX0_isAddress_18 : decode cX0_isAddress 18 = .ok (.ifCond .eq 7, 3) := by decide +kernel
theorem dX0_isAddress_21 : decode cX0_isAddress 21 = .ok (.iconst 1, 1) := by decide +kernel
theorem dX0_isAddress_22 : decode cX0_isAddress 22 = .ok (.goto 4, 3) := by decide +kernel
theorem dX0_isAddress_25 : decode cX0_isAddress 25 = .ok (.iconst 0, 1) := by decide +kernel
theorem dX0_isAddress_26 : decode cX0_isAddress 26 = .ok (.ireturn, 1) := by decide +kernel
set_option maxRecDepth 20000 in
theorem ggX0_isPlaceOfWord_X0_isMultiple : GoodIn wsX0_isPlaceOfWord wsX0_isMultiple := goodIn_r _ [5] (by decide +kernel) (by decide +kernel)
set_option maxRecDepth 20000 in
theorem gX0_isPlaceOfWord_X0_isMultiple : GoodIn wsX0_isPlaceOfWord (va_wsS RX0 49 yX0_isMultiple wsX0_isMultiple) := goodIn_app (goodIn_of _ (by decide +kernel)) ggX0_isPlaceOfWord_X0_isMultiple
theorem dX0_isPlaceOfWord_0 : decode cX0_isPlaceOfWord 0 = .ok (.iload_n 1, 1) := by decide +kernel
theorem dX0_isPlaceOfWord_1 : decode cX0_isPlaceOfWord 1 = .ok (.ifCond .lt 25, 3) := by decide +kernel
theorem dX0_isPlaceOfWord_4 : decode cX0_isPlaceOfWord 4 = .ok (.iload_n 1, 1) := by decide +kernel
theorem dX0_isPlaceOfWord_5 : decode cX0_isPlaceOfWord 5 = .ok (.iconst 4, 1) := by decide +kernel
theorem dX0_isPlaceOfWord_6 : decode cX0_isPlaceOfWord 6 = .ok (.invokestatic 49, 3) := by decide +kernel
theorem dX0_isPlaceOfWord_9 : decode cX0_isPlaceOfWord 9 = .ok (.ifCond .eq 17, 3) := by decide +kernel
theorem dX0_isPlaceOfWord_12 : decode cX0_isPlaceOfWord 12 = .ok (.iload_n 1, 1) := by decide +kernel
theorem dX0_isPlaceOfWord_13 : decode cX0_isPlaceOfWord 13 = .ok (.iconst 4, 1) := by decide +kernel
theorem dX0_isPlaceOfWord_14 : decode cX0_isPlaceOfWord 14 = .ok (.idiv, 1) := by decide +kernel
theorem dX0_isPlaceOfWord_15 : decode cX0_isPlaceOfWord 15 = .ok (.aload_n 0, 1) := by decide +kernel
theorem dX0_isPlaceOfWord_16 : decode cX0_isPlaceOfWord 16 = .ok (.getfield 19, 3) := by decide +kernel
theorem dX0_isPlaceOfWord_19 : decode cX0_isPlaceOfWord 19 = .ok (.if_icmp .ge 7, 3) := by decide +kernel
theorem dX0_isPlaceOfWord_22 : decode cX0_isPlaceOfWord 22 = .ok (.iconst 1, 1) := by decide +kernel
theorem dX0_isPlaceOfWord_23 : decode cX0_isPlaceOfWord 23 = .ok (.goto 4, 3) := by decide +kernel
theorem dX0_isPlaceOfWord_26 : decode cX0_isPlaceOfWord 26 = .ok (.iconst 0, 1) := by decide +kernel
theorem dX0_isPlaceOfWord_27 : decode cX0_isPlaceOfWord 27 = .ok (.ireturn, 1) := by decide +kernel
set_option maxRecDepth 20000 in
theorem ggX0_bitsFrom_X0_bitOffset : GoodIn wsX0_bitsFrom wsX0_bitOffset := goodIn_r _ [5] (by decide +kernel) (by decide +kernel)
set_option maxRecDepth 20000 in
theorem gX0_bitsFrom_X0_bitOffset : GoodIn wsX0_bitsFrom (va_wsS RX0 165 yX0_bitOffset wsX0_bitOffset) := goodIn_app (goodIn_of _ (by decide +kernel)) ggX0_bitsFrom_X0_bitOffset
theorem dX0_bitsFrom_0 : decode cX0_bitsFrom 0 = .ok (.aload_n 0, 1) := by decide +kernel
theorem dX0_bitsFrom_1 : decode cX0_bitsFrom 1 = .ok (.getfield 16, 3) := by decide +kernel
theorem dX0_bitsFrom_4 : decode cX0_bitsFrom 4 = .ok (.iload_n 1, 1) := by decide +kernel
theorem dX0_bitsFrom_5 : decode cX0_bitsFrom 5 = .ok (.iconst 4, 1) := by decide +kernel
theorem dX0_bitsFrom_6 : decode cX0_bitsFrom 6 = .ok (.idiv, 1) := by decide +kernel
theorem dX0_bitsFrom_7 : decode cX0_bitsFrom 7 = .ok (.iaload, 1) := by decide +kernel
theorem dX0_bitsFrom_8 : decode cX0_bitsFrom 8 = .ok (.iload_n 1, 1) := by decide +kernel
theorem dX0_bitsFrom_9 : decode cX0_bitsFrom 9 = .ok (.invokestatic 165, 3) := by decide +kernel
theorem dX0_bitsFrom_12 : decode cX0_bitsFrom 12 = .ok (.iushr, 1) := by decide +kernel
theorem dX0_bitsFrom_13 : decode cX0_bitsFrom 13 = .ok (.ireturn, 1) := by decide +kernel
set_option maxRecDepth 20000 in
theorem ggX0_replaceBits_X0_bitOffset : GoodIn wsX0_replaceBits wsX0_bitOffset := goodIn_r _ [5] (by decide +kernel) (by decide +kernel)
set_option maxRecDepth 20000 in
theorem gX0_replaceBits_X0_bitOffset : GoodIn wsX0_replaceBits (va_wsS RX0 165 yX0_bitOffset wsX0_bitOffset) := goodIn_app (goodIn_of _ (by decide +kernel)) ggX0_replaceBits_X0_bitOffset
theorem dX0_replaceBits_0 : decode cX0_replaceBits 0 = .ok (.aload_n 0, 1) := by decide +kernel
theorem dX0_replaceBits_1 : decode cX0_replaceBits 1 = .ok (.getfield 16, 3) := by decide +kernel
theorem dX0_replaceBits_4 : decode cX0_replaceBits 4 = .ok (.iload_n 1, 1) := by decide +kernel
theorem dX0_replaceBits_5 : decode cX0_replaceBits 5 = .ok (.iconst 4, 1) := by decide +kernel
theorem dX0_replaceBits_6 : decode cX0_replaceBits 6 = .ok (.idiv, 1) := by decide +kernel
theorem dX0_replaceBits_7 : decode cX0_replaceBits 7 = .ok (.iaload, 1) := by decide +kernel
theorem dX0_replaceBits_8 : decode cX0_replaceBits 8 = .ok (.iload_n 2, 1) := by decide +kernel
theorem dX0_replaceBits_9 : decode cX0_replaceBits 9 = .ok (.iload_n 1, 1) := by decide +kernel
theorem dX0_replaceBits_10 : decode cX0_replaceBits 10 = .ok (.invokestatic 165, 3) := by decide +kernel
theorem dX0_replaceBits_13 : decode cX0_replaceBits 13 = .ok (.ishl, 1) := by decide +kernel
theorem dX0_replaceBits_14 : decode cX0_replaceBits 14 = .ok (.iconst (-1), 1) := by decide +kernel
theorem dX0_replaceBits_15 : decode cX0_replaceBits 15 = .ok (.ixor, 1) := by decide +kernel
theorem dX0_replaceBits_16 : decode cX0_replaceBits 16 = .ok (.iand, 1) := by decide +kernel
theorem dX0_replaceBits_17 : decode cX0_replaceBits 17 = .ok (.istore 4, 2) := by decide +kernel
theorem dX0_replaceBits_19 : decode cX0_replaceBits 19 = .ok (.aload_n 0, 1) := by decide +kernel
theorem dX0_replaceBits_20 : decode cX0_replaceBits 20 = .ok (.getfield 16, 3) := by decide +kernel
theorem dX0_replaceBits_23 : decode cX0_replaceBits 23 = .ok (.iload_n 1, 1) := by decide +kernel
theorem dX0_replaceBits_24 : decode cX0_replaceBits 24 = .ok (.iconst 4, 1) := by decide +kernel
theorem dX0_replaceBits_25 : decode cX0_replaceBits 25 = .ok (.idiv, 1) := by decide +kernel
theorem dX0_replaceBits_26 : decode cX0_replaceBits 26 = .ok (.iload 4, 2) := by decide +kernel
theorem dX0_replaceBits_28 : decode cX0_replaceBits 28 = .ok (.iload_n 3, 1) := by decide +kernel
theorem dX0_replaceBits_29 : decode cX0_replaceBits 29 = .ok (.iload_n 2, 1) := by decide +kernel
theorem dX0_replaceBits_30 : decode cX0_replaceBits 30 = .ok (.iand, 1) := by decide +kernel
theorem dX0_replaceBits_31 : decode cX0_replaceBits 31 = .ok (.iload_n 1, 1) := by decide +kernel
theorem dX0_replaceBits_32 : decode cX0_replaceBits 32 = .ok (.invokestatic 165, 3) := by decide +kernel
theorem dX0_replaceBits_35 : decode cX0_replaceBits 35 = .ok (.ishl, 1) := by decide +kernel
theorem dX0_replaceBits_36 : decode cX0_replaceBits 36 = .ok (.ior, 1) := by decide +kernel
theorem dX0_replaceBits_37 : decode cX0_replaceBits 37 = .ok (.iastore, 1) := by decide +kernel
theorem dX0_replaceBits_38 : decode cX0_replaceBits 38 = .ok (.return_, 1) := by decide +kernel
theorem dX0_bitOffset_0 : decode cX0_bitOffset 0 = .ok (.iload_n 0, 1) := by decide +kernel
theorem dX0_bitOffset_1 : decode cX0_bitOffset 1 = .ok (.iconst 4, 1) := by decide +kernel
theorem dX0_bitOffset_2 : decode cX0_bitOffset 2 = .ok (.irem, 1) := by decide +kernel
theorem dX0_bitOffset_3 : decode cX0_bitOffset 3 = .ok (.bipush 8, 2) := by decide +kernel
theorem dX0_bitOffset_5 : decode cX0_bitOffset 5 = .ok (.imul, 1) := by decide +kernel
theorem dX0_bitOffset_6 : decode cX0_bitOffset 6 = .ok (.ireturn, 1) := by decide +kernel
theorem dX0_widthOf_0 : decode cX0_widthOf 0 = .ok (.iconst 1, 1) := by decide +kernel
theorem dX0_widthOf_1 : decode cX0_widthOf 1 = .ok (.iload_n 0, 1) := by decide +kernel
theorem dX0_widthOf_2 : decode cX0_widthOf 2 = .ok (.iconst 3, 1) := by decide +kernel
theorem dX0_widthOf_3 : decode cX0_widthOf 3 = .ok (.iand, 1) := by decide +kernel
theorem dX0_widthOf_4 : decode cX0_widthOf 4 = .ok (.ishl, 1) := by decide +kernel
theorem dX0_widthOf_5 : decode cX0_widthOf 5 = .ok (.ireturn, 1) := by decide +kernel
theorem dX0_loaded_0 : decode cX0_loaded 0 = .ok (.iload_n 0, 1) := by decide +kernel
theorem dX0_loaded_1 : decode cX0_loaded 1 = .ok (.tableswitch 56 0 5 #[39, 42, 56, 56, 45, 51], 39) := by decide +kernel
theorem dX0_loaded_40 : decode cX0_loaded 40 = .ok (.iload_n 1, 1) := by decide +kernel
theorem dX0_loaded_41 : decode cX0_loaded 41 = .ok (.i2b, 1) := by decide +kernel
theorem dX0_loaded_42 : decode cX0_loaded 42 = .ok (.ireturn, 1) := by decide +kernel
theorem dX0_loaded_43 : decode cX0_loaded 43 = .ok (.iload_n 1, 1) := by decide +kernel
theorem dX0_loaded_44 : decode cX0_loaded 44 = .ok (.i2s, 1) := by decide +kernel
theorem dX0_loaded_45 : decode cX0_loaded 45 = .ok (.ireturn, 1) := by decide +kernel
theorem dX0_loaded_46 : decode cX0_loaded 46 = .ok (.iload_n 1, 1) := by decide +kernel
theorem dX0_loaded_47 : decode cX0_loaded 47 = .ok (.sipush 255, 3) := by decide +kernel
theorem dX0_loaded_50 : decode cX0_loaded 50 = .ok (.iand, 1) := by decide +kernel
theorem dX0_loaded_51 : decode cX0_loaded 51 = .ok (.ireturn, 1) := by decide +kernel
theorem dX0_loaded_52 : decode cX0_loaded 52 = .ok (.iload_n 1, 1) := by decide +kernel
theorem dX0_loaded_53 : decode cX0_loaded 53 = .ok (.ldc 168, 2) := by decide +kernel
theorem dX0_loaded_55 : decode cX0_loaded 55 = .ok (.iand, 1) := by decide +kernel
theorem dX0_loaded_56 : decode cX0_loaded 56 = .ok (.ireturn, 1) := by decide +kernel
theorem dX0_loaded_57 : decode cX0_loaded 57 = .ok (.iload_n 1, 1) := by decide +kernel
theorem dX0_loaded_58 : decode cX0_loaded 58 = .ok (.ireturn, 1) := by decide +kernel
theorem dX0_storedBits_0 : decode cX0_storedBits 0 = .ok (.iload_n 0, 1) := by decide +kernel
theorem dX0_storedBits_1 : decode cX0_storedBits 1 = .ok (.lookupswitch 34 #[(0, 27), (1, 31)], 27) := by decide +kernel
theorem dX0_storedBits_28 : decode cX0_storedBits 28 = .ok (.sipush 255, 3) := by decide +kernel
theorem dX0_storedBits_31 : decode cX0_storedBits 31 = .ok (.ireturn, 1) := by decide +kernel
theorem dX0_storedBits_32 : decode cX0_storedBits 32 = .ok (.ldc 168, 2) := by decide +kernel
theorem dX0_storedBits_34 : decode cX0_storedBits 34 = .ok (.ireturn, 1) := by decide +kernel
theorem dX0_storedBits_35 : decode cX0_storedBits 35 = .ok (.iconst (-1), 1) := by decide +kernel
theorem dX0_storedBits_36 : decode cX0_storedBits 36 = .ok (.ireturn, 1) := by decide +kernel
theorem dX0_fieldOp_0 : decode cX0_fieldOp 0 = .ok (.iload_n 0, 1) := by decide +kernel
theorem dX0_fieldOp_1 : decode cX0_fieldOp 1 = .ok (.bipush 127, 2) := by decide +kernel
theorem dX0_fieldOp_3 : decode cX0_fieldOp 3 = .ok (.iand, 1) := by decide +kernel
theorem dX0_fieldOp_4 : decode cX0_fieldOp 4 = .ok (.ireturn, 1) := by decide +kernel
theorem dX0_fieldD_0 : decode cX0_fieldD 0 = .ok (.iload_n 0, 1) := by decide +kernel
theorem dX0_fieldD_1 : decode cX0_fieldD 1 = .ok (.bipush 7, 2) := by decide +kernel
theorem dX0_fieldD_3 : decode cX0_fieldD 3 = .ok (.iushr, 1) := by decide +kernel
theorem dX0_fieldD_4 : decode cX0_fieldD 4 = .ok (.bipush 31, 2) := by decide +kernel
theorem dX0_fieldD_6 : decode cX0_fieldD 6 = .ok (.iand, 1) := by decide +kernel
theorem dX0_fieldD_7 : decode cX0_fieldD 7 = .ok (.ireturn, 1) := by decide +kernel
theorem dX0_fieldT_0 : decode cX0_fieldT 0 = .ok (.iload_n 0, 1) := by decide +kernel
theorem dX0_fieldT_1 : decode cX0_fieldT 1 = .ok (.bipush 12, 2) := by decide +kernel
theorem dX0_fieldT_3 : decode cX0_fieldT 3 = .ok (.iushr, 1) := by decide +kernel
theorem dX0_fieldT_4 : decode cX0_fieldT 4 = .ok (.bipush 7, 2) := by decide +kernel
theorem dX0_fieldT_6 : decode cX0_fieldT 6 = .ok (.iand, 1) := by decide +kernel
theorem dX0_fieldT_7 : decode cX0_fieldT 7 = .ok (.ireturn, 1) := by decide +kernel
theorem dX0_fieldX_0 : decode cX0_fieldX 0 = .ok (.iload_n 0, 1) := by decide +kernel
theorem dX0_fieldX_1 : decode cX0_fieldX 1 = .ok (.bipush 15, 2) := by decide +kernel
theorem dX0_fieldX_3 : decode cX0_fieldX 3 = .ok (.iushr, 1) := by decide +kernel
theorem dX0_fieldX_4 : decode cX0_fieldX 4 = .ok (.bipush 31, 2) := by decide +kernel
theorem dX0_fieldX_6 : decode cX0_fieldX 6 = .ok (.iand, 1) := by decide +kernel
theorem dX0_fieldX_7 : decode cX0_fieldX 7 = .ok (.ireturn, 1) := by decide +kernel
theorem dX0_fieldY_0 : decode cX0_fieldY 0 = .ok (.iload_n 0, 1) := by decide +kernel
theorem dX0_fieldY_1 : decode cX0_fieldY 1 = .ok (.bipush 20, 2) := by decide +kernel
theorem dX0_fieldY_3 : decode cX0_fieldY 3 = .ok (.iushr, 1) := by decide +kernel
theorem dX0_fieldY_4 : decode cX0_fieldY 4 = .ok (.bipush 31, 2) := by decide +kernel
theorem dX0_fieldY_6 : decode cX0_fieldY 6 = .ok (.iand, 1) := by decide +kernel
theorem dX0_fieldY_7 : decode cX0_fieldY 7 = .ok (.ireturn, 1) := by decide +kernel
theorem dX0_fieldS_0 : decode cX0_fieldS 0 = .ok (.iload_n 0, 1) := by decide +kernel
theorem dX0_fieldS_1 : decode cX0_fieldS 1 = .ok (.bipush 25, 2) := by decide +kernel
theorem dX0_fieldS_3 : decode cX0_fieldS 3 = .ok (.iushr, 1) := by decide +kernel
theorem dX0_fieldS_4 : decode cX0_fieldS 4 = .ok (.ireturn, 1) := by decide +kernel
theorem dX0_numberI_0 : decode cX0_numberI 0 = .ok (.iload_n 0, 1) := by decide +kernel
theorem dX0_numberI_1 : decode cX0_numberI 1 = .ok (.bipush 20, 2) := by decide +kernel
theorem dX0_numberI_3 : decode cX0_numberI 3 = .ok (.ishr, 1) := by decide +kernel
theorem dX0_numberI_4 : decode cX0_numberI 4 = .ok (.ireturn, 1) := by decide +kernel
set_option maxRecDepth 20000 in
theorem ggX0_storeDistance_X0_fieldD : GoodIn wsX0_storeDistance wsX0_fieldD := goodIn_r _ [4] (by decide +kernel) (by decide +kernel)
set_option maxRecDepth 20000 in
theorem gX0_storeDistance_X0_fieldD : GoodIn wsX0_storeDistance (va_wsS RX0 143 yX0_fieldD wsX0_fieldD) := goodIn_app (goodIn_of _ (by decide +kernel)) ggX0_storeDistance_X0_fieldD
theorem dX0_storeDistance_0 : decode cX0_storeDistance 0 = .ok (.iload_n 0, 1) := by decide +kernel
theorem dX0_storeDistance_1 : decode cX0_storeDistance 1 = .ok (.bipush 25, 2) := by decide +kernel
theorem dX0_storeDistance_3 : decode cX0_storeDistance 3 = .ok (.ishr, 1) := by decide +kernel
theorem dX0_storeDistance_4 : decode cX0_storeDistance 4 = .ok (.iconst 5, 1) := by decide +kernel
theorem dX0_storeDistance_5 : decode cX0_storeDistance 5 = .ok (.ishl, 1) := by decide +kernel
theorem dX0_storeDistance_6 : decode cX0_storeDistance 6 = .ok (.iload_n 0, 1) := by decide +kernel
theorem dX0_storeDistance_7 : decode cX0_storeDistance 7 = .ok (.invokestatic 143, 3) := by decide +kernel
theorem dX0_storeDistance_10 : decode cX0_storeDistance 10 = .ok (.ior, 1) := by decide +kernel
theorem dX0_storeDistance_11 : decode cX0_storeDistance 11 = .ok (.ireturn, 1) := by decide +kernel
theorem dX0_branchDistance_0 : decode cX0_branchDistance 0 = .ok (.iload_n 0, 1) := by decide +kernel
theorem dX0_branchDistance_1 : decode cX0_branchDistance 1 = .ok (.bipush 31, 2) := by decide +kernel
theorem dX0_branchDistance_3 : decode cX0_branchDistance 3 = .ok (.ishr, 1) := by decide +kernel
theorem dX0_branchDistance_4 : decode cX0_branchDistance 4 = .ok (.bipush 12, 2) := by decide +kernel
theorem dX0_branchDistance_6 : decode cX0_branchDistance 6 = .ok (.ishl, 1) := by decide +kernel
theorem dX0_branchDistance_7 : decode cX0_branchDistance 7 = .ok (.iload_n 0, 1) := by decide +kernel
theorem dX0_branchDistance_8 : decode cX0_branchDistance 8 = .ok (.bipush 7, 2) := by decide +kernel
theorem dX0_branchDistance_10 : decode cX0_branchDistance 10 = .ok (.iushr, 1) := by decide +kernel
theorem dX0_branchDistance_11 : decode cX0_branchDistance 11 = .ok (.iconst 1, 1) := by decide +kernel
theorem dX0_branchDistance_12 : decode cX0_branchDistance 12 = .ok (.iand, 1) := by decide +kernel
theorem dX0_branchDistance_13 : decode cX0_branchDistance 13 = .ok (.bipush 11, 2) := by decide +kernel
theorem dX0_branchDistance_15 : decode cX0_branchDistance 15 = .ok (.ishl, 1) := by decide +kernel
theorem dX0_branchDistance_16 : decode cX0_branchDistance 16 = .ok (.ior, 1) := by decide +kernel
theorem dX0_branchDistance_17 : decode cX0_branchDistance 17 = .ok (.iload_n 0, 1) := by decide +kernel
theorem dX0_branchDistance_18 : decode cX0_branchDistance 18 = .ok (.bipush 25, 2) := by decide +kernel
theorem dX0_branchDistance_20 : decode cX0_branchDistance 20 = .ok (.iushr, 1) := by decide +kernel
theorem dX0_branchDistance_21 : decode cX0_branchDistance 21 = .ok (.bipush 63, 2) := by decide +kernel
theorem dX0_branchDistance_23 : decode cX0_branchDistance 23 = .ok (.iand, 1) := by decide +kernel
theorem dX0_branchDistance_24 : decode cX0_branchDistance 24 = .ok (.iconst 5, 1) := by decide +kernel
theorem dX0_branchDistance_25 : decode cX0_branchDistance 25 = .ok (.ishl, 1) := by decide +kernel
theorem dX0_branchDistance_26 : decode cX0_branchDistance 26 = .ok (.ior, 1) := by decide +kernel
theorem dX0_branchDistance_27 : decode cX0_branchDistance 27 = .ok (.iload_n 0, 1) := by decide +kernel
theorem dX0_branchDistance_28 : decode cX0_branchDistance 28 = .ok (.bipush 8, 2) := by decide +kernel
theorem dX0_branchDistance_30 : decode cX0_branchDistance 30 = .ok (.iushr, 1) := by decide +kernel
theorem dX0_branchDistance_31 : decode cX0_branchDistance 31 = .ok (.bipush 15, 2) := by decide +kernel
theorem dX0_branchDistance_33 : decode cX0_branchDistance 33 = .ok (.iand, 1) := by decide +kernel
theorem dX0_branchDistance_34 : decode cX0_branchDistance 34 = .ok (.iconst 1, 1) := by decide +kernel
theorem dX0_branchDistance_35 : decode cX0_branchDistance 35 = .ok (.ishl, 1) := by decide +kernel
theorem dX0_branchDistance_36 : decode cX0_branchDistance 36 = .ok (.ior, 1) := by decide +kernel
theorem dX0_branchDistance_37 : decode cX0_branchDistance 37 = .ok (.ireturn, 1) := by decide +kernel
theorem dX0_jumpDistance_0 : decode cX0_jumpDistance 0 = .ok (.iload_n 0, 1) := by decide +kernel
theorem dX0_jumpDistance_1 : decode cX0_jumpDistance 1 = .ok (.bipush 31, 2) := by decide +kernel
theorem dX0_jumpDistance_3 : decode cX0_jumpDistance 3 = .ok (.ishr, 1) := by decide +kernel
theorem dX0_jumpDistance_4 : decode cX0_jumpDistance 4 = .ok (.bipush 20, 2) := by decide +kernel
theorem dX0_jumpDistance_6 : decode cX0_jumpDistance 6 = .ok (.ishl, 1) := by decide +kernel
theorem dX0_jumpDistance_7 : decode cX0_jumpDistance 7 = .ok (.iload_n 0, 1) := by decide +kernel
theorem dX0_jumpDistance_8 : decode cX0_jumpDistance 8 = .ok (.ldc 169, 2) := by decide +kernel
theorem dX0_jumpDistance_10 : decode cX0_jumpDistance 10 = .ok (.iand, 1) := by decide +kernel
theorem dX0_jumpDistance_11 : decode cX0_jumpDistance 11 = .ok (.ior, 1) := by decide +kernel
theorem dX0_jumpDistance_12 : decode cX0_jumpDistance 12 = .ok (.iload_n 0, 1) := by decide +kernel
theorem dX0_jumpDistance_13 : decode cX0_jumpDistance 13 = .ok (.bipush 20, 2) := by decide +kernel
theorem dX0_jumpDistance_15 : decode cX0_jumpDistance 15 = .ok (.iushr, 1) := by decide +kernel
theorem dX0_jumpDistance_16 : decode cX0_jumpDistance 16 = .ok (.iconst 1, 1) := by decide +kernel
theorem dX0_jumpDistance_17 : decode cX0_jumpDistance 17 = .ok (.iand, 1) := by decide +kernel
theorem dX0_jumpDistance_18 : decode cX0_jumpDistance 18 = .ok (.bipush 11, 2) := by decide +kernel
theorem dX0_jumpDistance_20 : decode cX0_jumpDistance 20 = .ok (.ishl, 1) := by decide +kernel
theorem dX0_jumpDistance_21 : decode cX0_jumpDistance 21 = .ok (.ior, 1) := by decide +kernel
theorem dX0_jumpDistance_22 : decode cX0_jumpDistance 22 = .ok (.iload_n 0, 1) := by decide +kernel
theorem dX0_jumpDistance_23 : decode cX0_jumpDistance 23 = .ok (.bipush 21, 2) := by decide +kernel
theorem dX0_jumpDistance_25 : decode cX0_jumpDistance 25 = .ok (.iushr, 1) := by decide +kernel
theorem dX0_jumpDistance_26 : decode cX0_jumpDistance 26 = .ok (.sipush 1023, 3) := by decide +kernel
theorem dX0_jumpDistance_29 : decode cX0_jumpDistance 29 = .ok (.iand, 1) := by decide +kernel
theorem dX0_jumpDistance_30 : decode cX0_jumpDistance 30 = .ok (.iconst 1, 1) := by decide +kernel
theorem dX0_jumpDistance_31 : decode cX0_jumpDistance 31 = .ok (.ishl, 1) := by decide +kernel
theorem dX0_jumpDistance_32 : decode cX0_jumpDistance 32 = .ok (.ior, 1) := by decide +kernel
theorem dX0_jumpDistance_33 : decode cX0_jumpDistance 33 = .ok (.ireturn, 1) := by decide +kernel
theorem dX1_init_0 : decode cX1_init 0 = .ok (.aload_n 0, 1) := by decide +kernel
theorem dX1_init_1 : decode cX1_init 1 = .ok (.invokespecial 1, 3) := by decide +kernel
theorem dX1_init_4 : decode cX1_init 4 = .ok (.aload_n 0, 1) := by decide +kernel
theorem dX1_init_5 : decode cX1_init 5 = .ok (.sipush 1024, 3) := by decide +kernel
theorem dX1_init_8 : decode cX1_init 8 = .ok (.newarray .int, 2) := by decide +kernel
theorem dX1_init_10 : decode cX1_init 10 = .ok (.putfield 7, 3) := by decide +kernel
theorem dX1_init_13 : decode cX1_init 13 = .ok (.aload_n 0, 1) := by decide +kernel
theorem dX1_init_14 : decode cX1_init 14 = .ok (.bipush 32, 2) := by decide +kernel
theorem dX1_init_16 : decode cX1_init 16 = .ok (.newarray .long, 2) := by decide +kernel
theorem dX1_init_18 : decode cX1_init 18 = .ok (.putfield 13, 3) := by decide +kernel
theorem dX1_init_21 : decode cX1_init 21 = .ok (.aload_n 0, 1) := by decide +kernel
theorem dX1_init_22 : decode cX1_init 22 = .ok (.sipush 4096, 3) := by decide +kernel
theorem dX1_init_25 : decode cX1_init 25 = .ok (.newarray .byte, 2) := by decide +kernel
theorem dX1_init_27 : decode cX1_init 27 = .ok (.putfield 17, 3) := by decide +kernel
theorem dX1_init_30 : decode cX1_init 30 = .ok (.return_, 1) := by decide +kernel
theorem dX1_word_0 : decode cX1_word 0 = .ok (.aload_n 0, 1) := by decide +kernel
theorem dX1_word_1 : decode cX1_word 1 = .ok (.getfield 21, 3) := by decide +kernel
theorem dX1_word_4 : decode cX1_word 4 = .ok (.sipush 1024, 3) := by decide +kernel
theorem dX1_word_7 : decode cX1_word 7 = .ok (.if_icmp .ne 5, 3) := by decide +kernel
theorem dX1_word_10 : decode cX1_word 10 = .ok (.iconst (-1), 1) := by decide +kernel
theorem dX1_word_11 : decode cX1_word 11 = .ok (.ireturn, 1) := by decide +kernel
theorem dX1_word_12 : decode cX1_word 12 = .ok (.aload_n 0, 1) := by decide +kernel
theorem dX1_word_13 : decode cX1_word 13 = .ok (.getfield 7, 3) := by decide +kernel
theorem dX1_word_16 : decode cX1_word 16 = .ok (.aload_n 0, 1) := by decide +kernel
theorem dX1_word_17 : decode cX1_word 17 = .ok (.getfield 21, 3) := by decide +kernel
theorem dX1_word_20 : decode cX1_word 20 = .ok (.iload_n 1, 1) := by decide +kernel
theorem dX1_word_21 : decode cX1_word 21 = .ok (.iastore, 1) := by decide +kernel
theorem dX1_word_22 : decode cX1_word 22 = .ok (.aload_n 0, 1) := by decide +kernel
theorem dX1_word_23 : decode cX1_word 23 = .ok (.dup, 1) := by decide +kernel
theorem dX1_word_24 : decode cX1_word 24 = .ok (.getfield 21, 3) := by decide +kernel
theorem dX1_word_27 : decode cX1_word 27 = .ok (.iconst 1, 1) := by decide +kernel
theorem dX1_word_28 : decode cX1_word 28 = .ok (.iadd, 1) := by decide +kernel
theorem dX1_word_29 : decode cX1_word 29 = .ok (.putfield 21, 3) := by decide +kernel
theorem dX1_word_32 : decode cX1_word 32 = .ok (.aload_n 0, 1) := by decide +kernel
theorem dX1_word_33 : decode cX1_word 33 = .ok (.getfield 21, 3) := by decide +kernel
theorem dX1_word_36 : decode cX1_word 36 = .ok (.ireturn, 1) := by decide +kernel
theorem dX1_plain_0 : decode cX1_plain 0 = .ok (.lload_n 0, 1) := by decide +kernel
theorem dX1_plain_1 : decode cX1_plain 1 = .ok (.ldc2_w 25, 3) := by decide +kernel
theorem dX1_plain_4 : decode cX1_plain 4 = .ok (.land, 1) := by decide +kernel
theorem dX1_plain_5 : decode cX1_plain 5 = .ok (.lreturn, 1) := by decide +kernel
theorem dX1_signed_0 : decode cX1_signed 0 = .ok (.lload_n 0, 1) := by decide +kernel
theorem dX1_signed_1 : decode cX1_signed 1 = .ok (.ldc2_w 27, 3) := by decide +kernel
theorem dX1_signed_4 : decode cX1_signed 4 = .ok (.lcmp, 1) := by decide +kernel
theorem dX1_signed_5 : decode cX1_signed 5 = .ok (.ifCond .lt 11, 3) := by decide +kernel
theorem dX1_signed_8 : decode cX1_signed 8 = .ok (.lload_n 0, 1) := by decide +kernel
theorem dX1_signed_9 : decode cX1_signed 9 = .ok (.ldc2_w 29, 3) := by decide +kernel
theorem dX1_signed_12 : decode cX1_signed 12 = .ok (.lsub, 1) := by decide +kernel
theorem dX1_signed_13 : decode cX1_signed 13 = .ok (.goto 4, 3) := by decide +kernel
theorem dX1_signed_16 : decode cX1_signed 16 = .ok (.lload_n 0, 1) := by decide +kernel
theorem dX1_signed_17 : decode cX1_signed 17 = .ok (.lreturn, 1) := by decide +kernel
set_option maxRecDepth 20000 in
theorem ggX1_give_X1_plain : GoodIn wsX1_give wsX1_plain := goodIn_r _ [5, 6] (by decide +kernel) (by decide +kernel)
set_option maxRecDepth 20000 in
theorem gX1_give_X1_plain : GoodIn wsX1_give (va_wsS RX1 31 yX1_plain wsX1_plain) := goodIn_app (goodIn_of _ (by decide +kernel)) ggX1_give_X1_plain
theorem dX1_give_0 : decode cX1_give 0 = .ok (.iload_n 1, 1) := by decide +kernel
theorem dX1_give_1 : decode cX1_give 1 = .ok (.ifCond .le 13, 3) := by decide +kernel
theorem dX1_give_4 : decode cX1_give 4 = .ok (.aload_n 0, 1) := by decide +kernel
theorem dX1_give_5 : decode cX1_give 5 = .ok (.getfield 13, 3) := by decide +kernel
theorem dX1_give_8 : decode cX1_give 8 = .ok (.iload_n 1, 1) := by decide +kernel
theorem dX1_give_9 : decode cX1_give 9 = .ok (.lload_n 2, 1) := by decide +kernel
theorem dX1_give_10 : decode cX1_give 10 = .ok (.invokestatic 31, 3) := by decide +kernel
theorem dX1_give_13 : decode cX1_give 13 = .ok (.lastore, 1) := by decide +kernel
theorem dX1_give_14 : decode cX1_give 14 = .ok (.return_, 1) := by decide +kernel
set_option maxRecDepth 20000 in
theorem ggX1_put_X1_give : GoodIn wsX1_put wsX1_give := goodIn_r _ [5, 6, 7, 8, 4, 9, 10, 11, 12, 13, 14, 15, 16, 17, 18, 19, 20, 21, 22] (by decide +kernel) (by decide +kernel)
set_option maxRecDepth 20000 in
theorem gX1_put_X1_give : GoodIn wsX1_put (wsV RX1 35 RX1 yX1_give wsX1_give) := goodIn_app (goodIn_of _ (by decide +kernel)) ggX1_put_X1_give
theorem dX1_put_0 : decode cX1_put 0 = .ok (.iload_n 1, 1) := by decide +kernel
theorem dX1_put_1 : decode cX1_put 1 = .ok (.ifCond .lt 9, 3) := by decide +kernel
theorem dX1_put_4 : decode cX1_put 4 = .ok (.iload_n 1, 1) := by decide +kernel
theorem dX1_put_5 : decode cX1_put 5 = .ok (.bipush 31, 2) := by decide +kernel
theorem dX1_put_7 : decode cX1_put 7 = .ok (.if_icmp .le 5, 3) := by decide +kernel
theorem dX1_put_10 : decode cX1_put 10 = .ok (.iconst 0, 1) := by decide +kernel
theorem dX1_put_11 : decode cX1_put 11 = .ok (.ireturn, 1) := by decide +kernel
theorem dX1_put_12 : decode cX1_put 12 = .ok (.aload_n 0, 1) := by decide +kernel
theorem dX1_put_13 : decode cX1_put 13 = .ok (.iload_n 1, 1) := by decide +kernel
theorem dX1_put_14 : decode cX1_put 14 = .ok (.iload_n 2, 1) := by decide +kernel
theorem dX1_put_15 : decode cX1_put 15 = .ok (.i2l, 1) := by decide +kernel
theorem dX1_put_16 : decode cX1_put 16 = .ok (.invokevirtual 35, 3) := by decide +kernel
theorem dX1_put_19 : decode cX1_put 19 = .ok (.iconst 1, 1) := by decide +kernel
theorem dX1_put_20 : decode cX1_put 20 = .ok (.ireturn, 1) := by decide +kernel
theorem dX1_get_0 : decode cX1_get 0 = .ok (.iload_n 1, 1) := by decide +kernel
theorem dX1_get_1 : decode cX1_get 1 = .ok (.ifCond .lt 19, 3) := by decide +kernel
theorem dX1_get_4 : decode cX1_get 4 = .ok (.iload_n 1, 1) := by decide +kernel
theorem dX1_get_5 : decode cX1_get 5 = .ok (.bipush 32, 2) := by decide +kernel
theorem dX1_get_7 : decode cX1_get 7 = .ok (.if_icmp .ge 13, 3) := by decide +kernel
theorem dX1_get_10 : decode cX1_get 10 = .ok (.aload_n 0, 1) := by decide +kernel
theorem dX1_get_11 : decode cX1_get 11 = .ok (.getfield 13, 3) := by decide +kernel
theorem dX1_get_14 : decode cX1_get 14 = .ok (.iload_n 1, 1) := by decide +kernel
theorem dX1_get_15 : decode cX1_get 15 = .ok (.laload, 1) := by decide +kernel
theorem dX1_get_16 : decode cX1_get 16 = .ok (.l2i, 1) := by decide +kernel
theorem dX1_get_17 : decode cX1_get 17 = .ok (.goto 4, 3) := by decide +kernel
theorem dX1_get_20 : decode cX1_get 20 = .ok (.iconst 0, 1) := by decide +kernel
theorem dX1_get_21 : decode cX1_get 21 = .ok (.ireturn, 1) := by decide +kernel
theorem dX1_poke_0 : decode cX1_poke 0 = .ok (.iload_n 1, 1) := by decide +kernel
theorem dX1_poke_1 : decode cX1_poke 1 = .ok (.ifCond .lt 10, 3) := by decide +kernel
theorem dX1_poke_4 : decode cX1_poke 4 = .ok (.iload_n 1, 1) := by decide +kernel
theorem dX1_poke_5 : decode cX1_poke 5 = .ok (.sipush 4095, 3) := by decide +kernel
theorem dX1_poke_8 : decode cX1_poke 8 = .ok (.if_icmp .le 5, 3) := by decide +kernel
theorem dX1_poke_11 : decode cX1_poke 11 = .ok (.iconst 0, 1) := by decide +kernel
theorem dX1_poke_12 : decode cX1_poke 12 = .ok (.ireturn, 1) := by decide +kernel
theorem dX1_poke_13 : decode cX1_poke 13 = .ok (.aload_n 0, 1) := by decide +kernel
theorem dX1_poke_14 : decode cX1_poke 14 = .ok (.getfield 17, 3) := by decide +kernel
theorem dX1_poke_17 : decode cX1_poke 17 = .ok (.iload_n 1, 1) := by decide +kernel
theorem dX1_poke_18 : decode cX1_poke 18 = .ok (.iload_n 2, 1) := by decide +kernel
theorem dX1_poke_19 : decode cX1_poke 19 = .ok (.i2b, 1) := by decide +kernel
theorem dX1_poke_20 : decode cX1_poke 20 = .ok (.bastore, 1) := by decide +kernel
theorem dX1_poke_21 : decode cX1_poke 21 = .ok (.iconst 1, 1) := by decide +kernel
theorem dX1_poke_22 : decode cX1_poke 22 = .ok (.ireturn, 1) := by decide +kernel
theorem dX1_peek_0 : decode cX1_peek 0 = .ok (.iload_n 1, 1) := by decide +kernel
theorem dX1_peek_1 : decode cX1_peek 1 = .ok (.ifCond .lt 23, 3) := by decide +kernel
theorem dX1_peek_4 : decode cX1_peek 4 = .ok (.iload_n 1, 1) := by decide +kernel
theorem dX1_peek_5 : decode cX1_peek 5 = .ok (.sipush 4096, 3) := by decide +kernel
theorem dX1_peek_8 : decode cX1_peek 8 = .ok (.if_icmp .ge 16, 3) := by decide +kernel
theorem dX1_peek_11 : decode cX1_peek 11 = .ok (.aload_n 0, 1) := by decide +kernel
theorem dX1_peek_12 : decode cX1_peek 12 = .ok (.getfield 17, 3) := by decide +kernel
theorem dX1_peek_15 : decode cX1_peek 15 = .ok (.iload_n 1, 1) := by decide +kernel
theorem dX1_peek_16 : decode cX1_peek 16 = .ok (.baload, 1) := by decide +kernel
theorem dX1_peek_17 : decode cX1_peek 17 = .ok (.sipush 255, 3) := by decide +kernel
theorem dX1_peek_20 : decode cX1_peek 20 = .ok (.iand, 1) := by decide +kernel
theorem dX1_peek_21 : decode cX1_peek 21 = .ok (.goto 4, 3) := by decide +kernel
theorem dX1_peek_24 : decode cX1_peek 24 = .ok (.iconst (-1), 1) := by decide +kernel
theorem dX1_peek_25 : decode cX1_peek 25 = .ok (.ireturn, 1) := by decide +kernel
theorem dX1_go_0 : decode cX1_go 0 = .ok (.iload_n 1, 1) := by decide +kernel
theorem dX1_go_1 : decode cX1_go 1 = .ok (.iconst 4, 1) := by decide +kernel
theorem dX1_go_2 : decode cX1_go 2 = .ok (.irem, 1) := by decide +kernel
theorem dX1_go_3 : decode cX1_go 3 = .ok (.ifCond .eq 5, 3) := by decide +kernel
theorem dX1_go_6 : decode cX1_go 6 = .ok (.iconst 0, 1) := by decide +kernel
theorem dX1_go_7 : decode cX1_go 7 = .ok (.ireturn, 1) := by decide +kernel
theorem dX1_go_8 : decode cX1_go 8 = .ok (.aload_n 0, 1) := by decide +kernel
theorem dX1_go_9 : decode cX1_go 9 = .ok (.iload_n 1, 1) := by decide +kernel
theorem dX1_go_10 : decode cX1_go 10 = .ok (.putfield 39, 3) := by decide +kernel
theorem dX1_go_13 : decode cX1_go 13 = .ok (.iconst 1, 1) := by decide +kernel
theorem dX1_go_14 : decode cX1_go 14 = .ok (.ireturn, 1) := by decide +kernel
theorem dX1_pc_0 : decode cX1_pc 0 = .ok (.aload_n 0, 1) := by decide +kernel
theorem dX1_pc_1 : decode cX1_pc 1 = .ok (.getfield 39, 3) := by decide +kernel
theorem dX1_pc_4 : decode cX1_pc 4 = .ok (.ireturn, 1) := by decide +kernel
theorem dX1_steps_0 : decode cX1_steps 0 = .ok (.aload_n 0, 1) := by decide +kernel
theorem dX1_steps_1 : decode cX1_steps 1 = .ok (.getfield 42, 3) := by decide +kernel
theorem dX1_steps_4 : decode cX1_steps 4 = .ok (.ireturn, 1) := by decide +kernel
set_option maxRecDepth 20000 in
theorem ggX1_run_X1_step : GoodIn wsX1_run wsX1_step := goodIn_r _ [5, 6, 7, 8, 9, 10, 11, 12, 13, 14, 15, 16, 17, 18, 4, 19, 20, 21, 22, 23, 24, 25, 26, 27, 28, 29, 30, 31, 32, 33, 34, 35, 36, 37, 38, 39, 40, 41, 42, 43, 44, 45, 46, 47, 48, 49, 50, 51, 52, 53, 54, 55, 56, 57, 58, 59, 60, 61, 62, 63, 64, 65, 66, 67, 68, 69, 70, 71, 72, 73, 74, 75, 76, 77, 78, 79, 80, 81, 82, 83, 84, 85, 86, 87, 88, 89, 90, 91, 92, 93, 94, 95, 96, 97, 98, 99, 100] (by decide +kernel) (by decide +kernel)
set_option maxRecDepth 20000 in
theorem gX1_run_X1_step : GoodIn wsX1_run (wsV RX1 45 RX1 yX1_step wsX1_step) := goodIn_app (goodIn_of _ (by decide +kernel)) ggX1_run_X1_step
theorem dX1_run_0 : decode cX1_run 0 = .ok (.iload_n 1, 1) := by decide +kernel
theorem dX1_run_1 : decode cX1_run 1 = .ok (.ifCond .lt 10, 3) := by decide +kernel
theorem dX1_run_4 : decode cX1_run 4 = .ok (.iload_n 1, 1) := by decide +kernel
theorem dX1_run_5 : decode cX1_run 5 = .ok (.sipush 1000, 3) := by decide +kernel
theorem dX1_run_8 : decode cX1_run 8 = .ok (.if_icmp .le 5, 3) := by decide +kernel
theorem dX1_run_11 : decode cX1_run 11 = .ok (.iconst (-1), 1) := by decide +kernel
theorem dX1_run_12 : decode cX1_run 12 = .ok (.ireturn, 1) := by decide +kernel
theorem dX1_run_13 : decode cX1_run 13 = .ok (.iconst 0, 1) := by decide +kernel
theorem dX1_run_14 : decode cX1_run 14 = .ok (.istore_n 2, 1) := by decide +kernel
theorem dX1_run_15 : decode cX1_run 15 = .ok (.iload_n 2, 1) := by decide +kernel
theorem dX1_run_16 : decode cX1_run 16 = .ok (.iload_n 1, 1) := by decide +kernel
theorem dX1_run_17 : decode cX1_run 17 = .ok (.if_icmp .ge 20, 3) := by decide +kernel
theorem dX1_run_20 : decode cX1_run 20 = .ok (.aload_n 0, 1) := by decide +kernel
theorem dX1_run_21 : decode cX1_run 21 = .ok (.invokevirtual 45, 3) := by decide +kernel
theorem dX1_run_24 : decode cX1_run 24 = .ok (.istore_n 3, 1) := by decide +kernel
theorem dX1_run_25 : decode cX1_run 25 = .ok (.iload_n 3, 1) := by decide +kernel
theorem dX1_run_26 : decode cX1_run 26 = .ok (.ifCond .le 5, 3) := by decide +kernel
theorem dX1_run_29 : decode cX1_run 29 = .ok (.iload_n 3, 1) := by decide +kernel
theorem dX1_run_30 : decode cX1_run 30 = .ok (.ireturn, 1) := by decide +kernel
theorem dX1_run_31 : decode cX1_run 31 = .ok (.iinc 2 1, 3) := by decide +kernel
theorem dX1_run_34 : decode cX1_run 34 = .ok (.goto (-19), 3) := by decide +kernel
theorem dX1_run_37 : decode cX1_run 37 = .ok (.iconst 0, 1) := by decide +kernel
theorem dX1_run_38 : decode cX1_run 38 = .ok (.ireturn, 1) := by decide +kernel
set_option maxRecDepth 20000 in
theorem ggX1_bits_X1_plain : GoodIn wsX1_bits wsX1_plain := goodIn_r _ [4, 5] (by decide +kernel) (by decide +kernel)
set_option maxRecDepth 20000 in
theorem gX1_bits_X1_plain : GoodIn wsX1_bits (va_wsS RX1 31 yX1_plain wsX1_plain) := goodIn_app (goodIn_of _ (by decide +kernel)) ggX1_bits_X1_plain
theorem dX1_bits_0 : decode cX1_bits 0 = .ok (.iload_n 0, 1) := by decide +kernel
theorem dX1_bits_1 : decode cX1_bits 1 = .ok (.i2l, 1) := by decide +kernel
theorem dX1_bits_2 : decode cX1_bits 2 = .ok (.invokestatic 31, 3) := by decide +kernel
theorem dX1_bits_5 : decode cX1_bits 5 = .ok (.iload_n 1, 1) := by decide +kernel
theorem dX1_bits_6 : decode cX1_bits 6 = .ok (.lshr, 1) := by decide +kernel
theorem dX1_bits_7 : decode cX1_bits 7 = .ok (.l2i, 1) := by decide +kernel
theorem dX1_bits_8 : decode cX1_bits 8 = .ok (.iconst 1, 1) := by decide +kernel
theorem dX1_bits_9 : decode cX1_bits 9 = .ok (.iload_n 2, 1) := by decide +kernel
theorem dX1_bits_10 : decode cX1_bits 10 = .ok (.ishl, 1) := by decide +kernel
theorem dX1_bits_11 : decode cX1_bits 11 = .ok (.iconst 1, 1) := by decide +kernel
theorem dX1_bits_12 : decode cX1_bits 12 = .ok (.isub, 1) := by decide +kernel
theorem dX1_bits_13 : decode cX1_bits 13 = .ok (.iand, 1) := by decide +kernel
theorem dX1_bits_14 : decode cX1_bits 14 = .ok (.ireturn, 1) := by decide +kernel
theorem dX1_withSign_0 : decode cX1_withSign 0 = .ok (.iload_n 0, 1) := by decide +kernel
theorem dX1_withSign_1 : decode cX1_withSign 1 = .ok (.iconst 1, 1) := by decide +kernel
theorem dX1_withSign_2 : decode cX1_withSign 2 = .ok (.iload_n 1, 1) := by decide +kernel
theorem dX1_withSign_3 : decode cX1_withSign 3 = .ok (.iconst 1, 1) := by decide +kernel
theorem dX1_withSign_4 : decode cX1_withSign 4 = .ok (.isub, 1) := by decide +kernel
theorem dX1_withSign_5 : decode cX1_withSign 5 = .ok (.ishl, 1) := by decide +kernel
theorem dX1_withSign_6 : decode cX1_withSign 6 = .ok (.if_icmp .lt 11, 3) := by decide +kernel
theorem dX1_withSign_9 : decode cX1_withSign 9 = .ok (.iload_n 0, 1) := by decide +kernel
theorem dX1_withSign_10 : decode cX1_withSign 10 = .ok (.iconst 1, 1) := by decide +kernel
theorem dX1_withSign_11 : decode cX1_withSign 11 = .ok (.iload_n 1, 1) := by decide +kernel
theorem dX1_withSign_12 : decode cX1_withSign 12 = .ok (.ishl, 1) := by decide +kernel
theorem dX1_withSign_13 : decode cX1_withSign 13 = .ok (.isub, 1) := by decide +kernel
theorem dX1_withSign_14 : decode cX1_withSign 14 = .ok (.goto 4, 3) := by decide +kernel
theorem dX1_withSign_17 : decode cX1_withSign 17 = .ok (.iload_n 0, 1) := by decide +kernel
theorem dX1_withSign_18 : decode cX1_withSign 18 = .ok (.ireturn, 1) := by decide +kernel
set_option maxRecDepth 20000 in
theorem ggX1_step_X1_bits : GoodIn wsX1_step wsX1_bits := goodIn_r _ [15, 16, 17, 14, 18, 19] (by decide +kernel) (by decide +kernel)
set_option maxRecDepth 20000 in
theorem gX1_step_X1_bits : GoodIn wsX1_step (va_wsS RX1 49 yX1_bits wsX1_bits) := goodIn_app (goodIn_of _ (by decide +kernel)) ggX1_step_X1_bits
set_option maxRecDepth 20000 in
theorem ggX1_step_X1_withSign : GoodIn wsX1_step wsX1_withSign := goodIn_r _ [22] (by decide +kernel) (by decide +kernel)
set_option maxRecDepth 20000 in
theorem gX1_step_X1_withSign : GoodIn wsX1_step (va_wsS RX1 69 yX1_withSign wsX1_withSign) := goodIn_app (goodIn_of _ (by decide +kernel)) ggX1_step_X1_withSign
set_option maxRecDepth 20000 in
theorem ggX1_step_X1_work : GoodIn wsX1_step wsX1_work := goodIn_r _ [26, 27, 5, 1, 6, 8, 11, 28, 29, 30, 14, 31, 9, 32, 33, 34, 35, 36, 12, 13, 15, 16, 17, 18, 19, 20, 21, 22, 37, 38, 39, 40, 7, 41, 42, 43, 44, 45, 46, 47, 48, 49, 50, 51, 52, 53, 54, 55, 56, 57, 58, 59, 60, 10, 61, 62, 63, 64, 65, 66, 67, 68, 69, 70, 71, 72, 73, 74, 75, 76, 77, 78, 79, 80, 81, 82, 83, 84, 85, 86, 87, 88, 89, 90, 91, 92, 93, 94, 95, 96] (by decide +kernel) (by decide +kernel)
set_option maxRecDepth 20000 in
theorem gX1_step_X1_work : GoodIn wsX1_step (wsV RX1 76 RX1 yX1_work wsX1_work) := goodIn_app (goodIn_of _ (by decide +kernel)) ggX1_step_X1_work
theorem dX1_step_0 : decode cX1_step 0 = .ok (.aload_n 0, 1) := by decide +kernel
theorem dX1_step_1 : decode cX1_step 1 = .ok (.getfield 39, 3) := by decide +kernel
theorem dX1_step_4 : decode cX1_step 4 = .ok (.ifCond .lt 25, 3) := by decide +kernel
theorem dX1_step_7 : decode cX1_step 7 = .ok (.aload_n 0, 1) := by decide +kernel
theorem dX1_step_8 : decode cX1_step 8 = .ok (.getfield 39, 3) := by decide +kernel
theorem dX1_step_11 : decode cX1_step 11 = .ok (.iconst 4, 1) := by decide +kernel
theorem dX1_step_12 : decode cX1_step 12 = .ok (.irem, 1) := by decide +kernel
theorem dX1_step_13 : decode cX1_step 13 = .ok (.ifCond .ne 16, 3) := by decide +kernel
theorem dX1_step_16 : decode cX1_step 16 = .ok (.aload_n 0, 1) := by decide +kernel
theorem dX1_step_17 : decode cX1_step 17 = .ok (.getfield 39, 3) := by decide +kernel
