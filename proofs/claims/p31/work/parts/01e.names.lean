theorem dX5_damageWith_43 : decode cX5_damageWith 43 = .ok (.iload_n 2, 1) := by decide +kernel
theorem dX5_damageWith_44 : decode cX5_damageWith 44 = .ok (.iload 4, 2) := by decide +kernel
theorem dX5_damageWith_46 : decode cX5_damageWith 46 = .ok (.invokestatic 177, 3) := by decide +kernel
theorem dX5_damageWith_49 : decode cX5_damageWith 49 = .ok (.iload 5, 2) := by decide +kernel
theorem dX5_damageWith_51 : decode cX5_damageWith 51 = .ok (.invokestatic 177, 3) := by decide +kernel
theorem dX5_damageWith_54 : decode cX5_damageWith 54 = .ok (.isub, 1) := by decide +kernel
theorem dX5_damageWith_55 : decode cX5_damageWith 55 = .ok (.iadd, 1) := by decide +kernel
theorem dX5_damageWith_56 : decode cX5_damageWith 56 = .ok (.istore_n 2, 1) := by decide +kernel
theorem dX5_damageWith_57 : decode cX5_damageWith 57 = .ok (.iinc 3 1, 3) := by decide +kernel
theorem dX5_damageWith_60 : decode cX5_damageWith 60 = .ok (.goto (-56), 3) := by decide +kernel
theorem dX5_damageWith_63 : decode cX5_damageWith 63 = .ok (.iload_n 2, 1) := by decide +kernel
theorem dX5_damageWith_64 : decode cX5_damageWith 64 = .ok (.ireturn, 1) := by decide +kernel
theorem dJ6_bitCount_0f7a4_0 : decode cJ6_bitCount_0f7a4 0 = .ok (.iload_n 0, 1) := by decide +kernel
theorem dJ6_bitCount_0f7a4_1 : decode cJ6_bitCount_0f7a4 1 = .ok (.iload_n 0, 1) := by decide +kernel
theorem dJ6_bitCount_0f7a4_2 : decode cJ6_bitCount_0f7a4 2 = .ok (.iconst 1, 1) := by decide +kernel
theorem dJ6_bitCount_0f7a4_3 : decode cJ6_bitCount_0f7a4 3 = .ok (.iushr, 1) := by decide +kernel
theorem dJ6_bitCount_0f7a4_4 : decode cJ6_bitCount_0f7a4 4 = .ok (.ldc_w 265, 3) := by decide +kernel
theorem dJ6_bitCount_0f7a4_7 : decode cJ6_bitCount_0f7a4 7 = .ok (.iand, 1) := by decide +kernel
theorem dJ6_bitCount_0f7a4_8 : decode cJ6_bitCount_0f7a4 8 = .ok (.isub, 1) := by decide +kernel
theorem dJ6_bitCount_0f7a4_9 : decode cJ6_bitCount_0f7a4 9 = .ok (.istore_n 0, 1) := by decide +kernel
theorem dJ6_bitCount_0f7a4_10 : decode cJ6_bitCount_0f7a4 10 = .ok (.iload_n 0, 1) := by decide +kernel
theorem dJ6_bitCount_0f7a4_11 : decode cJ6_bitCount_0f7a4 11 = .ok (.ldc_w 266, 3) := by decide +kernel
theorem dJ6_bitCount_0f7a4_14 : decode cJ6_bitCount_0f7a4 14 = .ok (.iand, 1) := by decide +kernel
theorem dJ6_bitCount_0f7a4_15 : decode cJ6_bitCount_0f7a4 15 = .ok (.iload_n 0, 1) := by decide +kernel
theorem dJ6_bitCount_0f7a4_16 : decode cJ6_bitCount_0f7a4 16 = .ok (.iconst 2, 1) := by decide +kernel
theorem dJ6_bitCount_0f7a4_17 : decode cJ6_bitCount_0f7a4 17 = .ok (.iushr, 1) := by decide +kernel
theorem dJ6_bitCount_0f7a4_18 : decode cJ6_bitCount_0f7a4 18 = .ok (.ldc_w 266, 3) := by decide +kernel
theorem dJ6_bitCount_0f7a4_21 : decode cJ6_bitCount_0f7a4 21 = .ok (.iand, 1) := by decide +kernel
theorem dJ6_bitCount_0f7a4_22 : decode cJ6_bitCount_0f7a4 22 = .ok (.iadd, 1) := by decide +kernel
theorem dJ6_bitCount_0f7a4_23 : decode cJ6_bitCount_0f7a4 23 = .ok (.istore_n 0, 1) := by decide +kernel
theorem dJ6_bitCount_0f7a4_24 : decode cJ6_bitCount_0f7a4 24 = .ok (.iload_n 0, 1) := by decide +kernel
theorem dJ6_bitCount_0f7a4_25 : decode cJ6_bitCount_0f7a4 25 = .ok (.iload_n 0, 1) := by decide +kernel
theorem dJ6_bitCount_0f7a4_26 : decode cJ6_bitCount_0f7a4 26 = .ok (.iconst 4, 1) := by decide +kernel
theorem dJ6_bitCount_0f7a4_27 : decode cJ6_bitCount_0f7a4 27 = .ok (.iushr, 1) := by decide +kernel
theorem dJ6_bitCount_0f7a4_28 : decode cJ6_bitCount_0f7a4 28 = .ok (.iadd, 1) := by decide +kernel
theorem dJ6_bitCount_0f7a4_29 : decode cJ6_bitCount_0f7a4 29 = .ok (.ldc_w 267, 3) := by decide +kernel
theorem dJ6_bitCount_0f7a4_32 : decode cJ6_bitCount_0f7a4 32 = .ok (.iand, 1) := by decide +kernel
theorem dJ6_bitCount_0f7a4_33 : decode cJ6_bitCount_0f7a4 33 = .ok (.istore_n 0, 1) := by decide +kernel
theorem dJ6_bitCount_0f7a4_34 : decode cJ6_bitCount_0f7a4 34 = .ok (.iload_n 0, 1) := by decide +kernel
theorem dJ6_bitCount_0f7a4_35 : decode cJ6_bitCount_0f7a4 35 = .ok (.iload_n 0, 1) := by decide +kernel
theorem dJ6_bitCount_0f7a4_36 : decode cJ6_bitCount_0f7a4 36 = .ok (.bipush 8, 2) := by decide +kernel
theorem dJ6_bitCount_0f7a4_38 : decode cJ6_bitCount_0f7a4 38 = .ok (.iushr, 1) := by decide +kernel
theorem dJ6_bitCount_0f7a4_39 : decode cJ6_bitCount_0f7a4 39 = .ok (.iadd, 1) := by decide +kernel
theorem dJ6_bitCount_0f7a4_40 : decode cJ6_bitCount_0f7a4 40 = .ok (.istore_n 0, 1) := by decide +kernel
theorem dJ6_bitCount_0f7a4_41 : decode cJ6_bitCount_0f7a4 41 = .ok (.iload_n 0, 1) := by decide +kernel
theorem dJ6_bitCount_0f7a4_42 : decode cJ6_bitCount_0f7a4 42 = .ok (.iload_n 0, 1) := by decide +kernel
theorem dJ6_bitCount_0f7a4_43 : decode cJ6_bitCount_0f7a4 43 = .ok (.bipush 16, 2) := by decide +kernel
theorem dJ6_bitCount_0f7a4_45 : decode cJ6_bitCount_0f7a4 45 = .ok (.iushr, 1) := by decide +kernel
theorem dJ6_bitCount_0f7a4_46 : decode cJ6_bitCount_0f7a4 46 = .ok (.iadd, 1) := by decide +kernel
theorem dJ6_bitCount_0f7a4_47 : decode cJ6_bitCount_0f7a4 47 = .ok (.istore_n 0, 1) := by decide +kernel
theorem dJ6_bitCount_0f7a4_48 : decode cJ6_bitCount_0f7a4 48 = .ok (.iload_n 0, 1) := by decide +kernel
theorem dJ6_bitCount_0f7a4_49 : decode cJ6_bitCount_0f7a4 49 = .ok (.bipush 63, 2) := by decide +kernel
theorem dJ6_bitCount_0f7a4_51 : decode cJ6_bitCount_0f7a4 51 = .ok (.iand, 1) := by decide +kernel
theorem dJ6_bitCount_0f7a4_52 : decode cJ6_bitCount_0f7a4 52 = .ok (.ireturn, 1) := by decide +kernel
theorem dJ9_floorMod_7cf53_0 : decode cJ9_floorMod_7cf53 0 = .ok (.iload_n 0, 1) := by decide +kernel
theorem dJ9_floorMod_7cf53_1 : decode cJ9_floorMod_7cf53 1 = .ok (.iload_n 1, 1) := by decide +kernel
theorem dJ9_floorMod_7cf53_2 : decode cJ9_floorMod_7cf53 2 = .ok (.irem, 1) := by decide +kernel
theorem dJ9_floorMod_7cf53_3 : decode cJ9_floorMod_7cf53 3 = .ok (.istore_n 2, 1) := by decide +kernel
theorem dJ9_floorMod_7cf53_4 : decode cJ9_floorMod_7cf53 4 = .ok (.iload_n 0, 1) := by decide +kernel
theorem dJ9_floorMod_7cf53_5 : decode cJ9_floorMod_7cf53 5 = .ok (.iload_n 1, 1) := by decide +kernel
theorem dJ9_floorMod_7cf53_6 : decode cJ9_floorMod_7cf53 6 = .ok (.ixor, 1) := by decide +kernel
theorem dJ9_floorMod_7cf53_7 : decode cJ9_floorMod_7cf53 7 = .ok (.ifCond .ge 11, 3) := by decide +kernel
theorem dJ9_floorMod_7cf53_10 : decode cJ9_floorMod_7cf53 10 = .ok (.iload_n 2, 1) := by decide +kernel
theorem dJ9_floorMod_7cf53_11 : decode cJ9_floorMod_7cf53 11 = .ok (.ifCond .eq 7, 3) := by decide +kernel
theorem dJ9_floorMod_7cf53_14 : decode cJ9_floorMod_7cf53 14 = .ok (.iload_n 2, 1) := by decide +kernel
theorem dJ9_floorMod_7cf53_15 : decode cJ9_floorMod_7cf53 15 = .ok (.iload_n 1, 1) := by decide +kernel
theorem dJ9_floorMod_7cf53_16 : decode cJ9_floorMod_7cf53 16 = .ok (.iadd, 1) := by decide +kernel
theorem dJ9_floorMod_7cf53_17 : decode cJ9_floorMod_7cf53 17 = .ok (.ireturn, 1) := by decide +kernel
theorem dJ9_floorMod_7cf53_18 : decode cJ9_floorMod_7cf53 18 = .ok (.iload_n 2, 1) := by decide +kernel
theorem dJ9_floorMod_7cf53_19 : decode cJ9_floorMod_7cf53 19 = .ok (.ireturn, 1) := by decide +kernel
theorem dJ9_min_7cf53_0 : decode cJ9_min_7cf53 0 = .ok (.iload_n 0, 1) := by decide +kernel
theorem dJ9_min_7cf53_1 : decode cJ9_min_7cf53 1 = .ok (.iload_n 1, 1) := by decide +kernel
theorem dJ9_min_7cf53_2 : decode cJ9_min_7cf53 2 = .ok (.if_icmp .gt 7, 3) := by decide +kernel
theorem dJ9_min_7cf53_5 : decode cJ9_min_7cf53 5 = .ok (.iload_n 0, 1) := by decide +kernel
theorem dJ9_min_7cf53_6 : decode cJ9_min_7cf53 6 = .ok (.goto 4, 3) := by decide +kernel
theorem dJ9_min_7cf53_9 : decode cJ9_min_7cf53 9 = .ok (.iload_n 1, 1) := by decide +kernel
theorem dJ9_min_7cf53_10 : decode cJ9_min_7cf53 10 = .ok (.ireturn, 1) := by decide +kernel
theorem dL_cell_0 : decode cL_cell 0 = .ok (.iload_n 1, 1) := by decide +kernel
theorem dL_cell_1 : decode cL_cell 1 = .ok (.aload_n 0, 1) := by decide +kernel
theorem dL_cell_2 : decode cL_cell 2 = .ok (.arraylength, 1) := by decide +kernel
theorem dL_cell_3 : decode cL_cell 3 = .ok (.if_icmp .ge 9, 3) := by decide +kernel
theorem dL_cell_6 : decode cL_cell 6 = .ok (.aload_n 0, 1) := by decide +kernel
theorem dL_cell_7 : decode cL_cell 7 = .ok (.iload_n 1, 1) := by decide +kernel
theorem dL_cell_8 : decode cL_cell 8 = .ok (.iaload, 1) := by decide +kernel
theorem dL_cell_9 : decode cL_cell 9 = .ok (.goto 10, 3) := by decide +kernel
theorem dL_cell_12 : decode cL_cell 12 = .ok (.ldc 7, 2) := by decide +kernel
theorem dL_cell_14 : decode cL_cell 14 = .ok (.iload_n 1, 1) := by decide +kernel
theorem dL_cell_15 : decode cL_cell 15 = .ok (.imul, 1) := by decide +kernel
theorem dL_cell_16 : decode cL_cell 16 = .ok (.bipush 109, 2) := by decide +kernel
theorem dL_cell_18 : decode cL_cell 18 = .ok (.iadd, 1) := by decide +kernel
theorem dL_cell_19 : decode cL_cell 19 = .ok (.ldc 8, 2) := by decide +kernel
theorem dL_cell_21 : decode cL_cell 21 = .ok (.iand, 1) := by decide +kernel
theorem dL_cell_22 : decode cL_cell 22 = .ok (.ireturn, 1) := by decide +kernel
theorem dL_has_0 : decode cL_has 0 = .ok (.iload_n 1, 1) := by decide +kernel
theorem dL_has_1 : decode cL_has 1 = .ok (.ifCond .lt 22, 3) := by decide +kernel
theorem dL_has_4 : decode cL_has 4 = .ok (.iload_n 1, 1) := by decide +kernel
theorem dL_has_5 : decode cL_has 5 = .ok (.bipush 8, 2) := by decide +kernel
theorem dL_has_7 : decode cL_has 7 = .ok (.if_icmp .ge 16, 3) := by decide +kernel
theorem dL_has_10 : decode cL_has 10 = .ok (.iload_n 0, 1) := by decide +kernel
theorem dL_has_11 : decode cL_has 11 = .ok (.iload_n 1, 1) := by decide +kernel
theorem dL_has_12 : decode cL_has 12 = .ok (.ishr, 1) := by decide +kernel
theorem dL_has_13 : decode cL_has 13 = .ok (.iconst 1, 1) := by decide +kernel
theorem dL_has_14 : decode cL_has 14 = .ok (.iand, 1) := by decide +kernel
theorem dL_has_15 : decode cL_has 15 = .ok (.iconst 1, 1) := by decide +kernel
theorem dL_has_16 : decode cL_has 16 = .ok (.if_icmp .ne 7, 3) := by decide +kernel
theorem dL_has_19 : decode cL_has 19 = .ok (.iconst 1, 1) := by decide +kernel
theorem dL_has_20 : decode cL_has 20 = .ok (.goto 4, 3) := by decide +kernel
theorem dL_has_23 : decode cL_has 23 = .ok (.iconst 0, 1) := by decide +kernel
theorem dL_has_24 : decode cL_has 24 = .ok (.ireturn, 1) := by decide +kernel
theorem dL_font_0 : decode cL_font 0 = .ok (.iconst 0, 1) := by decide +kernel
theorem dL_font_1 : decode cL_font 1 = .ok (.istore_n 1, 1) := by decide +kernel
theorem dL_font_2 : decode cL_font 2 = .ok (.iload_n 1, 1) := by decide +kernel
theorem dL_font_3 : decode cL_font 3 = .ok (.bipush 8, 2) := by decide +kernel
theorem dL_font_5 : decode cL_font 5 = .ok (.if_icmp .ge 62, 3) := by decide +kernel
theorem dL_font_8 : decode cL_font 8 = .ok (.aload_n 0, 1) := by decide +kernel
theorem dL_font_9 : decode cL_font 9 = .ok (.iload_n 1, 1) := by decide +kernel
theorem dL_font_10 : decode cL_font 10 = .ok (.iconst 3, 1) := by decide +kernel
theorem dL_font_11 : decode cL_font 11 = .ok (.iload_n 1, 1) := by decide +kernel
theorem dL_font_12 : decode cL_font 12 = .ok (.iconst 3, 1) := by decide +kernel
theorem dL_font_13 : decode cL_font 13 = .ok (.irem, 1) := by decide +kernel
theorem dL_font_14 : decode cL_font 14 = .ok (.iadd, 1) := by decide +kernel
theorem dL_font_15 : decode cL_font 15 = .ok (.iastore, 1) := by decide +kernel
theorem dL_font_16 : decode cL_font 16 = .ok (.iconst 0, 1) := by decide +kernel
theorem dL_font_17 : decode cL_font 17 = .ok (.istore_n 2, 1) := by decide +kernel
theorem dL_font_18 : decode cL_font 18 = .ok (.iload_n 2, 1) := by decide +kernel
theorem dL_font_19 : decode cL_font 19 = .ok (.aload_n 0, 1) := by decide +kernel
theorem dL_font_20 : decode cL_font 20 = .ok (.iload_n 1, 1) := by decide +kernel
theorem dL_font_21 : decode cL_font 21 = .ok (.iaload, 1) := by decide +kernel
theorem dL_font_22 : decode cL_font 22 = .ok (.if_icmp .ge 39, 3) := by decide +kernel
theorem dL_font_25 : decode cL_font 25 = .ok (.aload_n 0, 1) := by decide +kernel
theorem dL_font_26 : decode cL_font 26 = .ok (.bipush 9, 2) := by decide +kernel
theorem dL_font_28 : decode cL_font 28 = .ok (.bipush 6, 2) := by decide +kernel
theorem dL_font_30 : decode cL_font 30 = .ok (.iload_n 1, 1) := by decide +kernel
theorem dL_font_31 : decode cL_font 31 = .ok (.imul, 1) := by decide +kernel
theorem dL_font_32 : decode cL_font 32 = .ok (.iadd, 1) := by decide +kernel
theorem dL_font_33 : decode cL_font 33 = .ok (.iload_n 2, 1) := by decide +kernel
theorem dL_font_34 : decode cL_font 34 = .ok (.iadd, 1) := by decide +kernel
theorem dL_font_35 : decode cL_font 35 = .ok (.bipush 29, 2) := by decide +kernel
theorem dL_font_37 : decode cL_font 37 = .ok (.iload_n 1, 1) := by decide +kernel
theorem dL_font_38 : decode cL_font 38 = .ok (.iconst 1, 1) := by decide +kernel
theorem dL_font_39 : decode cL_font 39 = .ok (.iadd, 1) := by decide +kernel
theorem dL_font_40 : decode cL_font 40 = .ok (.imul, 1) := by decide +kernel
theorem dL_font_41 : decode cL_font 41 = .ok (.iload_n 2, 1) := by decide +kernel
theorem dL_font_42 : decode cL_font 42 = .ok (.iconst 2, 1) := by decide +kernel
theorem dL_font_43 : decode cL_font 43 = .ok (.iadd, 1) := by decide +kernel
theorem dL_font_44 : decode cL_font 44 = .ok (.imul, 1) := by decide +kernel
theorem dL_font_45 : decode cL_font 45 = .ok (.bipush 17, 2) := by decide +kernel
theorem dL_font_47 : decode cL_font 47 = .ok (.iload_n 2, 1) := by decide +kernel
theorem dL_font_48 : decode cL_font 48 = .ok (.imul, 1) := by decide +kernel
theorem dL_font_49 : decode cL_font 49 = .ok (.iadd, 1) := by decide +kernel
theorem dL_font_50 : decode cL_font 50 = .ok (.sipush 256, 3) := by decide +kernel
theorem dL_font_53 : decode cL_font 53 = .ok (.irem, 1) := by decide +kernel
theorem dL_font_54 : decode cL_font 54 = .ok (.iastore, 1) := by decide +kernel
theorem dL_font_55 : decode cL_font 55 = .ok (.iinc 2 1, 3) := by decide +kernel
theorem dL_font_58 : decode cL_font 58 = .ok (.goto (-40), 3) := by decide +kernel
theorem dL_font_61 : decode cL_font 61 = .ok (.iinc 1 1, 3) := by decide +kernel
theorem dL_font_64 : decode cL_font 64 = .ok (.goto (-62), 3) := by decide +kernel
theorem dL_font_67 : decode cL_font 67 = .ok (.aload_n 0, 1) := by decide +kernel
theorem dL_font_68 : decode cL_font 68 = .ok (.bipush 8, 2) := by decide +kernel
theorem dL_font_70 : decode cL_font 70 = .ok (.iconst 2, 1) := by decide +kernel
theorem dL_font_71 : decode cL_font 71 = .ok (.iastore, 1) := by decide +kernel
theorem dL_font_72 : decode cL_font 72 = .ok (.return_, 1) := by decide +kernel
theorem dL_number_0 : decode cL_number 0 = .ok (.iload_n 0, 1) := by decide +kernel
theorem dL_number_1 : decode cL_number 1 = .ok (.bipush 8, 2) := by decide +kernel
theorem dL_number_3 : decode cL_number 3 = .ok (.if_icmp .ne 8, 3) := by decide +kernel
theorem dL_number_6 : decode cL_number 6 = .ok (.bipush 26, 2) := by decide +kernel
theorem dL_number_8 : decode cL_number 8 = .ok (.goto 4, 3) := by decide +kernel
theorem dL_number_11 : decode cL_number 11 = .ok (.iload_n 0, 1) := by decide +kernel
theorem dL_number_12 : decode cL_number 12 = .ok (.ireturn, 1) := by decide +kernel
set_option maxRecDepth 20000 in
theorem ggL_glyph_L_number : GoodIn wsL_glyph wsL_number := goodIn_r _ [4] (by decide +kernel) (by decide +kernel)
set_option maxRecDepth 20000 in
theorem gL_glyph_L_number : GoodIn wsL_glyph (va_wsS RL 9 yL_number wsL_number) := goodIn_app (goodIn_of _ (by decide +kernel)) ggL_glyph_L_number
set_option maxRecDepth 20000 in
theorem ggL_glyph_X5_setGlyphWidth : GoodIn wsL_glyph wsX5_setGlyphWidth := goodIn_r _ [9, 10, 11, 12, 8, 13, 14, 15, 16, 17, 18, 19, 20, 21, 22, 23, 24, 25, 26, 27, 28, 29, 30, 31, 32, 33, 34, 35, 36, 37, 38, 39, 40, 41, 42, 43, 44, 45, 46, 47, 48, 49, 50, 51, 52, 53, 54, 55, 56, 57, 58, 59, 60, 61, 62, 63, 64, 65, 66, 67, 68, 69, 70, 71, 72, 73, 74, 75, 76, 77, 78, 79, 80, 81, 82, 83, 84, 85, 105, 106, 107, 108, 109, 110, 111, 112, 113, 114, 115, 116, 117, 118, 119, 120, 121, 122, 123, 124, 125, 126, 127, 128, 129] (by decide +kernel) (by decide +kernel)
set_option maxRecDepth 20000 in
theorem gL_glyph_X5_setGlyphWidth : GoodIn wsL_glyph (wsV RL 15 RX5 yX5_setGlyphWidth wsX5_setGlyphWidth) := goodIn_app (goodIn_of _ (by decide +kernel)) ggL_glyph_X5_setGlyphWidth
set_option maxRecDepth 20000 in
theorem ggL_glyph_X5_glyphColumn : GoodIn wsL_glyph wsX5_glyphColumn := goodIn_r _ [89, 10, 11, 12, 8, 13, 14, 15, 16, 90, 91, 92, 20, 93, 94, 18, 19, 21, 22, 95, 83, 84, 85, 27, 105, 106, 107, 108, 109, 110, 111, 112, 113, 114, 115, 116, 117, 118] (by decide +kernel) (by decide +kernel)
set_option maxRecDepth 20000 in
theorem gL_glyph_X5_glyphColumn : GoodIn wsL_glyph (wsV RL 21 RX5 yX5_glyphColumn wsX5_glyphColumn) := goodIn_app (goodIn_of _ (by decide +kernel)) ggL_glyph_X5_glyphColumn
set_option maxRecDepth 20000 in
theorem ggL_glyph_X5_setGlyphColumn : GoodIn wsL_glyph wsX5_setGlyphColumn := goodIn_r _ [99, 10, 11, 12, 8, 13, 14, 15, 16, 90, 91, 92, 20, 93, 94, 18, 19, 21, 22, 95, 83, 84, 85, 27, 100, 101, 102, 103, 104, 28, 29, 30, 31, 32, 33, 34, 35, 36, 37, 38, 39, 40, 41, 42, 43, 44, 45, 46, 47, 48, 49, 50, 51, 52, 53, 54, 55, 56, 57, 58, 59, 60, 61, 62, 63, 64, 65, 66, 67, 68, 69, 70, 71, 72, 73, 74, 75, 76, 77, 78, 79, 80, 81, 82, 105, 106, 107, 108, 109, 110, 111, 112, 113, 114, 115, 116, 117, 118, 119, 120, 121, 122, 123, 124, 125, 126, 127, 128, 129] (by decide +kernel) (by decide +kernel)
set_option maxRecDepth 20000 in
theorem gL_glyph_X5_setGlyphColumn : GoodIn wsL_glyph (wsV RL 24 RX5 yX5_setGlyphColumn wsX5_setGlyphColumn) := goodIn_app (goodIn_of _ (by decide +kernel)) ggL_glyph_X5_setGlyphColumn
theorem dL_glyph_0 : decode cL_glyph 0 = .ok (.iload_n 1, 1) := by decide +kernel
theorem dL_glyph_1 : decode cL_glyph 1 = .ok (.bipush 9, 2) := by decide +kernel
theorem dL_glyph_3 : decode cL_glyph 3 = .ok (.irem, 1) := by decide +kernel
theorem dL_glyph_4 : decode cL_glyph 4 = .ok (.istore_n 3, 1) := by decide +kernel
theorem dL_glyph_5 : decode cL_glyph 5 = .ok (.iconst 1, 1) := by decide +kernel
theorem dL_glyph_6 : decode cL_glyph 6 = .ok (.iload_n 1, 1) := by decide +kernel
theorem dL_glyph_7 : decode cL_glyph 7 = .ok (.iconst 4, 1) := by decide +kernel
theorem dL_glyph_8 : decode cL_glyph 8 = .ok (.ishr, 1) := by decide +kernel
theorem dL_glyph_9 : decode cL_glyph 9 = .ok (.bipush 6, 2) := by decide +kernel
theorem dL_glyph_11 : decode cL_glyph 11 = .ok (.irem, 1) := by decide +kernel
theorem dL_glyph_12 : decode cL_glyph 12 = .ok (.iadd, 1) := by decide +kernel
theorem dL_glyph_13 : decode cL_glyph 13 = .ok (.istore 4, 2) := by decide +kernel
theorem dL_glyph_15 : decode cL_glyph 15 = .ok (.aload_n 2, 1) := by decide +kernel
theorem dL_glyph_16 : decode cL_glyph 16 = .ok (.iload_n 3, 1) := by decide +kernel
theorem dL_glyph_17 : decode cL_glyph 17 = .ok (.iaload, 1) := by decide +kernel
theorem dL_glyph_18 : decode cL_glyph 18 = .ok (.istore 5, 2) := by decide +kernel
theorem dL_glyph_20 : decode cL_glyph 20 = .ok (.iload 5, 2) := by decide +kernel
theorem dL_glyph_22 : decode cL_glyph 22 = .ok (.istore 6, 2) := by decide +kernel
theorem dL_glyph_24 : decode cL_glyph 24 = .ok (.iload 6, 2) := by decide +kernel
theorem dL_glyph_26 : decode cL_glyph 26 = .ok (.iload 4, 2) := by decide +kernel
theorem dL_glyph_28 : decode cL_glyph 28 = .ok (.if_icmp .ge 22, 3) := by decide +kernel
theorem dL_glyph_31 : decode cL_glyph 31 = .ok (.aload_n 2, 1) := by decide +kernel
theorem dL_glyph_32 : decode cL_glyph 32 = .ok (.bipush 9, 2) := by decide +kernel
theorem dL_glyph_34 : decode cL_glyph 34 = .ok (.bipush 6, 2) := by decide +kernel
theorem dL_glyph_36 : decode cL_glyph 36 = .ok (.iload_n 3, 1) := by decide +kernel
theorem dL_glyph_37 : decode cL_glyph 37 = .ok (.imul, 1) := by decide +kernel
theorem dL_glyph_38 : decode cL_glyph 38 = .ok (.iadd, 1) := by decide +kernel
theorem dL_glyph_39 : decode cL_glyph 39 = .ok (.iload 6, 2) := by decide +kernel
theorem dL_glyph_41 : decode cL_glyph 41 = .ok (.iadd, 1) := by decide +kernel
theorem dL_glyph_42 : decode cL_glyph 42 = .ok (.iconst 0, 1) := by decide +kernel
theorem dL_glyph_43 : decode cL_glyph 43 = .ok (.iastore, 1) := by decide +kernel
theorem dL_glyph_44 : decode cL_glyph 44 = .ok (.iinc 6 1, 3) := by decide +kernel
theorem dL_glyph_47 : decode cL_glyph 47 = .ok (.goto (-23), 3) := by decide +kernel
theorem dL_glyph_50 : decode cL_glyph 50 = .ok (.aload_n 2, 1) := by decide +kernel
theorem dL_glyph_51 : decode cL_glyph 51 = .ok (.iload_n 3, 1) := by decide +kernel
theorem dL_glyph_52 : decode cL_glyph 52 = .ok (.iload 4, 2) := by decide +kernel
theorem dL_glyph_54 : decode cL_glyph 54 = .ok (.iastore, 1) := by decide +kernel
theorem dL_glyph_55 : decode cL_glyph 55 = .ok (.aload_n 0, 1) := by decide +kernel
theorem dL_glyph_56 : decode cL_glyph 56 = .ok (.iload_n 3, 1) := by decide +kernel
theorem dL_glyph_57 : decode cL_glyph 57 = .ok (.invokestatic 9, 3) := by decide +kernel
theorem dL_glyph_60 : decode cL_glyph 60 = .ok (.iload 4, 2) := by decide +kernel
theorem dL_glyph_62 : decode cL_glyph 62 = .ok (.invokevirtual 15, 3) := by decide +kernel
theorem dL_glyph_65 : decode cL_glyph 65 = .ok (.iload 5, 2) := by decide +kernel
theorem dL_glyph_67 : decode cL_glyph 67 = .ok (.if_icmp .ne 40, 3) := by decide +kernel
theorem dL_glyph_70 : decode cL_glyph 70 = .ok (.aload_n 0, 1) := by decide +kernel
theorem dL_glyph_71 : decode cL_glyph 71 = .ok (.iload_n 3, 1) := by decide +kernel
theorem dL_glyph_72 : decode cL_glyph 72 = .ok (.invokestatic 9, 3) := by decide +kernel
theorem dL_glyph_75 : decode cL_glyph 75 = .ok (.iconst 5, 1) := by decide +kernel
theorem dL_glyph_76 : decode cL_glyph 76 = .ok (.invokevirtual 21, 3) := by decide +kernel
theorem dL_glyph_79 : decode cL_glyph 79 = .ok (.iload 4, 2) := by decide +kernel
theorem dL_glyph_81 : decode cL_glyph 81 = .ok (.bipush 6, 2) := by decide +kernel
theorem dL_glyph_83 : decode cL_glyph 83 = .ok (.if_icmp .ge 8, 3) := by decide +kernel
theorem dL_glyph_86 : decode cL_glyph 86 = .ok (.bipush (-14), 2) := by decide +kernel
theorem dL_glyph_88 : decode cL_glyph 88 = .ok (.goto 12, 3) := by decide +kernel
theorem dL_glyph_91 : decode cL_glyph 91 = .ok (.aload_n 2, 1) := by decide +kernel
theorem dL_glyph_92 : decode cL_glyph 92 = .ok (.bipush 14, 2) := by decide +kernel
theorem dL_glyph_94 : decode cL_glyph 94 = .ok (.bipush 6, 2) := by decide +kernel
theorem dL_glyph_96 : decode cL_glyph 96 = .ok (.iload_n 3, 1) := by decide +kernel
theorem dL_glyph_97 : decode cL_glyph 97 = .ok (.imul, 1) := by decide +kernel
theorem dL_glyph_98 : decode cL_glyph 98 = .ok (.iadd, 1) := by decide +kernel
theorem dL_glyph_99 : decode cL_glyph 99 = .ok (.iaload, 1) := by decide +kernel
theorem dL_glyph_100 : decode cL_glyph 100 = .ok (.if_icmp .ne 7, 3) := by decide +kernel
theorem dL_glyph_103 : decode cL_glyph 103 = .ok (.iconst 1, 1) := by decide +kernel
theorem dL_glyph_104 : decode cL_glyph 104 = .ok (.goto 4, 3) := by decide +kernel
theorem dL_glyph_107 : decode cL_glyph 107 = .ok (.iconst 0, 1) := by decide +kernel
theorem dL_glyph_108 : decode cL_glyph 108 = .ok (.istore 6, 2) := by decide +kernel
theorem dL_glyph_110 : decode cL_glyph 110 = .ok (.iload_n 1, 1) := by decide +kernel
theorem dL_glyph_111 : decode cL_glyph 111 = .ok (.bipush 8, 2) := by decide +kernel
theorem dL_glyph_113 : decode cL_glyph 113 = .ok (.ishr, 1) := by decide +kernel
theorem dL_glyph_114 : decode cL_glyph 114 = .ok (.iload 4, 2) := by decide +kernel
theorem dL_glyph_116 : decode cL_glyph 116 = .ok (.irem, 1) := by decide +kernel
theorem dL_glyph_117 : decode cL_glyph 117 = .ok (.istore 7, 2) := by decide +kernel
theorem dL_glyph_119 : decode cL_glyph 119 = .ok (.iload_n 1, 1) := by decide +kernel
theorem dL_glyph_120 : decode cL_glyph 120 = .ok (.bipush 11, 2) := by decide +kernel
theorem dL_glyph_122 : decode cL_glyph 122 = .ok (.ishr, 1) := by decide +kernel
theorem dL_glyph_123 : decode cL_glyph 123 = .ok (.sipush 256, 3) := by decide +kernel
theorem dL_glyph_126 : decode cL_glyph 126 = .ok (.irem, 1) := by decide +kernel
theorem dL_glyph_127 : decode cL_glyph 127 = .ok (.istore 8, 2) := by decide +kernel
theorem dL_glyph_129 : decode cL_glyph 129 = .ok (.aload_n 2, 1) := by decide +kernel
theorem dL_glyph_130 : decode cL_glyph 130 = .ok (.bipush 9, 2) := by decide +kernel
theorem dL_glyph_132 : decode cL_glyph 132 = .ok (.bipush 6, 2) := by decide +kernel
theorem dL_glyph_134 : decode cL_glyph 134 = .ok (.iload_n 3, 1) := by decide +kernel
theorem dL_glyph_135 : decode cL_glyph 135 = .ok (.imul, 1) := by decide +kernel
theorem dL_glyph_136 : decode cL_glyph 136 = .ok (.iadd, 1) := by decide +kernel
theorem dL_glyph_137 : decode cL_glyph 137 = .ok (.iload 7, 2) := by decide +kernel
theorem dL_glyph_139 : decode cL_glyph 139 = .ok (.iadd, 1) := by decide +kernel
theorem dL_glyph_140 : decode cL_glyph 140 = .ok (.iaload, 1) := by decide +kernel
theorem dL_glyph_141 : decode cL_glyph 141 = .ok (.istore 9, 2) := by decide +kernel
theorem dL_glyph_143 : decode cL_glyph 143 = .ok (.aload_n 2, 1) := by decide +kernel
theorem dL_glyph_144 : decode cL_glyph 144 = .ok (.bipush 9, 2) := by decide +kernel
theorem dL_glyph_146 : decode cL_glyph 146 = .ok (.bipush 6, 2) := by decide +kernel
theorem dL_glyph_148 : decode cL_glyph 148 = .ok (.iload_n 3, 1) := by decide +kernel
theorem dL_glyph_149 : decode cL_glyph 149 = .ok (.imul, 1) := by decide +kernel
theorem dL_glyph_150 : decode cL_glyph 150 = .ok (.iadd, 1) := by decide +kernel
theorem dL_glyph_151 : decode cL_glyph 151 = .ok (.iload 7, 2) := by decide +kernel
theorem dL_glyph_153 : decode cL_glyph 153 = .ok (.iadd, 1) := by decide +kernel
theorem dL_glyph_154 : decode cL_glyph 154 = .ok (.iload 8, 2) := by decide +kernel
theorem dL_glyph_156 : decode cL_glyph 156 = .ok (.iastore, 1) := by decide +kernel
theorem dL_glyph_157 : decode cL_glyph 157 = .ok (.iload 6, 2) := by decide +kernel
theorem dL_glyph_159 : decode cL_glyph 159 = .ok (.ifCond .eq 55, 3) := by decide +kernel
theorem dL_glyph_162 : decode cL_glyph 162 = .ok (.aload_n 0, 1) := by decide +kernel
theorem dL_glyph_163 : decode cL_glyph 163 = .ok (.iload_n 3, 1) := by decide +kernel
theorem dL_glyph_164 : decode cL_glyph 164 = .ok (.invokestatic 9, 3) := by decide +kernel
theorem dL_glyph_167 : decode cL_glyph 167 = .ok (.iload 7, 2) := by decide +kernel
theorem dL_glyph_169 : decode cL_glyph 169 = .ok (.iload 8, 2) := by decide +kernel
theorem dL_glyph_171 : decode cL_glyph 171 = .ok (.invokevirtual 24, 3) := by decide +kernel
theorem dL_glyph_174 : decode cL_glyph 174 = .ok (.iload 9, 2) := by decide +kernel
theorem dL_glyph_176 : decode cL_glyph 176 = .ok (.if_icmp .ne 38, 3) := by decide +kernel
theorem dL_glyph_179 : decode cL_glyph 179 = .ok (.aload_n 0, 1) := by decide +kernel
theorem dL_glyph_180 : decode cL_glyph 180 = .ok (.iload_n 3, 1) := by decide +kernel
theorem dL_glyph_181 : decode cL_glyph 181 = .ok (.invokestatic 9, 3) := by decide +kernel
theorem dL_glyph_184 : decode cL_glyph 184 = .ok (.iload 7, 2) := by decide +kernel
theorem dL_glyph_186 : decode cL_glyph 186 = .ok (.invokevirtual 21, 3) := by decide +kernel
theorem dL_glyph_189 : decode cL_glyph 189 = .ok (.iload 8, 2) := by decide +kernel
theorem dL_glyph_191 : decode cL_glyph 191 = .ok (.if_icmp .ne 23, 3) := by decide +kernel
theorem dL_glyph_194 : decode cL_glyph 194 = .ok (.aload_n 0, 1) := by decide +kernel
theorem dL_glyph_195 : decode cL_glyph 195 = .ok (.iload_n 3, 1) := by decide +kernel
theorem dL_glyph_196 : decode cL_glyph 196 = .ok (.invokestatic 9, 3) := by decide +kernel
theorem dL_glyph_199 : decode cL_glyph 199 = .ok (.iload 4, 2) := by decide +kernel
theorem dL_glyph_201 : decode cL_glyph 201 = .ok (.iconst 0, 1) := by decide +kernel
theorem dL_glyph_202 : decode cL_glyph 202 = .ok (.invokevirtual 24, 3) := by decide +kernel
theorem dL_glyph_205 : decode cL_glyph 205 = .ok (.bipush (-11), 2) := by decide +kernel
theorem dL_glyph_207 : decode cL_glyph 207 = .ok (.if_icmp .ne 7, 3) := by decide +kernel
theorem dL_glyph_210 : decode cL_glyph 210 = .ok (.iconst 1, 1) := by decide +kernel
theorem dL_glyph_211 : decode cL_glyph 211 = .ok (.goto 4, 3) := by decide +kernel
theorem dL_glyph_214 : decode cL_glyph 214 = .ok (.iconst 0, 1) := by decide +kernel
theorem dL_glyph_215 : decode cL_glyph 215 = .ok (.ireturn, 1) := by decide +kernel
theorem dL_width_0 : decode cL_width 0 = .ok (.aload_n 1, 1) := by decide +kernel
theorem dL_width_1 : decode cL_width 1 = .ok (.iconst 2, 1) := by decide +kernel
theorem dL_width_2 : decode cL_width 2 = .ok (.iconst 5, 1) := by decide +kernel
theorem dL_width_3 : decode cL_width 3 = .ok (.iload_n 2, 1) := by decide +kernel
theorem dL_width_4 : decode cL_width 4 = .ok (.imul, 1) := by decide +kernel
theorem dL_width_5 : decode cL_width 5 = .ok (.iadd, 1) := by decide +kernel
theorem dL_width_6 : decode cL_width 6 = .ok (.iaload, 1) := by decide +kernel
theorem dL_width_7 : decode cL_width 7 = .ok (.iconst 1, 1) := by decide +kernel
theorem dL_width_8 : decode cL_width 8 = .ok (.isub, 1) := by decide +kernel
theorem dL_width_9 : decode cL_width 9 = .ok (.istore_n 3, 1) := by decide +kernel
theorem dL_width_10 : decode cL_width 10 = .ok (.iconst 0, 1) := by decide +kernel
theorem dL_width_11 : decode cL_width 11 = .ok (.istore 4, 2) := by decide +kernel
theorem dL_width_13 : decode cL_width 13 = .ok (.iload 4, 2) := by decide +kernel
theorem dL_width_15 : decode cL_width 15 = .ok (.aload_n 1, 1) := by decide +kernel
theorem dL_width_16 : decode cL_width 16 = .ok (.iconst 2, 1) := by decide +kernel
theorem dL_width_17 : decode cL_width 17 = .ok (.iconst 5, 1) := by decide +kernel
theorem dL_width_18 : decode cL_width 18 = .ok (.iload_n 2, 1) := by decide +kernel
theorem dL_width_19 : decode cL_width 19 = .ok (.imul, 1) := by decide +kernel
theorem dL_width_20 : decode cL_width 20 = .ok (.iadd, 1) := by decide +kernel
theorem dL_width_21 : decode cL_width 21 = .ok (.iaload, 1) := by decide +kernel
theorem dL_width_22 : decode cL_width 22 = .ok (.if_icmp .ge 24, 3) := by decide +kernel
theorem dL_width_25 : decode cL_width 25 = .ok (.iload_n 3, 1) := by decide +kernel
theorem dL_width_26 : decode cL_width 26 = .ok (.aload_n 0, 1) := by decide +kernel
theorem dL_width_27 : decode cL_width 27 = .ok (.aload_n 1, 1) := by decide +kernel
theorem dL_width_28 : decode cL_width 28 = .ok (.iconst 4, 1) := by decide +kernel
theorem dL_width_29 : decode cL_width 29 = .ok (.iconst 5, 1) := by decide +kernel
theorem dL_width_30 : decode cL_width 30 = .ok (.iload_n 2, 1) := by decide +kernel
theorem dL_width_31 : decode cL_width 31 = .ok (.imul, 1) := by decide +kernel
theorem dL_width_32 : decode cL_width 32 = .ok (.iadd, 1) := by decide +kernel
theorem dL_width_33 : decode cL_width 33 = .ok (.iload 4, 2) := by decide +kernel
theorem dL_width_35 : decode cL_width 35 = .ok (.iadd, 1) := by decide +kernel
theorem dL_width_36 : decode cL_width 36 = .ok (.iaload, 1) := by decide +kernel
theorem dL_width_37 : decode cL_width 37 = .ok (.iaload, 1) := by decide +kernel
theorem dL_width_38 : decode cL_width 38 = .ok (.iadd, 1) := by decide +kernel
theorem dL_width_39 : decode cL_width 39 = .ok (.istore_n 3, 1) := by decide +kernel
theorem dL_width_40 : decode cL_width 40 = .ok (.iinc 4 1, 3) := by decide +kernel
theorem dL_width_43 : decode cL_width 43 = .ok (.goto (-30), 3) := by decide +kernel
theorem dL_width_46 : decode cL_width 46 = .ok (.iload_n 3, 1) := by decide +kernel
theorem dL_width_47 : decode cL_width 47 = .ok (.ireturn, 1) := by decide +kernel
set_option maxRecDepth 20000 in
theorem ggL_start_L_width : GoodIn wsL_start wsL_width := goodIn_r _ [4] (by decide +kernel) (by decide +kernel)
set_option maxRecDepth 20000 in
theorem gL_start_L_width : GoodIn wsL_start (va_wsS RL 28 yL_width wsL_width) := goodIn_app (goodIn_of _ (by decide +kernel)) ggL_start_L_width
theorem dL_start_0 : decode cL_start 0 = .ok (.iconst 0, 1) := by decide +kernel
theorem dL_start_1 : decode cL_start 1 = .ok (.istore_n 3, 1) := by decide +kernel
theorem dL_start_2 : decode cL_start 2 = .ok (.iconst 0, 1) := by decide +kernel
theorem dL_start_3 : decode cL_start 3 = .ok (.istore 4, 2) := by decide +kernel
theorem dL_start_5 : decode cL_start 5 = .ok (.iload 4, 2) := by decide +kernel
theorem dL_start_7 : decode cL_start 7 = .ok (.iload_n 2, 1) := by decide +kernel
theorem dL_start_8 : decode cL_start 8 = .ok (.if_icmp .ge 23, 3) := by decide +kernel
theorem dL_start_11 : decode cL_start 11 = .ok (.iload_n 3, 1) := by decide +kernel
theorem dL_start_12 : decode cL_start 12 = .ok (.aload_n 0, 1) := by decide +kernel
theorem dL_start_13 : decode cL_start 13 = .ok (.aload_n 1, 1) := by decide +kernel
theorem dL_start_14 : decode cL_start 14 = .ok (.iload 4, 2) := by decide +kernel
theorem dL_start_16 : decode cL_start 16 = .ok (.invokestatic 28, 3) := by decide +kernel
theorem dL_start_19 : decode cL_start 19 = .ok (.aload_n 1, 1) := by decide +kernel
theorem dL_start_20 : decode cL_start 20 = .ok (.iconst 1, 1) := by decide +kernel
theorem dL_start_21 : decode cL_start 21 = .ok (.iaload, 1) := by decide +kernel
theorem dL_start_22 : decode cL_start 22 = .ok (.iadd, 1) := by decide +kernel
theorem dL_start_23 : decode cL_start 23 = .ok (.iadd, 1) := by decide +kernel
theorem dL_start_24 : decode cL_start 24 = .ok (.istore_n 3, 1) := by decide +kernel
theorem dL_start_25 : decode cL_start 25 = .ok (.iinc 4 1, 3) := by decide +kernel
theorem dL_start_28 : decode cL_start 28 = .ok (.goto (-23), 3) := by decide +kernel
theorem dL_start_31 : decode cL_start 31 = .ok (.iload_n 3, 1) := by decide +kernel
theorem dL_start_32 : decode cL_start 32 = .ok (.ireturn, 1) := by decide +kernel
set_option maxRecDepth 20000 in
theorem ggL_adds_X5_clearText : GoodIn wsL_adds wsX5_clearText := goodIn_r _ [5, 6, 7, 8, 9, 10, 11, 12, 126, 127, 128, 129, 130, 131, 132, 133, 134, 135, 136, 137, 138, 139] (by decide +kernel) (by decide +kernel)
set_option maxRecDepth 20000 in
theorem gL_adds_X5_clearText : GoodIn wsL_adds (wsV RL 32 RX5 yX5_clearText wsX5_clearText) := goodIn_app (goodIn_of _ (by decide +kernel)) ggL_adds_X5_clearText
set_option maxRecDepth 20000 in
theorem ggL_adds_L_number : GoodIn wsL_adds wsL_number := goodIn_r _ [16] (by decide +kernel) (by decide +kernel)
set_option maxRecDepth 20000 in
theorem gL_adds_L_number : GoodIn wsL_adds (va_wsS RL 9 yL_number wsL_number) := goodIn_app (goodIn_of _ (by decide +kernel)) ggL_adds_L_number
set_option maxRecDepth 20000 in
theorem ggL_adds_X5_append : GoodIn wsL_adds wsX5_append := goodIn_r _ [20, 6, 21, 22, 4, 23, 24, 25, 26, 27, 28, 29, 10, 30, 12, 31, 126, 127, 128, 129, 130, 131, 132, 133, 134, 135, 136, 137, 138, 139] (by decide +kernel) (by decide +kernel)
set_option maxRecDepth 20000 in
theorem gL_adds_X5_append : GoodIn wsL_adds (wsV RL 36 RX5 yX5_append wsX5_append) := goodIn_app (goodIn_of _ (by decide +kernel)) ggL_adds_X5_append
set_option maxRecDepth 20000 in
theorem ggL_adds_X5_insertMessage : GoodIn wsL_adds wsX5_insertMessage := goodIn_r _ [35, 36, 6, 37, 24, 25, 4, 26, 38, 39, 40, 41, 42, 43, 44, 45, 46, 47, 48, 49, 50, 10, 51, 31, 12, 52, 53, 54, 55, 56, 57, 58, 59, 60, 61, 62, 63, 64, 65, 66, 67, 68, 69, 70, 71, 72, 73, 74, 75, 76, 77, 78, 79, 80, 81, 82, 83, 84, 85, 86, 87, 88, 89, 90, 91, 92, 93, 94, 95, 96, 97, 98, 99, 100, 101, 102, 103, 104, 105, 106, 107, 108, 109, 110, 126, 127, 128, 129, 130, 131, 132, 133, 134, 135, 136, 137, 140, 141, 138, 139, 142, 143, 144, 145, 146, 147, 148, 149, 150] (by decide +kernel) (by decide +kernel)
set_option maxRecDepth 20000 in
theorem gL_adds_X5_insertMessage : GoodIn wsL_adds (wsV RL 39 RX5 yX5_insertMessage wsX5_insertMessage) := goodIn_app (goodIn_of _ (by decide +kernel)) ggL_adds_X5_insertMessage
set_option maxRecDepth 20000 in
theorem ggL_adds_L_start : GoodIn wsL_adds wsL_start := goodIn_r _ [113, 114, 115, 15, 116] (by decide +kernel) (by decide +kernel)
set_option maxRecDepth 20000 in
theorem gL_adds_L_start : GoodIn wsL_adds (va_wsS RL 42 yL_start wsL_start) := goodIn_app (goodIn_of _ (by decide +kernel)) ggL_adds_L_start
set_option maxRecDepth 20000 in
theorem ggL_adds_X5_messageWidth : GoodIn wsL_adds wsX5_messageWidth := goodIn_r _ [120, 36, 121, 70, 71, 44, 72, 47, 73, 74, 75, 76, 46, 77, 78, 79, 80, 25, 4, 26, 126, 127, 128, 129, 130, 131, 132, 133, 134, 135, 136, 137, 145, 146, 147, 148, 140, 141] (by decide +kernel) (by decide +kernel)
set_option maxRecDepth 20000 in
theorem gL_adds_X5_messageWidth : GoodIn wsL_adds (wsV RL 45 RX5 yX5_messageWidth wsX5_messageWidth) := goodIn_app (goodIn_of _ (by decide +kernel)) ggL_adds_X5_messageWidth
set_option maxRecDepth 20000 in
theorem ggL_adds_L_width : GoodIn wsL_adds wsL_width := goodIn_r _ [116] (by decide +kernel) (by decide +kernel)
set_option maxRecDepth 20000 in
theorem gL_adds_L_width : GoodIn wsL_adds (va_wsS RL 28 yL_width wsL_width) := goodIn_app (goodIn_of _ (by decide +kernel)) ggL_adds_L_width
set_option maxRecDepth 20000 in
theorem ggL_adds_X5_messageStart : GoodIn wsL_adds wsX5_messageStart := goodIn_r _ [125, 36, 121, 70, 71, 44, 72, 47, 73, 74, 75, 76, 46, 77, 78, 79, 80, 25, 4, 26, 126, 127, 128, 129, 130, 131, 132, 133, 134, 135, 136, 137, 145, 146, 147, 148, 140, 141] (by decide +kernel) (by decide +kernel)
set_option maxRecDepth 20000 in
theorem gL_adds_X5_messageStart : GoodIn wsL_adds (wsV RL 48 RX5 yX5_messageStart wsX5_messageStart) := goodIn_app (goodIn_of _ (by decide +kernel)) ggL_adds_X5_messageStart
theorem dL_adds_0 : decode cL_adds 0 = .ok (.iconst 2, 1) := by decide +kernel
theorem dL_adds_1 : decode cL_adds 1 = .ok (.iconst 5, 1) := by decide +kernel
theorem dL_adds_2 : decode cL_adds 2 = .ok (.aload_n 3, 1) := by decide +kernel
theorem dL_adds_3 : decode cL_adds 3 = .ok (.iconst 0, 1) := by decide +kernel
theorem dL_adds_4 : decode cL_adds 4 = .ok (.iaload, 1) := by decide +kernel
theorem dL_adds_5 : decode cL_adds 5 = .ok (.imul, 1) := by decide +kernel
theorem dL_adds_6 : decode cL_adds 6 = .ok (.iadd, 1) := by decide +kernel
theorem dL_adds_7 : decode cL_adds 7 = .ok (.istore 4, 2) := by decide +kernel
theorem dL_adds_9 : decode cL_adds 9 = .ok (.aload_n 3, 1) := by decide +kernel
theorem dL_adds_10 : decode cL_adds 10 = .ok (.iload 4, 2) := by decide +kernel
theorem dL_adds_12 : decode cL_adds 12 = .ok (.iconst 1, 1) := by decide +kernel
theorem dL_adds_13 : decode cL_adds 13 = .ok (.iload_n 1, 1) := by decide +kernel
theorem dL_adds_14 : decode cL_adds 14 = .ok (.iconst 3, 1) := by decide +kernel
theorem dL_adds_15 : decode cL_adds 15 = .ok (.irem, 1) := by decide +kernel
theorem dL_adds_16 : decode cL_adds 16 = .ok (.iadd, 1) := by decide +kernel
theorem dL_adds_17 : decode cL_adds 17 = .ok (.iastore, 1) := by decide +kernel
theorem dL_adds_18 : decode cL_adds 18 = .ok (.aload_n 3, 1) := by decide +kernel
theorem dL_adds_19 : decode cL_adds 19 = .ok (.iload 4, 2) := by decide +kernel
theorem dL_adds_21 : decode cL_adds 21 = .ok (.iconst 1, 1) := by decide +kernel
theorem dL_adds_22 : decode cL_adds 22 = .ok (.iadd, 1) := by decide +kernel
theorem dL_adds_23 : decode cL_adds 23 = .ok (.iconst 1, 1) := by decide +kernel
theorem dL_adds_24 : decode cL_adds 24 = .ok (.iload_n 1, 1) := by decide +kernel
theorem dL_adds_25 : decode cL_adds 25 = .ok (.iconst 2, 1) := by decide +kernel
theorem dL_adds_26 : decode cL_adds 26 = .ok (.ishr, 1) := by decide +kernel
theorem dL_adds_27 : decode cL_adds 27 = .ok (.iconst 3, 1) := by decide +kernel
theorem dL_adds_28 : decode cL_adds 28 = .ok (.irem, 1) := by decide +kernel
theorem dL_adds_29 : decode cL_adds 29 = .ok (.iadd, 1) := by decide +kernel
theorem dL_adds_30 : decode cL_adds 30 = .ok (.iastore, 1) := by decide +kernel
theorem dL_adds_31 : decode cL_adds 31 = .ok (.aload_n 0, 1) := by decide +kernel
theorem dL_adds_32 : decode cL_adds 32 = .ok (.invokevirtual 32, 3) := by decide +kernel
theorem dL_adds_35 : decode cL_adds 35 = .ok (.ifCond .lt 7, 3) := by decide +kernel
theorem dL_adds_38 : decode cL_adds 38 = .ok (.iconst 1, 1) := by decide +kernel
theorem dL_adds_39 : decode cL_adds 39 = .ok (.goto 4, 3) := by decide +kernel
theorem dL_adds_42 : decode cL_adds 42 = .ok (.iconst 0, 1) := by decide +kernel
theorem dL_adds_43 : decode cL_adds 43 = .ok (.istore 5, 2) := by decide +kernel
theorem dL_adds_45 : decode cL_adds 45 = .ok (.iconst 0, 1) := by decide +kernel
theorem dL_adds_46 : decode cL_adds 46 = .ok (.istore 6, 2) := by decide +kernel
theorem dL_adds_48 : decode cL_adds 48 = .ok (.iload 6, 2) := by decide +kernel
theorem dL_adds_50 : decode cL_adds 50 = .ok (.aload_n 3, 1) := by decide +kernel
theorem dL_adds_51 : decode cL_adds 51 = .ok (.iload 4, 2) := by decide +kernel
theorem dL_adds_53 : decode cL_adds 53 = .ok (.iaload, 1) := by decide +kernel
theorem dL_adds_54 : decode cL_adds 54 = .ok (.if_icmp .ge 64, 3) := by decide +kernel
theorem dL_adds_57 : decode cL_adds 57 = .ok (.iload 5, 2) := by decide +kernel
theorem dL_adds_59 : decode cL_adds 59 = .ok (.ifCond .eq 59, 3) := by decide +kernel
theorem dL_adds_62 : decode cL_adds 62 = .ok (.aload_n 3, 1) := by decide +kernel
theorem dL_adds_63 : decode cL_adds 63 = .ok (.iload 4, 2) := by decide +kernel
theorem dL_adds_65 : decode cL_adds 65 = .ok (.iconst 2, 1) := by decide +kernel
theorem dL_adds_66 : decode cL_adds 66 = .ok (.iadd, 1) := by decide +kernel
theorem dL_adds_67 : decode cL_adds 67 = .ok (.iload 6, 2) := by decide +kernel
theorem dL_adds_69 : decode cL_adds 69 = .ok (.iadd, 1) := by decide +kernel
theorem dL_adds_70 : decode cL_adds 70 = .ok (.iload_n 1, 1) := by decide +kernel
theorem dL_adds_71 : decode cL_adds 71 = .ok (.iconst 4, 1) := by decide +kernel
theorem dL_adds_72 : decode cL_adds 72 = .ok (.iconst 4, 1) := by decide +kernel
theorem dL_adds_73 : decode cL_adds 73 = .ok (.iload 6, 2) := by decide +kernel
theorem dL_adds_75 : decode cL_adds 75 = .ok (.imul, 1) := by decide +kernel
theorem dL_adds_76 : decode cL_adds 76 = .ok (.iadd, 1) := by decide +kernel
theorem dL_adds_77 : decode cL_adds 77 = .ok (.ishr, 1) := by decide +kernel
theorem dL_adds_78 : decode cL_adds 78 = .ok (.bipush 9, 2) := by decide +kernel
theorem dL_adds_80 : decode cL_adds 80 = .ok (.irem, 1) := by decide +kernel
theorem dL_adds_81 : decode cL_adds 81 = .ok (.iastore, 1) := by decide +kernel
theorem dL_adds_82 : decode cL_adds 82 = .ok (.aload_n 0, 1) := by decide +kernel
theorem dL_adds_83 : decode cL_adds 83 = .ok (.aload_n 3, 1) := by decide +kernel
theorem dL_adds_84 : decode cL_adds 84 = .ok (.iload 4, 2) := by decide +kernel
theorem dL_adds_86 : decode cL_adds 86 = .ok (.iconst 2, 1) := by decide +kernel
theorem dL_adds_87 : decode cL_adds 87 = .ok (.iadd, 1) := by decide +kernel
theorem dL_adds_88 : decode cL_adds 88 = .ok (.iload 6, 2) := by decide +kernel
theorem dL_adds_90 : decode cL_adds 90 = .ok (.iadd, 1) := by decide +kernel
theorem dL_adds_91 : decode cL_adds 91 = .ok (.iaload, 1) := by decide +kernel
theorem dL_adds_92 : decode cL_adds 92 = .ok (.invokestatic 9, 3) := by decide +kernel
theorem dL_adds_95 : decode cL_adds 95 = .ok (.invokevirtual 36, 3) := by decide +kernel
theorem dL_adds_98 : decode cL_adds 98 = .ok (.iload 6, 2) := by decide +kernel
theorem dL_adds_100 : decode cL_adds 100 = .ok (.iconst 1, 1) := by decide +kernel
theorem dL_adds_101 : decode cL_adds 101 = .ok (.iadd, 1) := by decide +kernel
theorem dL_adds_102 : decode cL_adds 102 = .ok (.if_icmp .ne 7, 3) := by decide +kernel
theorem dL_adds_105 : decode cL_adds 105 = .ok (.iconst 1, 1) := by decide +kernel
theorem dL_adds_106 : decode cL_adds 106 = .ok (.goto 4, 3) := by decide +kernel
theorem dL_adds_109 : decode cL_adds 109 = .ok (.iconst 0, 1) := by decide +kernel
theorem dL_adds_110 : decode cL_adds 110 = .ok (.istore 5, 2) := by decide +kernel
theorem dL_adds_112 : decode cL_adds 112 = .ok (.iinc 6 1, 3) := by decide +kernel
theorem dL_adds_115 : decode cL_adds 115 = .ok (.goto (-67), 3) := by decide +kernel
theorem dL_adds_118 : decode cL_adds 118 = .ok (.aload_n 3, 1) := by decide +kernel
theorem dL_adds_119 : decode cL_adds 119 = .ok (.iconst 0, 1) := by decide +kernel
theorem dL_adds_120 : decode cL_adds 120 = .ok (.iaload, 1) := by decide +kernel
theorem dL_adds_121 : decode cL_adds 121 = .ok (.istore 6, 2) := by decide +kernel
theorem dL_adds_123 : decode cL_adds 123 = .ok (.aload_n 3, 1) := by decide +kernel
theorem dL_adds_124 : decode cL_adds 124 = .ok (.iconst 0, 1) := by decide +kernel
theorem dL_adds_125 : decode cL_adds 125 = .ok (.dup2, 1) := by decide +kernel
theorem dL_adds_126 : decode cL_adds 126 = .ok (.iaload, 1) := by decide +kernel
theorem dL_adds_127 : decode cL_adds 127 = .ok (.iconst 1, 1) := by decide +kernel
theorem dL_adds_128 : decode cL_adds 128 = .ok (.iadd, 1) := by decide +kernel
theorem dL_adds_129 : decode cL_adds 129 = .ok (.iastore, 1) := by decide +kernel
theorem dL_adds_130 : decode cL_adds 130 = .ok (.iload 5, 2) := by decide +kernel
theorem dL_adds_132 : decode cL_adds 132 = .ok (.ifCond .eq 62, 3) := by decide +kernel
theorem dL_adds_135 : decode cL_adds 135 = .ok (.aload_n 0, 1) := by decide +kernel
theorem dL_adds_136 : decode cL_adds 136 = .ok (.iload 6, 2) := by decide +kernel
theorem dL_adds_138 : decode cL_adds 138 = .ok (.aload_n 3, 1) := by decide +kernel
theorem dL_adds_139 : decode cL_adds 139 = .ok (.iload 4, 2) := by decide +kernel
theorem dL_adds_141 : decode cL_adds 141 = .ok (.iconst 1, 1) := by decide +kernel
theorem dL_adds_142 : decode cL_adds 142 = .ok (.iadd, 1) := by decide +kernel
theorem dL_adds_143 : decode cL_adds 143 = .ok (.iaload, 1) := by decide +kernel
theorem dL_adds_144 : decode cL_adds 144 = .ok (.invokevirtual 39, 3) := by decide +kernel
theorem dL_adds_147 : decode cL_adds 147 = .ok (.aload_n 2, 1) := by decide +kernel
theorem dL_adds_148 : decode cL_adds 148 = .ok (.aload_n 3, 1) := by decide +kernel
theorem dL_adds_149 : decode cL_adds 149 = .ok (.aload_n 3, 1) := by decide +kernel
theorem dL_adds_150 : decode cL_adds 150 = .ok (.iconst 0, 1) := by decide +kernel
theorem dL_adds_151 : decode cL_adds 151 = .ok (.iaload, 1) := by decide +kernel
theorem dL_adds_152 : decode cL_adds 152 = .ok (.invokestatic 42, 3) := by decide +kernel
theorem dL_adds_155 : decode cL_adds 155 = .ok (.if_icmp .ne 39, 3) := by decide +kernel
theorem dL_adds_158 : decode cL_adds 158 = .ok (.aload_n 0, 1) := by decide +kernel
theorem dL_adds_159 : decode cL_adds 159 = .ok (.iload 6, 2) := by decide +kernel
theorem dL_adds_161 : decode cL_adds 161 = .ok (.invokevirtual 45, 3) := by decide +kernel
theorem dL_adds_164 : decode cL_adds 164 = .ok (.aload_n 2, 1) := by decide +kernel
theorem dL_adds_165 : decode cL_adds 165 = .ok (.aload_n 3, 1) := by decide +kernel
theorem dL_adds_166 : decode cL_adds 166 = .ok (.iload 6, 2) := by decide +kernel
theorem dL_adds_168 : decode cL_adds 168 = .ok (.invokestatic 28, 3) := by decide +kernel
theorem dL_adds_171 : decode cL_adds 171 = .ok (.if_icmp .ne 23, 3) := by decide +kernel
theorem dL_adds_174 : decode cL_adds 174 = .ok (.aload_n 0, 1) := by decide +kernel
theorem dL_adds_175 : decode cL_adds 175 = .ok (.iload 6, 2) := by decide +kernel
theorem dL_adds_177 : decode cL_adds 177 = .ok (.invokevirtual 48, 3) := by decide +kernel
theorem dL_adds_180 : decode cL_adds 180 = .ok (.aload_n 2, 1) := by decide +kernel
theorem dL_adds_181 : decode cL_adds 181 = .ok (.aload_n 3, 1) := by decide +kernel
theorem dL_adds_182 : decode cL_adds 182 = .ok (.iload 6, 2) := by decide +kernel
theorem dL_adds_184 : decode cL_adds 184 = .ok (.invokestatic 42, 3) := by decide +kernel
theorem dL_adds_187 : decode cL_adds 187 = .ok (.if_icmp .ne 7, 3) := by decide +kernel
theorem dL_adds_190 : decode cL_adds 190 = .ok (.iconst 1, 1) := by decide +kernel
theorem dL_adds_191 : decode cL_adds 191 = .ok (.goto 4, 3) := by decide +kernel
theorem dL_adds_194 : decode cL_adds 194 = .ok (.iconst 0, 1) := by decide +kernel
theorem dL_adds_195 : decode cL_adds 195 = .ok (.ireturn, 1) := by decide +kernel
theorem dL_strip_0 : decode cL_strip 0 = .ok (.iconst 0, 1) := by decide +kernel
theorem dL_strip_1 : decode cL_strip 1 = .ok (.istore_n 3, 1) := by decide +kernel
theorem dL_strip_2 : decode cL_strip 2 = .ok (.iconst 0, 1) := by decide +kernel
theorem dL_strip_3 : decode cL_strip 3 = .ok (.istore 4, 2) := by decide +kernel
theorem dL_strip_5 : decode cL_strip 5 = .ok (.iload 4, 2) := by decide +kernel
theorem dL_strip_7 : decode cL_strip 7 = .ok (.aload_n 1, 1) := by decide +kernel
theorem dL_strip_8 : decode cL_strip 8 = .ok (.iconst 0, 1) := by decide +kernel
theorem dL_strip_9 : decode cL_strip 9 = .ok (.iaload, 1) := by decide +kernel
theorem dL_strip_10 : decode cL_strip 10 = .ok (.if_icmp .ge 104, 3) := by decide +kernel
theorem dL_strip_13 : decode cL_strip 13 = .ok (.iconst 0, 1) := by decide +kernel
theorem dL_strip_14 : decode cL_strip 14 = .ok (.istore 5, 2) := by decide +kernel
theorem dL_strip_16 : decode cL_strip 16 = .ok (.iload 5, 2) := by decide +kernel
theorem dL_strip_18 : decode cL_strip 18 = .ok (.aload_n 1, 1) := by decide +kernel
theorem dL_strip_19 : decode cL_strip 19 = .ok (.iconst 2, 1) := by decide +kernel
theorem dL_strip_20 : decode cL_strip 20 = .ok (.iconst 5, 1) := by decide +kernel
theorem dL_strip_21 : decode cL_strip 21 = .ok (.iload 4, 2) := by decide +kernel
theorem dL_strip_23 : decode cL_strip 23 = .ok (.imul, 1) := by decide +kernel
theorem dL_strip_24 : decode cL_strip 24 = .ok (.iadd, 1) := by decide +kernel
theorem dL_strip_25 : decode cL_strip 25 = .ok (.iaload, 1) := by decide +kernel
theorem dL_strip_26 : decode cL_strip 26 = .ok (.if_icmp .ge 74, 3) := by decide +kernel
theorem dL_strip_29 : decode cL_strip 29 = .ok (.aload_n 1, 1) := by decide +kernel
theorem dL_strip_30 : decode cL_strip 30 = .ok (.iconst 4, 1) := by decide +kernel
theorem dL_strip_31 : decode cL_strip 31 = .ok (.iconst 5, 1) := by decide +kernel
theorem dL_strip_32 : decode cL_strip 32 = .ok (.iload 4, 2) := by decide +kernel
theorem dL_strip_34 : decode cL_strip 34 = .ok (.imul, 1) := by decide +kernel
theorem dL_strip_35 : decode cL_strip 35 = .ok (.iadd, 1) := by decide +kernel
theorem dL_strip_36 : decode cL_strip 36 = .ok (.iload 5, 2) := by decide +kernel
theorem dL_strip_38 : decode cL_strip 38 = .ok (.iadd, 1) := by decide +kernel
theorem dL_strip_39 : decode cL_strip 39 = .ok (.iaload, 1) := by decide +kernel
theorem dL_strip_40 : decode cL_strip 40 = .ok (.istore 6, 2) := by decide +kernel
theorem dL_strip_42 : decode cL_strip 42 = .ok (.iload_n 2, 1) := by decide +kernel
theorem dL_strip_43 : decode cL_strip 43 = .ok (.iload_n 3, 1) := by decide +kernel
theorem dL_strip_44 : decode cL_strip 44 = .ok (.if_icmp .lt 41, 3) := by decide +kernel
theorem dL_strip_47 : decode cL_strip 47 = .ok (.iload_n 2, 1) := by decide +kernel
theorem dL_strip_48 : decode cL_strip 48 = .ok (.iload_n 3, 1) := by decide +kernel
theorem dL_strip_49 : decode cL_strip 49 = .ok (.aload_n 0, 1) := by decide +kernel
theorem dL_strip_50 : decode cL_strip 50 = .ok (.iload 6, 2) := by decide +kernel
theorem dL_strip_52 : decode cL_strip 52 = .ok (.iaload, 1) := by decide +kernel
theorem dL_strip_53 : decode cL_strip 53 = .ok (.iadd, 1) := by decide +kernel
theorem dL_strip_54 : decode cL_strip 54 = .ok (.if_icmp .ge 31, 3) := by decide +kernel
theorem dL_strip_57 : decode cL_strip 57 = .ok (.aload_n 0, 1) := by decide +kernel
theorem dL_strip_58 : decode cL_strip 58 = .ok (.bipush 9, 2) := by decide +kernel
theorem dL_strip_60 : decode cL_strip 60 = .ok (.bipush 6, 2) := by decide +kernel
theorem dL_strip_62 : decode cL_strip 62 = .ok (.iload 6, 2) := by decide +kernel
theorem dL_strip_64 : decode cL_strip 64 = .ok (.imul, 1) := by decide +kernel
theorem dL_strip_65 : decode cL_strip 65 = .ok (.iadd, 1) := by decide +kernel
theorem dL_strip_66 : decode cL_strip 66 = .ok (.iload_n 2, 1) := by decide +kernel
theorem dL_strip_67 : decode cL_strip 67 = .ok (.iadd, 1) := by decide +kernel
theorem dL_strip_68 : decode cL_strip 68 = .ok (.iload_n 3, 1) := by decide +kernel
theorem dL_strip_69 : decode cL_strip 69 = .ok (.isub, 1) := by decide +kernel
theorem dL_strip_70 : decode cL_strip 70 = .ok (.iaload, 1) := by decide +kernel
theorem dL_strip_71 : decode cL_strip 71 = .ok (.sipush 256, 3) := by decide +kernel
theorem dL_strip_74 : decode cL_strip 74 = .ok (.aload_n 1, 1) := by decide +kernel
theorem dL_strip_75 : decode cL_strip 75 = .ok (.iconst 3, 1) := by decide +kernel
theorem dL_strip_76 : decode cL_strip 76 = .ok (.iconst 5, 1) := by decide +kernel
theorem dL_strip_77 : decode cL_strip 77 = .ok (.iload 4, 2) := by decide +kernel
theorem dL_strip_79 : decode cL_strip 79 = .ok (.imul, 1) := by decide +kernel
theorem dL_strip_80 : decode cL_strip 80 = .ok (.iadd, 1) := by decide +kernel
theorem dL_strip_81 : decode cL_strip 81 = .ok (.iaload, 1) := by decide +kernel
theorem dL_strip_82 : decode cL_strip 82 = .ok (.imul, 1) := by decide +kernel
theorem dL_strip_83 : decode cL_strip 83 = .ok (.iadd, 1) := by decide +kernel
theorem dL_strip_84 : decode cL_strip 84 = .ok (.ireturn, 1) := by decide +kernel
theorem dL_strip_85 : decode cL_strip 85 = .ok (.iload_n 3, 1) := by decide +kernel
theorem dL_strip_86 : decode cL_strip 86 = .ok (.aload_n 0, 1) := by decide +kernel
theorem dL_strip_87 : decode cL_strip 87 = .ok (.iload 6, 2) := by decide +kernel
theorem dL_strip_89 : decode cL_strip 89 = .ok (.iaload, 1) := by decide +kernel
theorem dL_strip_90 : decode cL_strip 90 = .ok (.iconst 1, 1) := by decide +kernel
theorem dL_strip_91 : decode cL_strip 91 = .ok (.iadd, 1) := by decide +kernel
theorem dL_strip_92 : decode cL_strip 92 = .ok (.iadd, 1) := by decide +kernel
theorem dL_strip_93 : decode cL_strip 93 = .ok (.istore_n 3, 1) := by decide +kernel
theorem dL_strip_94 : decode cL_strip 94 = .ok (.iinc 5 1, 3) := by decide +kernel
theorem dL_strip_97 : decode cL_strip 97 = .ok (.goto (-81), 3) := by decide +kernel
theorem dL_strip_100 : decode cL_strip 100 = .ok (.iload_n 3, 1) := by decide +kernel
theorem dL_strip_101 : decode cL_strip 101 = .ok (.aload_n 1, 1) := by decide +kernel
theorem dL_strip_102 : decode cL_strip 102 = .ok (.iconst 1, 1) := by decide +kernel
theorem dL_strip_103 : decode cL_strip 103 = .ok (.iaload, 1) := by decide +kernel
theorem dL_strip_104 : decode cL_strip 104 = .ok (.iconst 1, 1) := by decide +kernel
theorem dL_strip_105 : decode cL_strip 105 = .ok (.isub, 1) := by decide +kernel
theorem dL_strip_106 : decode cL_strip 106 = .ok (.iadd, 1) := by decide +kernel
theorem dL_strip_107 : decode cL_strip 107 = .ok (.istore_n 3, 1) := by decide +kernel
theorem dL_strip_108 : decode cL_strip 108 = .ok (.iinc 4 1, 3) := by decide +kernel
theorem dL_strip_111 : decode cL_strip 111 = .ok (.goto (-106), 3) := by decide +kernel
theorem dL_strip_114 : decode cL_strip 114 = .ok (.iconst 0, 1) := by decide +kernel
theorem dL_strip_115 : decode cL_strip 115 = .ok (.ireturn, 1) := by decide +kernel
set_option maxRecDepth 20000 in
theorem ggL_sound_X5_pixel : GoodIn wsL_sound wsX5_pixel := goodIn_r _ [5, 6, 7, 8, 9, 10, 4, 11, 12, 13, 14, 15, 16, 17, 18, 19, 20, 21, 22, 23, 24, 25, 26, 27, 28, 29, 30, 31, 32, 33, 34, 35, 36, 37, 38, 39, 40, 41, 42, 43, 44, 45, 46, 47, 48, 89, 90, 91, 92, 93, 94, 95, 96, 97, 98, 99, 100, 101, 102, 103] (by decide +kernel) (by decide +kernel)
set_option maxRecDepth 20000 in
theorem gL_sound_X5_pixel : GoodIn wsL_sound (wsV RL 51 RX5 yX5_pixel wsX5_pixel) := goodIn_app (goodIn_of _ (by decide +kernel)) ggL_sound_X5_pixel
set_option maxRecDepth 20000 in
theorem ggL_sound_X5_load : GoodIn wsL_sound wsX5_load := goodIn_r _ [52, 6, 53, 54, 55, 4, 56, 12, 7, 44, 45, 46, 24, 47, 26, 48, 28, 29, 30, 31, 32, 33, 34, 35, 16, 17, 18, 19, 20, 21, 22, 23, 25, 27, 36, 37, 38, 39, 40, 41, 42, 43, 13, 14, 15, 57, 58, 59, 60, 61, 62, 63, 89, 90, 91, 92, 93, 94, 95, 96, 97, 98, 99, 100, 101, 102, 103] (by decide +kernel) (by decide +kernel)
set_option maxRecDepth 20000 in
theorem gL_sound_X5_load : GoodIn wsL_sound (wsV RL 54 RX5 yX5_load wsX5_load) := goodIn_app (goodIn_of _ (by decide +kernel)) ggL_sound_X5_load
set_option maxRecDepth 20000 in
theorem ggL_sound_X5_stripLength : GoodIn wsL_sound wsX5_stripLength := goodIn_r _ [67, 7, 89, 90, 91, 92, 93, 94, 95, 96, 97, 98, 99, 100, 101, 102, 103] (by decide +kernel) (by decide +kernel)
set_option maxRecDepth 20000 in
theorem gL_sound_X5_stripLength : GoodIn wsL_sound (wsV RL 57 RX5 yX5_stripLength wsX5_stripLength) := goodIn_app (goodIn_of _ (by decide +kernel)) ggL_sound_X5_stripLength
set_option maxRecDepth 20000 in
theorem ggL_sound_X5_brightness : GoodIn wsL_sound wsX5_brightness := goodIn_r _ [71, 6, 72, 53, 54, 55, 4, 56, 12, 7, 44, 45, 46, 24, 47, 26, 48, 28, 29, 30, 31, 32, 33, 34, 35, 16, 17, 18, 19, 20, 21, 22, 23, 25, 27, 36, 37, 38, 39, 40, 41, 42, 43, 13, 14, 15, 57, 58, 59, 60, 61, 62, 63, 89, 90, 91, 92, 93, 94, 95, 96, 97, 98, 99, 100, 101, 102, 103] (by decide +kernel) (by decide +kernel)
set_option maxRecDepth 20000 in
theorem gL_sound_X5_brightness : GoodIn wsL_sound (wsV RL 60 RX5 yX5_brightness wsX5_brightness) := goodIn_app (goodIn_of _ (by decide +kernel)) ggL_sound_X5_brightness
set_option maxRecDepth 20000 in
theorem ggL_sound_X5_peakLoad : GoodIn wsL_sound wsX5_peakLoad := goodIn_r _ [76, 77, 78, 79, 4, 80, 7, 53, 54, 55, 56, 12, 44, 45, 46, 24, 47, 26, 48, 28, 29, 30, 31, 32, 33, 34, 35, 16, 17, 18, 19, 20, 21, 22, 23, 25, 27, 36, 37, 38, 39, 40, 41, 42, 43, 13, 14, 15, 57, 58, 59, 60, 61, 62, 63, 89, 90, 91, 92, 93, 94, 95, 96, 97, 98, 99, 100, 101, 102, 103] (by decide +kernel) (by decide +kernel)
set_option maxRecDepth 20000 in
theorem gL_sound_X5_peakLoad : GoodIn wsL_sound (wsV RL 63 RX5 yX5_peakLoad wsX5_peakLoad) := goodIn_app (goodIn_of _ (by decide +kernel)) ggL_sound_X5_peakLoad
set_option maxRecDepth 20000 in
theorem ggL_sound_X5_offset : GoodIn wsL_sound wsX5_offset := goodIn_r _ [84, 6, 89, 90, 91, 92, 93, 94, 95, 96, 97, 98, 99, 100] (by decide +kernel) (by decide +kernel)
set_option maxRecDepth 20000 in
theorem gL_sound_X5_offset : GoodIn wsL_sound (wsV RL 66 RX5 yX5_offset wsX5_offset) := goodIn_app (goodIn_of _ (by decide +kernel)) ggL_sound_X5_offset
set_option maxRecDepth 20000 in
theorem ggL_sound_X5_peakOffset : GoodIn wsL_sound wsX5_peakOffset := goodIn_r _ [88, 7, 77, 78, 79, 4, 80, 53, 54, 55, 56, 12, 44, 45, 46, 24, 47, 26, 48, 28, 29, 30, 31, 32, 33, 34, 35, 16, 17, 18, 19, 20, 21, 22, 23, 25, 27, 36, 37, 38, 39, 40, 41, 42, 43, 13, 14, 15, 57, 58, 59, 60, 61, 62, 63, 89, 90, 91, 92, 93, 94, 95, 96, 97, 98, 99, 100, 101, 102, 103] (by decide +kernel) (by decide +kernel)
set_option maxRecDepth 20000 in
theorem gL_sound_X5_peakOffset : GoodIn wsL_sound (wsV RL 69 RX5 yX5_peakOffset wsX5_peakOffset) := goodIn_app (goodIn_of _ (by decide +kernel)) ggL_sound_X5_peakOffset
theorem dL_sound_0 : decode cL_sound 0 = .ok (.iconst 0, 1) := by decide +kernel
theorem dL_sound_1 : decode cL_sound 1 = .ok (.istore 4, 2) := by decide +kernel
theorem dL_sound_3 : decode cL_sound 3 = .ok (.iconst 1, 1) := by decide +kernel
theorem dL_sound_4 : decode cL_sound 4 = .ok (.istore 5, 2) := by decide +kernel
theorem dL_sound_6 : decode cL_sound 6 = .ok (.iconst 0, 1) := by decide +kernel
theorem dL_sound_7 : decode cL_sound 7 = .ok (.istore 6, 2) := by decide +kernel
theorem dL_sound_9 : decode cL_sound 9 = .ok (.iload 6, 2) := by decide +kernel
theorem dL_sound_11 : decode cL_sound 11 = .ok (.iload_n 1, 1) := by decide +kernel
theorem dL_sound_12 : decode cL_sound 12 = .ok (.if_icmp .ge 88, 3) := by decide +kernel
theorem dL_sound_15 : decode cL_sound 15 = .ok (.iload 5, 2) := by decide +kernel
theorem dL_sound_17 : decode cL_sound 17 = .ok (.ifCond .eq 83, 3) := by decide +kernel
theorem dL_sound_20 : decode cL_sound 20 = .ok (.iconst 0, 1) := by decide +kernel
theorem dL_sound_21 : decode cL_sound 21 = .ok (.istore 7, 2) := by decide +kernel
theorem dL_sound_23 : decode cL_sound 23 = .ok (.iload 7, 2) := by decide +kernel
theorem dL_sound_25 : decode cL_sound 25 = .ok (.bipush 8, 2) := by decide +kernel
theorem dL_sound_27 : decode cL_sound 27 = .ok (.if_icmp .ge 67, 3) := by decide +kernel
theorem dL_sound_30 : decode cL_sound 30 = .ok (.iload 5, 2) := by decide +kernel
theorem dL_sound_32 : decode cL_sound 32 = .ok (.ifCond .eq 62, 3) := by decide +kernel
theorem dL_sound_35 : decode cL_sound 35 = .ok (.aload_n 0, 1) := by decide +kernel
theorem dL_sound_36 : decode cL_sound 36 = .ok (.iload 7, 2) := by decide +kernel
theorem dL_sound_38 : decode cL_sound 38 = .ok (.iload 6, 2) := by decide +kernel
theorem dL_sound_40 : decode cL_sound 40 = .ok (.invokevirtual 51, 3) := by decide +kernel
theorem dL_sound_43 : decode cL_sound 43 = .ok (.istore 8, 2) := by decide +kernel
theorem dL_sound_45 : decode cL_sound 45 = .ok (.iload 8, 2) := by decide +kernel
theorem dL_sound_47 : decode cL_sound 47 = .ok (.ifCond .lt 13, 3) := by decide +kernel
theorem dL_sound_50 : decode cL_sound 50 = .ok (.iload 8, 2) := by decide +kernel
theorem dL_sound_52 : decode cL_sound 52 = .ok (.iconst 4, 1) := by decide +kernel
theorem dL_sound_53 : decode cL_sound 53 = .ok (.if_icmp .ge 7, 3) := by decide +kernel
theorem dL_sound_56 : decode cL_sound 56 = .ok (.iconst 1, 1) := by decide +kernel
theorem dL_sound_57 : decode cL_sound 57 = .ok (.goto 4, 3) := by decide +kernel
theorem dL_sound_60 : decode cL_sound 60 = .ok (.iconst 0, 1) := by decide +kernel
theorem dL_sound_61 : decode cL_sound 61 = .ok (.istore 5, 2) := by decide +kernel
theorem dL_sound_63 : decode cL_sound 63 = .ok (.iload 4, 2) := by decide +kernel
theorem dL_sound_65 : decode cL_sound 65 = .ok (.iload 8, 2) := by decide +kernel
theorem dL_sound_67 : decode cL_sound 67 = .ok (.iconst 3, 1) := by decide +kernel
theorem dL_sound_68 : decode cL_sound 68 = .ok (.if_icmp .ne 7, 3) := by decide +kernel
theorem dL_sound_71 : decode cL_sound 71 = .ok (.iconst 2, 1) := by decide +kernel
theorem dL_sound_72 : decode cL_sound 72 = .ok (.goto 13, 3) := by decide +kernel
theorem dL_sound_75 : decode cL_sound 75 = .ok (.iload 8, 2) := by decide +kernel
theorem dL_sound_77 : decode cL_sound 77 = .ok (.ifCond .le 7, 3) := by decide +kernel
theorem dL_sound_80 : decode cL_sound 80 = .ok (.iconst 1, 1) := by decide +kernel
theorem dL_sound_81 : decode cL_sound 81 = .ok (.goto 4, 3) := by decide +kernel
theorem dL_sound_84 : decode cL_sound 84 = .ok (.iconst 0, 1) := by decide +kernel
theorem dL_sound_85 : decode cL_sound 85 = .ok (.iadd, 1) := by decide +kernel
theorem dL_sound_86 : decode cL_sound 86 = .ok (.istore 4, 2) := by decide +kernel
theorem dL_sound_88 : decode cL_sound 88 = .ok (.iinc 7 1, 3) := by decide +kernel
theorem dL_sound_91 : decode cL_sound 91 = .ok (.goto (-68), 3) := by decide +kernel
theorem dL_sound_94 : decode cL_sound 94 = .ok (.iinc 6 1, 3) := by decide +kernel
theorem dL_sound_97 : decode cL_sound 97 = .ok (.goto (-88), 3) := by decide +kernel
theorem dL_sound_100 : decode cL_sound 100 = .ok (.aload_n 0, 1) := by decide +kernel
theorem dL_sound_101 : decode cL_sound 101 = .ok (.invokevirtual 54, 3) := by decide +kernel
theorem dL_sound_104 : decode cL_sound 104 = .ok (.istore 6, 2) := by decide +kernel
theorem dL_sound_106 : decode cL_sound 106 = .ok (.aload_n 0, 1) := by decide +kernel
theorem dL_sound_107 : decode cL_sound 107 = .ok (.invokevirtual 57, 3) := by decide +kernel
theorem dL_sound_110 : decode cL_sound 110 = .ok (.istore 7, 2) := by decide +kernel
theorem dL_sound_112 : decode cL_sound 112 = .ok (.aload_n 0, 1) := by decide +kernel
theorem dL_sound_113 : decode cL_sound 113 = .ok (.invokevirtual 60, 3) := by decide +kernel
theorem dL_sound_116 : decode cL_sound 116 = .ok (.istore 8, 2) := by decide +kernel
theorem dL_sound_118 : decode cL_sound 118 = .ok (.iload 5, 2) := by decide +kernel
theorem dL_sound_120 : decode cL_sound 120 = .ok (.ifCond .eq 126, 3) := by decide +kernel
theorem dL_sound_123 : decode cL_sound 123 = .ok (.iload 6, 2) := by decide +kernel
theorem dL_sound_125 : decode cL_sound 125 = .ok (.iload 4, 2) := by decide +kernel
theorem dL_sound_127 : decode cL_sound 127 = .ok (.if_icmp .ne 119, 3) := by decide +kernel
theorem dL_sound_130 : decode cL_sound 130 = .ok (.iload 6, 2) := by decide +kernel
theorem dL_sound_132 : decode cL_sound 132 = .ok (.aload_n 0, 1) := by decide +kernel
theorem dL_sound_133 : decode cL_sound 133 = .ok (.invokevirtual 63, 3) := by decide +kernel
theorem dL_sound_136 : decode cL_sound 136 = .ok (.if_icmp .gt 110, 3) := by decide +kernel
theorem dL_sound_139 : decode cL_sound 139 = .ok (.iload 8, 2) := by decide +kernel
theorem dL_sound_141 : decode cL_sound 141 = .ok (.bipush 15, 2) := by decide +kernel
theorem dL_sound_143 : decode cL_sound 143 = .ok (.if_icmp .eq 29, 3) := by decide +kernel
theorem dL_sound_146 : decode cL_sound 146 = .ok (.iload 8, 2) := by decide +kernel
theorem dL_sound_148 : decode cL_sound 148 = .ok (.iload 6, 2) := by decide +kernel
theorem dL_sound_150 : decode cL_sound 150 = .ok (.imul, 1) := by decide +kernel
theorem dL_sound_151 : decode cL_sound 151 = .ok (.bipush 15, 2) := by decide +kernel
theorem dL_sound_153 : decode cL_sound 153 = .ok (.iload_n 3, 1) := by decide +kernel
theorem dL_sound_154 : decode cL_sound 154 = .ok (.imul, 1) := by decide +kernel
theorem dL_sound_155 : decode cL_sound 155 = .ok (.if_icmp .gt 91, 3) := by decide +kernel
theorem dL_sound_158 : decode cL_sound 158 = .ok (.iload 8, 2) := by decide +kernel
theorem dL_sound_160 : decode cL_sound 160 = .ok (.iconst 1, 1) := by decide +kernel
theorem dL_sound_161 : decode cL_sound 161 = .ok (.iadd, 1) := by decide +kernel
theorem dL_sound_162 : decode cL_sound 162 = .ok (.iload 6, 2) := by decide +kernel
theorem dL_sound_164 : decode cL_sound 164 = .ok (.imul, 1) := by decide +kernel
theorem dL_sound_165 : decode cL_sound 165 = .ok (.bipush 15, 2) := by decide +kernel
theorem dL_sound_167 : decode cL_sound 167 = .ok (.iload_n 3, 1) := by decide +kernel
theorem dL_sound_168 : decode cL_sound 168 = .ok (.imul, 1) := by decide +kernel
theorem dL_sound_169 : decode cL_sound 169 = .ok (.if_icmp .le 77, 3) := by decide +kernel
theorem dL_sound_172 : decode cL_sound 172 = .ok (.iload 6, 2) := by decide +kernel
theorem dL_sound_174 : decode cL_sound 174 = .ok (.iload_n 3, 1) := by decide +kernel
theorem dL_sound_175 : decode cL_sound 175 = .ok (.if_icmp .le 7, 3) := by decide +kernel
theorem dL_sound_178 : decode cL_sound 178 = .ok (.iconst 1, 1) := by decide +kernel
theorem dL_sound_179 : decode cL_sound 179 = .ok (.goto 4, 3) := by decide +kernel
theorem dL_sound_182 : decode cL_sound 182 = .ok (.iconst 0, 1) := by decide +kernel
theorem dL_sound_183 : decode cL_sound 183 = .ok (.iload 8, 2) := by decide +kernel
theorem dL_sound_185 : decode cL_sound 185 = .ok (.bipush 15, 2) := by decide +kernel
theorem dL_sound_187 : decode cL_sound 187 = .ok (.if_icmp .ge 7, 3) := by decide +kernel
theorem dL_sound_190 : decode cL_sound 190 = .ok (.iconst 1, 1) := by decide +kernel
theorem dL_sound_191 : decode cL_sound 191 = .ok (.goto 4, 3) := by decide +kernel
theorem dL_sound_194 : decode cL_sound 194 = .ok (.iconst 0, 1) := by decide +kernel
theorem dL_sound_195 : decode cL_sound 195 = .ok (.if_icmp .ne 51, 3) := by decide +kernel
theorem dL_sound_198 : decode cL_sound 198 = .ok (.aload_n 0, 1) := by decide +kernel
theorem dL_sound_199 : decode cL_sound 199 = .ok (.invokevirtual 66, 3) := by decide +kernel
theorem dL_sound_202 : decode cL_sound 202 = .ok (.ifCond .lt 44, 3) := by decide +kernel
theorem dL_sound_205 : decode cL_sound 205 = .ok (.iload 7, 2) := by decide +kernel
theorem dL_sound_207 : decode cL_sound 207 = .ok (.ifCond .ne 13, 3) := by decide +kernel
theorem dL_sound_210 : decode cL_sound 210 = .ok (.aload_n 0, 1) := by decide +kernel
theorem dL_sound_211 : decode cL_sound 211 = .ok (.invokevirtual 66, 3) := by decide +kernel
theorem dL_sound_214 : decode cL_sound 214 = .ok (.ifCond .ne 32, 3) := by decide +kernel
theorem dL_sound_217 : decode cL_sound 217 = .ok (.goto 21, 3) := by decide +kernel
theorem dL_sound_220 : decode cL_sound 220 = .ok (.aload_n 0, 1) := by decide +kernel
theorem dL_sound_221 : decode cL_sound 221 = .ok (.invokevirtual 66, 3) := by decide +kernel
theorem dL_sound_224 : decode cL_sound 224 = .ok (.iload 7, 2) := by decide +kernel
theorem dL_sound_226 : decode cL_sound 226 = .ok (.if_icmp .ge 20, 3) := by decide +kernel
theorem dL_sound_229 : decode cL_sound 229 = .ok (.aload_n 0, 1) := by decide +kernel
theorem dL_sound_230 : decode cL_sound 230 = .ok (.invokevirtual 69, 3) := by decide +kernel
theorem dL_sound_233 : decode cL_sound 233 = .ok (.iload 7, 2) := by decide +kernel
theorem dL_sound_235 : decode cL_sound 235 = .ok (.if_icmp .ge 11, 3) := by decide +kernel
theorem dL_sound_238 : decode cL_sound 238 = .ok (.iload_n 2, 1) := by decide +kernel
theorem dL_sound_239 : decode cL_sound 239 = .ok (.ifCond .lt 7, 3) := by decide +kernel
theorem dL_sound_242 : decode cL_sound 242 = .ok (.iconst 1, 1) := by decide +kernel
theorem dL_sound_243 : decode cL_sound 243 = .ok (.goto 4, 3) := by decide +kernel
theorem dL_sound_246 : decode cL_sound 246 = .ok (.iconst 0, 1) := by decide +kernel
theorem dL_sound_247 : decode cL_sound 247 = .ok (.ireturn, 1) := by decide +kernel
set_option maxRecDepth 20000 in
theorem ggL_law_X5_init : GoodIn wsL_law wsX5_init := goodIn_r _ [6, 7, 8, 9, 10, 11, 12, 13, 14, 15, 16, 17, 18, 19, 20, 21, 22, 23, 24, 25, 3, 26, 27, 28, 29, 30, 31, 32, 33, 34, 35, 36, 37, 38, 39, 40, 41, 42, 43, 44, 45, 46, 47, 48, 49, 50, 51, 52, 53, 54, 55, 56, 57, 58, 59, 60, 61, 377, 378, 365, 366, 367, 368, 369, 370, 371, 372, 373, 374, 375, 376, 379, 380, 381, 382, 383, 384, 385, 386, 387, 388, 389] (by decide +kernel) (by decide +kernel)
set_option maxRecDepth 20000 in
theorem gL_law_X5_init : GoodIn wsL_law (wsX5_init) := ggL_law_X5_init
set_option maxRecDepth 20000 in
theorem ggL_law_L_font : GoodIn wsL_law wsL_font := goodIn_r _ [65] (by decide +kernel) (by decide +kernel)
set_option maxRecDepth 20000 in
theorem gL_law_L_font : GoodIn wsL_law (va_wsS RL 73 yL_font wsL_font) := goodIn_app (goodIn_of _ (by decide +kernel)) ggL_law_L_font
set_option maxRecDepth 20000 in
theorem ggL_law_L_sound : GoodIn wsL_law wsL_sound := goodIn_r _ [68, 69, 70, 71, 2, 72, 32, 25, 73, 74, 75, 76, 27, 77, 78, 79, 80, 81, 82, 83, 30, 84, 85, 86, 24, 87, 88, 60, 89, 90, 91, 92, 93, 94, 95, 96, 97, 98, 99, 100, 101, 102, 103, 26, 104, 105, 106, 107, 61, 108, 109, 110, 111, 112, 113, 114, 115, 116, 117, 118, 119, 120, 121, 122, 123, 124, 125, 126, 127, 128, 129, 130, 31, 131, 132, 133, 134, 135, 136, 137, 138, 139, 140, 141, 142, 143, 144, 145, 146, 365, 366, 367, 368, 369, 370, 371, 372, 373, 374, 375, 376, 383, 384, 385] (by decide +kernel) (by decide +kernel)
set_option maxRecDepth 20000 in
theorem gL_law_L_sound : GoodIn wsL_law (va_wsS RL 77 yL_sound wsL_sound) := goodIn_app (goodIn_of _ (by decide +kernel)) ggL_law_L_sound
set_option maxRecDepth 20000 in
theorem ggL_law_L_cell : GoodIn wsL_law wsL_cell := goodIn_r _ [149, 150, 151] (by decide +kernel) (by decide +kernel)
set_option maxRecDepth 20000 in
theorem gL_law_L_cell : GoodIn wsL_law (va_wsS RL 81 yL_cell wsL_cell) := goodIn_app (goodIn_of _ (by decide +kernel)) ggL_law_L_cell
set_option maxRecDepth 20000 in
theorem ggL_law_L_adds : GoodIn wsL_law wsL_adds := goodIn_r _ [154, 155, 156, 157, 2, 158, 17, 159, 160, 161, 16, 162, 163, 164, 165, 64, 166, 167, 168, 169, 170, 171, 172, 173, 77, 78, 79, 174, 175, 176, 177, 43, 178, 179, 180, 181, 21, 25, 182, 183, 184, 185, 186, 187, 20, 188, 189, 49, 190, 191, 192, 193, 194, 195, 196, 197, 198, 199, 200, 201, 13, 28, 32, 202, 203, 204, 24, 205, 88, 206, 207, 208, 209, 210, 211, 212, 213, 214, 215, 216, 217, 218, 219, 220, 221, 222, 223, 224, 225, 226, 227, 228, 229, 60, 61, 230, 231, 232, 233, 234, 235, 236, 237, 12, 238, 38, 239, 240, 241, 242, 39, 243, 244, 245, 246, 247, 248, 249, 250, 251, 252, 253, 254, 255, 256, 257, 365, 366, 367, 368, 369, 370, 371, 372, 373, 374, 375, 376, 379, 380, 381, 382, 383, 384, 385, 386, 387, 388, 389, 377, 378] (by decide +kernel) (by decide +kernel)
set_option maxRecDepth 20000 in
theorem gL_law_L_adds : GoodIn wsL_law (va_wsS RL 85 yL_adds wsL_adds) := goodIn_app (goodIn_of _ (by decide +kernel)) ggL_law_L_adds
set_option maxRecDepth 20000 in
theorem ggL_law_X5_setSpeed : GoodIn wsL_law wsX5_setSpeed := goodIn_r _ [261, 29, 33, 77, 78, 2, 79, 365, 366, 367, 368, 369, 370, 371, 372, 373, 374, 375, 376] (by decide +kernel) (by decide +kernel)
set_option maxRecDepth 20000 in
theorem gL_law_X5_setSpeed : GoodIn wsL_law (wsV RL 89 RX5 yX5_setSpeed wsX5_setSpeed) := goodIn_app (goodIn_of _ (by decide +kernel)) ggL_law_X5_setSpeed
set_option maxRecDepth 20000 in
theorem ggL_law_X5_setBudget : GoodIn wsL_law wsX5_setBudget := goodIn_r _ [265, 31, 77, 78, 2, 79, 365, 366, 367, 368, 369, 370, 371, 372, 373, 374, 375, 376] (by decide +kernel) (by decide +kernel)
set_option maxRecDepth 20000 in
theorem gL_law_X5_setBudget : GoodIn wsL_law (wsV RL 92 RX5 yX5_setBudget wsX5_setBudget) := goodIn_app (goodIn_of _ (by decide +kernel)) ggL_law_X5_setBudget
set_option maxRecDepth 20000 in
theorem ggL_law_X5_tick : GoodIn wsL_law wsX5_tick := goodIn_r _ [269, 29, 33, 25, 32, 77, 78, 2, 79, 270, 90, 91, 24, 92, 88, 93, 94, 95, 96, 365, 366, 367, 368, 369, 370, 371, 372, 373, 374, 375, 376, 383, 384, 385] (by decide +kernel) (by decide +kernel)
set_option maxRecDepth 20000 in
theorem gL_law_X5_tick : GoodIn wsL_law (wsV RL 95 RX5 yX5_tick wsX5_tick) := goodIn_app (goodIn_of _ (by decide +kernel)) ggL_law_X5_tick
set_option maxRecDepth 20000 in
theorem ggL_law_X5_load : GoodIn wsL_law wsX5_load := goodIn_r _ [111, 32, 112, 113, 114, 2, 115, 27, 25, 104, 105, 106, 24, 107, 88, 61, 89, 90, 91, 92, 93, 94, 95, 96, 80, 81, 82, 83, 30, 84, 85, 86, 87, 60, 97, 98, 99, 100, 101, 102, 103, 26, 77, 78, 79, 116, 117, 118, 119, 120, 121, 122, 365, 366, 367, 368, 369, 370, 371, 372, 373, 374, 375, 376, 383, 384, 385] (by decide +kernel) (by decide +kernel)
set_option maxRecDepth 20000 in
theorem gL_law_X5_load : GoodIn wsL_law (wsV RL 54 RX5 yX5_load wsX5_load) := goodIn_app (goodIn_of _ (by decide +kernel)) ggL_law_X5_load
set_option maxRecDepth 20000 in
theorem ggL_law_X5_period : GoodIn wsL_law wsX5_period := goodIn_r _ [274, 25, 29, 365, 366, 367, 368, 369, 370, 371, 372, 373, 374, 375, 376, 383, 384, 385] (by decide +kernel) (by decide +kernel)
set_option maxRecDepth 20000 in
theorem gL_law_X5_period : GoodIn wsL_law (wsV RL 98 RX5 yX5_period wsX5_period) := goodIn_app (goodIn_of _ (by decide +kernel)) ggL_law_X5_period
set_option maxRecDepth 20000 in
theorem ggL_law_X5_ticksUntilWhole : GoodIn wsL_law wsX5_ticksUntilWhole := goodIn_r _ [278, 21, 27, 25, 32, 29, 33, 253, 207, 208, 20, 209, 49, 210, 211, 212, 213, 189, 214, 215, 216, 217, 78, 2, 79, 270, 90, 91, 24, 92, 88, 93, 94, 95, 96, 365, 366, 367, 368, 369, 370, 371, 372, 373, 374, 375, 376, 386, 387, 388, 389, 381, 382, 383, 384, 385] (by decide +kernel) (by decide +kernel)
set_option maxRecDepth 20000 in
theorem gL_law_X5_ticksUntilWhole : GoodIn wsL_law (wsV RL 101 RX5 yX5_ticksUntilWhole wsX5_ticksUntilWhole) := goodIn_app (goodIn_of _ (by decide +kernel)) ggL_law_X5_ticksUntilWhole
set_option maxRecDepth 20000 in
theorem ggL_law_X5_messageWidth : GoodIn wsL_law wsX5_messageWidth := goodIn_r _ [252, 21, 253, 207, 208, 20, 209, 49, 210, 211, 212, 213, 189, 214, 215, 216, 217, 78, 2, 79, 365, 366, 367, 368, 369, 370, 371, 372, 373, 374, 375, 376, 386, 387, 388, 389, 381, 382] (by decide +kernel) (by decide +kernel)
set_option maxRecDepth 20000 in
theorem gL_law_X5_messageWidth : GoodIn wsL_law (wsV RL 45 RX5 yX5_messageWidth wsX5_messageWidth) := goodIn_app (goodIn_of _ (by decide +kernel)) ggL_law_X5_messageWidth
set_option maxRecDepth 20000 in
theorem ggL_law_X5_messageStart : GoodIn wsL_law wsX5_messageStart := goodIn_r _ [257, 21, 253, 207, 208, 20, 209, 49, 210, 211, 212, 213, 189, 214, 215, 216, 217, 78, 2, 79, 365, 366, 367, 368, 369, 370, 371, 372, 373, 374, 375, 376, 386, 387, 388, 389, 381, 382] (by decide +kernel) (by decide +kernel)
set_option maxRecDepth 20000 in
theorem gL_law_X5_messageStart : GoodIn wsL_law (wsV RL 48 RX5 yX5_messageStart wsX5_messageStart) := goodIn_app (goodIn_of _ (by decide +kernel)) ggL_law_X5_messageStart
set_option maxRecDepth 20000 in
theorem ggL_law_X5_stripLength : GoodIn wsL_law wsX5_stripLength := goodIn_r _ [126, 25, 365, 366, 367, 368, 369, 370, 371, 372, 373, 374, 375, 376, 383, 384, 385] (by decide +kernel) (by decide +kernel)
set_option maxRecDepth 20000 in
theorem gL_law_X5_stripLength : GoodIn wsL_law (wsV RL 57 RX5 yX5_stripLength wsX5_stripLength) := goodIn_app (goodIn_of _ (by decide +kernel)) ggL_law_X5_stripLength
set_option maxRecDepth 20000 in
theorem ggL_law_X5_offset : GoodIn wsL_law wsX5_offset := goodIn_r _ [142, 32, 365, 366, 367, 368, 369, 370, 371, 372, 373, 374, 375, 376] (by decide +kernel) (by decide +kernel)
set_option maxRecDepth 20000 in
theorem gL_law_X5_offset : GoodIn wsL_law (wsV RL 66 RX5 yX5_offset wsX5_offset) := goodIn_app (goodIn_of _ (by decide +kernel)) ggL_law_X5_offset
set_option maxRecDepth 20000 in
theorem ggL_law_X5_pixel : GoodIn wsL_law wsX5_pixel := goodIn_r _ [72, 32, 25, 73, 74, 75, 2, 76, 27, 77, 78, 79, 80, 81, 82, 83, 30, 84, 85, 86, 24, 87, 88, 60, 89, 90, 91, 92, 93, 94, 95, 96, 97, 98, 99, 100, 101, 102, 103, 26, 104, 105, 106, 107, 61, 365, 366, 367, 368, 369, 370, 371, 372, 373, 374, 375, 376, 383, 384, 385] (by decide +kernel) (by decide +kernel)
set_option maxRecDepth 20000 in
theorem gL_law_X5_pixel : GoodIn wsL_law (wsV RL 51 RX5 yX5_pixel wsX5_pixel) := goodIn_app (goodIn_of _ (by decide +kernel)) ggL_law_X5_pixel
set_option maxRecDepth 20000 in
theorem ggL_law_X5_setDefective : GoodIn wsL_law wsX5_setDefective := goodIn_r _ [282, 73, 74, 75, 2, 76, 27, 77, 78, 79, 283, 284, 285, 286, 100, 101, 102, 103, 26, 287, 288, 289, 290, 291, 292, 293, 294, 116, 117, 118, 119, 120, 121, 122, 365, 366, 367, 368, 369, 370, 371, 372, 373, 374, 375, 376] (by decide +kernel) (by decide +kernel)
set_option maxRecDepth 20000 in
theorem gL_law_X5_setDefective : GoodIn wsL_law (wsV RL 104 RX5 yX5_setDefective wsX5_setDefective) := goodIn_app (goodIn_of _ (by decide +kernel)) ggL_law_X5_setDefective
set_option maxRecDepth 20000 in
theorem ggL_law_X5_damage : GoodIn wsL_law wsX5_damage := goodIn_r _ [298, 299, 300, 2, 301, 77, 78, 79, 302, 303, 304, 305, 27, 25, 32, 84, 85, 86, 24, 87, 88, 60, 89, 90, 91, 92, 93, 94, 95, 96, 97, 98, 99, 100, 101, 102, 103, 26, 116, 117, 118, 119, 120, 121, 122, 365, 366, 367, 368, 369, 370, 371, 372, 373, 374, 375, 376, 383, 384, 385] (by decide +kernel) (by decide +kernel)
set_option maxRecDepth 20000 in
theorem gL_law_X5_damage : GoodIn wsL_law (wsV RL 108 RX5 yX5_damage wsX5_damage) := goodIn_app (goodIn_of _ (by decide +kernel)) ggL_law_X5_damage
set_option maxRecDepth 20000 in
theorem ggL_law_X5_adoptBestShift : GoodIn wsL_law wsX5_adoptBestShift := goodIn_r _ [309, 310, 30, 302, 303, 304, 2, 305, 27, 25, 32, 84, 85, 86, 24, 87, 88, 60, 89, 90, 91, 92, 93, 94, 95, 96, 97, 98, 99, 100, 101, 102, 103, 26, 77, 78, 79, 116, 117, 118, 119, 120, 121, 122, 365, 366, 367, 368, 369, 370, 371, 372, 373, 374, 375, 376, 383, 384, 385] (by decide +kernel) (by decide +kernel)
set_option maxRecDepth 20000 in
theorem gL_law_X5_adoptBestShift : GoodIn wsL_law (wsV RL 111 RX5 yX5_adoptBestShift wsX5_adoptBestShift) := goodIn_app (goodIn_of _ (by decide +kernel)) ggL_law_X5_adoptBestShift
set_option maxRecDepth 20000 in
theorem ggL_law_X5_setShift : GoodIn wsL_law wsX5_setShift := goodIn_r _ [314, 30, 299, 300, 2, 301, 77, 78, 79, 365, 366, 367, 368, 369, 370, 371, 372, 373, 374, 375, 376] (by decide +kernel) (by decide +kernel)
set_option maxRecDepth 20000 in
theorem gL_law_X5_setShift : GoodIn wsL_law (wsV RL 114 RX5 yX5_setShift wsX5_setShift) := goodIn_app (goodIn_of _ (by decide +kernel)) ggL_law_X5_setShift
set_option maxRecDepth 20000 in
theorem ggL_law_X5_insertMessage : GoodIn wsL_law wsX5_insertMessage := goodIn_r _ [181, 21, 17, 25, 77, 78, 2, 79, 182, 183, 184, 185, 186, 187, 20, 188, 189, 49, 190, 191, 192, 16, 193, 43, 163, 194, 195, 196, 197, 198, 199, 200, 201, 13, 28, 32, 202, 203, 204, 24, 205, 88, 206, 207, 208, 209, 210, 211, 212, 213, 214, 215, 216, 217, 218, 219, 220, 221, 222, 223, 224, 225, 226, 227, 228, 229, 60, 61, 230, 231, 232, 233, 234, 235, 236, 237, 12, 238, 38, 239, 240, 241, 242, 39, 365, 366, 367, 368, 369, 370, 371, 372, 373, 374, 375, 376, 381, 382, 379, 380, 383, 384, 385, 386, 387, 388, 389, 377, 378] (by decide +kernel) (by decide +kernel)
set_option maxRecDepth 20000 in
theorem gL_law_X5_insertMessage : GoodIn wsL_law (wsV RL 39 RX5 yX5_insertMessage wsX5_insertMessage) := goodIn_app (goodIn_of _ (by decide +kernel)) ggL_law_X5_insertMessage
set_option maxRecDepth 20000 in
theorem ggL_law_X5_removeMessage : GoodIn wsL_law wsX5_removeMessage := goodIn_r _ [318, 21, 25, 253, 207, 208, 20, 209, 49, 210, 211, 212, 213, 189, 214, 215, 216, 217, 78, 2, 79, 319, 320, 321, 322, 323, 198, 199, 200, 201, 13, 28, 32, 202, 203, 204, 24, 205, 88, 206, 218, 219, 220, 221, 222, 223, 224, 225, 226, 227, 228, 229, 60, 61, 230, 195, 196, 16, 197, 43, 231, 232, 233, 234, 235, 236, 237, 12, 238, 38, 239, 240, 241, 242, 39, 365, 366, 367, 368, 369, 370, 371, 372, 373, 374, 375, 376, 383, 384, 385, 381, 382, 386, 387, 388, 389, 379, 380, 377, 378] (by decide +kernel) (by decide +kernel)
set_option maxRecDepth 20000 in
theorem gL_law_X5_removeMessage : GoodIn wsL_law (wsV RL 117 RX5 yX5_removeMessage wsX5_removeMessage) := goodIn_app (goodIn_of _ (by decide +kernel)) ggL_law_X5_removeMessage
set_option maxRecDepth 20000 in
theorem ggL_law_X5_setColor : GoodIn wsL_law wsX5_setColor := goodIn_r _ [327, 21, 253, 207, 208, 20, 209, 49, 210, 211, 212, 213, 189, 214, 215, 216, 217, 78, 2, 79, 182, 183, 184, 77, 198, 199, 200, 201, 25, 13, 28, 32, 202, 203, 204, 24, 205, 88, 206, 218, 219, 220, 221, 222, 223, 224, 225, 226, 227, 228, 229, 60, 61, 230, 195, 196, 16, 197, 43, 231, 232, 233, 234, 235, 236, 237, 12, 238, 38, 239, 240, 241, 242, 39, 365, 366, 367, 368, 369, 370, 371, 372, 373, 374, 375, 376, 386, 387, 388, 389, 381, 382, 383, 384, 385, 379, 380, 377, 378] (by decide +kernel) (by decide +kernel)
set_option maxRecDepth 20000 in
theorem gL_law_X5_setColor : GoodIn wsL_law (wsV RL 120 RX5 yX5_setColor wsX5_setColor) := goodIn_app (goodIn_of _ (by decide +kernel)) ggL_law_X5_setColor
set_option maxRecDepth 20000 in
theorem ggL_law_L_width : GoodIn wsL_law wsL_width := goodIn_r _ [248] (by decide +kernel) (by decide +kernel)
set_option maxRecDepth 20000 in
theorem gL_law_L_width : GoodIn wsL_law (va_wsS RL 28 yL_width wsL_width) := goodIn_app (goodIn_of _ (by decide +kernel)) ggL_law_L_width
set_option maxRecDepth 20000 in
theorem ggL_law_L_strip : GoodIn wsL_law wsL_strip := goodIn_r _ [330] (by decide +kernel) (by decide +kernel)
set_option maxRecDepth 20000 in
theorem gL_law_L_strip : GoodIn wsL_law (va_wsS RL 123 yL_strip wsL_strip) := goodIn_app (goodIn_of _ (by decide +kernel)) ggL_law_L_strip
set_option maxRecDepth 20000 in
theorem ggL_law_L_has : GoodIn wsL_law wsL_has := goodIn_r _ [333] (by decide +kernel) (by decide +kernel)
set_option maxRecDepth 20000 in
theorem gL_law_L_has : GoodIn wsL_law (va_wsS RL 126 yL_has wsL_has) := goodIn_app (goodIn_of _ (by decide +kernel)) ggL_law_L_has
set_option maxRecDepth 20000 in
theorem ggL_law_L_glyph : GoodIn wsL_law wsL_glyph := goodIn_r _ [336, 164, 165, 64, 166, 337, 338, 339, 2, 340, 13, 171, 172, 173, 77, 78, 79, 341, 236, 237, 12, 238, 38, 342, 343, 344, 345, 39, 198, 199, 200, 201, 25, 21, 28, 32, 202, 203, 204, 24, 205, 88, 206, 207, 208, 20, 209, 49, 210, 211, 212, 213, 189, 214, 215, 216, 217, 218, 219, 220, 221, 222, 223, 224, 225, 226, 227, 228, 229, 60, 61, 230, 195, 196, 16, 197, 43, 231, 232, 233, 234, 235, 239, 240, 241, 242, 346, 347, 348, 349, 350, 351, 352, 353, 354, 355, 356, 357, 358, 359, 360, 361, 362, 363, 364, 365, 366, 367, 368, 369, 370, 371, 372, 373, 374, 375, 376, 377, 378, 383, 384, 385, 381, 382, 386, 387, 388, 389, 379, 380] (by decide +kernel) (by decide +kernel)
set_option maxRecDepth 20000 in
theorem gL_law_L_glyph : GoodIn wsL_law (va_wsS RL 130 yL_glyph wsL_glyph) := goodIn_app (goodIn_of _ (by decide +kernel)) ggL_law_L_glyph
theorem dL_law_0 : decode cL_law 0 = .ok (.new 16, 3) := by decide +kernel
theorem dL_law_3 : decode cL_law 3 = .ok (.dup, 1) := by decide +kernel
theorem dL_law_4 : decode cL_law 4 = .ok (.invokespecial 72, 3) := by decide +kernel
theorem dL_law_7 : decode cL_law 7 = .ok (.astore_n 1, 1) := by decide +kernel
theorem dL_law_8 : decode cL_law 8 = .ok (.bipush 63, 2) := by decide +kernel
theorem dL_law_10 : decode cL_law 10 = .ok (.newarray .int, 2) := by decide +kernel
theorem dL_law_12 : decode cL_law 12 = .ok (.astore_n 2, 1) := by decide +kernel
theorem dL_law_13 : decode cL_law 13 = .ok (.bipush 12, 2) := by decide +kernel
theorem dL_law_15 : decode cL_law 15 = .ok (.newarray .int, 2) := by decide +kernel
theorem dL_law_17 : decode cL_law 17 = .ok (.astore_n 3, 1) := by decide +kernel
theorem dL_law_18 : decode cL_law 18 = .ok (.aload_n 2, 1) := by decide +kernel
theorem dL_law_19 : decode cL_law 19 = .ok (.invokestatic 73, 3) := by decide +kernel
theorem dL_law_22 : decode cL_law 22 = .ok (.aload_n 3, 1) := by decide +kernel
theorem dL_law_23 : decode cL_law 23 = .ok (.iconst 1, 1) := by decide +kernel
theorem dL_law_24 : decode cL_law 24 = .ok (.iconst 4, 1) := by decide +kernel
theorem dL_law_25 : decode cL_law 25 = .ok (.iastore, 1) := by decide +kernel
theorem dL_law_26 : decode cL_law 26 = .ok (.aload_n 1, 1) := by decide +kernel
theorem dL_law_27 : decode cL_law 27 = .ok (.bipush 16, 2) := by decide +kernel
theorem dL_law_29 : decode cL_law 29 = .ok (.iconst 0, 1) := by decide +kernel
theorem dL_law_30 : decode cL_law 30 = .ok (.bipush 60, 2) := by decide +kernel
theorem dL_law_32 : decode cL_law 32 = .ok (.invokestatic 77, 3) := by decide +kernel
