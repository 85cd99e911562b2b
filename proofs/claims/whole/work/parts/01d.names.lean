theorem dX5_glyphColumn_24 : decode cX5_glyphColumn 24 = .ok (.iload_n 2, 1) := by decide +kernel
theorem dX5_glyphColumn_25 : decode cX5_glyphColumn 25 = .ok (.invokevirtual 82, 3) := by decide +kernel
theorem dX5_glyphColumn_28 : decode cX5_glyphColumn 28 = .ok (.ifCond .ne 6, 3) := by decide +kernel
theorem dX5_glyphColumn_31 : decode cX5_glyphColumn 31 = .ok (.bipush (-14), 2) := by decide +kernel
theorem dX5_glyphColumn_33 : decode cX5_glyphColumn 33 = .ok (.ireturn, 1) := by decide +kernel
theorem dX5_glyphColumn_34 : decode cX5_glyphColumn 34 = .ok (.aload_n 0, 1) := by decide +kernel
theorem dX5_glyphColumn_35 : decode cX5_glyphColumn 35 = .ok (.getfield 12, 3) := by decide +kernel
theorem dX5_glyphColumn_38 : decode cX5_glyphColumn 38 = .ok (.iload_n 1, 1) := by decide +kernel
theorem dX5_glyphColumn_39 : decode cX5_glyphColumn 39 = .ok (.iload_n 2, 1) := by decide +kernel
theorem dX5_glyphColumn_40 : decode cX5_glyphColumn 40 = .ok (.invokevirtual 86, 3) := by decide +kernel
theorem dX5_glyphColumn_43 : decode cX5_glyphColumn 43 = .ok (.ireturn, 1) := by decide +kernel
set_option maxRecDepth 20000 in
theorem ggX5_append_X5_isCharacter : GoodIn wsX5_append wsX5_isCharacter := goodIn_r _ [5, 6, 7, 4, 8] (by decide +kernel) (by decide +kernel)
set_option maxRecDepth 20000 in
theorem gX5_append_X5_isCharacter : GoodIn wsX5_append (va_wsS RX5 63 yX5_isCharacter wsX5_isCharacter) := goodIn_app (goodIn_of _ (by decide +kernel)) ggX5_append_X5_isCharacter
set_option maxRecDepth 20000 in
theorem ggX5_append_X4_add : GoodIn wsX5_append wsX4_add := goodIn_r _ [13, 14, 15, 7, 4, 8, 28, 29] (by decide +kernel) (by decide +kernel)
set_option maxRecDepth 20000 in
theorem gX5_append_X4_add : GoodIn wsX5_append (wsV RX5 97 RX4 yX4_add wsX4_add) := goodIn_app (goodIn_of _ (by decide +kernel)) ggX5_append_X4_add
theorem dX5_append_0 : decode cX5_append 0 = .ok (.iload_n 1, 1) := by decide +kernel
theorem dX5_append_1 : decode cX5_append 1 = .ok (.invokestatic 63, 3) := by decide +kernel
theorem dX5_append_4 : decode cX5_append 4 = .ok (.ifCond .ne 6, 3) := by decide +kernel
theorem dX5_append_7 : decode cX5_append 7 = .ok (.bipush (-11), 2) := by decide +kernel
theorem dX5_append_9 : decode cX5_append 9 = .ok (.ireturn, 1) := by decide +kernel
theorem dX5_append_10 : decode cX5_append 10 = .ok (.aload_n 0, 1) := by decide +kernel
theorem dX5_append_11 : decode cX5_append 11 = .ok (.getfield 19, 3) := by decide +kernel
theorem dX5_append_14 : decode cX5_append 14 = .ok (.getfield 94, 3) := by decide +kernel
theorem dX5_append_17 : decode cX5_append 17 = .ok (.bipush 12, 2) := by decide +kernel
theorem dX5_append_19 : decode cX5_append 19 = .ok (.if_icmp .lt 6, 3) := by decide +kernel
theorem dX5_append_22 : decode cX5_append 22 = .ok (.bipush (-13), 2) := by decide +kernel
theorem dX5_append_24 : decode cX5_append 24 = .ok (.ireturn, 1) := by decide +kernel
theorem dX5_append_25 : decode cX5_append 25 = .ok (.aload_n 0, 1) := by decide +kernel
theorem dX5_append_26 : decode cX5_append 26 = .ok (.getfield 19, 3) := by decide +kernel
theorem dX5_append_29 : decode cX5_append 29 = .ok (.iload_n 1, 1) := by decide +kernel
theorem dX5_append_30 : decode cX5_append 30 = .ok (.invokevirtual 97, 3) := by decide +kernel
theorem dX5_append_33 : decode cX5_append 33 = .ok (.aload_n 0, 1) := by decide +kernel
theorem dX5_append_34 : decode cX5_append 34 = .ok (.getfield 19, 3) := by decide +kernel
theorem dX5_append_37 : decode cX5_append 37 = .ok (.getfield 94, 3) := by decide +kernel
theorem dX5_append_40 : decode cX5_append 40 = .ok (.ireturn, 1) := by decide +kernel
set_option maxRecDepth 20000 in
theorem ggX5_clearText_X4_empty : GoodIn wsX5_clearText wsX4_empty := goodIn_r _ [6, 7, 20, 21] (by decide +kernel) (by decide +kernel)
set_option maxRecDepth 20000 in
theorem gX5_clearText_X4_empty : GoodIn wsX5_clearText (wsV RX5 101 RX4 yX4_empty wsX4_empty) := goodIn_app (goodIn_of _ (by decide +kernel)) ggX5_clearText_X4_empty
theorem dX5_clearText_0 : decode cX5_clearText 0 = .ok (.aload_n 0, 1) := by decide +kernel
theorem dX5_clearText_1 : decode cX5_clearText 1 = .ok (.getfield 19, 3) := by decide +kernel
theorem dX5_clearText_4 : decode cX5_clearText 4 = .ok (.getfield 94, 3) := by decide +kernel
theorem dX5_clearText_7 : decode cX5_clearText 7 = .ok (.istore_n 1, 1) := by decide +kernel
theorem dX5_clearText_8 : decode cX5_clearText 8 = .ok (.aload_n 0, 1) := by decide +kernel
theorem dX5_clearText_9 : decode cX5_clearText 9 = .ok (.getfield 19, 3) := by decide +kernel
theorem dX5_clearText_12 : decode cX5_clearText 12 = .ok (.invokevirtual 101, 3) := by decide +kernel
theorem dX5_clearText_15 : decode cX5_clearText 15 = .ok (.iload_n 1, 1) := by decide +kernel
theorem dX5_clearText_16 : decode cX5_clearText 16 = .ok (.ireturn, 1) := by decide +kernel
set_option maxRecDepth 20000 in
theorem ggX5_insertMessage_X5_isWithin : GoodIn wsX5_insertMessage wsX5_isWithin := goodIn_r _ [7] (by decide +kernel) (by decide +kernel)
set_option maxRecDepth 20000 in
theorem gX5_insertMessage_X5_isWithin : GoodIn wsX5_insertMessage (va_wsS RX5 67 yX5_isWithin wsX5_isWithin) := goodIn_app (goodIn_of _ (by decide +kernel)) ggX5_insertMessage_X5_isWithin
set_option maxRecDepth 20000 in
theorem ggX5_insertMessage_X5_isColor : GoodIn wsX5_insertMessage wsX5_isColor := goodIn_r _ [10, 4, 5, 6, 7] (by decide +kernel) (by decide +kernel)
set_option maxRecDepth 20000 in
theorem gX5_insertMessage_X5_isColor : GoodIn wsX5_insertMessage (va_wsS RX5 107 yX5_isColor wsX5_isColor) := goodIn_app (goodIn_of _ (by decide +kernel)) ggX5_insertMessage_X5_isColor
set_option maxRecDepth 20000 in
theorem ggX5_insertMessage_X2_insert : GoodIn wsX5_insertMessage wsX2_insert := goodIn_r _ [15, 16, 17, 5, 6, 7, 18, 19, 20, 21, 22, 23, 24, 25, 26, 27, 28, 96, 97, 103, 104, 105, 106, 98, 99] (by decide +kernel) (by decide +kernel)
set_option maxRecDepth 20000 in
theorem gX5_insertMessage_X2_insert : GoodIn wsX5_insertMessage (wsV RX5 110 RX2 yX2_insert wsX2_insert) := goodIn_app (goodIn_of _ (by decide +kernel)) ggX5_insertMessage_X2_insert
set_option maxRecDepth 20000 in
theorem ggX5_insertMessage_X5_layOutStrip : GoodIn wsX5_insertMessage wsX5_layOutStrip := goodIn_r _ [32, 3, 1, 33, 34, 35, 36, 37, 38, 39, 40, 41, 42, 43, 44, 14, 45, 17, 46, 47, 48, 49, 16, 50, 51, 52, 53, 5, 6, 7, 54, 55, 56, 57, 58, 59, 60, 61, 62, 63, 64, 65, 66, 67, 68, 26, 27, 21, 28, 23, 69, 70, 71, 72, 73, 74, 75, 76, 77, 78, 79, 80, 81, 82, 83, 84, 85, 86, 87, 88, 89, 90, 91, 92, 93, 94, 95, 100, 101, 102, 96, 97, 103, 104, 105, 106, 98, 99, 107, 108] (by decide +kernel) (by decide +kernel)
set_option maxRecDepth 20000 in
theorem gX5_insertMessage_X5_layOutStrip : GoodIn wsX5_insertMessage (wsV RX5 79 RX5 yX5_layOutStrip wsX5_layOutStrip) := goodIn_app (goodIn_of _ (by decide +kernel)) ggX5_insertMessage_X5_layOutStrip
theorem dX5_insertMessage_0 : decode cX5_insertMessage 0 = .ok (.iload_n 1, 1) := by decide +kernel
theorem dX5_insertMessage_1 : decode cX5_insertMessage 1 = .ok (.iconst 0, 1) := by decide +kernel
theorem dX5_insertMessage_2 : decode cX5_insertMessage 2 = .ok (.aload_n 0, 1) := by decide +kernel
theorem dX5_insertMessage_3 : decode cX5_insertMessage 3 = .ok (.getfield 26, 3) := by decide +kernel
theorem dX5_insertMessage_6 : decode cX5_insertMessage 6 = .ok (.getfield 104, 3) := by decide +kernel
theorem dX5_insertMessage_9 : decode cX5_insertMessage 9 = .ok (.invokestatic 67, 3) := by decide +kernel
theorem dX5_insertMessage_12 : decode cX5_insertMessage 12 = .ok (.ifCond .eq 10, 3) := by decide +kernel
theorem dX5_insertMessage_15 : decode cX5_insertMessage 15 = .ok (.iload_n 2, 1) := by decide +kernel
theorem dX5_insertMessage_16 : decode cX5_insertMessage 16 = .ok (.invokestatic 107, 3) := by decide +kernel
theorem dX5_insertMessage_19 : decode cX5_insertMessage 19 = .ok (.ifCond .ne 6, 3) := by decide +kernel
theorem dX5_insertMessage_22 : decode cX5_insertMessage 22 = .ok (.bipush (-11), 2) := by decide +kernel
theorem dX5_insertMessage_24 : decode cX5_insertMessage 24 = .ok (.ireturn, 1) := by decide +kernel
theorem dX5_insertMessage_25 : decode cX5_insertMessage 25 = .ok (.aload_n 0, 1) := by decide +kernel
theorem dX5_insertMessage_26 : decode cX5_insertMessage 26 = .ok (.getfield 19, 3) := by decide +kernel
theorem dX5_insertMessage_29 : decode cX5_insertMessage 29 = .ok (.getfield 94, 3) := by decide +kernel
theorem dX5_insertMessage_32 : decode cX5_insertMessage 32 = .ok (.ifCond .ne 6, 3) := by decide +kernel
theorem dX5_insertMessage_35 : decode cX5_insertMessage 35 = .ok (.bipush (-12), 2) := by decide +kernel
theorem dX5_insertMessage_37 : decode cX5_insertMessage 37 = .ok (.ireturn, 1) := by decide +kernel
theorem dX5_insertMessage_38 : decode cX5_insertMessage 38 = .ok (.aload_n 0, 1) := by decide +kernel
theorem dX5_insertMessage_39 : decode cX5_insertMessage 39 = .ok (.getfield 26, 3) := by decide +kernel
theorem dX5_insertMessage_42 : decode cX5_insertMessage 42 = .ok (.getfield 104, 3) := by decide +kernel
theorem dX5_insertMessage_45 : decode cX5_insertMessage 45 = .ok (.bipush 6, 2) := by decide +kernel
theorem dX5_insertMessage_47 : decode cX5_insertMessage 47 = .ok (.if_icmp .lt 6, 3) := by decide +kernel
theorem dX5_insertMessage_50 : decode cX5_insertMessage 50 = .ok (.bipush (-13), 2) := by decide +kernel
theorem dX5_insertMessage_52 : decode cX5_insertMessage 52 = .ok (.ireturn, 1) := by decide +kernel
theorem dX5_insertMessage_53 : decode cX5_insertMessage 53 = .ok (.aload_n 0, 1) := by decide +kernel
theorem dX5_insertMessage_54 : decode cX5_insertMessage 54 = .ok (.getfield 26, 3) := by decide +kernel
theorem dX5_insertMessage_57 : decode cX5_insertMessage 57 = .ok (.iload_n 1, 1) := by decide +kernel
theorem dX5_insertMessage_58 : decode cX5_insertMessage 58 = .ok (.aload_n 0, 1) := by decide +kernel
theorem dX5_insertMessage_59 : decode cX5_insertMessage 59 = .ok (.getfield 19, 3) := by decide +kernel
theorem dX5_insertMessage_62 : decode cX5_insertMessage 62 = .ok (.iload_n 2, 1) := by decide +kernel
theorem dX5_insertMessage_63 : decode cX5_insertMessage 63 = .ok (.invokevirtual 110, 3) := by decide +kernel
theorem dX5_insertMessage_66 : decode cX5_insertMessage 66 = .ok (.aload_n 0, 1) := by decide +kernel
theorem dX5_insertMessage_67 : decode cX5_insertMessage 67 = .ok (.invokevirtual 79, 3) := by decide +kernel
theorem dX5_insertMessage_70 : decode cX5_insertMessage 70 = .ok (.aload_n 0, 1) := by decide +kernel
theorem dX5_insertMessage_71 : decode cX5_insertMessage 71 = .ok (.getfield 33, 3) := by decide +kernel
theorem dX5_insertMessage_74 : decode cX5_insertMessage 74 = .ok (.getfield 114, 3) := by decide +kernel
theorem dX5_insertMessage_77 : decode cX5_insertMessage 77 = .ok (.ireturn, 1) := by decide +kernel
set_option maxRecDepth 20000 in
theorem ggX5_removeMessage_X2_find : GoodIn wsX5_removeMessage wsX2_find := goodIn_r _ [7, 8, 9, 10, 11, 6, 12, 13, 14, 15, 16, 17, 18, 19, 20, 90, 91] (by decide +kernel) (by decide +kernel)
set_option maxRecDepth 20000 in
theorem gX5_removeMessage_X2_find : GoodIn wsX5_removeMessage (wsV RX5 115 RX2 yX2_find wsX2_find) := goodIn_app (goodIn_of _ (by decide +kernel)) ggX5_removeMessage_X2_find
set_option maxRecDepth 20000 in
theorem ggX5_removeMessage_X2_remove : GoodIn wsX5_removeMessage wsX2_remove := goodIn_r _ [24, 8, 13, 25, 4, 5, 6, 7, 9, 10, 11, 12, 14, 15, 16, 17, 18, 19, 20, 90, 91] (by decide +kernel) (by decide +kernel)
set_option maxRecDepth 20000 in
theorem gX5_removeMessage_X2_remove : GoodIn wsX5_removeMessage (wsV RX5 119 RX2 yX2_remove wsX2_remove) := goodIn_app (goodIn_of _ (by decide +kernel)) ggX5_removeMessage_X2_remove
set_option maxRecDepth 20000 in
theorem ggX5_removeMessage_X5_layOutStrip : GoodIn wsX5_removeMessage wsX5_layOutStrip := goodIn_r _ [29, 2, 1, 30, 31, 32, 33, 34, 35, 36, 37, 38, 39, 4, 5, 6, 7, 8, 9, 10, 11, 12, 13, 14, 15, 16, 17, 18, 19, 20, 40, 41, 42, 43, 44, 45, 46, 47, 48, 49, 50, 51, 52, 53, 54, 55, 56, 57, 58, 59, 60, 61, 62, 63, 64, 65, 66, 67, 68, 69, 70, 71, 72, 73, 74, 75, 76, 77, 78, 79, 80, 81, 82, 83, 84, 85, 86, 87, 88, 89, 90, 91, 92, 93, 94, 95, 96, 97, 98, 99] (by decide +kernel) (by decide +kernel)
set_option maxRecDepth 20000 in
theorem gX5_removeMessage_X5_layOutStrip : GoodIn wsX5_removeMessage (wsV RX5 79 RX5 yX5_layOutStrip wsX5_layOutStrip) := goodIn_app (goodIn_of _ (by decide +kernel)) ggX5_removeMessage_X5_layOutStrip
theorem dX5_removeMessage_0 : decode cX5_removeMessage 0 = .ok (.aload_n 0, 1) := by decide +kernel
theorem dX5_removeMessage_1 : decode cX5_removeMessage 1 = .ok (.getfield 26, 3) := by decide +kernel
theorem dX5_removeMessage_4 : decode cX5_removeMessage 4 = .ok (.iload_n 1, 1) := by decide +kernel
theorem dX5_removeMessage_5 : decode cX5_removeMessage 5 = .ok (.invokevirtual 115, 3) := by decide +kernel
theorem dX5_removeMessage_8 : decode cX5_removeMessage 8 = .ok (.ifnonnull 6, 3) := by decide +kernel
theorem dX5_removeMessage_11 : decode cX5_removeMessage 11 = .ok (.bipush (-11), 2) := by decide +kernel
theorem dX5_removeMessage_13 : decode cX5_removeMessage 13 = .ok (.ireturn, 1) := by decide +kernel
theorem dX5_removeMessage_14 : decode cX5_removeMessage 14 = .ok (.aload_n 0, 1) := by decide +kernel
theorem dX5_removeMessage_15 : decode cX5_removeMessage 15 = .ok (.getfield 26, 3) := by decide +kernel
theorem dX5_removeMessage_18 : decode cX5_removeMessage 18 = .ok (.iload_n 1, 1) := by decide +kernel
theorem dX5_removeMessage_19 : decode cX5_removeMessage 19 = .ok (.invokevirtual 119, 3) := by decide +kernel
theorem dX5_removeMessage_22 : decode cX5_removeMessage 22 = .ok (.aload_n 0, 1) := by decide +kernel
theorem dX5_removeMessage_23 : decode cX5_removeMessage 23 = .ok (.invokevirtual 79, 3) := by decide +kernel
theorem dX5_removeMessage_26 : decode cX5_removeMessage 26 = .ok (.aload_n 0, 1) := by decide +kernel
theorem dX5_removeMessage_27 : decode cX5_removeMessage 27 = .ok (.getfield 33, 3) := by decide +kernel
theorem dX5_removeMessage_30 : decode cX5_removeMessage 30 = .ok (.getfield 114, 3) := by decide +kernel
theorem dX5_removeMessage_33 : decode cX5_removeMessage 33 = .ok (.ireturn, 1) := by decide +kernel
set_option maxRecDepth 20000 in
theorem ggX5_setColor_X2_find : GoodIn wsX5_setColor wsX2_find := goodIn_r _ [6, 7, 8, 9, 10, 5, 11, 12, 13, 14, 15, 16, 17, 18, 19, 90, 91] (by decide +kernel) (by decide +kernel)
set_option maxRecDepth 20000 in
theorem gX5_setColor_X2_find : GoodIn wsX5_setColor (wsV RX5 115 RX2 yX2_find wsX2_find) := goodIn_app (goodIn_of _ (by decide +kernel)) ggX5_setColor_X2_find
set_option maxRecDepth 20000 in
theorem ggX5_setColor_X5_isColor : GoodIn wsX5_setColor wsX5_isColor := goodIn_r _ [22, 23, 17, 18, 19] (by decide +kernel) (by decide +kernel)
set_option maxRecDepth 20000 in
theorem gX5_setColor_X5_isColor : GoodIn wsX5_setColor (va_wsS RX5 107 yX5_isColor wsX5_isColor) := goodIn_app (goodIn_of _ (by decide +kernel)) ggX5_setColor_X5_isColor
set_option maxRecDepth 20000 in
theorem ggX5_setColor_X5_layOutStrip : GoodIn wsX5_setColor wsX5_layOutStrip := goodIn_r _ [27, 28, 1, 29, 30, 31, 32, 33, 34, 35, 36, 37, 38, 3, 4, 5, 6, 7, 8, 9, 10, 11, 12, 13, 14, 15, 16, 17, 18, 19, 39, 40, 41, 42, 43, 44, 45, 46, 47, 48, 49, 50, 51, 52, 53, 54, 55, 56, 57, 58, 59, 60, 61, 62, 63, 64, 65, 66, 67, 68, 69, 70, 71, 72, 73, 74, 75, 76, 77, 78, 79, 80, 81, 82, 83, 84, 85, 92, 93, 94, 90, 91, 86, 87, 88, 89, 95, 96, 97, 98] (by decide +kernel) (by decide +kernel)
set_option maxRecDepth 20000 in
theorem gX5_setColor_X5_layOutStrip : GoodIn wsX5_setColor (wsV RX5 79 RX5 yX5_layOutStrip wsX5_layOutStrip) := goodIn_app (goodIn_of _ (by decide +kernel)) ggX5_setColor_X5_layOutStrip
theorem dX5_setColor_0 : decode cX5_setColor 0 = .ok (.aload_n 0, 1) := by decide +kernel
theorem dX5_setColor_1 : decode cX5_setColor 1 = .ok (.getfield 26, 3) := by decide +kernel
theorem dX5_setColor_4 : decode cX5_setColor 4 = .ok (.iload_n 1, 1) := by decide +kernel
theorem dX5_setColor_5 : decode cX5_setColor 5 = .ok (.invokevirtual 115, 3) := by decide +kernel
theorem dX5_setColor_8 : decode cX5_setColor 8 = .ok (.astore_n 3, 1) := by decide +kernel
theorem dX5_setColor_9 : decode cX5_setColor 9 = .ok (.aload_n 3, 1) := by decide +kernel
theorem dX5_setColor_10 : decode cX5_setColor 10 = .ok (.ifnull 10, 3) := by decide +kernel
theorem dX5_setColor_13 : decode cX5_setColor 13 = .ok (.iload_n 2, 1) := by decide +kernel
theorem dX5_setColor_14 : decode cX5_setColor 14 = .ok (.invokestatic 107, 3) := by decide +kernel
theorem dX5_setColor_17 : decode cX5_setColor 17 = .ok (.ifCond .ne 6, 3) := by decide +kernel
theorem dX5_setColor_20 : decode cX5_setColor 20 = .ok (.bipush (-11), 2) := by decide +kernel
theorem dX5_setColor_22 : decode cX5_setColor 22 = .ok (.ireturn, 1) := by decide +kernel
theorem dX5_setColor_23 : decode cX5_setColor 23 = .ok (.aload_n 3, 1) := by decide +kernel
theorem dX5_setColor_24 : decode cX5_setColor 24 = .ok (.getfield 122, 3) := by decide +kernel
theorem dX5_setColor_27 : decode cX5_setColor 27 = .ok (.istore 4, 2) := by decide +kernel
theorem dX5_setColor_29 : decode cX5_setColor 29 = .ok (.aload_n 3, 1) := by decide +kernel
theorem dX5_setColor_30 : decode cX5_setColor 30 = .ok (.iload_n 2, 1) := by decide +kernel
theorem dX5_setColor_31 : decode cX5_setColor 31 = .ok (.putfield 122, 3) := by decide +kernel
theorem dX5_setColor_34 : decode cX5_setColor 34 = .ok (.aload_n 0, 1) := by decide +kernel
theorem dX5_setColor_35 : decode cX5_setColor 35 = .ok (.invokevirtual 79, 3) := by decide +kernel
theorem dX5_setColor_38 : decode cX5_setColor 38 = .ok (.iload 4, 2) := by decide +kernel
theorem dX5_setColor_40 : decode cX5_setColor 40 = .ok (.ireturn, 1) := by decide +kernel
set_option maxRecDepth 20000 in
theorem ggX5_messageWidth_X2_find : GoodIn wsX5_messageWidth wsX2_find := goodIn_r _ [6, 7, 8, 9, 10, 5, 11, 12, 13, 14, 15, 16, 17, 18, 19, 36, 37] (by decide +kernel) (by decide +kernel)
set_option maxRecDepth 20000 in
theorem gX5_messageWidth_X2_find : GoodIn wsX5_messageWidth (wsV RX5 115 RX2 yX2_find wsX2_find) := goodIn_app (goodIn_of _ (by decide +kernel)) ggX5_messageWidth_X2_find
theorem dX5_messageWidth_0 : decode cX5_messageWidth 0 = .ok (.aload_n 0, 1) := by decide +kernel
theorem dX5_messageWidth_1 : decode cX5_messageWidth 1 = .ok (.getfield 26, 3) := by decide +kernel
theorem dX5_messageWidth_4 : decode cX5_messageWidth 4 = .ok (.iload_n 1, 1) := by decide +kernel
theorem dX5_messageWidth_5 : decode cX5_messageWidth 5 = .ok (.invokevirtual 115, 3) := by decide +kernel
theorem dX5_messageWidth_8 : decode cX5_messageWidth 8 = .ok (.astore_n 2, 1) := by decide +kernel
theorem dX5_messageWidth_9 : decode cX5_messageWidth 9 = .ok (.aload_n 2, 1) := by decide +kernel
theorem dX5_messageWidth_10 : decode cX5_messageWidth 10 = .ok (.ifnonnull 8, 3) := by decide +kernel
theorem dX5_messageWidth_13 : decode cX5_messageWidth 13 = .ok (.bipush (-11), 2) := by decide +kernel
theorem dX5_messageWidth_15 : decode cX5_messageWidth 15 = .ok (.goto 7, 3) := by decide +kernel
theorem dX5_messageWidth_18 : decode cX5_messageWidth 18 = .ok (.aload_n 2, 1) := by decide +kernel
theorem dX5_messageWidth_19 : decode cX5_messageWidth 19 = .ok (.getfield 127, 3) := by decide +kernel
theorem dX5_messageWidth_22 : decode cX5_messageWidth 22 = .ok (.ireturn, 1) := by decide +kernel
set_option maxRecDepth 20000 in
theorem ggX5_messageStart_X2_find : GoodIn wsX5_messageStart wsX2_find := goodIn_r _ [6, 7, 8, 9, 10, 5, 11, 12, 13, 14, 15, 16, 17, 18, 19, 36, 37] (by decide +kernel) (by decide +kernel)
set_option maxRecDepth 20000 in
theorem gX5_messageStart_X2_find : GoodIn wsX5_messageStart (wsV RX5 115 RX2 yX2_find wsX2_find) := goodIn_app (goodIn_of _ (by decide +kernel)) ggX5_messageStart_X2_find
theorem dX5_messageStart_0 : decode cX5_messageStart 0 = .ok (.aload_n 0, 1) := by decide +kernel
theorem dX5_messageStart_1 : decode cX5_messageStart 1 = .ok (.getfield 26, 3) := by decide +kernel
theorem dX5_messageStart_4 : decode cX5_messageStart 4 = .ok (.iload_n 1, 1) := by decide +kernel
theorem dX5_messageStart_5 : decode cX5_messageStart 5 = .ok (.invokevirtual 115, 3) := by decide +kernel
theorem dX5_messageStart_8 : decode cX5_messageStart 8 = .ok (.astore_n 2, 1) := by decide +kernel
theorem dX5_messageStart_9 : decode cX5_messageStart 9 = .ok (.aload_n 2, 1) := by decide +kernel
theorem dX5_messageStart_10 : decode cX5_messageStart 10 = .ok (.ifnonnull 8, 3) := by decide +kernel
theorem dX5_messageStart_13 : decode cX5_messageStart 13 = .ok (.bipush (-11), 2) := by decide +kernel
theorem dX5_messageStart_15 : decode cX5_messageStart 15 = .ok (.goto 7, 3) := by decide +kernel
theorem dX5_messageStart_18 : decode cX5_messageStart 18 = .ok (.aload_n 2, 1) := by decide +kernel
theorem dX5_messageStart_19 : decode cX5_messageStart 19 = .ok (.getfield 130, 3) := by decide +kernel
theorem dX5_messageStart_22 : decode cX5_messageStart 22 = .ok (.ireturn, 1) := by decide +kernel
set_option maxRecDepth 20000 in
theorem ggX5_setColumns_X5_isWithin : GoodIn wsX5_setColumns wsX5_isWithin := goodIn_r _ [6] (by decide +kernel) (by decide +kernel)
set_option maxRecDepth 20000 in
theorem gX5_setColumns_X5_isWithin : GoodIn wsX5_setColumns (va_wsS RX5 67 yX5_isWithin wsX5_isWithin) := goodIn_app (goodIn_of _ (by decide +kernel)) ggX5_setColumns_X5_isWithin
theorem dX5_setColumns_0 : decode cX5_setColumns 0 = .ok (.iload_n 1, 1) := by decide +kernel
theorem dX5_setColumns_1 : decode cX5_setColumns 1 = .ok (.bipush 8, 2) := by decide +kernel
theorem dX5_setColumns_3 : decode cX5_setColumns 3 = .ok (.bipush 32, 2) := by decide +kernel
theorem dX5_setColumns_5 : decode cX5_setColumns 5 = .ok (.invokestatic 67, 3) := by decide +kernel
theorem dX5_setColumns_8 : decode cX5_setColumns 8 = .ok (.ifCond .ne 6, 3) := by decide +kernel
theorem dX5_setColumns_11 : decode cX5_setColumns 11 = .ok (.bipush (-11), 2) := by decide +kernel
theorem dX5_setColumns_13 : decode cX5_setColumns 13 = .ok (.ireturn, 1) := by decide +kernel
theorem dX5_setColumns_14 : decode cX5_setColumns 14 = .ok (.aload_n 0, 1) := by decide +kernel
theorem dX5_setColumns_15 : decode cX5_setColumns 15 = .ok (.getfield 41, 3) := by decide +kernel
theorem dX5_setColumns_18 : decode cX5_setColumns 18 = .ok (.istore_n 2, 1) := by decide +kernel
theorem dX5_setColumns_19 : decode cX5_setColumns 19 = .ok (.aload_n 0, 1) := by decide +kernel
theorem dX5_setColumns_20 : decode cX5_setColumns 20 = .ok (.iload_n 1, 1) := by decide +kernel
theorem dX5_setColumns_21 : decode cX5_setColumns 21 = .ok (.putfield 41, 3) := by decide +kernel
theorem dX5_setColumns_24 : decode cX5_setColumns 24 = .ok (.iload_n 1, 1) := by decide +kernel
theorem dX5_setColumns_25 : decode cX5_setColumns 25 = .ok (.istore_n 3, 1) := by decide +kernel
theorem dX5_setColumns_26 : decode cX5_setColumns 26 = .ok (.iload_n 3, 1) := by decide +kernel
theorem dX5_setColumns_27 : decode cX5_setColumns 27 = .ok (.aload_n 0, 1) := by decide +kernel
theorem dX5_setColumns_28 : decode cX5_setColumns 28 = .ok (.getfield 37, 3) := by decide +kernel
theorem dX5_setColumns_31 : decode cX5_setColumns 31 = .ok (.arraylength, 1) := by decide +kernel
theorem dX5_setColumns_32 : decode cX5_setColumns 32 = .ok (.if_icmp .ge 16, 3) := by decide +kernel
theorem dX5_setColumns_35 : decode cX5_setColumns 35 = .ok (.aload_n 0, 1) := by decide +kernel
theorem dX5_setColumns_36 : decode cX5_setColumns 36 = .ok (.getfield 37, 3) := by decide +kernel
theorem dX5_setColumns_39 : decode cX5_setColumns 39 = .ok (.iload_n 3, 1) := by decide +kernel
theorem dX5_setColumns_40 : decode cX5_setColumns 40 = .ok (.iconst 0, 1) := by decide +kernel
theorem dX5_setColumns_41 : decode cX5_setColumns 41 = .ok (.iastore, 1) := by decide +kernel
theorem dX5_setColumns_42 : decode cX5_setColumns 42 = .ok (.iinc 3 1, 3) := by decide +kernel
theorem dX5_setColumns_45 : decode cX5_setColumns 45 = .ok (.goto (-19), 3) := by decide +kernel
theorem dX5_setColumns_48 : decode cX5_setColumns 48 = .ok (.iload_n 2, 1) := by decide +kernel
theorem dX5_setColumns_49 : decode cX5_setColumns 49 = .ok (.ireturn, 1) := by decide +kernel
set_option maxRecDepth 20000 in
theorem ggX5_setGap_X5_isWithin : GoodIn wsX5_setGap wsX5_isWithin := goodIn_r _ [5] (by decide +kernel) (by decide +kernel)
set_option maxRecDepth 20000 in
theorem gX5_setGap_X5_isWithin : GoodIn wsX5_setGap (va_wsS RX5 67 yX5_isWithin wsX5_isWithin) := goodIn_app (goodIn_of _ (by decide +kernel)) ggX5_setGap_X5_isWithin
set_option maxRecDepth 20000 in
theorem ggX5_setGap_X5_layOutStrip : GoodIn wsX5_setGap wsX5_layOutStrip := goodIn_r _ [9, 10, 11, 12, 1, 13, 14, 15, 16, 17, 18, 19, 20, 21, 22, 23, 24, 25, 26, 27, 28, 29, 30, 31, 32, 33, 34, 3, 4, 5, 35, 36, 37, 38, 39, 40, 41, 42, 43, 44, 45, 46, 47, 48, 49, 50, 51, 52, 53, 54, 55, 56, 57, 58, 59, 60, 61, 62, 63, 64, 65, 66, 67, 68, 69, 70, 71, 72, 73, 74, 75, 76, 77, 78, 79, 80, 81, 82, 83, 84, 85, 86, 87, 88, 89, 90, 91, 92, 93, 94] (by decide +kernel) (by decide +kernel)
set_option maxRecDepth 20000 in
theorem gX5_setGap_X5_layOutStrip : GoodIn wsX5_setGap (wsV RX5 79 RX5 yX5_layOutStrip wsX5_layOutStrip) := goodIn_app (goodIn_of _ (by decide +kernel)) ggX5_setGap_X5_layOutStrip
theorem dX5_setGap_0 : decode cX5_setGap 0 = .ok (.iload_n 1, 1) := by decide +kernel
theorem dX5_setGap_1 : decode cX5_setGap 1 = .ok (.iconst 0, 1) := by decide +kernel
theorem dX5_setGap_2 : decode cX5_setGap 2 = .ok (.bipush 9, 2) := by decide +kernel
theorem dX5_setGap_4 : decode cX5_setGap 4 = .ok (.invokestatic 67, 3) := by decide +kernel
theorem dX5_setGap_7 : decode cX5_setGap 7 = .ok (.ifCond .ne 6, 3) := by decide +kernel
theorem dX5_setGap_10 : decode cX5_setGap 10 = .ok (.bipush (-11), 2) := by decide +kernel
theorem dX5_setGap_12 : decode cX5_setGap 12 = .ok (.ireturn, 1) := by decide +kernel
theorem dX5_setGap_13 : decode cX5_setGap 13 = .ok (.aload_n 0, 1) := by decide +kernel
theorem dX5_setGap_14 : decode cX5_setGap 14 = .ok (.getfield 45, 3) := by decide +kernel
theorem dX5_setGap_17 : decode cX5_setGap 17 = .ok (.istore_n 2, 1) := by decide +kernel
theorem dX5_setGap_18 : decode cX5_setGap 18 = .ok (.aload_n 0, 1) := by decide +kernel
theorem dX5_setGap_19 : decode cX5_setGap 19 = .ok (.iload_n 1, 1) := by decide +kernel
theorem dX5_setGap_20 : decode cX5_setGap 20 = .ok (.putfield 45, 3) := by decide +kernel
theorem dX5_setGap_23 : decode cX5_setGap 23 = .ok (.aload_n 0, 1) := by decide +kernel
theorem dX5_setGap_24 : decode cX5_setGap 24 = .ok (.invokevirtual 79, 3) := by decide +kernel
theorem dX5_setGap_27 : decode cX5_setGap 27 = .ok (.iload_n 2, 1) := by decide +kernel
theorem dX5_setGap_28 : decode cX5_setGap 28 = .ok (.ireturn, 1) := by decide +kernel
set_option maxRecDepth 20000 in
theorem ggX5_setSpeed_X5_isWithin : GoodIn wsX5_setSpeed wsX5_isWithin := goodIn_r _ [6] (by decide +kernel) (by decide +kernel)
set_option maxRecDepth 20000 in
theorem gX5_setSpeed_X5_isWithin : GoodIn wsX5_setSpeed (va_wsS RX5 67 yX5_isWithin wsX5_isWithin) := goodIn_app (goodIn_of _ (by decide +kernel)) ggX5_setSpeed_X5_isWithin
theorem dX5_setSpeed_0 : decode cX5_setSpeed 0 = .ok (.iload_n 1, 1) := by decide +kernel
theorem dX5_setSpeed_1 : decode cX5_setSpeed 1 = .ok (.iconst 1, 1) := by decide +kernel
theorem dX5_setSpeed_2 : decode cX5_setSpeed 2 = .ok (.bipush 9, 2) := by decide +kernel
theorem dX5_setSpeed_4 : decode cX5_setSpeed 4 = .ok (.invokestatic 67, 3) := by decide +kernel
theorem dX5_setSpeed_7 : decode cX5_setSpeed 7 = .ok (.ifCond .ne 6, 3) := by decide +kernel
theorem dX5_setSpeed_10 : decode cX5_setSpeed 10 = .ok (.bipush (-11), 2) := by decide +kernel
theorem dX5_setSpeed_12 : decode cX5_setSpeed 12 = .ok (.ireturn, 1) := by decide +kernel
theorem dX5_setSpeed_13 : decode cX5_setSpeed 13 = .ok (.aload_n 0, 1) := by decide +kernel
theorem dX5_setSpeed_14 : decode cX5_setSpeed 14 = .ok (.getfield 48, 3) := by decide +kernel
theorem dX5_setSpeed_17 : decode cX5_setSpeed 17 = .ok (.istore_n 2, 1) := by decide +kernel
theorem dX5_setSpeed_18 : decode cX5_setSpeed 18 = .ok (.aload_n 0, 1) := by decide +kernel
theorem dX5_setSpeed_19 : decode cX5_setSpeed 19 = .ok (.iload_n 1, 1) := by decide +kernel
theorem dX5_setSpeed_20 : decode cX5_setSpeed 20 = .ok (.putfield 48, 3) := by decide +kernel
theorem dX5_setSpeed_23 : decode cX5_setSpeed 23 = .ok (.aload_n 0, 1) := by decide +kernel
theorem dX5_setSpeed_24 : decode cX5_setSpeed 24 = .ok (.iconst 0, 1) := by decide +kernel
theorem dX5_setSpeed_25 : decode cX5_setSpeed 25 = .ok (.putfield 60, 3) := by decide +kernel
theorem dX5_setSpeed_28 : decode cX5_setSpeed 28 = .ok (.iload_n 2, 1) := by decide +kernel
theorem dX5_setSpeed_29 : decode cX5_setSpeed 29 = .ok (.ireturn, 1) := by decide +kernel
set_option maxRecDepth 20000 in
theorem ggX5_setShift_X5_isShift : GoodIn wsX5_setShift wsX5_isShift := goodIn_r _ [5, 6, 7, 4, 8] (by decide +kernel) (by decide +kernel)
set_option maxRecDepth 20000 in
theorem gX5_setShift_X5_isShift : GoodIn wsX5_setShift (va_wsS RX5 133 yX5_isShift wsX5_isShift) := goodIn_app (goodIn_of _ (by decide +kernel)) ggX5_setShift_X5_isShift
theorem dX5_setShift_0 : decode cX5_setShift 0 = .ok (.iload_n 1, 1) := by decide +kernel
theorem dX5_setShift_1 : decode cX5_setShift 1 = .ok (.invokestatic 133, 3) := by decide +kernel
theorem dX5_setShift_4 : decode cX5_setShift 4 = .ok (.ifCond .ne 6, 3) := by decide +kernel
theorem dX5_setShift_7 : decode cX5_setShift 7 = .ok (.bipush (-11), 2) := by decide +kernel
theorem dX5_setShift_9 : decode cX5_setShift 9 = .ok (.ireturn, 1) := by decide +kernel
theorem dX5_setShift_10 : decode cX5_setShift 10 = .ok (.aload_n 0, 1) := by decide +kernel
theorem dX5_setShift_11 : decode cX5_setShift 11 = .ok (.getfield 51, 3) := by decide +kernel
theorem dX5_setShift_14 : decode cX5_setShift 14 = .ok (.istore_n 2, 1) := by decide +kernel
theorem dX5_setShift_15 : decode cX5_setShift 15 = .ok (.aload_n 0, 1) := by decide +kernel
theorem dX5_setShift_16 : decode cX5_setShift 16 = .ok (.iload_n 1, 1) := by decide +kernel
theorem dX5_setShift_17 : decode cX5_setShift 17 = .ok (.putfield 51, 3) := by decide +kernel
theorem dX5_setShift_20 : decode cX5_setShift 20 = .ok (.iload_n 2, 1) := by decide +kernel
theorem dX5_setShift_21 : decode cX5_setShift 21 = .ok (.ireturn, 1) := by decide +kernel
set_option maxRecDepth 20000 in
theorem ggX5_setBudget_X5_isWithin : GoodIn wsX5_setBudget wsX5_isWithin := goodIn_r _ [5] (by decide +kernel) (by decide +kernel)
set_option maxRecDepth 20000 in
theorem gX5_setBudget_X5_isWithin : GoodIn wsX5_setBudget (va_wsS RX5 67 yX5_isWithin wsX5_isWithin) := goodIn_app (goodIn_of _ (by decide +kernel)) ggX5_setBudget_X5_isWithin
theorem dX5_setBudget_0 : decode cX5_setBudget 0 = .ok (.iload_n 1, 1) := by decide +kernel
theorem dX5_setBudget_1 : decode cX5_setBudget 1 = .ok (.iconst 1, 1) := by decide +kernel
theorem dX5_setBudget_2 : decode cX5_setBudget 2 = .ok (.sipush 999, 3) := by decide +kernel
theorem dX5_setBudget_5 : decode cX5_setBudget 5 = .ok (.invokestatic 67, 3) := by decide +kernel
theorem dX5_setBudget_8 : decode cX5_setBudget 8 = .ok (.ifCond .ne 6, 3) := by decide +kernel
theorem dX5_setBudget_11 : decode cX5_setBudget 11 = .ok (.bipush (-11), 2) := by decide +kernel
theorem dX5_setBudget_13 : decode cX5_setBudget 13 = .ok (.ireturn, 1) := by decide +kernel
theorem dX5_setBudget_14 : decode cX5_setBudget 14 = .ok (.aload_n 0, 1) := by decide +kernel
theorem dX5_setBudget_15 : decode cX5_setBudget 15 = .ok (.getfield 54, 3) := by decide +kernel
theorem dX5_setBudget_18 : decode cX5_setBudget 18 = .ok (.istore_n 2, 1) := by decide +kernel
theorem dX5_setBudget_19 : decode cX5_setBudget 19 = .ok (.aload_n 0, 1) := by decide +kernel
theorem dX5_setBudget_20 : decode cX5_setBudget 20 = .ok (.iload_n 1, 1) := by decide +kernel
theorem dX5_setBudget_21 : decode cX5_setBudget 21 = .ok (.putfield 54, 3) := by decide +kernel
theorem dX5_setBudget_24 : decode cX5_setBudget 24 = .ok (.iload_n 2, 1) := by decide +kernel
theorem dX5_setBudget_25 : decode cX5_setBudget 25 = .ok (.ireturn, 1) := by decide +kernel
set_option maxRecDepth 20000 in
theorem ggX5_setDefective_X5_isLed : GoodIn wsX5_setDefective wsX5_isLed := goodIn_r _ [5, 6, 7, 8, 4, 9, 34, 35, 36, 37, 38, 39, 40, 41, 42, 43, 44, 45] (by decide +kernel) (by decide +kernel)
set_option maxRecDepth 20000 in
theorem gX5_setDefective_X5_isLed : GoodIn wsX5_setDefective (wsV RX5 136 RX5 yX5_isLed wsX5_isLed) := goodIn_app (goodIn_of _ (by decide +kernel)) ggX5_setDefective_X5_isLed
set_option maxRecDepth 20000 in
theorem ggX5_setDefective_X5_isDefective : GoodIn wsX5_setDefective wsX5_isDefective := goodIn_r _ [13, 14, 15, 16, 4, 17, 18, 7, 8, 9, 34, 35, 36, 37, 38, 39, 40, 41, 42, 43, 44, 45] (by decide +kernel) (by decide +kernel)
set_option maxRecDepth 20000 in
theorem gX5_setDefective_X5_isDefective : GoodIn wsX5_setDefective (wsV RX5 139 RX5 yX5_isDefective wsX5_isDefective) := goodIn_app (goodIn_of _ (by decide +kernel)) ggX5_setDefective_X5_isDefective
set_option maxRecDepth 20000 in
theorem ggX5_setDefective_X5_flipDefect : GoodIn wsX5_setDefective wsX5_flipDefect := goodIn_r _ [22, 18, 7, 8, 4, 9, 34, 35, 36, 37, 38, 39, 40, 41, 42, 43, 44, 45] (by decide +kernel) (by decide +kernel)
set_option maxRecDepth 20000 in
theorem gX5_setDefective_X5_flipDefect : GoodIn wsX5_setDefective (wsV RX5 142 RX5 yX5_flipDefect wsX5_flipDefect) := goodIn_app (goodIn_of _ (by decide +kernel)) ggX5_setDefective_X5_flipDefect
set_option maxRecDepth 20000 in
theorem ggX5_setDefective_X5_countDefects : GoodIn wsX5_setDefective wsX5_countDefects := goodIn_r _ [26, 18, 27, 28, 29, 30, 31, 32, 33, 34, 35, 36, 37, 38, 39, 40, 41, 42, 43, 44, 45] (by decide +kernel) (by decide +kernel)
set_option maxRecDepth 20000 in
theorem gX5_setDefective_X5_countDefects : GoodIn wsX5_setDefective (wsV RX5 145 RX5 yX5_countDefects wsX5_countDefects) := goodIn_app (goodIn_of _ (by decide +kernel)) ggX5_setDefective_X5_countDefects
theorem dX5_setDefective_0 : decode cX5_setDefective 0 = .ok (.aload_n 0, 1) := by decide +kernel
theorem dX5_setDefective_1 : decode cX5_setDefective 1 = .ok (.iload_n 1, 1) := by decide +kernel
theorem dX5_setDefective_2 : decode cX5_setDefective 2 = .ok (.iload_n 2, 1) := by decide +kernel
theorem dX5_setDefective_3 : decode cX5_setDefective 3 = .ok (.invokevirtual 136, 3) := by decide +kernel
theorem dX5_setDefective_6 : decode cX5_setDefective 6 = .ok (.ifCond .ne 6, 3) := by decide +kernel
theorem dX5_setDefective_9 : decode cX5_setDefective 9 = .ok (.bipush (-11), 2) := by decide +kernel
theorem dX5_setDefective_11 : decode cX5_setDefective 11 = .ok (.ireturn, 1) := by decide +kernel
theorem dX5_setDefective_12 : decode cX5_setDefective 12 = .ok (.aload_n 0, 1) := by decide +kernel
theorem dX5_setDefective_13 : decode cX5_setDefective 13 = .ok (.iload_n 1, 1) := by decide +kernel
theorem dX5_setDefective_14 : decode cX5_setDefective 14 = .ok (.iload_n 2, 1) := by decide +kernel
theorem dX5_setDefective_15 : decode cX5_setDefective 15 = .ok (.invokevirtual 139, 3) := by decide +kernel
theorem dX5_setDefective_18 : decode cX5_setDefective 18 = .ok (.iload_n 3, 1) := by decide +kernel
theorem dX5_setDefective_19 : decode cX5_setDefective 19 = .ok (.if_icmp .ne 6, 3) := by decide +kernel
theorem dX5_setDefective_22 : decode cX5_setDefective 22 = .ok (.bipush (-12), 2) := by decide +kernel
theorem dX5_setDefective_24 : decode cX5_setDefective 24 = .ok (.ireturn, 1) := by decide +kernel
theorem dX5_setDefective_25 : decode cX5_setDefective 25 = .ok (.aload_n 0, 1) := by decide +kernel
theorem dX5_setDefective_26 : decode cX5_setDefective 26 = .ok (.iload_n 1, 1) := by decide +kernel
theorem dX5_setDefective_27 : decode cX5_setDefective 27 = .ok (.iload_n 2, 1) := by decide +kernel
theorem dX5_setDefective_28 : decode cX5_setDefective 28 = .ok (.invokevirtual 142, 3) := by decide +kernel
theorem dX5_setDefective_31 : decode cX5_setDefective 31 = .ok (.aload_n 0, 1) := by decide +kernel
theorem dX5_setDefective_32 : decode cX5_setDefective 32 = .ok (.invokevirtual 145, 3) := by decide +kernel
theorem dX5_setDefective_35 : decode cX5_setDefective 35 = .ok (.ireturn, 1) := by decide +kernel
set_option maxRecDepth 20000 in
theorem ggX5_tick_X5_isWithin : GoodIn wsX5_tick wsX5_isWithin := goodIn_r _ [8] (by decide +kernel) (by decide +kernel)
set_option maxRecDepth 20000 in
theorem gX5_tick_X5_isWithin : GoodIn wsX5_tick (va_wsS RX5 67 yX5_isWithin wsX5_isWithin) := goodIn_app (goodIn_of _ (by decide +kernel)) ggX5_tick_X5_isWithin
set_option maxRecDepth 20000 in
theorem ggX5_tick_X3_wrap : GoodIn wsX5_tick wsX3_wrap := goodIn_r _ [13, 14, 15, 16, 17, 18, 31, 32, 33] (by decide +kernel) (by decide +kernel)
set_option maxRecDepth 20000 in
theorem gX5_tick_X3_wrap : GoodIn wsX5_tick (wsV RX5 149 RX3 yX3_wrap wsX3_wrap) := goodIn_app (goodIn_of _ (by decide +kernel)) ggX5_tick_X3_wrap
theorem dX5_tick_0 : decode cX5_tick 0 = .ok (.iload_n 1, 1) := by decide +kernel
theorem dX5_tick_1 : decode cX5_tick 1 = .ok (.iconst 0, 1) := by decide +kernel
theorem dX5_tick_2 : decode cX5_tick 2 = .ok (.sipush 9999, 3) := by decide +kernel
theorem dX5_tick_5 : decode cX5_tick 5 = .ok (.invokestatic 67, 3) := by decide +kernel
theorem dX5_tick_8 : decode cX5_tick 8 = .ok (.ifCond .ne 6, 3) := by decide +kernel
theorem dX5_tick_11 : decode cX5_tick 11 = .ok (.bipush (-11), 2) := by decide +kernel
theorem dX5_tick_13 : decode cX5_tick 13 = .ok (.ireturn, 1) := by decide +kernel
theorem dX5_tick_14 : decode cX5_tick 14 = .ok (.aload_n 0, 1) := by decide +kernel
theorem dX5_tick_15 : decode cX5_tick 15 = .ok (.getfield 48, 3) := by decide +kernel
theorem dX5_tick_18 : decode cX5_tick 18 = .ok (.ifCond .le 42, 3) := by decide +kernel
theorem dX5_tick_21 : decode cX5_tick 21 = .ok (.aload_n 0, 1) := by decide +kernel
theorem dX5_tick_22 : decode cX5_tick 22 = .ok (.getfield 60, 3) := by decide +kernel
theorem dX5_tick_25 : decode cX5_tick 25 = .ok (.iload_n 1, 1) := by decide +kernel
theorem dX5_tick_26 : decode cX5_tick 26 = .ok (.iadd, 1) := by decide +kernel
theorem dX5_tick_27 : decode cX5_tick 27 = .ok (.istore_n 2, 1) := by decide +kernel
theorem dX5_tick_28 : decode cX5_tick 28 = .ok (.aload_n 0, 1) := by decide +kernel
theorem dX5_tick_29 : decode cX5_tick 29 = .ok (.iload_n 2, 1) := by decide +kernel
theorem dX5_tick_30 : decode cX5_tick 30 = .ok (.aload_n 0, 1) := by decide +kernel
theorem dX5_tick_31 : decode cX5_tick 31 = .ok (.getfield 48, 3) := by decide +kernel
theorem dX5_tick_34 : decode cX5_tick 34 = .ok (.irem, 1) := by decide +kernel
theorem dX5_tick_35 : decode cX5_tick 35 = .ok (.putfield 60, 3) := by decide +kernel
theorem dX5_tick_38 : decode cX5_tick 38 = .ok (.aload_n 0, 1) := by decide +kernel
theorem dX5_tick_39 : decode cX5_tick 39 = .ok (.aload_n 0, 1) := by decide +kernel
theorem dX5_tick_40 : decode cX5_tick 40 = .ok (.getfield 33, 3) := by decide +kernel
theorem dX5_tick_43 : decode cX5_tick 43 = .ok (.aload_n 0, 1) := by decide +kernel
theorem dX5_tick_44 : decode cX5_tick 44 = .ok (.getfield 57, 3) := by decide +kernel
theorem dX5_tick_47 : decode cX5_tick 47 = .ok (.iload_n 2, 1) := by decide +kernel
theorem dX5_tick_48 : decode cX5_tick 48 = .ok (.aload_n 0, 1) := by decide +kernel
theorem dX5_tick_49 : decode cX5_tick 49 = .ok (.getfield 48, 3) := by decide +kernel
theorem dX5_tick_52 : decode cX5_tick 52 = .ok (.idiv, 1) := by decide +kernel
theorem dX5_tick_53 : decode cX5_tick 53 = .ok (.iadd, 1) := by decide +kernel
theorem dX5_tick_54 : decode cX5_tick 54 = .ok (.invokevirtual 149, 3) := by decide +kernel
theorem dX5_tick_57 : decode cX5_tick 57 = .ok (.putfield 57, 3) := by decide +kernel
theorem dX5_tick_60 : decode cX5_tick 60 = .ok (.aload_n 0, 1) := by decide +kernel
theorem dX5_tick_61 : decode cX5_tick 61 = .ok (.getfield 57, 3) := by decide +kernel
theorem dX5_tick_64 : decode cX5_tick 64 = .ok (.ireturn, 1) := by decide +kernel
theorem dX5_offset_0 : decode cX5_offset 0 = .ok (.aload_n 0, 1) := by decide +kernel
theorem dX5_offset_1 : decode cX5_offset 1 = .ok (.getfield 57, 3) := by decide +kernel
theorem dX5_offset_4 : decode cX5_offset 4 = .ok (.ireturn, 1) := by decide +kernel
theorem dX5_stripLength_0 : decode cX5_stripLength 0 = .ok (.aload_n 0, 1) := by decide +kernel
theorem dX5_stripLength_1 : decode cX5_stripLength 1 = .ok (.getfield 33, 3) := by decide +kernel
theorem dX5_stripLength_4 : decode cX5_stripLength 4 = .ok (.getfield 114, 3) := by decide +kernel
theorem dX5_stripLength_7 : decode cX5_stripLength 7 = .ok (.ireturn, 1) := by decide +kernel
theorem dX5_period_0 : decode cX5_period 0 = .ok (.aload_n 0, 1) := by decide +kernel
theorem dX5_period_1 : decode cX5_period 1 = .ok (.getfield 33, 3) := by decide +kernel
theorem dX5_period_4 : decode cX5_period 4 = .ok (.getfield 114, 3) := by decide +kernel
theorem dX5_period_7 : decode cX5_period 7 = .ok (.aload_n 0, 1) := by decide +kernel
theorem dX5_period_8 : decode cX5_period 8 = .ok (.getfield 48, 3) := by decide +kernel
theorem dX5_period_11 : decode cX5_period 11 = .ok (.imul, 1) := by decide +kernel
theorem dX5_period_12 : decode cX5_period 12 = .ok (.ireturn, 1) := by decide +kernel
set_option maxRecDepth 20000 in
theorem ggX5_ticksUntilWhole_X2_find : GoodIn wsX5_ticksUntilWhole wsX2_find := goodIn_r _ [11, 12, 13, 14, 15, 10, 16, 17, 18, 19, 20, 21, 22, 23, 24, 51, 52] (by decide +kernel) (by decide +kernel)
set_option maxRecDepth 20000 in
theorem gX5_ticksUntilWhole_X2_find : GoodIn wsX5_ticksUntilWhole (wsV RX5 115 RX2 yX2_find wsX2_find) := goodIn_app (goodIn_of _ (by decide +kernel)) ggX5_ticksUntilWhole_X2_find
set_option maxRecDepth 20000 in
theorem ggX5_ticksUntilWhole_X3_wrap : GoodIn wsX5_ticksUntilWhole wsX3_wrap := goodIn_r _ [29, 30, 31, 32, 33, 34, 53, 54, 55] (by decide +kernel) (by decide +kernel)
set_option maxRecDepth 20000 in
theorem gX5_ticksUntilWhole_X3_wrap : GoodIn wsX5_ticksUntilWhole (wsV RX5 149 RX3 yX3_wrap wsX3_wrap) := goodIn_app (goodIn_of _ (by decide +kernel)) ggX5_ticksUntilWhole_X3_wrap
theorem dX5_ticksUntilWhole_0 : decode cX5_ticksUntilWhole 0 = .ok (.aload_n 0, 1) := by decide +kernel
theorem dX5_ticksUntilWhole_1 : decode cX5_ticksUntilWhole 1 = .ok (.getfield 26, 3) := by decide +kernel
theorem dX5_ticksUntilWhole_4 : decode cX5_ticksUntilWhole 4 = .ok (.iload_n 1, 1) := by decide +kernel
theorem dX5_ticksUntilWhole_5 : decode cX5_ticksUntilWhole 5 = .ok (.invokevirtual 115, 3) := by decide +kernel
theorem dX5_ticksUntilWhole_8 : decode cX5_ticksUntilWhole 8 = .ok (.astore_n 2, 1) := by decide +kernel
theorem dX5_ticksUntilWhole_9 : decode cX5_ticksUntilWhole 9 = .ok (.aload_n 2, 1) := by decide +kernel
theorem dX5_ticksUntilWhole_10 : decode cX5_ticksUntilWhole 10 = .ok (.ifnonnull 6, 3) := by decide +kernel
theorem dX5_ticksUntilWhole_13 : decode cX5_ticksUntilWhole 13 = .ok (.bipush (-11), 2) := by decide +kernel
theorem dX5_ticksUntilWhole_15 : decode cX5_ticksUntilWhole 15 = .ok (.ireturn, 1) := by decide +kernel
theorem dX5_ticksUntilWhole_16 : decode cX5_ticksUntilWhole 16 = .ok (.aload_n 0, 1) := by decide +kernel
theorem dX5_ticksUntilWhole_17 : decode cX5_ticksUntilWhole 17 = .ok (.getfield 41, 3) := by decide +kernel
theorem dX5_ticksUntilWhole_20 : decode cX5_ticksUntilWhole 20 = .ok (.aload_n 2, 1) := by decide +kernel
theorem dX5_ticksUntilWhole_21 : decode cX5_ticksUntilWhole 21 = .ok (.getfield 127, 3) := by decide +kernel
theorem dX5_ticksUntilWhole_24 : decode cX5_ticksUntilWhole 24 = .ok (.isub, 1) := by decide +kernel
theorem dX5_ticksUntilWhole_25 : decode cX5_ticksUntilWhole 25 = .ok (.istore_n 3, 1) := by decide +kernel
theorem dX5_ticksUntilWhole_26 : decode cX5_ticksUntilWhole 26 = .ok (.iload_n 3, 1) := by decide +kernel
theorem dX5_ticksUntilWhole_27 : decode cX5_ticksUntilWhole 27 = .ok (.ifCond .ge 6, 3) := by decide +kernel
theorem dX5_ticksUntilWhole_30 : decode cX5_ticksUntilWhole 30 = .ok (.bipush (-14), 2) := by decide +kernel
theorem dX5_ticksUntilWhole_32 : decode cX5_ticksUntilWhole 32 = .ok (.ireturn, 1) := by decide +kernel
theorem dX5_ticksUntilWhole_33 : decode cX5_ticksUntilWhole 33 = .ok (.aload_n 0, 1) := by decide +kernel
theorem dX5_ticksUntilWhole_34 : decode cX5_ticksUntilWhole 34 = .ok (.getfield 33, 3) := by decide +kernel
theorem dX5_ticksUntilWhole_37 : decode cX5_ticksUntilWhole 37 = .ok (.aload_n 2, 1) := by decide +kernel
theorem dX5_ticksUntilWhole_38 : decode cX5_ticksUntilWhole 38 = .ok (.getfield 130, 3) := by decide +kernel
theorem dX5_ticksUntilWhole_41 : decode cX5_ticksUntilWhole 41 = .ok (.aload_n 0, 1) := by decide +kernel
theorem dX5_ticksUntilWhole_42 : decode cX5_ticksUntilWhole 42 = .ok (.getfield 57, 3) := by decide +kernel
theorem dX5_ticksUntilWhole_45 : decode cX5_ticksUntilWhole 45 = .ok (.isub, 1) := by decide +kernel
theorem dX5_ticksUntilWhole_46 : decode cX5_ticksUntilWhole 46 = .ok (.invokevirtual 149, 3) := by decide +kernel
theorem dX5_ticksUntilWhole_49 : decode cX5_ticksUntilWhole 49 = .ok (.istore 4, 2) := by decide +kernel
theorem dX5_ticksUntilWhole_51 : decode cX5_ticksUntilWhole 51 = .ok (.iload 4, 2) := by decide +kernel
theorem dX5_ticksUntilWhole_53 : decode cX5_ticksUntilWhole 53 = .ok (.iload_n 3, 1) := by decide +kernel
theorem dX5_ticksUntilWhole_54 : decode cX5_ticksUntilWhole 54 = .ok (.if_icmp .gt 7, 3) := by decide +kernel
theorem dX5_ticksUntilWhole_57 : decode cX5_ticksUntilWhole 57 = .ok (.iconst 0, 1) := by decide +kernel
theorem dX5_ticksUntilWhole_58 : decode cX5_ticksUntilWhole 58 = .ok (.goto 17, 3) := by decide +kernel
theorem dX5_ticksUntilWhole_61 : decode cX5_ticksUntilWhole 61 = .ok (.iload 4, 2) := by decide +kernel
theorem dX5_ticksUntilWhole_63 : decode cX5_ticksUntilWhole 63 = .ok (.iload_n 3, 1) := by decide +kernel
theorem dX5_ticksUntilWhole_64 : decode cX5_ticksUntilWhole 64 = .ok (.isub, 1) := by decide +kernel
theorem dX5_ticksUntilWhole_65 : decode cX5_ticksUntilWhole 65 = .ok (.aload_n 0, 1) := by decide +kernel
theorem dX5_ticksUntilWhole_66 : decode cX5_ticksUntilWhole 66 = .ok (.getfield 48, 3) := by decide +kernel
theorem dX5_ticksUntilWhole_69 : decode cX5_ticksUntilWhole 69 = .ok (.imul, 1) := by decide +kernel
theorem dX5_ticksUntilWhole_70 : decode cX5_ticksUntilWhole 70 = .ok (.aload_n 0, 1) := by decide +kernel
theorem dX5_ticksUntilWhole_71 : decode cX5_ticksUntilWhole 71 = .ok (.getfield 60, 3) := by decide +kernel
theorem dX5_ticksUntilWhole_74 : decode cX5_ticksUntilWhole 74 = .ok (.isub, 1) := by decide +kernel
theorem dX5_ticksUntilWhole_75 : decode cX5_ticksUntilWhole 75 = .ok (.ireturn, 1) := by decide +kernel
set_option maxRecDepth 20000 in
theorem ggX5_pixel_X5_isLed : GoodIn wsX5_pixel wsX5_isLed := goodIn_r _ [7, 8, 9, 10, 6, 11, 45, 46, 47, 48, 49, 50, 51, 52, 53, 54, 55, 56] (by decide +kernel) (by decide +kernel)
set_option maxRecDepth 20000 in
theorem gX5_pixel_X5_isLed : GoodIn wsX5_pixel (wsV RX5 136 RX5 yX5_isLed wsX5_isLed) := goodIn_app (goodIn_of _ (by decide +kernel)) ggX5_pixel_X5_isLed
set_option maxRecDepth 20000 in
theorem ggX5_pixel_X5_litRows : GoodIn wsX5_pixel wsX5_litRows := goodIn_r _ [15, 2, 16, 17, 18, 19, 20, 21, 22, 23, 24, 25, 26, 27, 28, 29, 30, 31, 32, 33, 6, 34, 35, 36, 37, 38, 39, 9, 10, 11, 45, 46, 47, 48, 49, 50, 51, 52, 53, 54, 55, 56, 57, 58, 59] (by decide +kernel) (by decide +kernel)
set_option maxRecDepth 20000 in
theorem gX5_pixel_X5_litRows : GoodIn wsX5_pixel (wsV RX5 152 RX5 yX5_litRows wsX5_litRows) := goodIn_app (goodIn_of _ (by decide +kernel)) ggX5_pixel_X5_litRows
set_option maxRecDepth 20000 in
theorem ggX5_pixel_X3_colorAt : GoodIn wsX5_pixel wsX3_colorAt := goodIn_r _ [43, 22, 44, 24, 25, 26, 20, 27, 28, 29, 30, 31, 57, 58, 59] (by decide +kernel) (by decide +kernel)
set_option maxRecDepth 20000 in
theorem gX5_pixel_X3_colorAt : GoodIn wsX5_pixel (wsV RX5 155 RX3 yX3_colorAt wsX3_colorAt) := goodIn_app (goodIn_of _ (by decide +kernel)) ggX5_pixel_X3_colorAt
theorem dX5_pixel_0 : decode cX5_pixel 0 = .ok (.aload_n 0, 1) := by decide +kernel
theorem dX5_pixel_1 : decode cX5_pixel 1 = .ok (.iload_n 1, 1) := by decide +kernel
theorem dX5_pixel_2 : decode cX5_pixel 2 = .ok (.iload_n 2, 1) := by decide +kernel
theorem dX5_pixel_3 : decode cX5_pixel 3 = .ok (.invokevirtual 136, 3) := by decide +kernel
theorem dX5_pixel_6 : decode cX5_pixel 6 = .ok (.ifCond .ne 6, 3) := by decide +kernel
theorem dX5_pixel_9 : decode cX5_pixel 9 = .ok (.bipush (-11), 2) := by decide +kernel
theorem dX5_pixel_11 : decode cX5_pixel 11 = .ok (.ireturn, 1) := by decide +kernel
theorem dX5_pixel_12 : decode cX5_pixel 12 = .ok (.aload_n 0, 1) := by decide +kernel
theorem dX5_pixel_13 : decode cX5_pixel 13 = .ok (.aload_n 0, 1) := by decide +kernel
theorem dX5_pixel_14 : decode cX5_pixel 14 = .ok (.getfield 57, 3) := by decide +kernel
theorem dX5_pixel_17 : decode cX5_pixel 17 = .ok (.iload_n 2, 1) := by decide +kernel
theorem dX5_pixel_18 : decode cX5_pixel 18 = .ok (.invokevirtual 152, 3) := by decide +kernel
theorem dX5_pixel_21 : decode cX5_pixel 21 = .ok (.iload_n 1, 1) := by decide +kernel
theorem dX5_pixel_22 : decode cX5_pixel 22 = .ok (.ishr, 1) := by decide +kernel
theorem dX5_pixel_23 : decode cX5_pixel 23 = .ok (.iconst 1, 1) := by decide +kernel
theorem dX5_pixel_24 : decode cX5_pixel 24 = .ok (.iand, 1) := by decide +kernel
theorem dX5_pixel_25 : decode cX5_pixel 25 = .ok (.iconst 1, 1) := by decide +kernel
theorem dX5_pixel_26 : decode cX5_pixel 26 = .ok (.if_icmp .ne 7, 3) := by decide +kernel
theorem dX5_pixel_29 : decode cX5_pixel 29 = .ok (.iconst 1, 1) := by decide +kernel
theorem dX5_pixel_30 : decode cX5_pixel 30 = .ok (.goto 4, 3) := by decide +kernel
theorem dX5_pixel_33 : decode cX5_pixel 33 = .ok (.iconst 0, 1) := by decide +kernel
theorem dX5_pixel_34 : decode cX5_pixel 34 = .ok (.istore_n 3, 1) := by decide +kernel
theorem dX5_pixel_35 : decode cX5_pixel 35 = .ok (.iload_n 3, 1) := by decide +kernel
theorem dX5_pixel_36 : decode cX5_pixel 36 = .ok (.ifCond .eq 19, 3) := by decide +kernel
theorem dX5_pixel_39 : decode cX5_pixel 39 = .ok (.aload_n 0, 1) := by decide +kernel
theorem dX5_pixel_40 : decode cX5_pixel 40 = .ok (.getfield 33, 3) := by decide +kernel
theorem dX5_pixel_43 : decode cX5_pixel 43 = .ok (.aload_n 0, 1) := by decide +kernel
theorem dX5_pixel_44 : decode cX5_pixel 44 = .ok (.getfield 57, 3) := by decide +kernel
theorem dX5_pixel_47 : decode cX5_pixel 47 = .ok (.iload_n 2, 1) := by decide +kernel
theorem dX5_pixel_48 : decode cX5_pixel 48 = .ok (.iadd, 1) := by decide +kernel
theorem dX5_pixel_49 : decode cX5_pixel 49 = .ok (.invokevirtual 155, 3) := by decide +kernel
theorem dX5_pixel_52 : decode cX5_pixel 52 = .ok (.goto 4, 3) := by decide +kernel
theorem dX5_pixel_55 : decode cX5_pixel 55 = .ok (.iconst 0, 1) := by decide +kernel
theorem dX5_pixel_56 : decode cX5_pixel 56 = .ok (.ireturn, 1) := by decide +kernel
set_option maxRecDepth 20000 in
theorem ggX5_load_X5_loadFrom : GoodIn wsX5_load wsX5_loadFrom := goodIn_r _ [6, 7, 8, 9, 10, 11, 12, 13, 14, 15, 16, 17, 18, 19, 20, 21, 22, 23, 24, 25, 26, 5, 27, 28, 29, 30, 31, 32, 33, 34, 35, 36, 37, 38, 39, 40, 41, 42, 43, 44, 45, 46, 47, 48, 49, 50, 51, 52, 53, 54, 55, 56, 57, 58, 59, 60, 61, 62, 63, 64, 65, 66] (by decide +kernel) (by decide +kernel)
set_option maxRecDepth 20000 in
theorem gX5_load_X5_loadFrom : GoodIn wsX5_load (wsV RX5 158 RX5 yX5_loadFrom wsX5_loadFrom) := goodIn_app (goodIn_of _ (by decide +kernel)) ggX5_load_X5_loadFrom
theorem dX5_load_0 : decode cX5_load 0 = .ok (.aload_n 0, 1) := by decide +kernel
theorem dX5_load_1 : decode cX5_load 1 = .ok (.aload_n 0, 1) := by decide +kernel
theorem dX5_load_2 : decode cX5_load 2 = .ok (.getfield 57, 3) := by decide +kernel
theorem dX5_load_5 : decode cX5_load 5 = .ok (.invokevirtual 158, 3) := by decide +kernel
theorem dX5_load_8 : decode cX5_load 8 = .ok (.ireturn, 1) := by decide +kernel
set_option maxRecDepth 20000 in
theorem ggX5_brightness_X5_loadFrom : GoodIn wsX5_brightness wsX5_loadFrom := goodIn_r _ [7, 8, 9, 10, 11, 12, 13, 14, 15, 16, 17, 18, 19, 20, 21, 22, 23, 24, 25, 26, 27, 6, 28, 29, 30, 31, 32, 33, 34, 35, 36, 37, 38, 39, 40, 41, 42, 43, 44, 45, 46, 47, 48, 49, 50, 51, 52, 53, 54, 55, 56, 57, 58, 59, 60, 61, 62, 63, 64, 65, 66, 67] (by decide +kernel) (by decide +kernel)
set_option maxRecDepth 20000 in
theorem gX5_brightness_X5_loadFrom : GoodIn wsX5_brightness (wsV RX5 158 RX5 yX5_loadFrom wsX5_loadFrom) := goodIn_app (goodIn_of _ (by decide +kernel)) ggX5_brightness_X5_loadFrom
theorem dX5_brightness_0 : decode cX5_brightness 0 = .ok (.aload_n 0, 1) := by decide +kernel
theorem dX5_brightness_1 : decode cX5_brightness 1 = .ok (.aload_n 0, 1) := by decide +kernel
theorem dX5_brightness_2 : decode cX5_brightness 2 = .ok (.getfield 57, 3) := by decide +kernel
theorem dX5_brightness_5 : decode cX5_brightness 5 = .ok (.invokevirtual 158, 3) := by decide +kernel
theorem dX5_brightness_8 : decode cX5_brightness 8 = .ok (.istore_n 1, 1) := by decide +kernel
theorem dX5_brightness_9 : decode cX5_brightness 9 = .ok (.iload_n 1, 1) := by decide +kernel
theorem dX5_brightness_10 : decode cX5_brightness 10 = .ok (.ifCond .le 11, 3) := by decide +kernel
theorem dX5_brightness_13 : decode cX5_brightness 13 = .ok (.iload_n 1, 1) := by decide +kernel
theorem dX5_brightness_14 : decode cX5_brightness 14 = .ok (.aload_n 0, 1) := by decide +kernel
theorem dX5_brightness_15 : decode cX5_brightness 15 = .ok (.getfield 54, 3) := by decide +kernel
theorem dX5_brightness_18 : decode cX5_brightness 18 = .ok (.if_icmp .gt 6, 3) := by decide +kernel
theorem dX5_brightness_21 : decode cX5_brightness 21 = .ok (.bipush 15, 2) := by decide +kernel
theorem dX5_brightness_23 : decode cX5_brightness 23 = .ok (.ireturn, 1) := by decide +kernel
theorem dX5_brightness_24 : decode cX5_brightness 24 = .ok (.bipush 15, 2) := by decide +kernel
theorem dX5_brightness_26 : decode cX5_brightness 26 = .ok (.aload_n 0, 1) := by decide +kernel
theorem dX5_brightness_27 : decode cX5_brightness 27 = .ok (.getfield 54, 3) := by decide +kernel
theorem dX5_brightness_30 : decode cX5_brightness 30 = .ok (.imul, 1) := by decide +kernel
theorem dX5_brightness_31 : decode cX5_brightness 31 = .ok (.iload_n 1, 1) := by decide +kernel
theorem dX5_brightness_32 : decode cX5_brightness 32 = .ok (.idiv, 1) := by decide +kernel
theorem dX5_brightness_33 : decode cX5_brightness 33 = .ok (.ireturn, 1) := by decide +kernel
set_option maxRecDepth 20000 in
theorem ggX5_peakLoad_X5_heaviestOffset : GoodIn wsX5_peakLoad wsX5_heaviestOffset := goodIn_r _ [5, 6, 7, 8, 9, 4, 10, 11, 12, 13, 14, 15, 16, 17, 18, 19, 20, 21, 22, 23, 24, 25, 26, 27, 28, 29, 30, 31, 32, 33, 34, 35, 36, 37, 38, 39, 40, 41, 42, 43, 44, 45, 46, 47, 48, 49, 50, 51, 52, 53, 54, 55, 56, 57, 58, 59, 60, 61, 62, 63, 64, 65, 66, 67, 68, 69] (by decide +kernel) (by decide +kernel)
set_option maxRecDepth 20000 in
theorem gX5_peakLoad_X5_heaviestOffset : GoodIn wsX5_peakLoad (wsV RX5 161 RX5 yX5_heaviestOffset wsX5_heaviestOffset) := goodIn_app (goodIn_of _ (by decide +kernel)) ggX5_peakLoad_X5_heaviestOffset
set_option maxRecDepth 20000 in
theorem ggX5_peakLoad_X5_loadFrom : GoodIn wsX5_peakLoad wsX5_loadFrom := goodIn_r _ [10, 11, 6, 12, 13, 14, 15, 16, 17, 18, 19, 20, 21, 22, 23, 24, 25, 26, 27, 28, 29, 4, 30, 31, 32, 33, 34, 35, 36, 37, 38, 39, 40, 41, 42, 43, 44, 45, 46, 47, 48, 49, 50, 51, 52, 53, 54, 55, 56, 57, 58, 59, 60, 61, 62, 63, 64, 65, 66, 67, 68, 69] (by decide +kernel) (by decide +kernel)
set_option maxRecDepth 20000 in
theorem gX5_peakLoad_X5_loadFrom : GoodIn wsX5_peakLoad (wsV RX5 158 RX5 yX5_loadFrom wsX5_loadFrom) := goodIn_app (goodIn_of _ (by decide +kernel)) ggX5_peakLoad_X5_loadFrom
theorem dX5_peakLoad_0 : decode cX5_peakLoad 0 = .ok (.aload_n 0, 1) := by decide +kernel
theorem dX5_peakLoad_1 : decode cX5_peakLoad 1 = .ok (.aload_n 0, 1) := by decide +kernel
theorem dX5_peakLoad_2 : decode cX5_peakLoad 2 = .ok (.invokevirtual 161, 3) := by decide +kernel
theorem dX5_peakLoad_5 : decode cX5_peakLoad 5 = .ok (.invokevirtual 158, 3) := by decide +kernel
theorem dX5_peakLoad_8 : decode cX5_peakLoad 8 = .ok (.ireturn, 1) := by decide +kernel
set_option maxRecDepth 20000 in
theorem ggX5_peakOffset_X5_heaviestOffset : GoodIn wsX5_peakOffset wsX5_heaviestOffset := goodIn_r _ [6, 1, 7, 8, 9, 5, 10, 11, 12, 13, 14, 15, 16, 17, 18, 19, 20, 21, 22, 23, 24, 25, 26, 27, 28, 29, 30, 31, 32, 33, 34, 35, 36, 37, 38, 39, 40, 41, 42, 43, 44, 45, 46, 47, 48, 49, 50, 51, 52, 53, 54, 55, 56, 57, 58, 59, 60, 61, 62, 63, 64, 65, 66, 67, 68, 69] (by decide +kernel) (by decide +kernel)
set_option maxRecDepth 20000 in
theorem gX5_peakOffset_X5_heaviestOffset : GoodIn wsX5_peakOffset (wsV RX5 161 RX5 yX5_heaviestOffset wsX5_heaviestOffset) := goodIn_app (goodIn_of _ (by decide +kernel)) ggX5_peakOffset_X5_heaviestOffset
theorem dX5_peakOffset_0 : decode cX5_peakOffset 0 = .ok (.aload_n 0, 1) := by decide +kernel
theorem dX5_peakOffset_1 : decode cX5_peakOffset 1 = .ok (.getfield 33, 3) := by decide +kernel
theorem dX5_peakOffset_4 : decode cX5_peakOffset 4 = .ok (.getfield 114, 3) := by decide +kernel
theorem dX5_peakOffset_7 : decode cX5_peakOffset 7 = .ok (.ifCond .ne 8, 3) := by decide +kernel
theorem dX5_peakOffset_10 : decode cX5_peakOffset 10 = .ok (.bipush (-14), 2) := by decide +kernel
theorem dX5_peakOffset_12 : decode cX5_peakOffset 12 = .ok (.goto 7, 3) := by decide +kernel
theorem dX5_peakOffset_15 : decode cX5_peakOffset 15 = .ok (.aload_n 0, 1) := by decide +kernel
theorem dX5_peakOffset_16 : decode cX5_peakOffset 16 = .ok (.invokevirtual 161, 3) := by decide +kernel
theorem dX5_peakOffset_19 : decode cX5_peakOffset 19 = .ok (.ireturn, 1) := by decide +kernel
set_option maxRecDepth 20000 in
theorem ggX5_damage_X5_isShift : GoodIn wsX5_damage wsX5_isShift := goodIn_r _ [4, 5, 6, 3, 7] (by decide +kernel) (by decide +kernel)
set_option maxRecDepth 20000 in
theorem gX5_damage_X5_isShift : GoodIn wsX5_damage (va_wsS RX5 133 yX5_isShift wsX5_isShift) := goodIn_app (goodIn_of _ (by decide +kernel)) ggX5_damage_X5_isShift
set_option maxRecDepth 20000 in
theorem ggX5_damage_X5_damageWith : GoodIn wsX5_damage wsX5_damageWith := goodIn_r _ [11, 12, 13, 14, 15, 16, 17, 18, 19, 20, 21, 22, 23, 24, 25, 26, 27, 28, 29, 30, 31, 3, 32, 33, 34, 35, 36, 37, 5, 6, 7, 38, 39, 40, 41, 42, 43, 44, 45, 46, 47, 48, 49, 50, 51, 52, 53, 54, 55, 56, 57, 58, 59] (by decide +kernel) (by decide +kernel)
set_option maxRecDepth 20000 in
theorem gX5_damage_X5_damageWith : GoodIn wsX5_damage (wsV RX5 164 RX5 yX5_damageWith wsX5_damageWith) := goodIn_app (goodIn_of _ (by decide +kernel)) ggX5_damage_X5_damageWith
theorem dX5_damage_0 : decode cX5_damage 0 = .ok (.iload_n 1, 1) := by decide +kernel
theorem dX5_damage_1 : decode cX5_damage 1 = .ok (.invokestatic 133, 3) := by decide +kernel
theorem dX5_damage_4 : decode cX5_damage 4 = .ok (.ifCond .ne 6, 3) := by decide +kernel
theorem dX5_damage_7 : decode cX5_damage 7 = .ok (.bipush (-11), 2) := by decide +kernel
theorem dX5_damage_9 : decode cX5_damage 9 = .ok (.ireturn, 1) := by decide +kernel
theorem dX5_damage_10 : decode cX5_damage 10 = .ok (.aload_n 0, 1) := by decide +kernel
theorem dX5_damage_11 : decode cX5_damage 11 = .ok (.iload_n 1, 1) := by decide +kernel
theorem dX5_damage_12 : decode cX5_damage 12 = .ok (.invokevirtual 164, 3) := by decide +kernel
theorem dX5_damage_15 : decode cX5_damage 15 = .ok (.ireturn, 1) := by decide +kernel
set_option maxRecDepth 20000 in
theorem ggX5_adoptBestShift_X5_damageWith : GoodIn wsX5_adoptBestShift wsX5_damageWith := goodIn_r _ [7, 8, 9, 10, 11, 12, 13, 14, 15, 16, 17, 18, 19, 20, 21, 22, 23, 24, 25, 26, 27, 6, 28, 29, 30, 31, 32, 33, 34, 35, 36, 37, 38, 39, 40, 41, 42, 43, 44, 45, 46, 47, 48, 49, 50, 51, 52, 53, 54, 55, 56, 57, 58] (by decide +kernel) (by decide +kernel)
set_option maxRecDepth 20000 in
theorem gX5_adoptBestShift_X5_damageWith : GoodIn wsX5_adoptBestShift (wsV RX5 164 RX5 yX5_damageWith wsX5_damageWith) := goodIn_app (goodIn_of _ (by decide +kernel)) ggX5_adoptBestShift_X5_damageWith
theorem dX5_adoptBestShift_0 : decode cX5_adoptBestShift 0 = .ok (.iconst 0, 1) := by decide +kernel
theorem dX5_adoptBestShift_1 : decode cX5_adoptBestShift 1 = .ok (.istore_n 1, 1) := by decide +kernel
theorem dX5_adoptBestShift_2 : decode cX5_adoptBestShift 2 = .ok (.aload_n 0, 1) := by decide +kernel
theorem dX5_adoptBestShift_3 : decode cX5_adoptBestShift 3 = .ok (.iconst 0, 1) := by decide +kernel
theorem dX5_adoptBestShift_4 : decode cX5_adoptBestShift 4 = .ok (.invokevirtual 164, 3) := by decide +kernel
theorem dX5_adoptBestShift_7 : decode cX5_adoptBestShift 7 = .ok (.istore_n 2, 1) := by decide +kernel
theorem dX5_adoptBestShift_8 : decode cX5_adoptBestShift 8 = .ok (.getstatic 167, 3) := by decide +kernel
theorem dX5_adoptBestShift_11 : decode cX5_adoptBestShift 11 = .ok (.astore_n 3, 1) := by decide +kernel
theorem dX5_adoptBestShift_12 : decode cX5_adoptBestShift 12 = .ok (.aload_n 3, 1) := by decide +kernel
theorem dX5_adoptBestShift_13 : decode cX5_adoptBestShift 13 = .ok (.arraylength, 1) := by decide +kernel
theorem dX5_adoptBestShift_14 : decode cX5_adoptBestShift 14 = .ok (.istore 4, 2) := by decide +kernel
theorem dX5_adoptBestShift_16 : decode cX5_adoptBestShift 16 = .ok (.iconst 0, 1) := by decide +kernel
theorem dX5_adoptBestShift_17 : decode cX5_adoptBestShift 17 = .ok (.istore 5, 2) := by decide +kernel
theorem dX5_adoptBestShift_19 : decode cX5_adoptBestShift 19 = .ok (.iload 5, 2) := by decide +kernel
theorem dX5_adoptBestShift_21 : decode cX5_adoptBestShift 21 = .ok (.iload 4, 2) := by decide +kernel
theorem dX5_adoptBestShift_23 : decode cX5_adoptBestShift 23 = .ok (.if_icmp .ge 35, 3) := by decide +kernel
theorem dX5_adoptBestShift_26 : decode cX5_adoptBestShift 26 = .ok (.aload_n 3, 1) := by decide +kernel
theorem dX5_adoptBestShift_27 : decode cX5_adoptBestShift 27 = .ok (.iload 5, 2) := by decide +kernel
theorem dX5_adoptBestShift_29 : decode cX5_adoptBestShift 29 = .ok (.iaload, 1) := by decide +kernel
theorem dX5_adoptBestShift_30 : decode cX5_adoptBestShift 30 = .ok (.istore 6, 2) := by decide +kernel
theorem dX5_adoptBestShift_32 : decode cX5_adoptBestShift 32 = .ok (.aload_n 0, 1) := by decide +kernel
theorem dX5_adoptBestShift_33 : decode cX5_adoptBestShift 33 = .ok (.iload 6, 2) := by decide +kernel
theorem dX5_adoptBestShift_35 : decode cX5_adoptBestShift 35 = .ok (.invokevirtual 164, 3) := by decide +kernel
theorem dX5_adoptBestShift_38 : decode cX5_adoptBestShift 38 = .ok (.istore 7, 2) := by decide +kernel
theorem dX5_adoptBestShift_40 : decode cX5_adoptBestShift 40 = .ok (.iload 7, 2) := by decide +kernel
theorem dX5_adoptBestShift_42 : decode cX5_adoptBestShift 42 = .ok (.iload_n 2, 1) := by decide +kernel
theorem dX5_adoptBestShift_43 : decode cX5_adoptBestShift 43 = .ok (.if_icmp .ge 9, 3) := by decide +kernel
theorem dX5_adoptBestShift_46 : decode cX5_adoptBestShift 46 = .ok (.iload 6, 2) := by decide +kernel
theorem dX5_adoptBestShift_48 : decode cX5_adoptBestShift 48 = .ok (.istore_n 1, 1) := by decide +kernel
theorem dX5_adoptBestShift_49 : decode cX5_adoptBestShift 49 = .ok (.iload 7, 2) := by decide +kernel
theorem dX5_adoptBestShift_51 : decode cX5_adoptBestShift 51 = .ok (.istore_n 2, 1) := by decide +kernel
theorem dX5_adoptBestShift_52 : decode cX5_adoptBestShift 52 = .ok (.iinc 5 1, 3) := by decide +kernel
theorem dX5_adoptBestShift_55 : decode cX5_adoptBestShift 55 = .ok (.goto (-36), 3) := by decide +kernel
theorem dX5_adoptBestShift_58 : decode cX5_adoptBestShift 58 = .ok (.aload_n 0, 1) := by decide +kernel
theorem dX5_adoptBestShift_59 : decode cX5_adoptBestShift 59 = .ok (.iload_n 1, 1) := by decide +kernel
theorem dX5_adoptBestShift_60 : decode cX5_adoptBestShift 60 = .ok (.putfield 51, 3) := by decide +kernel
theorem dX5_adoptBestShift_63 : decode cX5_adoptBestShift 63 = .ok (.iload_n 2, 1) := by decide +kernel
theorem dX5_adoptBestShift_64 : decode cX5_adoptBestShift 64 = .ok (.ireturn, 1) := by decide +kernel
theorem dX5_isWithin_0 : decode cX5_isWithin 0 = .ok (.iload_n 1, 1) := by decide +kernel
theorem dX5_isWithin_1 : decode cX5_isWithin 1 = .ok (.iload_n 0, 1) := by decide +kernel
theorem dX5_isWithin_2 : decode cX5_isWithin 2 = .ok (.if_icmp .gt 12, 3) := by decide +kernel
theorem dX5_isWithin_5 : decode cX5_isWithin 5 = .ok (.iload_n 0, 1) := by decide +kernel
theorem dX5_isWithin_6 : decode cX5_isWithin 6 = .ok (.iload_n 2, 1) := by decide +kernel
theorem dX5_isWithin_7 : decode cX5_isWithin 7 = .ok (.if_icmp .gt 7, 3) := by decide +kernel
theorem dX5_isWithin_10 : decode cX5_isWithin 10 = .ok (.iconst 1, 1) := by decide +kernel
theorem dX5_isWithin_11 : decode cX5_isWithin 11 = .ok (.goto 4, 3) := by decide +kernel
theorem dX5_isWithin_14 : decode cX5_isWithin 14 = .ok (.iconst 0, 1) := by decide +kernel
theorem dX5_isWithin_15 : decode cX5_isWithin 15 = .ok (.ireturn, 1) := by decide +kernel
set_option maxRecDepth 20000 in
theorem ggX5_isCharacter_X5_isWithin : GoodIn wsX5_isCharacter wsX5_isWithin := goodIn_r _ [4] (by decide +kernel) (by decide +kernel)
set_option maxRecDepth 20000 in
theorem gX5_isCharacter_X5_isWithin : GoodIn wsX5_isCharacter (va_wsS RX5 67 yX5_isWithin wsX5_isWithin) := goodIn_app (goodIn_of _ (by decide +kernel)) ggX5_isCharacter_X5_isWithin
theorem dX5_isCharacter_0 : decode cX5_isCharacter 0 = .ok (.iload_n 0, 1) := by decide +kernel
theorem dX5_isCharacter_1 : decode cX5_isCharacter 1 = .ok (.iconst 0, 1) := by decide +kernel
theorem dX5_isCharacter_2 : decode cX5_isCharacter 2 = .ok (.bipush 26, 2) := by decide +kernel
theorem dX5_isCharacter_4 : decode cX5_isCharacter 4 = .ok (.invokestatic 67, 3) := by decide +kernel
theorem dX5_isCharacter_7 : decode cX5_isCharacter 7 = .ok (.ireturn, 1) := by decide +kernel
set_option maxRecDepth 20000 in
theorem ggX5_isColor_X5_isWithin : GoodIn wsX5_isColor wsX5_isWithin := goodIn_r _ [4] (by decide +kernel) (by decide +kernel)
set_option maxRecDepth 20000 in
theorem gX5_isColor_X5_isWithin : GoodIn wsX5_isColor (va_wsS RX5 67 yX5_isWithin wsX5_isWithin) := goodIn_app (goodIn_of _ (by decide +kernel)) ggX5_isColor_X5_isWithin
theorem dX5_isColor_0 : decode cX5_isColor 0 = .ok (.iload_n 0, 1) := by decide +kernel
theorem dX5_isColor_1 : decode cX5_isColor 1 = .ok (.iconst 1, 1) := by decide +kernel
theorem dX5_isColor_2 : decode cX5_isColor 2 = .ok (.iconst 3, 1) := by decide +kernel
theorem dX5_isColor_3 : decode cX5_isColor 3 = .ok (.invokestatic 67, 3) := by decide +kernel
theorem dX5_isColor_6 : decode cX5_isColor 6 = .ok (.ireturn, 1) := by decide +kernel
set_option maxRecDepth 20000 in
theorem ggX5_isShift_X5_isWithin : GoodIn wsX5_isShift wsX5_isWithin := goodIn_r _ [4] (by decide +kernel) (by decide +kernel)
set_option maxRecDepth 20000 in
theorem gX5_isShift_X5_isWithin : GoodIn wsX5_isShift (va_wsS RX5 67 yX5_isWithin wsX5_isWithin) := goodIn_app (goodIn_of _ (by decide +kernel)) ggX5_isShift_X5_isWithin
theorem dX5_isShift_0 : decode cX5_isShift 0 = .ok (.iload_n 0, 1) := by decide +kernel
theorem dX5_isShift_1 : decode cX5_isShift 1 = .ok (.bipush (-2), 2) := by decide +kernel
theorem dX5_isShift_3 : decode cX5_isShift 3 = .ok (.iconst 2, 1) := by decide +kernel
theorem dX5_isShift_4 : decode cX5_isShift 4 = .ok (.invokestatic 67, 3) := by decide +kernel
theorem dX5_isShift_7 : decode cX5_isShift 7 = .ok (.ireturn, 1) := by decide +kernel
set_option maxRecDepth 20000 in
theorem ggX5_isLed_X5_isWithin : GoodIn wsX5_isLed wsX5_isWithin := goodIn_r _ [5] (by decide +kernel) (by decide +kernel)
set_option maxRecDepth 20000 in
theorem gX5_isLed_X5_isWithin : GoodIn wsX5_isLed (va_wsS RX5 67 yX5_isWithin wsX5_isWithin) := goodIn_app (goodIn_of _ (by decide +kernel)) ggX5_isLed_X5_isWithin
theorem dX5_isLed_0 : decode cX5_isLed 0 = .ok (.iload_n 1, 1) := by decide +kernel
theorem dX5_isLed_1 : decode cX5_isLed 1 = .ok (.iconst 0, 1) := by decide +kernel
theorem dX5_isLed_2 : decode cX5_isLed 2 = .ok (.bipush 7, 2) := by decide +kernel
theorem dX5_isLed_4 : decode cX5_isLed 4 = .ok (.invokestatic 67, 3) := by decide +kernel
theorem dX5_isLed_7 : decode cX5_isLed 7 = .ok (.ifCond .eq 21, 3) := by decide +kernel
theorem dX5_isLed_10 : decode cX5_isLed 10 = .ok (.iload_n 2, 1) := by decide +kernel
theorem dX5_isLed_11 : decode cX5_isLed 11 = .ok (.iconst 0, 1) := by decide +kernel
theorem dX5_isLed_12 : decode cX5_isLed 12 = .ok (.aload_n 0, 1) := by decide +kernel
theorem dX5_isLed_13 : decode cX5_isLed 13 = .ok (.getfield 41, 3) := by decide +kernel
theorem dX5_isLed_16 : decode cX5_isLed 16 = .ok (.iconst 1, 1) := by decide +kernel
theorem dX5_isLed_17 : decode cX5_isLed 17 = .ok (.isub, 1) := by decide +kernel
theorem dX5_isLed_18 : decode cX5_isLed 18 = .ok (.invokestatic 67, 3) := by decide +kernel
theorem dX5_isLed_21 : decode cX5_isLed 21 = .ok (.ifCond .eq 7, 3) := by decide +kernel
theorem dX5_isLed_24 : decode cX5_isLed 24 = .ok (.iconst 1, 1) := by decide +kernel
theorem dX5_isLed_25 : decode cX5_isLed 25 = .ok (.goto 4, 3) := by decide +kernel
theorem dX5_isLed_28 : decode cX5_isLed 28 = .ok (.iconst 0, 1) := by decide +kernel
theorem dX5_isLed_29 : decode cX5_isLed 29 = .ok (.ireturn, 1) := by decide +kernel
set_option maxRecDepth 20000 in
theorem ggX5_layOutStrip_X3_layOut : GoodIn wsX5_layOutStrip wsX3_layOut := goodIn_r _ [10, 11, 12, 13, 14, 15, 16, 17, 18, 19, 20, 21, 22, 23, 24, 25, 26, 27, 28, 29, 30, 31, 32, 9, 33, 34, 35, 36, 37, 38, 39, 40, 41, 42, 43, 44, 45, 46, 47, 48, 49, 50, 51, 52, 53, 54, 55, 56, 57, 58, 59, 60, 61, 62, 63, 64, 77, 78, 79, 80, 81, 82, 83, 84, 85, 86, 87, 88, 89] (by decide +kernel) (by decide +kernel)
set_option maxRecDepth 20000 in
theorem gX5_layOutStrip_X3_layOut : GoodIn wsX5_layOutStrip (wsV RX5 170 RX3 yX3_layOut wsX3_layOut) := goodIn_app (goodIn_of _ (by decide +kernel)) ggX5_layOutStrip_X3_layOut
theorem dX5_layOutStrip_0 : decode cX5_layOutStrip 0 = .ok (.aload_n 0, 1) := by decide +kernel
theorem dX5_layOutStrip_1 : decode cX5_layOutStrip 1 = .ok (.getfield 33, 3) := by decide +kernel
theorem dX5_layOutStrip_4 : decode cX5_layOutStrip 4 = .ok (.aload_n 0, 1) := by decide +kernel
theorem dX5_layOutStrip_5 : decode cX5_layOutStrip 5 = .ok (.getfield 26, 3) := by decide +kernel
theorem dX5_layOutStrip_8 : decode cX5_layOutStrip 8 = .ok (.aload_n 0, 1) := by decide +kernel
theorem dX5_layOutStrip_9 : decode cX5_layOutStrip 9 = .ok (.getfield 12, 3) := by decide +kernel
theorem dX5_layOutStrip_12 : decode cX5_layOutStrip 12 = .ok (.aload_n 0, 1) := by decide +kernel
theorem dX5_layOutStrip_13 : decode cX5_layOutStrip 13 = .ok (.getfield 45, 3) := by decide +kernel
theorem dX5_layOutStrip_16 : decode cX5_layOutStrip 16 = .ok (.invokevirtual 170, 3) := by decide +kernel
theorem dX5_layOutStrip_19 : decode cX5_layOutStrip 19 = .ok (.aload_n 0, 1) := by decide +kernel
theorem dX5_layOutStrip_20 : decode cX5_layOutStrip 20 = .ok (.getfield 57, 3) := by decide +kernel
theorem dX5_layOutStrip_23 : decode cX5_layOutStrip 23 = .ok (.aload_n 0, 1) := by decide +kernel
theorem dX5_layOutStrip_24 : decode cX5_layOutStrip 24 = .ok (.getfield 33, 3) := by decide +kernel
theorem dX5_layOutStrip_27 : decode cX5_layOutStrip 27 = .ok (.getfield 114, 3) := by decide +kernel
theorem dX5_layOutStrip_30 : decode cX5_layOutStrip 30 = .ok (.if_icmp .lt 8, 3) := by decide +kernel
theorem dX5_layOutStrip_33 : decode cX5_layOutStrip 33 = .ok (.aload_n 0, 1) := by decide +kernel
theorem dX5_layOutStrip_34 : decode cX5_layOutStrip 34 = .ok (.iconst 0, 1) := by decide +kernel
theorem dX5_layOutStrip_35 : decode cX5_layOutStrip 35 = .ok (.putfield 57, 3) := by decide +kernel
theorem dX5_layOutStrip_38 : decode cX5_layOutStrip 38 = .ok (.return_, 1) := by decide +kernel
set_option maxRecDepth 20000 in
theorem ggX5_defectsOf_X5_isWithin : GoodIn wsX5_defectsOf wsX5_isWithin := goodIn_r _ [5] (by decide +kernel) (by decide +kernel)
set_option maxRecDepth 20000 in
theorem gX5_defectsOf_X5_isWithin : GoodIn wsX5_defectsOf (va_wsS RX5 67 yX5_isWithin wsX5_isWithin) := goodIn_app (goodIn_of _ (by decide +kernel)) ggX5_defectsOf_X5_isWithin
theorem dX5_defectsOf_0 : decode cX5_defectsOf 0 = .ok (.iload_n 1, 1) := by decide +kernel
theorem dX5_defectsOf_1 : decode cX5_defectsOf 1 = .ok (.iconst 0, 1) := by decide +kernel
theorem dX5_defectsOf_2 : decode cX5_defectsOf 2 = .ok (.aload_n 0, 1) := by decide +kernel
theorem dX5_defectsOf_3 : decode cX5_defectsOf 3 = .ok (.getfield 37, 3) := by decide +kernel
theorem dX5_defectsOf_6 : decode cX5_defectsOf 6 = .ok (.arraylength, 1) := by decide +kernel
theorem dX5_defectsOf_7 : decode cX5_defectsOf 7 = .ok (.iconst 1, 1) := by decide +kernel
theorem dX5_defectsOf_8 : decode cX5_defectsOf 8 = .ok (.isub, 1) := by decide +kernel
theorem dX5_defectsOf_9 : decode cX5_defectsOf 9 = .ok (.invokestatic 67, 3) := by decide +kernel
theorem dX5_defectsOf_12 : decode cX5_defectsOf 12 = .ok (.ifCond .eq 12, 3) := by decide +kernel
theorem dX5_defectsOf_15 : decode cX5_defectsOf 15 = .ok (.aload_n 0, 1) := by decide +kernel
theorem dX5_defectsOf_16 : decode cX5_defectsOf 16 = .ok (.getfield 37, 3) := by decide +kernel
theorem dX5_defectsOf_19 : decode cX5_defectsOf 19 = .ok (.iload_n 1, 1) := by decide +kernel
theorem dX5_defectsOf_20 : decode cX5_defectsOf 20 = .ok (.iaload, 1) := by decide +kernel
theorem dX5_defectsOf_21 : decode cX5_defectsOf 21 = .ok (.goto 4, 3) := by decide +kernel
theorem dX5_defectsOf_24 : decode cX5_defectsOf 24 = .ok (.iconst 0, 1) := by decide +kernel
theorem dX5_defectsOf_25 : decode cX5_defectsOf 25 = .ok (.ireturn, 1) := by decide +kernel
set_option maxRecDepth 20000 in
theorem ggX5_isDefective_X5_defectsOf : GoodIn wsX5_isDefective wsX5_defectsOf := goodIn_r _ [5, 6, 7, 8, 4, 9, 10, 11, 12, 13, 14, 15, 16, 17, 18, 19, 20, 21] (by decide +kernel) (by decide +kernel)
set_option maxRecDepth 20000 in
theorem gX5_isDefective_X5_defectsOf : GoodIn wsX5_isDefective (wsV RX5 174 RX5 yX5_defectsOf wsX5_defectsOf) := goodIn_app (goodIn_of _ (by decide +kernel)) ggX5_isDefective_X5_defectsOf
theorem dX5_isDefective_0 : decode cX5_isDefective 0 = .ok (.aload_n 0, 1) := by decide +kernel
theorem dX5_isDefective_1 : decode cX5_isDefective 1 = .ok (.iload_n 2, 1) := by decide +kernel
theorem dX5_isDefective_2 : decode cX5_isDefective 2 = .ok (.invokevirtual 174, 3) := by decide +kernel
theorem dX5_isDefective_5 : decode cX5_isDefective 5 = .ok (.iload_n 1, 1) := by decide +kernel
theorem dX5_isDefective_6 : decode cX5_isDefective 6 = .ok (.ishr, 1) := by decide +kernel
theorem dX5_isDefective_7 : decode cX5_isDefective 7 = .ok (.iconst 1, 1) := by decide +kernel
theorem dX5_isDefective_8 : decode cX5_isDefective 8 = .ok (.iand, 1) := by decide +kernel
theorem dX5_isDefective_9 : decode cX5_isDefective 9 = .ok (.iconst 1, 1) := by decide +kernel
theorem dX5_isDefective_10 : decode cX5_isDefective 10 = .ok (.if_icmp .ne 7, 3) := by decide +kernel
theorem dX5_isDefective_13 : decode cX5_isDefective 13 = .ok (.iconst 1, 1) := by decide +kernel
theorem dX5_isDefective_14 : decode cX5_isDefective 14 = .ok (.goto 4, 3) := by decide +kernel
theorem dX5_isDefective_17 : decode cX5_isDefective 17 = .ok (.iconst 0, 1) := by decide +kernel
theorem dX5_isDefective_18 : decode cX5_isDefective 18 = .ok (.ireturn, 1) := by decide +kernel
set_option maxRecDepth 20000 in
theorem ggX5_flipDefect_X5_isWithin : GoodIn wsX5_flipDefect wsX5_isWithin := goodIn_r _ [5] (by decide +kernel) (by decide +kernel)
set_option maxRecDepth 20000 in
theorem gX5_flipDefect_X5_isWithin : GoodIn wsX5_flipDefect (va_wsS RX5 67 yX5_isWithin wsX5_isWithin) := goodIn_app (goodIn_of _ (by decide +kernel)) ggX5_flipDefect_X5_isWithin
theorem dX5_flipDefect_0 : decode cX5_flipDefect 0 = .ok (.iload_n 2, 1) := by decide +kernel
theorem dX5_flipDefect_1 : decode cX5_flipDefect 1 = .ok (.iconst 0, 1) := by decide +kernel
theorem dX5_flipDefect_2 : decode cX5_flipDefect 2 = .ok (.aload_n 0, 1) := by decide +kernel
theorem dX5_flipDefect_3 : decode cX5_flipDefect 3 = .ok (.getfield 37, 3) := by decide +kernel
theorem dX5_flipDefect_6 : decode cX5_flipDefect 6 = .ok (.arraylength, 1) := by decide +kernel
theorem dX5_flipDefect_7 : decode cX5_flipDefect 7 = .ok (.iconst 1, 1) := by decide +kernel
theorem dX5_flipDefect_8 : decode cX5_flipDefect 8 = .ok (.isub, 1) := by decide +kernel
theorem dX5_flipDefect_9 : decode cX5_flipDefect 9 = .ok (.invokestatic 67, 3) := by decide +kernel
theorem dX5_flipDefect_12 : decode cX5_flipDefect 12 = .ok (.ifCond .eq 15, 3) := by decide +kernel
theorem dX5_flipDefect_15 : decode cX5_flipDefect 15 = .ok (.aload_n 0, 1) := by decide +kernel
theorem dX5_flipDefect_16 : decode cX5_flipDefect 16 = .ok (.getfield 37, 3) := by decide +kernel
theorem dX5_flipDefect_19 : decode cX5_flipDefect 19 = .ok (.iload_n 2, 1) := by decide +kernel
theorem dX5_flipDefect_20 : decode cX5_flipDefect 20 = .ok (.dup2, 1) := by decide +kernel
theorem dX5_flipDefect_21 : decode cX5_flipDefect 21 = .ok (.iaload, 1) := by decide +kernel
theorem dX5_flipDefect_22 : decode cX5_flipDefect 22 = .ok (.iconst 1, 1) := by decide +kernel
theorem dX5_flipDefect_23 : decode cX5_flipDefect 23 = .ok (.iload_n 1, 1) := by decide +kernel
theorem dX5_flipDefect_24 : decode cX5_flipDefect 24 = .ok (.ishl, 1) := by decide +kernel
theorem dX5_flipDefect_25 : decode cX5_flipDefect 25 = .ok (.ixor, 1) := by decide +kernel
theorem dX5_flipDefect_26 : decode cX5_flipDefect 26 = .ok (.iastore, 1) := by decide +kernel
theorem dX5_flipDefect_27 : decode cX5_flipDefect 27 = .ok (.return_, 1) := by decide +kernel
set_option maxRecDepth 20000 in
theorem ggX5_countDefects_J6_bitCount_0f7a4 : GoodIn wsX5_countDefects wsJ6_bitCount_0f7a4 := goodIn_r _ [5, 6, 7, 8] (by decide +kernel) (by decide +kernel)
set_option maxRecDepth 20000 in
theorem gX5_countDefects_J6_bitCount_0f7a4 : GoodIn wsX5_countDefects (va_wsS RX5 177 yJ6_bitCount_0f7a4 wsJ6_bitCount_0f7a4) := goodIn_app (goodIn_of _ (by decide +kernel)) ggX5_countDefects_J6_bitCount_0f7a4
theorem dX5_countDefects_0 : decode cX5_countDefects 0 = .ok (.iconst 0, 1) := by decide +kernel
theorem dX5_countDefects_1 : decode cX5_countDefects 1 = .ok (.istore_n 1, 1) := by decide +kernel
theorem dX5_countDefects_2 : decode cX5_countDefects 2 = .ok (.aload_n 0, 1) := by decide +kernel
theorem dX5_countDefects_3 : decode cX5_countDefects 3 = .ok (.getfield 37, 3) := by decide +kernel
theorem dX5_countDefects_6 : decode cX5_countDefects 6 = .ok (.astore_n 2, 1) := by decide +kernel
theorem dX5_countDefects_7 : decode cX5_countDefects 7 = .ok (.aload_n 2, 1) := by decide +kernel
theorem dX5_countDefects_8 : decode cX5_countDefects 8 = .ok (.arraylength, 1) := by decide +kernel
theorem dX5_countDefects_9 : decode cX5_countDefects 9 = .ok (.istore_n 3, 1) := by decide +kernel
theorem dX5_countDefects_10 : decode cX5_countDefects 10 = .ok (.iconst 0, 1) := by decide +kernel
theorem dX5_countDefects_11 : decode cX5_countDefects 11 = .ok (.istore 4, 2) := by decide +kernel
theorem dX5_countDefects_13 : decode cX5_countDefects 13 = .ok (.iload 4, 2) := by decide +kernel
theorem dX5_countDefects_15 : decode cX5_countDefects 15 = .ok (.iload_n 3, 1) := by decide +kernel
theorem dX5_countDefects_16 : decode cX5_countDefects 16 = .ok (.if_icmp .ge 23, 3) := by decide +kernel
theorem dX5_countDefects_19 : decode cX5_countDefects 19 = .ok (.aload_n 2, 1) := by decide +kernel
theorem dX5_countDefects_20 : decode cX5_countDefects 20 = .ok (.iload 4, 2) := by decide +kernel
theorem dX5_countDefects_22 : decode cX5_countDefects 22 = .ok (.iaload, 1) := by decide +kernel
theorem dX5_countDefects_23 : decode cX5_countDefects 23 = .ok (.istore 5, 2) := by decide +kernel
theorem dX5_countDefects_25 : decode cX5_countDefects 25 = .ok (.iload_n 1, 1) := by decide +kernel
theorem dX5_countDefects_26 : decode cX5_countDefects 26 = .ok (.iload 5, 2) := by decide +kernel
theorem dX5_countDefects_28 : decode cX5_countDefects 28 = .ok (.invokestatic 177, 3) := by decide +kernel
theorem dX5_countDefects_31 : decode cX5_countDefects 31 = .ok (.iadd, 1) := by decide +kernel
theorem dX5_countDefects_32 : decode cX5_countDefects 32 = .ok (.istore_n 1, 1) := by decide +kernel
theorem dX5_countDefects_33 : decode cX5_countDefects 33 = .ok (.iinc 4 1, 3) := by decide +kernel
theorem dX5_countDefects_36 : decode cX5_countDefects 36 = .ok (.goto (-23), 3) := by decide +kernel
theorem dX5_countDefects_39 : decode cX5_countDefects 39 = .ok (.iload_n 1, 1) := by decide +kernel
theorem dX5_countDefects_40 : decode cX5_countDefects 40 = .ok (.ireturn, 1) := by decide +kernel
theorem dX5_shifted_0 : decode cX5_shifted 0 = .ok (.iload_n 1, 1) := by decide +kernel
theorem dX5_shifted_1 : decode cX5_shifted 1 = .ok (.ifCond .ge 10, 3) := by decide +kernel
theorem dX5_shifted_4 : decode cX5_shifted 4 = .ok (.iload_n 0, 1) := by decide +kernel
theorem dX5_shifted_5 : decode cX5_shifted 5 = .ok (.iload_n 1, 1) := by decide +kernel
theorem dX5_shifted_6 : decode cX5_shifted 6 = .ok (.ineg, 1) := by decide +kernel
theorem dX5_shifted_7 : decode cX5_shifted 7 = .ok (.ishr, 1) := by decide +kernel
theorem dX5_shifted_8 : decode cX5_shifted 8 = .ok (.goto 10, 3) := by decide +kernel
theorem dX5_shifted_11 : decode cX5_shifted 11 = .ok (.iload_n 0, 1) := by decide +kernel
theorem dX5_shifted_12 : decode cX5_shifted 12 = .ok (.iload_n 1, 1) := by decide +kernel
theorem dX5_shifted_13 : decode cX5_shifted 13 = .ok (.ishl, 1) := by decide +kernel
theorem dX5_shifted_14 : decode cX5_shifted 14 = .ok (.sipush 255, 3) := by decide +kernel
theorem dX5_shifted_17 : decode cX5_shifted 17 = .ok (.iand, 1) := by decide +kernel
theorem dX5_shifted_18 : decode cX5_shifted 18 = .ok (.ireturn, 1) := by decide +kernel
set_option maxRecDepth 20000 in
theorem ggX5_litRows_X3_dotsAt : GoodIn wsX5_litRows wsX3_dotsAt := goodIn_r _ [7, 8, 9, 10, 11, 12, 6, 13, 14, 15, 16, 17, 42, 43, 44] (by decide +kernel) (by decide +kernel)
set_option maxRecDepth 20000 in
theorem gX5_litRows_X3_dotsAt : GoodIn wsX5_litRows (wsV RX5 182 RX3 yX3_dotsAt wsX3_dotsAt) := goodIn_app (goodIn_of _ (by decide +kernel)) ggX5_litRows_X3_dotsAt
set_option maxRecDepth 20000 in
theorem ggX5_litRows_X5_shifted : GoodIn wsX5_litRows wsX5_shifted := goodIn_r _ [21] (by decide +kernel) (by decide +kernel)
set_option maxRecDepth 20000 in
theorem gX5_litRows_X5_shifted : GoodIn wsX5_litRows (va_wsS RX5 185 yX5_shifted wsX5_shifted) := goodIn_app (goodIn_of _ (by decide +kernel)) ggX5_litRows_X5_shifted
set_option maxRecDepth 20000 in
theorem ggX5_litRows_X5_defectsOf : GoodIn wsX5_litRows wsX5_defectsOf := goodIn_r _ [25, 26, 27, 28, 20, 29, 30, 31, 32, 33, 34, 35, 36, 37, 38, 39, 40, 41] (by decide +kernel) (by decide +kernel)
set_option maxRecDepth 20000 in
theorem gX5_litRows_X5_defectsOf : GoodIn wsX5_litRows (wsV RX5 174 RX5 yX5_defectsOf wsX5_defectsOf) := goodIn_app (goodIn_of _ (by decide +kernel)) ggX5_litRows_X5_defectsOf
theorem dX5_litRows_0 : decode cX5_litRows 0 = .ok (.aload_n 0, 1) := by decide +kernel
theorem dX5_litRows_1 : decode cX5_litRows 1 = .ok (.getfield 33, 3) := by decide +kernel
theorem dX5_litRows_4 : decode cX5_litRows 4 = .ok (.iload_n 1, 1) := by decide +kernel
theorem dX5_litRows_5 : decode cX5_litRows 5 = .ok (.iload_n 2, 1) := by decide +kernel
theorem dX5_litRows_6 : decode cX5_litRows 6 = .ok (.iadd, 1) := by decide +kernel
theorem dX5_litRows_7 : decode cX5_litRows 7 = .ok (.invokevirtual 182, 3) := by decide +kernel
theorem dX5_litRows_10 : decode cX5_litRows 10 = .ok (.aload_n 0, 1) := by decide +kernel
theorem dX5_litRows_11 : decode cX5_litRows 11 = .ok (.getfield 51, 3) := by decide +kernel
theorem dX5_litRows_14 : decode cX5_litRows 14 = .ok (.invokestatic 185, 3) := by decide +kernel
theorem dX5_litRows_17 : decode cX5_litRows 17 = .ok (.aload_n 0, 1) := by decide +kernel
theorem dX5_litRows_18 : decode cX5_litRows 18 = .ok (.iload_n 2, 1) := by decide +kernel
theorem dX5_litRows_19 : decode cX5_litRows 19 = .ok (.invokevirtual 174, 3) := by decide +kernel
theorem dX5_litRows_22 : decode cX5_litRows 22 = .ok (.iconst (-1), 1) := by decide +kernel
theorem dX5_litRows_23 : decode cX5_litRows 23 = .ok (.ixor, 1) := by decide +kernel
theorem dX5_litRows_24 : decode cX5_litRows 24 = .ok (.iand, 1) := by decide +kernel
theorem dX5_litRows_25 : decode cX5_litRows 25 = .ok (.ireturn, 1) := by decide +kernel
set_option maxRecDepth 20000 in
theorem ggX5_loadFrom_X3_colorAt : GoodIn wsX5_loadFrom wsX3_colorAt := goodIn_r _ [7, 8, 9, 10, 11, 12, 6, 13, 14, 15, 16, 17, 59, 60, 61] (by decide +kernel) (by decide +kernel)
set_option maxRecDepth 20000 in
theorem gX5_loadFrom_X3_colorAt : GoodIn wsX5_loadFrom (wsV RX5 155 RX3 yX3_colorAt wsX3_colorAt) := goodIn_app (goodIn_of _ (by decide +kernel)) ggX5_loadFrom_X3_colorAt
set_option maxRecDepth 20000 in
theorem ggX5_loadFrom_X5_litRows : GoodIn wsX5_loadFrom wsX5_litRows := goodIn_r _ [22, 2, 23, 24, 25, 26, 6, 27, 8, 28, 10, 11, 12, 13, 14, 15, 16, 17, 29, 30, 21, 31, 32, 33, 34, 35, 36, 37, 38, 39, 47, 48, 49, 50, 51, 52, 53, 54, 55, 56, 57, 58, 59, 60, 61] (by decide +kernel) (by decide +kernel)
set_option maxRecDepth 20000 in
theorem gX5_loadFrom_X5_litRows : GoodIn wsX5_loadFrom (wsV RX5 152 RX5 yX5_litRows wsX5_litRows) := goodIn_app (goodIn_of _ (by decide +kernel)) ggX5_loadFrom_X5_litRows
set_option maxRecDepth 20000 in
theorem ggX5_loadFrom_J6_bitCount_0f7a4 : GoodIn wsX5_loadFrom wsJ6_bitCount_0f7a4 := goodIn_r _ [43, 44, 45, 46] (by decide +kernel) (by decide +kernel)
set_option maxRecDepth 20000 in
theorem gX5_loadFrom_J6_bitCount_0f7a4 : GoodIn wsX5_loadFrom (va_wsS RX5 177 yJ6_bitCount_0f7a4 wsJ6_bitCount_0f7a4) := goodIn_app (goodIn_of _ (by decide +kernel)) ggX5_loadFrom_J6_bitCount_0f7a4
theorem dX5_loadFrom_0 : decode cX5_loadFrom 0 = .ok (.iconst 0, 1) := by decide +kernel
theorem dX5_loadFrom_1 : decode cX5_loadFrom 1 = .ok (.istore_n 2, 1) := by decide +kernel
theorem dX5_loadFrom_2 : decode cX5_loadFrom 2 = .ok (.iconst 0, 1) := by decide +kernel
theorem dX5_loadFrom_3 : decode cX5_loadFrom 3 = .ok (.istore_n 3, 1) := by decide +kernel
theorem dX5_loadFrom_4 : decode cX5_loadFrom 4 = .ok (.iload_n 3, 1) := by decide +kernel
theorem dX5_loadFrom_5 : decode cX5_loadFrom 5 = .ok (.aload_n 0, 1) := by decide +kernel
theorem dX5_loadFrom_6 : decode cX5_loadFrom 6 = .ok (.getfield 41, 3) := by decide +kernel
theorem dX5_loadFrom_9 : decode cX5_loadFrom 9 = .ok (.if_icmp .ge 45, 3) := by decide +kernel
theorem dX5_loadFrom_12 : decode cX5_loadFrom 12 = .ok (.aload_n 0, 1) := by decide +kernel
theorem dX5_loadFrom_13 : decode cX5_loadFrom 13 = .ok (.getfield 33, 3) := by decide +kernel
theorem dX5_loadFrom_16 : decode cX5_loadFrom 16 = .ok (.iload_n 1, 1) := by decide +kernel
theorem dX5_loadFrom_17 : decode cX5_loadFrom 17 = .ok (.iload_n 3, 1) := by decide +kernel
theorem dX5_loadFrom_18 : decode cX5_loadFrom 18 = .ok (.iadd, 1) := by decide +kernel
theorem dX5_loadFrom_19 : decode cX5_loadFrom 19 = .ok (.invokevirtual 155, 3) := by decide +kernel
theorem dX5_loadFrom_22 : decode cX5_loadFrom 22 = .ok (.iconst 3, 1) := by decide +kernel
theorem dX5_loadFrom_23 : decode cX5_loadFrom 23 = .ok (.if_icmp .ne 7, 3) := by decide +kernel
theorem dX5_loadFrom_26 : decode cX5_loadFrom 26 = .ok (.iconst 2, 1) := by decide +kernel
theorem dX5_loadFrom_27 : decode cX5_loadFrom 27 = .ok (.goto 4, 3) := by decide +kernel
theorem dX5_loadFrom_30 : decode cX5_loadFrom 30 = .ok (.iconst 1, 1) := by decide +kernel
theorem dX5_loadFrom_31 : decode cX5_loadFrom 31 = .ok (.istore 4, 2) := by decide +kernel
theorem dX5_loadFrom_33 : decode cX5_loadFrom 33 = .ok (.iload_n 2, 1) := by decide +kernel
theorem dX5_loadFrom_34 : decode cX5_loadFrom 34 = .ok (.iload 4, 2) := by decide +kernel
theorem dX5_loadFrom_36 : decode cX5_loadFrom 36 = .ok (.aload_n 0, 1) := by decide +kernel
theorem dX5_loadFrom_37 : decode cX5_loadFrom 37 = .ok (.iload_n 1, 1) := by decide +kernel
theorem dX5_loadFrom_38 : decode cX5_loadFrom 38 = .ok (.iload_n 3, 1) := by decide +kernel
theorem dX5_loadFrom_39 : decode cX5_loadFrom 39 = .ok (.invokevirtual 152, 3) := by decide +kernel
theorem dX5_loadFrom_42 : decode cX5_loadFrom 42 = .ok (.invokestatic 177, 3) := by decide +kernel
theorem dX5_loadFrom_45 : decode cX5_loadFrom 45 = .ok (.imul, 1) := by decide +kernel
theorem dX5_loadFrom_46 : decode cX5_loadFrom 46 = .ok (.iadd, 1) := by decide +kernel
theorem dX5_loadFrom_47 : decode cX5_loadFrom 47 = .ok (.istore_n 2, 1) := by decide +kernel
theorem dX5_loadFrom_48 : decode cX5_loadFrom 48 = .ok (.iinc 3 1, 3) := by decide +kernel
theorem dX5_loadFrom_51 : decode cX5_loadFrom 51 = .ok (.goto (-47), 3) := by decide +kernel
theorem dX5_loadFrom_54 : decode cX5_loadFrom 54 = .ok (.iload_n 2, 1) := by decide +kernel
theorem dX5_loadFrom_55 : decode cX5_loadFrom 55 = .ok (.ireturn, 1) := by decide +kernel
set_option maxRecDepth 20000 in
theorem ggX5_heaviestOffset_X5_loadFrom : GoodIn wsX5_heaviestOffset wsX5_loadFrom := goodIn_r _ [6, 7, 1, 8, 9, 10, 11, 12, 13, 14, 15, 16, 17, 18, 19, 20, 21, 22, 23, 24, 25, 5, 26, 27, 28, 29, 30, 31, 32, 33, 34, 35, 36, 37, 38, 39, 40, 41, 42, 43, 44, 45, 46, 47, 48, 49, 50, 51, 52, 53, 54, 55, 56, 57, 58, 59, 60, 61, 62, 63, 64, 65] (by decide +kernel) (by decide +kernel)
set_option maxRecDepth 20000 in
theorem gX5_heaviestOffset_X5_loadFrom : GoodIn wsX5_heaviestOffset (wsV RX5 158 RX5 yX5_loadFrom wsX5_loadFrom) := goodIn_app (goodIn_of _ (by decide +kernel)) ggX5_heaviestOffset_X5_loadFrom
theorem dX5_heaviestOffset_0 : decode cX5_heaviestOffset 0 = .ok (.iconst 0, 1) := by decide +kernel
theorem dX5_heaviestOffset_1 : decode cX5_heaviestOffset 1 = .ok (.istore_n 1, 1) := by decide +kernel
theorem dX5_heaviestOffset_2 : decode cX5_heaviestOffset 2 = .ok (.iconst (-1), 1) := by decide +kernel
theorem dX5_heaviestOffset_3 : decode cX5_heaviestOffset 3 = .ok (.istore_n 2, 1) := by decide +kernel
theorem dX5_heaviestOffset_4 : decode cX5_heaviestOffset 4 = .ok (.iconst 0, 1) := by decide +kernel
theorem dX5_heaviestOffset_5 : decode cX5_heaviestOffset 5 = .ok (.istore_n 3, 1) := by decide +kernel
theorem dX5_heaviestOffset_6 : decode cX5_heaviestOffset 6 = .ok (.iload_n 3, 1) := by decide +kernel
theorem dX5_heaviestOffset_7 : decode cX5_heaviestOffset 7 = .ok (.aload_n 0, 1) := by decide +kernel
theorem dX5_heaviestOffset_8 : decode cX5_heaviestOffset 8 = .ok (.getfield 33, 3) := by decide +kernel
