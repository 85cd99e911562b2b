theorem inlX0 : ∀ w ∈ wsX00, w ∈ wsL_law := fun _ h => List.mem_append_left _ (List.mem_append_left _ (List.mem_append_left _ (List.mem_append_left _ (List.mem_append_left _ (List.mem_append_right _ h)))))
theorem inX0 : ∀ w ∈ wsX00, w ∈ lw_tbl := fun w h => wsL_law_in w (inlX0 w h)
theorem inlX1 : ∀ w ∈ wsX10, w ∈ wsL_law := fun _ h => List.mem_append_left _ (List.mem_append_right _ h)
theorem inX1 : ∀ w ∈ wsX10, w ∈ lw_tbl := fun w h => wsL_law_in w (inlX1 w h)
theorem inlX2 : ∀ w ∈ wsX20, w ∈ wsL_law := fun _ h => List.mem_append_left _ (List.mem_append_left _ (List.mem_append_left _ (List.mem_append_right _ h)))
theorem inX2 : ∀ w ∈ wsX20, w ∈ lw_tbl := fun w h => wsL_law_in w (inlX2 w h)
theorem inlX3 : ∀ w ∈ wsX30, w ∈ wsL_law := fun _ h => List.mem_append_left _ (List.mem_append_left _ (List.mem_append_right _ h))
theorem inX3 : ∀ w ∈ wsX30, w ∈ lw_tbl := fun w h => wsL_law_in w (inlX3 w h)
theorem inlX4 : ∀ w ∈ wsX40, w ∈ wsL_law := fun _ h => List.mem_append_left _ (List.mem_append_left _ (List.mem_append_left _ (List.mem_append_left _ (List.mem_append_right _ h))))
theorem inX4 : ∀ w ∈ wsX40, w ∈ lw_tbl := fun w h => wsL_law_in w (inlX4 w h)
theorem inlX5 : ∀ w ∈ wsX50, w ∈ wsL_law := fun _ h => List.mem_append_left _ (List.mem_append_left _ (List.mem_append_left _ (List.mem_append_left _ (List.mem_append_left _ (List.mem_append_left _ (List.mem_append_left _ (List.mem_append_right _ h)))))))
theorem inX5 : ∀ w ∈ wsX50, w ∈ lw_tbl := fun w h => wsL_law_in w (inlX5 w h)
theorem inlX6 : ∀ w ∈ wsX60, w ∈ wsL_law := fun _ h => List.mem_append_left _ (List.mem_append_left _ (List.mem_append_left _ (List.mem_append_left _ (List.mem_append_left _ (List.mem_append_left _ (List.mem_append_right _ h))))))
theorem inX6 : ∀ w ∈ wsX60, w ∈ lw_tbl := fun w h => wsL_law_in w (inlX6 w h)
theorem inJ6 : ∀ w ∈ wsJ60, w ∈ lw_tbl := by decide +kernel
theorem inJ9 : ∀ w ∈ wsJ90, w ∈ lw_tbl := by decide +kernel
theorem dX0_init_0 : decode cX0_init 0 = .ok (.aload_n 0, 1) := by decide +kernel
theorem dX0_init_1 : decode cX0_init 1 = .ok (.invokespecial 3, 3) := by decide +kernel
theorem dX0_init_4 : decode cX0_init 4 = .ok (.aload_n 0, 1) := by decide +kernel
theorem dX0_init_5 : decode cX0_init 5 = .ok (.bipush 27, 2) := by decide +kernel
theorem dX0_init_7 : decode cX0_init 7 = .ok (.newarray .int, 2) := by decide +kernel
theorem dX0_init_9 : decode cX0_init 9 = .ok (.putfield 9, 3) := by decide +kernel
theorem dX0_init_12 : decode cX0_init 12 = .ok (.aload_n 0, 1) := by decide +kernel
theorem dX0_init_13 : decode cX0_init 13 = .ok (.sipush 162, 3) := by decide +kernel
theorem dX0_init_16 : decode cX0_init 16 = .ok (.newarray .int, 2) := by decide +kernel
theorem dX0_init_18 : decode cX0_init 18 = .ok (.putfield 15, 3) := by decide +kernel
theorem dX0_init_21 : decode cX0_init 21 = .ok (.iconst 0, 1) := by decide +kernel
theorem dX0_init_22 : decode cX0_init 22 = .ok (.istore_n 1, 1) := by decide +kernel
theorem dX0_init_23 : decode cX0_init 23 = .ok (.iload_n 1, 1) := by decide +kernel
theorem dX0_init_24 : decode cX0_init 24 = .ok (.bipush 26, 2) := by decide +kernel
theorem dX0_init_26 : decode cX0_init 26 = .ok (.if_icmp .ge 65, 3) := by decide +kernel
theorem dX0_init_29 : decode cX0_init 29 = .ok (.iconst 3, 1) := by decide +kernel
theorem dX0_init_30 : decode cX0_init 30 = .ok (.iload_n 1, 1) := by decide +kernel
theorem dX0_init_31 : decode cX0_init 31 = .ok (.iconst 3, 1) := by decide +kernel
theorem dX0_init_32 : decode cX0_init 32 = .ok (.irem, 1) := by decide +kernel
theorem dX0_init_33 : decode cX0_init 33 = .ok (.iadd, 1) := by decide +kernel
theorem dX0_init_34 : decode cX0_init 34 = .ok (.istore_n 2, 1) := by decide +kernel
theorem dX0_init_35 : decode cX0_init 35 = .ok (.aload_n 0, 1) := by decide +kernel
theorem dX0_init_36 : decode cX0_init 36 = .ok (.getfield 9, 3) := by decide +kernel
theorem dX0_init_39 : decode cX0_init 39 = .ok (.iload_n 1, 1) := by decide +kernel
theorem dX0_init_40 : decode cX0_init 40 = .ok (.iload_n 2, 1) := by decide +kernel
theorem dX0_init_41 : decode cX0_init 41 = .ok (.iastore, 1) := by decide +kernel
theorem dX0_init_42 : decode cX0_init 42 = .ok (.iconst 0, 1) := by decide +kernel
theorem dX0_init_43 : decode cX0_init 43 = .ok (.istore_n 3, 1) := by decide +kernel
theorem dX0_init_44 : decode cX0_init 44 = .ok (.iload_n 3, 1) := by decide +kernel
theorem dX0_init_45 : decode cX0_init 45 = .ok (.iload_n 2, 1) := by decide +kernel
theorem dX0_init_46 : decode cX0_init 46 = .ok (.if_icmp .ge 39, 3) := by decide +kernel
theorem dX0_init_49 : decode cX0_init 49 = .ok (.aload_n 0, 1) := by decide +kernel
theorem dX0_init_50 : decode cX0_init 50 = .ok (.getfield 15, 3) := by decide +kernel
theorem dX0_init_53 : decode cX0_init 53 = .ok (.iload_n 1, 1) := by decide +kernel
theorem dX0_init_54 : decode cX0_init 54 = .ok (.bipush 6, 2) := by decide +kernel
theorem dX0_init_56 : decode cX0_init 56 = .ok (.imul, 1) := by decide +kernel
theorem dX0_init_57 : decode cX0_init 57 = .ok (.iload_n 3, 1) := by decide +kernel
theorem dX0_init_58 : decode cX0_init 58 = .ok (.iadd, 1) := by decide +kernel
theorem dX0_init_59 : decode cX0_init 59 = .ok (.iload_n 1, 1) := by decide +kernel
theorem dX0_init_60 : decode cX0_init 60 = .ok (.iconst 1, 1) := by decide +kernel
theorem dX0_init_61 : decode cX0_init 61 = .ok (.iadd, 1) := by decide +kernel
theorem dX0_init_62 : decode cX0_init 62 = .ok (.iload_n 3, 1) := by decide +kernel
theorem dX0_init_63 : decode cX0_init 63 = .ok (.iconst 2, 1) := by decide +kernel
theorem dX0_init_64 : decode cX0_init 64 = .ok (.iadd, 1) := by decide +kernel
theorem dX0_init_65 : decode cX0_init 65 = .ok (.imul, 1) := by decide +kernel
theorem dX0_init_66 : decode cX0_init 66 = .ok (.bipush 29, 2) := by decide +kernel
theorem dX0_init_68 : decode cX0_init 68 = .ok (.imul, 1) := by decide +kernel
theorem dX0_init_69 : decode cX0_init 69 = .ok (.bipush 17, 2) := by decide +kernel
theorem dX0_init_71 : decode cX0_init 71 = .ok (.iload_n 3, 1) := by decide +kernel
theorem dX0_init_72 : decode cX0_init 72 = .ok (.imul, 1) := by decide +kernel
theorem dX0_init_73 : decode cX0_init 73 = .ok (.iadd, 1) := by decide +kernel
theorem dX0_init_74 : decode cX0_init 74 = .ok (.sipush 256, 3) := by decide +kernel
theorem dX0_init_77 : decode cX0_init 77 = .ok (.irem, 1) := by decide +kernel
theorem dX0_init_78 : decode cX0_init 78 = .ok (.iastore, 1) := by decide +kernel
theorem dX0_init_79 : decode cX0_init 79 = .ok (.iinc 3 1, 3) := by decide +kernel
theorem dX0_init_82 : decode cX0_init 82 = .ok (.goto (-38), 3) := by decide +kernel
theorem dX0_init_85 : decode cX0_init 85 = .ok (.iinc 1 1, 3) := by decide +kernel
theorem dX0_init_88 : decode cX0_init 88 = .ok (.goto (-65), 3) := by decide +kernel
theorem dX0_init_91 : decode cX0_init 91 = .ok (.aload_n 0, 1) := by decide +kernel
theorem dX0_init_92 : decode cX0_init 92 = .ok (.getfield 9, 3) := by decide +kernel
theorem dX0_init_95 : decode cX0_init 95 = .ok (.bipush 26, 2) := by decide +kernel
theorem dX0_init_97 : decode cX0_init 97 = .ok (.iconst 2, 1) := by decide +kernel
theorem dX0_init_98 : decode cX0_init 98 = .ok (.iastore, 1) := by decide +kernel
theorem dX0_init_99 : decode cX0_init 99 = .ok (.return_, 1) := by decide +kernel
theorem dX0_widthOf_0 : decode cX0_widthOf 0 = .ok (.iload_n 1, 1) := by decide +kernel
theorem dX0_widthOf_1 : decode cX0_widthOf 1 = .ok (.ifCond .lt 21, 3) := by decide +kernel
theorem dX0_widthOf_4 : decode cX0_widthOf 4 = .ok (.iload_n 1, 1) := by decide +kernel
theorem dX0_widthOf_5 : decode cX0_widthOf 5 = .ok (.aload_n 0, 1) := by decide +kernel
theorem dX0_widthOf_6 : decode cX0_widthOf 6 = .ok (.getfield 9, 3) := by decide +kernel
theorem dX0_widthOf_9 : decode cX0_widthOf 9 = .ok (.arraylength, 1) := by decide +kernel
theorem dX0_widthOf_10 : decode cX0_widthOf 10 = .ok (.if_icmp .ge 12, 3) := by decide +kernel
theorem dX0_widthOf_13 : decode cX0_widthOf 13 = .ok (.aload_n 0, 1) := by decide +kernel
theorem dX0_widthOf_14 : decode cX0_widthOf 14 = .ok (.getfield 9, 3) := by decide +kernel
theorem dX0_widthOf_17 : decode cX0_widthOf 17 = .ok (.iload_n 1, 1) := by decide +kernel
theorem dX0_widthOf_18 : decode cX0_widthOf 18 = .ok (.iaload, 1) := by decide +kernel
theorem dX0_widthOf_19 : decode cX0_widthOf 19 = .ok (.goto 4, 3) := by decide +kernel
theorem dX0_widthOf_22 : decode cX0_widthOf 22 = .ok (.iconst 0, 1) := by decide +kernel
theorem dX0_widthOf_23 : decode cX0_widthOf 23 = .ok (.ireturn, 1) := by decide +kernel
set_option maxRecDepth 20000 in
theorem ggX0_hasColumn_X0_widthOf : GoodIn wsX0_hasColumn wsX0_widthOf := goodIn_r _ [5, 6, 10, 11] (by decide +kernel) (by decide +kernel)
set_option maxRecDepth 20000 in
theorem gX0_hasColumn_X0_widthOf : GoodIn wsX0_hasColumn (wsV RX0 18 RX0 yX0_widthOf wsX0_widthOf) := goodIn_app (goodIn_of _ (by decide +kernel)) ggX0_hasColumn_X0_widthOf
set_option maxRecDepth 20000 in
theorem ggX0_hasColumn_X5_isWithin : GoodIn wsX0_hasColumn wsX5_isWithin := goodIn_r _ [9] (by decide +kernel) (by decide +kernel)
set_option maxRecDepth 20000 in
theorem gX0_hasColumn_X5_isWithin_n22 : GoodIn wsX0_hasColumn (wsX5_isWithin) := ggX0_hasColumn_X5_isWithin
theorem dX0_hasColumn_0 : decode cX0_hasColumn 0 = .ok (.iload_n 2, 1) := by decide +kernel
theorem dX0_hasColumn_1 : decode cX0_hasColumn 1 = .ok (.iconst 0, 1) := by decide +kernel
theorem dX0_hasColumn_2 : decode cX0_hasColumn 2 = .ok (.aload_n 0, 1) := by decide +kernel
theorem dX0_hasColumn_3 : decode cX0_hasColumn 3 = .ok (.iload_n 1, 1) := by decide +kernel
theorem dX0_hasColumn_4 : decode cX0_hasColumn 4 = .ok (.invokevirtual 18, 3) := by decide +kernel
theorem dX0_hasColumn_7 : decode cX0_hasColumn 7 = .ok (.iconst 1, 1) := by decide +kernel
theorem dX0_hasColumn_8 : decode cX0_hasColumn 8 = .ok (.isub, 1) := by decide +kernel
theorem dX0_hasColumn_9 : decode cX0_hasColumn 9 = .ok (.invokestatic 22, 3) := by decide +kernel
theorem dX0_hasColumn_12 : decode cX0_hasColumn 12 = .ok (.ireturn, 1) := by decide +kernel
theorem dX0_dotsOf_0 : decode cX0_dotsOf 0 = .ok (.iload_n 1, 1) := by decide +kernel
theorem dX0_dotsOf_1 : decode cX0_dotsOf 1 = .ok (.ifCond .lt 19, 3) := by decide +kernel
theorem dX0_dotsOf_4 : decode cX0_dotsOf 4 = .ok (.iload_n 1, 1) := by decide +kernel
theorem dX0_dotsOf_5 : decode cX0_dotsOf 5 = .ok (.bipush 27, 2) := by decide +kernel
theorem dX0_dotsOf_7 : decode cX0_dotsOf 7 = .ok (.if_icmp .ge 13, 3) := by decide +kernel
theorem dX0_dotsOf_10 : decode cX0_dotsOf 10 = .ok (.iload_n 2, 1) := by decide +kernel
theorem dX0_dotsOf_11 : decode cX0_dotsOf 11 = .ok (.ifCond .lt 9, 3) := by decide +kernel
theorem dX0_dotsOf_14 : decode cX0_dotsOf 14 = .ok (.iload_n 2, 1) := by decide +kernel
theorem dX0_dotsOf_15 : decode cX0_dotsOf 15 = .ok (.bipush 6, 2) := by decide +kernel
theorem dX0_dotsOf_17 : decode cX0_dotsOf 17 = .ok (.if_icmp .lt 5, 3) := by decide +kernel
theorem dX0_dotsOf_20 : decode cX0_dotsOf 20 = .ok (.iconst 0, 1) := by decide +kernel
theorem dX0_dotsOf_21 : decode cX0_dotsOf 21 = .ok (.ireturn, 1) := by decide +kernel
theorem dX0_dotsOf_22 : decode cX0_dotsOf 22 = .ok (.aload_n 0, 1) := by decide +kernel
theorem dX0_dotsOf_23 : decode cX0_dotsOf 23 = .ok (.getfield 15, 3) := by decide +kernel
theorem dX0_dotsOf_26 : decode cX0_dotsOf 26 = .ok (.iload_n 1, 1) := by decide +kernel
theorem dX0_dotsOf_27 : decode cX0_dotsOf 27 = .ok (.bipush 6, 2) := by decide +kernel
theorem dX0_dotsOf_29 : decode cX0_dotsOf 29 = .ok (.imul, 1) := by decide +kernel
theorem dX0_dotsOf_30 : decode cX0_dotsOf 30 = .ok (.iload_n 2, 1) := by decide +kernel
theorem dX0_dotsOf_31 : decode cX0_dotsOf 31 = .ok (.iadd, 1) := by decide +kernel
theorem dX0_dotsOf_32 : decode cX0_dotsOf 32 = .ok (.iaload, 1) := by decide +kernel
theorem dX0_dotsOf_33 : decode cX0_dotsOf 33 = .ok (.ireturn, 1) := by decide +kernel
set_option maxRecDepth 20000 in
theorem ggX0_draw_X5_isCharacter : GoodIn wsX0_draw wsX5_isCharacter := goodIn_r _ [4, 5, 6, 3, 7] (by decide +kernel) (by decide +kernel)
set_option maxRecDepth 20000 in
theorem gX0_draw_X5_isCharacter_n26 : GoodIn wsX0_draw (wsX5_isCharacter) := ggX0_draw_X5_isCharacter
set_option maxRecDepth 20000 in
theorem ggX0_draw_X5_isWithin : GoodIn wsX0_draw wsX5_isWithin := goodIn_r _ [7] (by decide +kernel) (by decide +kernel)
set_option maxRecDepth 20000 in
theorem gX0_draw_X5_isWithin_n22 : GoodIn wsX0_draw (wsX5_isWithin) := ggX0_draw_X5_isWithin
set_option maxRecDepth 20000 in
theorem ggX0_draw_X0_hasColumn : GoodIn wsX0_draw wsX0_hasColumn := goodIn_r _ [12, 13, 14, 15, 11, 16, 17, 6, 3, 7, 18, 19] (by decide +kernel) (by decide +kernel)
set_option maxRecDepth 20000 in
theorem gX0_draw_X0_hasColumn : GoodIn wsX0_draw (wsV RX0 30 RX0 yX0_hasColumn wsX0_hasColumn) := goodIn_app (goodIn_of _ (by decide +kernel)) ggX0_draw_X0_hasColumn
theorem dX0_draw_0 : decode cX0_draw 0 = .ok (.iload_n 1, 1) := by decide +kernel
theorem dX0_draw_1 : decode cX0_draw 1 = .ok (.invokestatic 26, 3) := by decide +kernel
theorem dX0_draw_4 : decode cX0_draw 4 = .ok (.ifCond .eq 33, 3) := by decide +kernel
theorem dX0_draw_7 : decode cX0_draw 7 = .ok (.iload_n 2, 1) := by decide +kernel
theorem dX0_draw_8 : decode cX0_draw 8 = .ok (.iconst 0, 1) := by decide +kernel
theorem dX0_draw_9 : decode cX0_draw 9 = .ok (.iconst 5, 1) := by decide +kernel
theorem dX0_draw_10 : decode cX0_draw 10 = .ok (.invokestatic 22, 3) := by decide +kernel
theorem dX0_draw_13 : decode cX0_draw 13 = .ok (.ifCond .eq 24, 3) := by decide +kernel
theorem dX0_draw_16 : decode cX0_draw 16 = .ok (.aload_n 0, 1) := by decide +kernel
theorem dX0_draw_17 : decode cX0_draw 17 = .ok (.iload_n 1, 1) := by decide +kernel
theorem dX0_draw_18 : decode cX0_draw 18 = .ok (.iload_n 2, 1) := by decide +kernel
theorem dX0_draw_19 : decode cX0_draw 19 = .ok (.invokevirtual 30, 3) := by decide +kernel
theorem dX0_draw_22 : decode cX0_draw 22 = .ok (.ifCond .eq 15, 3) := by decide +kernel
theorem dX0_draw_25 : decode cX0_draw 25 = .ok (.aload_n 0, 1) := by decide +kernel
theorem dX0_draw_26 : decode cX0_draw 26 = .ok (.getfield 15, 3) := by decide +kernel
theorem dX0_draw_29 : decode cX0_draw 29 = .ok (.iload_n 1, 1) := by decide +kernel
theorem dX0_draw_30 : decode cX0_draw 30 = .ok (.bipush 6, 2) := by decide +kernel
theorem dX0_draw_32 : decode cX0_draw 32 = .ok (.imul, 1) := by decide +kernel
theorem dX0_draw_33 : decode cX0_draw 33 = .ok (.iload_n 2, 1) := by decide +kernel
theorem dX0_draw_34 : decode cX0_draw 34 = .ok (.iadd, 1) := by decide +kernel
theorem dX0_draw_35 : decode cX0_draw 35 = .ok (.iload_n 3, 1) := by decide +kernel
theorem dX0_draw_36 : decode cX0_draw 36 = .ok (.iastore, 1) := by decide +kernel
theorem dX0_draw_37 : decode cX0_draw 37 = .ok (.return_, 1) := by decide +kernel
set_option maxRecDepth 20000 in
theorem ggX0_resize_X5_isCharacter : GoodIn wsX0_resize wsX5_isCharacter := goodIn_r _ [5, 6, 7, 4, 8] (by decide +kernel) (by decide +kernel)
set_option maxRecDepth 20000 in
theorem gX0_resize_X5_isCharacter_n26 : GoodIn wsX0_resize (wsX5_isCharacter) := ggX0_resize_X5_isCharacter
set_option maxRecDepth 20000 in
theorem ggX0_resize_X5_isWithin : GoodIn wsX0_resize wsX5_isWithin := goodIn_r _ [8] (by decide +kernel) (by decide +kernel)
set_option maxRecDepth 20000 in
theorem gX0_resize_X5_isWithin_n22 : GoodIn wsX0_resize (wsX5_isWithin) := ggX0_resize_X5_isWithin
theorem dX0_resize_0 : decode cX0_resize 0 = .ok (.iload_n 1, 1) := by decide +kernel
theorem dX0_resize_1 : decode cX0_resize 1 = .ok (.invokestatic 26, 3) := by decide +kernel
theorem dX0_resize_4 : decode cX0_resize 4 = .ok (.ifCond .eq 13, 3) := by decide +kernel
theorem dX0_resize_7 : decode cX0_resize 7 = .ok (.iload_n 2, 1) := by decide +kernel
theorem dX0_resize_8 : decode cX0_resize 8 = .ok (.iconst 1, 1) := by decide +kernel
theorem dX0_resize_9 : decode cX0_resize 9 = .ok (.bipush 6, 2) := by decide +kernel
theorem dX0_resize_11 : decode cX0_resize 11 = .ok (.invokestatic 22, 3) := by decide +kernel
theorem dX0_resize_14 : decode cX0_resize 14 = .ok (.ifCond .ne 4, 3) := by decide +kernel
theorem dX0_resize_17 : decode cX0_resize 17 = .ok (.return_, 1) := by decide +kernel
theorem dX0_resize_18 : decode cX0_resize 18 = .ok (.iload_n 2, 1) := by decide +kernel
theorem dX0_resize_19 : decode cX0_resize 19 = .ok (.istore_n 3, 1) := by decide +kernel
theorem dX0_resize_20 : decode cX0_resize 20 = .ok (.iload_n 3, 1) := by decide +kernel
theorem dX0_resize_21 : decode cX0_resize 21 = .ok (.bipush 6, 2) := by decide +kernel
theorem dX0_resize_23 : decode cX0_resize 23 = .ok (.if_icmp .ge 21, 3) := by decide +kernel
theorem dX0_resize_26 : decode cX0_resize 26 = .ok (.aload_n 0, 1) := by decide +kernel
theorem dX0_resize_27 : decode cX0_resize 27 = .ok (.getfield 15, 3) := by decide +kernel
theorem dX0_resize_30 : decode cX0_resize 30 = .ok (.iload_n 1, 1) := by decide +kernel
theorem dX0_resize_31 : decode cX0_resize 31 = .ok (.bipush 6, 2) := by decide +kernel
theorem dX0_resize_33 : decode cX0_resize 33 = .ok (.imul, 1) := by decide +kernel
theorem dX0_resize_34 : decode cX0_resize 34 = .ok (.iload_n 3, 1) := by decide +kernel
theorem dX0_resize_35 : decode cX0_resize 35 = .ok (.iadd, 1) := by decide +kernel
theorem dX0_resize_36 : decode cX0_resize 36 = .ok (.iconst 0, 1) := by decide +kernel
theorem dX0_resize_37 : decode cX0_resize 37 = .ok (.iastore, 1) := by decide +kernel
theorem dX0_resize_38 : decode cX0_resize 38 = .ok (.iinc 3 1, 3) := by decide +kernel
theorem dX0_resize_41 : decode cX0_resize 41 = .ok (.goto (-21), 3) := by decide +kernel
theorem dX0_resize_44 : decode cX0_resize 44 = .ok (.aload_n 0, 1) := by decide +kernel
theorem dX0_resize_45 : decode cX0_resize 45 = .ok (.getfield 9, 3) := by decide +kernel
theorem dX0_resize_48 : decode cX0_resize 48 = .ok (.iload_n 1, 1) := by decide +kernel
theorem dX0_resize_49 : decode cX0_resize 49 = .ok (.iload_n 2, 1) := by decide +kernel
theorem dX0_resize_50 : decode cX0_resize 50 = .ok (.iastore, 1) := by decide +kernel
theorem dX0_resize_51 : decode cX0_resize 51 = .ok (.return_, 1) := by decide +kernel
set_option maxRecDepth 20000 in
theorem ggX1_init_X4_init : GoodIn wsX1_init wsX4_init := goodIn_r _ [9, 10, 2, 3, 11, 12, 13, 14] (by decide +kernel) (by decide +kernel)
set_option maxRecDepth 20000 in
theorem gX1_init_X4_init_n9 : GoodIn wsX1_init (wsX4_init) := ggX1_init_X4_init
theorem dX1_init_0 : decode cX1_init 0 = .ok (.aload_n 0, 1) := by decide +kernel
theorem dX1_init_1 : decode cX1_init 1 = .ok (.invokespecial 1, 3) := by decide +kernel
theorem dX1_init_4 : decode cX1_init 4 = .ok (.aload_n 0, 1) := by decide +kernel
theorem dX1_init_5 : decode cX1_init 5 = .ok (.new 7, 3) := by decide +kernel
theorem dX1_init_8 : decode cX1_init 8 = .ok (.dup, 1) := by decide +kernel
theorem dX1_init_9 : decode cX1_init 9 = .ok (.invokespecial 9, 3) := by decide +kernel
theorem dX1_init_12 : decode cX1_init 12 = .ok (.putfield 10, 3) := by decide +kernel
theorem dX1_init_15 : decode cX1_init 15 = .ok (.return_, 1) := by decide +kernel
set_option maxRecDepth 20000 in
theorem ggX2_init_X1_init : GoodIn wsX2_init wsX1_init := goodIn_r _ [9, 10, 2, 3, 11, 12, 13, 14, 15, 16, 17, 18, 19, 26, 27, 22, 23, 24, 25] (by decide +kernel) (by decide +kernel)
set_option maxRecDepth 20000 in
theorem gX2_init_X1_init_n17 : GoodIn wsX2_init (wsX1_init) := ggX2_init_X1_init
theorem dX2_init_0 : decode cX2_init 0 = .ok (.aload_n 0, 1) := by decide +kernel
theorem dX2_init_1 : decode cX2_init 1 = .ok (.invokespecial 3, 3) := by decide +kernel
theorem dX2_init_4 : decode cX2_init 4 = .ok (.aload_n 0, 1) := by decide +kernel
theorem dX2_init_5 : decode cX2_init 5 = .ok (.bipush 6, 2) := by decide +kernel
theorem dX2_init_7 : decode cX2_init 7 = .ok (.anewarray 9, 3) := by decide +kernel
theorem dX2_init_10 : decode cX2_init 10 = .ok (.putfield 11, 3) := by decide +kernel
theorem dX2_init_13 : decode cX2_init 13 = .ok (.iconst 0, 1) := by decide +kernel
theorem dX2_init_14 : decode cX2_init 14 = .ok (.istore_n 1, 1) := by decide +kernel
theorem dX2_init_15 : decode cX2_init 15 = .ok (.iload_n 1, 1) := by decide +kernel
theorem dX2_init_16 : decode cX2_init 16 = .ok (.aload_n 0, 1) := by decide +kernel
theorem dX2_init_17 : decode cX2_init 17 = .ok (.getfield 11, 3) := by decide +kernel
theorem dX2_init_20 : decode cX2_init 20 = .ok (.arraylength, 1) := by decide +kernel
theorem dX2_init_21 : decode cX2_init 21 = .ok (.if_icmp .ge 22, 3) := by decide +kernel
theorem dX2_init_24 : decode cX2_init 24 = .ok (.aload_n 0, 1) := by decide +kernel
theorem dX2_init_25 : decode cX2_init 25 = .ok (.getfield 11, 3) := by decide +kernel
theorem dX2_init_28 : decode cX2_init 28 = .ok (.iload_n 1, 1) := by decide +kernel
theorem dX2_init_29 : decode cX2_init 29 = .ok (.new 9, 3) := by decide +kernel
theorem dX2_init_32 : decode cX2_init 32 = .ok (.dup, 1) := by decide +kernel
theorem dX2_init_33 : decode cX2_init 33 = .ok (.invokespecial 17, 3) := by decide +kernel
theorem dX2_init_36 : decode cX2_init 36 = .ok (.aastore, 1) := by decide +kernel
theorem dX2_init_37 : decode cX2_init 37 = .ok (.iinc 1 1, 3) := by decide +kernel
theorem dX2_init_40 : decode cX2_init 40 = .ok (.goto (-25), 3) := by decide +kernel
theorem dX2_init_43 : decode cX2_init 43 = .ok (.return_, 1) := by decide +kernel
set_option maxRecDepth 20000 in
theorem ggX2_find_X2_last : GoodIn wsX2_find wsX2_last := goodIn_r _ [6, 7, 1, 8, 9, 10, 11, 15, 16] (by decide +kernel) (by decide +kernel)
set_option maxRecDepth 20000 in
theorem gX2_find_X2_last : GoodIn wsX2_find (wsV RX2 18 RX2 yX2_last wsX2_last) := goodIn_app (goodIn_of _ (by decide +kernel)) ggX2_find_X2_last
set_option maxRecDepth 20000 in
theorem ggX2_find_X5_isWithin : GoodIn wsX2_find wsX5_isWithin := goodIn_r _ [14] (by decide +kernel) (by decide +kernel)
set_option maxRecDepth 20000 in
theorem gX2_find_X5_isWithin_n22 : GoodIn wsX2_find (wsX5_isWithin) := ggX2_find_X5_isWithin
theorem dX2_find_0 : decode cX2_find 0 = .ok (.iload_n 1, 1) := by decide +kernel
theorem dX2_find_1 : decode cX2_find 1 = .ok (.iconst 0, 1) := by decide +kernel
theorem dX2_find_2 : decode cX2_find 2 = .ok (.aload_n 0, 1) := by decide +kernel
theorem dX2_find_3 : decode cX2_find 3 = .ok (.invokevirtual 18, 3) := by decide +kernel
theorem dX2_find_6 : decode cX2_find 6 = .ok (.invokestatic 22, 3) := by decide +kernel
theorem dX2_find_9 : decode cX2_find 9 = .ok (.ifCond .eq 12, 3) := by decide +kernel
theorem dX2_find_12 : decode cX2_find 12 = .ok (.aload_n 0, 1) := by decide +kernel
theorem dX2_find_13 : decode cX2_find 13 = .ok (.getfield 11, 3) := by decide +kernel
theorem dX2_find_16 : decode cX2_find 16 = .ok (.iload_n 1, 1) := by decide +kernel
theorem dX2_find_17 : decode cX2_find 17 = .ok (.aaload, 1) := by decide +kernel
theorem dX2_find_18 : decode cX2_find 18 = .ok (.goto 4, 3) := by decide +kernel
theorem dX2_find_21 : decode cX2_find 21 = .ok (.aconst_null, 1) := by decide +kernel
theorem dX2_find_22 : decode cX2_find 22 = .ok (.areturn, 1) := by decide +kernel
theorem dX2_last_0 : decode cX2_last 0 = .ok (.aload_n 0, 1) := by decide +kernel
theorem dX2_last_1 : decode cX2_last 1 = .ok (.getfield 26, 3) := by decide +kernel
theorem dX2_last_4 : decode cX2_last 4 = .ok (.aload_n 0, 1) := by decide +kernel
theorem dX2_last_5 : decode cX2_last 5 = .ok (.getfield 11, 3) := by decide +kernel
theorem dX2_last_8 : decode cX2_last 8 = .ok (.arraylength, 1) := by decide +kernel
theorem dX2_last_9 : decode cX2_last 9 = .ok (.invokestatic 30, 3) := by decide +kernel
theorem dX2_last_12 : decode cX2_last 12 = .ok (.iconst 1, 1) := by decide +kernel
theorem dX2_last_13 : decode cX2_last 13 = .ok (.isub, 1) := by decide +kernel
theorem dX2_last_14 : decode cX2_last 14 = .ok (.ireturn, 1) := by decide +kernel
set_option maxRecDepth 20000 in
theorem ggX2_insert_X5_isWithin : GoodIn wsX2_insert wsX5_isWithin := goodIn_r _ [5] (by decide +kernel) (by decide +kernel)
set_option maxRecDepth 20000 in
theorem gX2_insert_X5_isWithin_n22 : GoodIn wsX2_insert (wsX5_isWithin) := ggX2_insert_X5_isWithin
set_option maxRecDepth 20000 in
theorem ggX2_insert_X4_copyFrom : GoodIn wsX2_insert wsX4_copyFrom := goodIn_r _ [10, 11, 12, 13, 14, 15, 9, 16, 3, 4, 5, 23, 24] (by decide +kernel) (by decide +kernel)
set_option maxRecDepth 20000 in
theorem gX2_insert_X4_copyFrom : GoodIn wsX2_insert (wsV RX2 40 RX4 yX4_copyFrom wsX4_copyFrom) := goodIn_app (goodIn_of _ (by decide +kernel)) ggX2_insert_X4_copyFrom
theorem dX2_insert_0 : decode cX2_insert 0 = .ok (.aload_n 0, 1) := by decide +kernel
theorem dX2_insert_1 : decode cX2_insert 1 = .ok (.getfield 26, 3) := by decide +kernel
theorem dX2_insert_4 : decode cX2_insert 4 = .ok (.aload_n 0, 1) := by decide +kernel
theorem dX2_insert_5 : decode cX2_insert 5 = .ok (.getfield 11, 3) := by decide +kernel
theorem dX2_insert_8 : decode cX2_insert 8 = .ok (.arraylength, 1) := by decide +kernel
theorem dX2_insert_9 : decode cX2_insert 9 = .ok (.if_icmp .ge 27, 3) := by decide +kernel
theorem dX2_insert_12 : decode cX2_insert 12 = .ok (.iload_n 1, 1) := by decide +kernel
theorem dX2_insert_13 : decode cX2_insert 13 = .ok (.iconst 0, 1) := by decide +kernel
theorem dX2_insert_14 : decode cX2_insert 14 = .ok (.aload_n 0, 1) := by decide +kernel
theorem dX2_insert_15 : decode cX2_insert 15 = .ok (.getfield 26, 3) := by decide +kernel
theorem dX2_insert_18 : decode cX2_insert 18 = .ok (.invokestatic 22, 3) := by decide +kernel
theorem dX2_insert_21 : decode cX2_insert 21 = .ok (.ifCond .eq 15, 3) := by decide +kernel
theorem dX2_insert_24 : decode cX2_insert 24 = .ok (.aload_n 0, 1) := by decide +kernel
theorem dX2_insert_25 : decode cX2_insert 25 = .ok (.getfield 11, 3) := by decide +kernel
theorem dX2_insert_28 : decode cX2_insert 28 = .ok (.aload_n 0, 1) := by decide +kernel
theorem dX2_insert_29 : decode cX2_insert 29 = .ok (.getfield 26, 3) := by decide +kernel
theorem dX2_insert_32 : decode cX2_insert 32 = .ok (.aaload, 1) := by decide +kernel
theorem dX2_insert_33 : decode cX2_insert 33 = .ok (.ifnonnull 4, 3) := by decide +kernel
theorem dX2_insert_36 : decode cX2_insert 36 = .ok (.return_, 1) := by decide +kernel
theorem dX2_insert_37 : decode cX2_insert 37 = .ok (.aload_n 0, 1) := by decide +kernel
theorem dX2_insert_38 : decode cX2_insert 38 = .ok (.getfield 11, 3) := by decide +kernel
theorem dX2_insert_41 : decode cX2_insert 41 = .ok (.aload_n 0, 1) := by decide +kernel
theorem dX2_insert_42 : decode cX2_insert 42 = .ok (.getfield 26, 3) := by decide +kernel
theorem dX2_insert_45 : decode cX2_insert 45 = .ok (.aaload, 1) := by decide +kernel
theorem dX2_insert_46 : decode cX2_insert 46 = .ok (.astore 4, 2) := by decide +kernel
theorem dX2_insert_48 : decode cX2_insert 48 = .ok (.aload_n 0, 1) := by decide +kernel
theorem dX2_insert_49 : decode cX2_insert 49 = .ok (.getfield 26, 3) := by decide +kernel
theorem dX2_insert_52 : decode cX2_insert 52 = .ok (.istore 5, 2) := by decide +kernel
theorem dX2_insert_54 : decode cX2_insert 54 = .ok (.iload 5, 2) := by decide +kernel
theorem dX2_insert_56 : decode cX2_insert 56 = .ok (.iload_n 1, 1) := by decide +kernel
theorem dX2_insert_57 : decode cX2_insert 57 = .ok (.if_icmp .le 25, 3) := by decide +kernel
theorem dX2_insert_60 : decode cX2_insert 60 = .ok (.aload_n 0, 1) := by decide +kernel
theorem dX2_insert_61 : decode cX2_insert 61 = .ok (.getfield 11, 3) := by decide +kernel
theorem dX2_insert_64 : decode cX2_insert 64 = .ok (.iload 5, 2) := by decide +kernel
theorem dX2_insert_66 : decode cX2_insert 66 = .ok (.aload_n 0, 1) := by decide +kernel
theorem dX2_insert_67 : decode cX2_insert 67 = .ok (.getfield 11, 3) := by decide +kernel
theorem dX2_insert_70 : decode cX2_insert 70 = .ok (.iload 5, 2) := by decide +kernel
theorem dX2_insert_72 : decode cX2_insert 72 = .ok (.iconst 1, 1) := by decide +kernel
theorem dX2_insert_73 : decode cX2_insert 73 = .ok (.isub, 1) := by decide +kernel
theorem dX2_insert_74 : decode cX2_insert 74 = .ok (.aaload, 1) := by decide +kernel
theorem dX2_insert_75 : decode cX2_insert 75 = .ok (.aastore, 1) := by decide +kernel
theorem dX2_insert_76 : decode cX2_insert 76 = .ok (.iinc 5 (-1), 3) := by decide +kernel
theorem dX2_insert_79 : decode cX2_insert 79 = .ok (.goto (-25), 3) := by decide +kernel
theorem dX2_insert_82 : decode cX2_insert 82 = .ok (.aload_n 0, 1) := by decide +kernel
theorem dX2_insert_83 : decode cX2_insert 83 = .ok (.getfield 11, 3) := by decide +kernel
theorem dX2_insert_86 : decode cX2_insert 86 = .ok (.iload_n 1, 1) := by decide +kernel
theorem dX2_insert_87 : decode cX2_insert 87 = .ok (.aload 4, 2) := by decide +kernel
theorem dX2_insert_89 : decode cX2_insert 89 = .ok (.aastore, 1) := by decide +kernel
theorem dX2_insert_90 : decode cX2_insert 90 = .ok (.aload_n 0, 1) := by decide +kernel
theorem dX2_insert_91 : decode cX2_insert 91 = .ok (.dup, 1) := by decide +kernel
theorem dX2_insert_92 : decode cX2_insert 92 = .ok (.getfield 26, 3) := by decide +kernel
theorem dX2_insert_95 : decode cX2_insert 95 = .ok (.iconst 1, 1) := by decide +kernel
theorem dX2_insert_96 : decode cX2_insert 96 = .ok (.iadd, 1) := by decide +kernel
theorem dX2_insert_97 : decode cX2_insert 97 = .ok (.putfield 26, 3) := by decide +kernel
theorem dX2_insert_100 : decode cX2_insert 100 = .ok (.aload 4, 2) := by decide +kernel
theorem dX2_insert_102 : decode cX2_insert 102 = .ok (.getfield 36, 3) := by decide +kernel
theorem dX2_insert_105 : decode cX2_insert 105 = .ok (.aload_n 2, 1) := by decide +kernel
theorem dX2_insert_106 : decode cX2_insert 106 = .ok (.invokevirtual 40, 3) := by decide +kernel
theorem dX2_insert_109 : decode cX2_insert 109 = .ok (.aload 4, 2) := by decide +kernel
theorem dX2_insert_111 : decode cX2_insert 111 = .ok (.iload_n 3, 1) := by decide +kernel
theorem dX2_insert_112 : decode cX2_insert 112 = .ok (.putfield 46, 3) := by decide +kernel
theorem dX2_insert_115 : decode cX2_insert 115 = .ok (.return_, 1) := by decide +kernel
set_option maxRecDepth 20000 in
theorem ggX2_remove_X2_find : GoodIn wsX2_remove wsX2_find := goodIn_r _ [7, 1, 8, 9, 10, 6, 11, 2, 12, 13, 14, 15, 16, 17, 18, 19, 20] (by decide +kernel) (by decide +kernel)
set_option maxRecDepth 20000 in
theorem gX2_remove_X2_find : GoodIn wsX2_remove (wsV RX2 49 RX2 yX2_find wsX2_find) := goodIn_app (goodIn_of _ (by decide +kernel)) ggX2_remove_X2_find
set_option maxRecDepth 20000 in
theorem ggX2_remove_X2_last : GoodIn wsX2_remove wsX2_last := goodIn_r _ [11, 2, 1, 12, 13, 14, 15, 19, 20] (by decide +kernel) (by decide +kernel)
set_option maxRecDepth 20000 in
theorem gX2_remove_X2_last : GoodIn wsX2_remove (wsV RX2 18 RX2 yX2_last wsX2_last) := goodIn_app (goodIn_of _ (by decide +kernel)) ggX2_remove_X2_last
theorem dX2_remove_0 : decode cX2_remove 0 = .ok (.aload_n 0, 1) := by decide +kernel
theorem dX2_remove_1 : decode cX2_remove 1 = .ok (.iload_n 1, 1) := by decide +kernel
theorem dX2_remove_2 : decode cX2_remove 2 = .ok (.invokevirtual 49, 3) := by decide +kernel
theorem dX2_remove_5 : decode cX2_remove 5 = .ok (.astore_n 2, 1) := by decide +kernel
theorem dX2_remove_6 : decode cX2_remove 6 = .ok (.aload_n 2, 1) := by decide +kernel
theorem dX2_remove_7 : decode cX2_remove 7 = .ok (.ifnonnull 4, 3) := by decide +kernel
theorem dX2_remove_10 : decode cX2_remove 10 = .ok (.return_, 1) := by decide +kernel
theorem dX2_remove_11 : decode cX2_remove 11 = .ok (.aload_n 0, 1) := by decide +kernel
theorem dX2_remove_12 : decode cX2_remove 12 = .ok (.invokevirtual 18, 3) := by decide +kernel
theorem dX2_remove_15 : decode cX2_remove 15 = .ok (.istore_n 3, 1) := by decide +kernel
theorem dX2_remove_16 : decode cX2_remove 16 = .ok (.iload_n 1, 1) := by decide +kernel
theorem dX2_remove_17 : decode cX2_remove 17 = .ok (.istore 4, 2) := by decide +kernel
theorem dX2_remove_19 : decode cX2_remove 19 = .ok (.iload 4, 2) := by decide +kernel
theorem dX2_remove_21 : decode cX2_remove 21 = .ok (.iload_n 3, 1) := by decide +kernel
theorem dX2_remove_22 : decode cX2_remove 22 = .ok (.if_icmp .ge 25, 3) := by decide +kernel
theorem dX2_remove_25 : decode cX2_remove 25 = .ok (.aload_n 0, 1) := by decide +kernel
theorem dX2_remove_26 : decode cX2_remove 26 = .ok (.getfield 11, 3) := by decide +kernel
theorem dX2_remove_29 : decode cX2_remove 29 = .ok (.iload 4, 2) := by decide +kernel
theorem dX2_remove_31 : decode cX2_remove 31 = .ok (.aload_n 0, 1) := by decide +kernel
theorem dX2_remove_32 : decode cX2_remove 32 = .ok (.getfield 11, 3) := by decide +kernel
theorem dX2_remove_35 : decode cX2_remove 35 = .ok (.iload 4, 2) := by decide +kernel
theorem dX2_remove_37 : decode cX2_remove 37 = .ok (.iconst 1, 1) := by decide +kernel
theorem dX2_remove_38 : decode cX2_remove 38 = .ok (.iadd, 1) := by decide +kernel
theorem dX2_remove_39 : decode cX2_remove 39 = .ok (.aaload, 1) := by decide +kernel
theorem dX2_remove_40 : decode cX2_remove 40 = .ok (.aastore, 1) := by decide +kernel
theorem dX2_remove_41 : decode cX2_remove 41 = .ok (.iinc 4 1, 3) := by decide +kernel
theorem dX2_remove_44 : decode cX2_remove 44 = .ok (.goto (-25), 3) := by decide +kernel
theorem dX2_remove_47 : decode cX2_remove 47 = .ok (.aload_n 0, 1) := by decide +kernel
theorem dX2_remove_48 : decode cX2_remove 48 = .ok (.getfield 11, 3) := by decide +kernel
theorem dX2_remove_51 : decode cX2_remove 51 = .ok (.iload_n 3, 1) := by decide +kernel
theorem dX2_remove_52 : decode cX2_remove 52 = .ok (.aload_n 2, 1) := by decide +kernel
theorem dX2_remove_53 : decode cX2_remove 53 = .ok (.aastore, 1) := by decide +kernel
theorem dX2_remove_54 : decode cX2_remove 54 = .ok (.aload_n 0, 1) := by decide +kernel
theorem dX2_remove_55 : decode cX2_remove 55 = .ok (.iload_n 3, 1) := by decide +kernel
theorem dX2_remove_56 : decode cX2_remove 56 = .ok (.putfield 26, 3) := by decide +kernel
theorem dX2_remove_59 : decode cX2_remove 59 = .ok (.return_, 1) := by decide +kernel
theorem dX3_init_0 : decode cX3_init 0 = .ok (.aload_n 0, 1) := by decide +kernel
theorem dX3_init_1 : decode cX3_init 1 = .ok (.invokespecial 3, 3) := by decide +kernel
theorem dX3_init_4 : decode cX3_init 4 = .ok (.aload_n 0, 1) := by decide +kernel
theorem dX3_init_5 : decode cX3_init 5 = .ok (.sipush 552, 3) := by decide +kernel
theorem dX3_init_8 : decode cX3_init 8 = .ok (.newarray .int, 2) := by decide +kernel
theorem dX3_init_10 : decode cX3_init 10 = .ok (.putfield 9, 3) := by decide +kernel
theorem dX3_init_13 : decode cX3_init 13 = .ok (.aload_n 0, 1) := by decide +kernel
theorem dX3_init_14 : decode cX3_init 14 = .ok (.sipush 552, 3) := by decide +kernel
theorem dX3_init_17 : decode cX3_init 17 = .ok (.newarray .int, 2) := by decide +kernel
theorem dX3_init_19 : decode cX3_init 19 = .ok (.putfield 15, 3) := by decide +kernel
theorem dX3_init_22 : decode cX3_init 22 = .ok (.return_, 1) := by decide +kernel
set_option maxRecDepth 20000 in
theorem ggX3_layOut_X2_find : GoodIn wsX3_layOut wsX2_find := goodIn_r _ [6, 7, 8, 9, 10, 5, 11, 12, 13, 14, 15, 16, 17, 18, 19, 59, 60] (by decide +kernel) (by decide +kernel)
set_option maxRecDepth 20000 in
theorem gX3_layOut_X2_find : GoodIn wsX3_layOut (wsV RX3 27 RX2 yX2_find wsX2_find) := goodIn_app (goodIn_of _ (by decide +kernel)) ggX3_layOut_X2_find
set_option maxRecDepth 20000 in
theorem ggX3_layOut_X3_addMessage : GoodIn wsX3_layOut wsX3_addMessage := goodIn_r _ [24, 1, 25, 26, 27, 23, 28, 29, 30, 31, 32, 33, 34, 35, 36, 37, 38, 39, 40, 17, 18, 19, 41, 42, 43, 44, 45, 46, 47, 48, 49, 50, 51, 52, 53, 54, 55, 56, 57, 58, 61, 62, 63, 64, 65, 66, 67, 68] (by decide +kernel) (by decide +kernel)
set_option maxRecDepth 20000 in
theorem gX3_layOut_X3_addMessage : GoodIn wsX3_layOut (wsV RX3 31 RX3 yX3_addMessage wsX3_addMessage) := goodIn_app (goodIn_of _ (by decide +kernel)) ggX3_layOut_X3_addMessage
set_option maxRecDepth 20000 in
theorem ggX3_layOut_X3_addDark : GoodIn wsX3_layOut wsX3_addDark := goodIn_r _ [28, 29, 30, 31, 23, 32, 1, 33, 34, 56, 57, 58] (by decide +kernel) (by decide +kernel)
set_option maxRecDepth 20000 in
theorem gX3_layOut_X3_addDark : GoodIn wsX3_layOut (wsV RX3 35 RX3 yX3_addDark wsX3_addDark) := goodIn_app (goodIn_of _ (by decide +kernel)) ggX3_layOut_X3_addDark
theorem dX3_layOut_0 : decode cX3_layOut 0 = .ok (.aload_n 0, 1) := by decide +kernel
theorem dX3_layOut_1 : decode cX3_layOut 1 = .ok (.iconst 0, 1) := by decide +kernel
theorem dX3_layOut_2 : decode cX3_layOut 2 = .ok (.putfield 18, 3) := by decide +kernel
theorem dX3_layOut_5 : decode cX3_layOut 5 = .ok (.iconst 0, 1) := by decide +kernel
theorem dX3_layOut_6 : decode cX3_layOut 6 = .ok (.istore 4, 2) := by decide +kernel
theorem dX3_layOut_8 : decode cX3_layOut 8 = .ok (.iload 4, 2) := by decide +kernel
theorem dX3_layOut_10 : decode cX3_layOut 10 = .ok (.aload_n 1, 1) := by decide +kernel
theorem dX3_layOut_11 : decode cX3_layOut 11 = .ok (.getfield 22, 3) := by decide +kernel
theorem dX3_layOut_14 : decode cX3_layOut 14 = .ok (.if_icmp .ge 34, 3) := by decide +kernel
theorem dX3_layOut_17 : decode cX3_layOut 17 = .ok (.aload_n 1, 1) := by decide +kernel
theorem dX3_layOut_18 : decode cX3_layOut 18 = .ok (.iload 4, 2) := by decide +kernel
theorem dX3_layOut_20 : decode cX3_layOut 20 = .ok (.invokevirtual 27, 3) := by decide +kernel
theorem dX3_layOut_23 : decode cX3_layOut 23 = .ok (.astore 5, 2) := by decide +kernel
theorem dX3_layOut_25 : decode cX3_layOut 25 = .ok (.aload 5, 2) := by decide +kernel
theorem dX3_layOut_27 : decode cX3_layOut 27 = .ok (.ifnull 15, 3) := by decide +kernel
theorem dX3_layOut_30 : decode cX3_layOut 30 = .ok (.aload_n 0, 1) := by decide +kernel
theorem dX3_layOut_31 : decode cX3_layOut 31 = .ok (.aload 5, 2) := by decide +kernel
theorem dX3_layOut_33 : decode cX3_layOut 33 = .ok (.aload_n 2, 1) := by decide +kernel
theorem dX3_layOut_34 : decode cX3_layOut 34 = .ok (.invokevirtual 31, 3) := by decide +kernel
theorem dX3_layOut_37 : decode cX3_layOut 37 = .ok (.aload_n 0, 1) := by decide +kernel
theorem dX3_layOut_38 : decode cX3_layOut 38 = .ok (.iload_n 3, 1) := by decide +kernel
theorem dX3_layOut_39 : decode cX3_layOut 39 = .ok (.invokevirtual 35, 3) := by decide +kernel
theorem dX3_layOut_42 : decode cX3_layOut 42 = .ok (.iinc 4 1, 3) := by decide +kernel
theorem dX3_layOut_45 : decode cX3_layOut 45 = .ok (.goto (-37), 3) := by decide +kernel
theorem dX3_layOut_48 : decode cX3_layOut 48 = .ok (.return_, 1) := by decide +kernel
set_option maxRecDepth 20000 in
theorem ggX3_addMessage_X3_addDark : GoodIn wsX3_addMessage wsX3_addDark := goodIn_r _ [6, 7, 8, 9, 5, 10, 1, 11, 12, 37, 38, 39] (by decide +kernel) (by decide +kernel)
set_option maxRecDepth 20000 in
theorem gX3_addMessage_X3_addDark : GoodIn wsX3_addMessage (wsV RX3 35 RX3 yX3_addDark wsX3_addDark) := goodIn_app (goodIn_of _ (by decide +kernel)) ggX3_addMessage_X3_addDark
set_option maxRecDepth 20000 in
theorem ggX3_addMessage_X4_characterAt : GoodIn wsX3_addMessage wsX4_characterAt := goodIn_r _ [17, 18, 19, 20, 21, 44, 45] (by decide +kernel) (by decide +kernel)
set_option maxRecDepth 20000 in
theorem gX3_addMessage_X4_characterAt : GoodIn wsX3_addMessage (wsV RX3 51 RX4 yX4_characterAt wsX4_characterAt) := goodIn_app (goodIn_of _ (by decide +kernel)) ggX3_addMessage_X4_characterAt
set_option maxRecDepth 20000 in
theorem ggX3_addMessage_X3_addGlyph : GoodIn wsX3_addMessage wsX3_addGlyph := goodIn_r _ [25, 26, 27, 28, 29, 30, 31, 32, 33, 34, 35, 36, 7, 8, 9, 5, 10, 1, 11, 12, 46, 47, 37, 38, 39] (by decide +kernel) (by decide +kernel)
set_option maxRecDepth 20000 in
theorem gX3_addMessage_X3_addGlyph : GoodIn wsX3_addMessage (wsV RX3 58 RX3 yX3_addGlyph wsX3_addGlyph) := goodIn_app (goodIn_of _ (by decide +kernel)) ggX3_addMessage_X3_addGlyph
theorem dX3_addMessage_0 : decode cX3_addMessage 0 = .ok (.aload_n 1, 1) := by decide +kernel
theorem dX3_addMessage_1 : decode cX3_addMessage 1 = .ok (.aload_n 0, 1) := by decide +kernel
theorem dX3_addMessage_2 : decode cX3_addMessage 2 = .ok (.getfield 18, 3) := by decide +kernel
theorem dX3_addMessage_5 : decode cX3_addMessage 5 = .ok (.putfield 39, 3) := by decide +kernel
theorem dX3_addMessage_8 : decode cX3_addMessage 8 = .ok (.iconst 0, 1) := by decide +kernel
theorem dX3_addMessage_9 : decode cX3_addMessage 9 = .ok (.istore_n 3, 1) := by decide +kernel
theorem dX3_addMessage_10 : decode cX3_addMessage 10 = .ok (.iload_n 3, 1) := by decide +kernel
theorem dX3_addMessage_11 : decode cX3_addMessage 11 = .ok (.aload_n 1, 1) := by decide +kernel
theorem dX3_addMessage_12 : decode cX3_addMessage 12 = .ok (.getfield 44, 3) := by decide +kernel
theorem dX3_addMessage_15 : decode cX3_addMessage 15 = .ok (.getfield 48, 3) := by decide +kernel
theorem dX3_addMessage_18 : decode cX3_addMessage 18 = .ok (.if_icmp .ge 39, 3) := by decide +kernel
theorem dX3_addMessage_21 : decode cX3_addMessage 21 = .ok (.aload_n 0, 1) := by decide +kernel
theorem dX3_addMessage_22 : decode cX3_addMessage 22 = .ok (.iload_n 3, 1) := by decide +kernel
theorem dX3_addMessage_23 : decode cX3_addMessage 23 = .ok (.ifCond .ne 7, 3) := by decide +kernel
theorem dX3_addMessage_26 : decode cX3_addMessage 26 = .ok (.iconst 0, 1) := by decide +kernel
theorem dX3_addMessage_27 : decode cX3_addMessage 27 = .ok (.goto 4, 3) := by decide +kernel
theorem dX3_addMessage_30 : decode cX3_addMessage 30 = .ok (.iconst 1, 1) := by decide +kernel
theorem dX3_addMessage_31 : decode cX3_addMessage 31 = .ok (.invokevirtual 35, 3) := by decide +kernel
theorem dX3_addMessage_34 : decode cX3_addMessage 34 = .ok (.aload_n 0, 1) := by decide +kernel
theorem dX3_addMessage_35 : decode cX3_addMessage 35 = .ok (.aload_n 1, 1) := by decide +kernel
theorem dX3_addMessage_36 : decode cX3_addMessage 36 = .ok (.getfield 44, 3) := by decide +kernel
theorem dX3_addMessage_39 : decode cX3_addMessage 39 = .ok (.iload_n 3, 1) := by decide +kernel
theorem dX3_addMessage_40 : decode cX3_addMessage 40 = .ok (.invokevirtual 51, 3) := by decide +kernel
theorem dX3_addMessage_43 : decode cX3_addMessage 43 = .ok (.aload_n 1, 1) := by decide +kernel
theorem dX3_addMessage_44 : decode cX3_addMessage 44 = .ok (.getfield 55, 3) := by decide +kernel
theorem dX3_addMessage_47 : decode cX3_addMessage 47 = .ok (.aload_n 2, 1) := by decide +kernel
theorem dX3_addMessage_48 : decode cX3_addMessage 48 = .ok (.invokevirtual 58, 3) := by decide +kernel
theorem dX3_addMessage_51 : decode cX3_addMessage 51 = .ok (.iinc 3 1, 3) := by decide +kernel
theorem dX3_addMessage_54 : decode cX3_addMessage 54 = .ok (.goto (-44), 3) := by decide +kernel
theorem dX3_addMessage_57 : decode cX3_addMessage 57 = .ok (.aload_n 1, 1) := by decide +kernel
theorem dX3_addMessage_58 : decode cX3_addMessage 58 = .ok (.aload_n 0, 1) := by decide +kernel
theorem dX3_addMessage_59 : decode cX3_addMessage 59 = .ok (.getfield 18, 3) := by decide +kernel
theorem dX3_addMessage_62 : decode cX3_addMessage 62 = .ok (.aload_n 1, 1) := by decide +kernel
theorem dX3_addMessage_63 : decode cX3_addMessage 63 = .ok (.getfield 39, 3) := by decide +kernel
theorem dX3_addMessage_66 : decode cX3_addMessage 66 = .ok (.isub, 1) := by decide +kernel
theorem dX3_addMessage_67 : decode cX3_addMessage 67 = .ok (.putfield 62, 3) := by decide +kernel
theorem dX3_addMessage_70 : decode cX3_addMessage 70 = .ok (.return_, 1) := by decide +kernel
set_option maxRecDepth 20000 in
theorem ggX3_addGlyph_X0_widthOf : GoodIn wsX3_addGlyph wsX0_widthOf := goodIn_r _ [5, 6, 20, 21] (by decide +kernel) (by decide +kernel)
set_option maxRecDepth 20000 in
theorem gX3_addGlyph_X0_widthOf : GoodIn wsX3_addGlyph (wsV RX3 65 RX0 yX0_widthOf wsX0_widthOf) := goodIn_app (goodIn_of _ (by decide +kernel)) ggX3_addGlyph_X0_widthOf
set_option maxRecDepth 20000 in
theorem ggX3_addGlyph_X0_dotsOf : GoodIn wsX3_addGlyph wsX0_dotsOf := goodIn_r _ [10, 11, 20, 21] (by decide +kernel) (by decide +kernel)
set_option maxRecDepth 20000 in
theorem gX3_addGlyph_X0_dotsOf : GoodIn wsX3_addGlyph (wsV RX3 70 RX0 yX0_dotsOf wsX0_dotsOf) := goodIn_app (goodIn_of _ (by decide +kernel)) ggX3_addGlyph_X0_dotsOf
set_option maxRecDepth 20000 in
theorem ggX3_addGlyph_X3_addColumn : GoodIn wsX3_addGlyph wsX3_addColumn := goodIn_r _ [16, 17, 18, 19, 22, 23, 24] (by decide +kernel) (by decide +kernel)
set_option maxRecDepth 20000 in
theorem gX3_addGlyph_X3_addColumn : GoodIn wsX3_addGlyph (wsV RX3 74 RX3 yX3_addColumn wsX3_addColumn) := goodIn_app (goodIn_of _ (by decide +kernel)) ggX3_addGlyph_X3_addColumn
theorem dX3_addGlyph_0 : decode cX3_addGlyph 0 = .ok (.iconst 0, 1) := by decide +kernel
theorem dX3_addGlyph_1 : decode cX3_addGlyph 1 = .ok (.istore 4, 2) := by decide +kernel
theorem dX3_addGlyph_3 : decode cX3_addGlyph 3 = .ok (.iload 4, 2) := by decide +kernel
theorem dX3_addGlyph_5 : decode cX3_addGlyph 5 = .ok (.aload_n 3, 1) := by decide +kernel
theorem dX3_addGlyph_6 : decode cX3_addGlyph 6 = .ok (.iload_n 1, 1) := by decide +kernel
theorem dX3_addGlyph_7 : decode cX3_addGlyph 7 = .ok (.invokevirtual 65, 3) := by decide +kernel
theorem dX3_addGlyph_10 : decode cX3_addGlyph 10 = .ok (.if_icmp .ge 21, 3) := by decide +kernel
theorem dX3_addGlyph_13 : decode cX3_addGlyph 13 = .ok (.aload_n 0, 1) := by decide +kernel
theorem dX3_addGlyph_14 : decode cX3_addGlyph 14 = .ok (.aload_n 3, 1) := by decide +kernel
theorem dX3_addGlyph_15 : decode cX3_addGlyph 15 = .ok (.iload_n 1, 1) := by decide +kernel
theorem dX3_addGlyph_16 : decode cX3_addGlyph 16 = .ok (.iload 4, 2) := by decide +kernel
theorem dX3_addGlyph_18 : decode cX3_addGlyph 18 = .ok (.invokevirtual 70, 3) := by decide +kernel
theorem dX3_addGlyph_21 : decode cX3_addGlyph 21 = .ok (.iload_n 2, 1) := by decide +kernel
theorem dX3_addGlyph_22 : decode cX3_addGlyph 22 = .ok (.invokevirtual 74, 3) := by decide +kernel
theorem dX3_addGlyph_25 : decode cX3_addGlyph 25 = .ok (.iinc 4 1, 3) := by decide +kernel
theorem dX3_addGlyph_28 : decode cX3_addGlyph 28 = .ok (.goto (-25), 3) := by decide +kernel
theorem dX3_addGlyph_31 : decode cX3_addGlyph 31 = .ok (.return_, 1) := by decide +kernel
set_option maxRecDepth 20000 in
theorem ggX3_addDark_X3_addColumn : GoodIn wsX3_addDark wsX3_addColumn := goodIn_r _ [5, 6, 7, 8, 9, 10, 11] (by decide +kernel) (by decide +kernel)
set_option maxRecDepth 20000 in
theorem gX3_addDark_X3_addColumn : GoodIn wsX3_addDark (wsV RX3 74 RX3 yX3_addColumn wsX3_addColumn) := goodIn_app (goodIn_of _ (by decide +kernel)) ggX3_addDark_X3_addColumn
theorem dX3_addDark_0 : decode cX3_addDark 0 = .ok (.iconst 0, 1) := by decide +kernel
theorem dX3_addDark_1 : decode cX3_addDark 1 = .ok (.istore_n 2, 1) := by decide +kernel
theorem dX3_addDark_2 : decode cX3_addDark 2 = .ok (.iload_n 2, 1) := by decide +kernel
theorem dX3_addDark_3 : decode cX3_addDark 3 = .ok (.iload_n 1, 1) := by decide +kernel
theorem dX3_addDark_4 : decode cX3_addDark 4 = .ok (.if_icmp .ge 15, 3) := by decide +kernel
theorem dX3_addDark_7 : decode cX3_addDark 7 = .ok (.aload_n 0, 1) := by decide +kernel
theorem dX3_addDark_8 : decode cX3_addDark 8 = .ok (.iconst 0, 1) := by decide +kernel
theorem dX3_addDark_9 : decode cX3_addDark 9 = .ok (.iconst 0, 1) := by decide +kernel
theorem dX3_addDark_10 : decode cX3_addDark 10 = .ok (.invokevirtual 74, 3) := by decide +kernel
theorem dX3_addDark_13 : decode cX3_addDark 13 = .ok (.iinc 2 1, 3) := by decide +kernel
theorem dX3_addDark_16 : decode cX3_addDark 16 = .ok (.goto (-14), 3) := by decide +kernel
theorem dX3_addDark_19 : decode cX3_addDark 19 = .ok (.return_, 1) := by decide +kernel
theorem dX3_addColumn_0 : decode cX3_addColumn 0 = .ok (.aload_n 0, 1) := by decide +kernel
theorem dX3_addColumn_1 : decode cX3_addColumn 1 = .ok (.getfield 18, 3) := by decide +kernel
theorem dX3_addColumn_4 : decode cX3_addColumn 4 = .ok (.aload_n 0, 1) := by decide +kernel
theorem dX3_addColumn_5 : decode cX3_addColumn 5 = .ok (.getfield 9, 3) := by decide +kernel
theorem dX3_addColumn_8 : decode cX3_addColumn 8 = .ok (.arraylength, 1) := by decide +kernel
theorem dX3_addColumn_9 : decode cX3_addColumn 9 = .ok (.if_icmp .ge 45, 3) := by decide +kernel
theorem dX3_addColumn_12 : decode cX3_addColumn 12 = .ok (.aload_n 0, 1) := by decide +kernel
theorem dX3_addColumn_13 : decode cX3_addColumn 13 = .ok (.getfield 18, 3) := by decide +kernel
theorem dX3_addColumn_16 : decode cX3_addColumn 16 = .ok (.aload_n 0, 1) := by decide +kernel
theorem dX3_addColumn_17 : decode cX3_addColumn 17 = .ok (.getfield 15, 3) := by decide +kernel
theorem dX3_addColumn_20 : decode cX3_addColumn 20 = .ok (.arraylength, 1) := by decide +kernel
theorem dX3_addColumn_21 : decode cX3_addColumn 21 = .ok (.if_icmp .ge 33, 3) := by decide +kernel
theorem dX3_addColumn_24 : decode cX3_addColumn 24 = .ok (.aload_n 0, 1) := by decide +kernel
theorem dX3_addColumn_25 : decode cX3_addColumn 25 = .ok (.getfield 9, 3) := by decide +kernel
theorem dX3_addColumn_28 : decode cX3_addColumn 28 = .ok (.aload_n 0, 1) := by decide +kernel
theorem dX3_addColumn_29 : decode cX3_addColumn 29 = .ok (.getfield 18, 3) := by decide +kernel
theorem dX3_addColumn_32 : decode cX3_addColumn 32 = .ok (.iload_n 1, 1) := by decide +kernel
theorem dX3_addColumn_33 : decode cX3_addColumn 33 = .ok (.iastore, 1) := by decide +kernel
theorem dX3_addColumn_34 : decode cX3_addColumn 34 = .ok (.aload_n 0, 1) := by decide +kernel
theorem dX3_addColumn_35 : decode cX3_addColumn 35 = .ok (.getfield 15, 3) := by decide +kernel
theorem dX3_addColumn_38 : decode cX3_addColumn 38 = .ok (.aload_n 0, 1) := by decide +kernel
theorem dX3_addColumn_39 : decode cX3_addColumn 39 = .ok (.getfield 18, 3) := by decide +kernel
theorem dX3_addColumn_42 : decode cX3_addColumn 42 = .ok (.iload_n 2, 1) := by decide +kernel
theorem dX3_addColumn_43 : decode cX3_addColumn 43 = .ok (.iastore, 1) := by decide +kernel
theorem dX3_addColumn_44 : decode cX3_addColumn 44 = .ok (.aload_n 0, 1) := by decide +kernel
theorem dX3_addColumn_45 : decode cX3_addColumn 45 = .ok (.dup, 1) := by decide +kernel
theorem dX3_addColumn_46 : decode cX3_addColumn 46 = .ok (.getfield 18, 3) := by decide +kernel
theorem dX3_addColumn_49 : decode cX3_addColumn 49 = .ok (.iconst 1, 1) := by decide +kernel
theorem dX3_addColumn_50 : decode cX3_addColumn 50 = .ok (.iadd, 1) := by decide +kernel
theorem dX3_addColumn_51 : decode cX3_addColumn 51 = .ok (.putfield 18, 3) := by decide +kernel
theorem dX3_addColumn_54 : decode cX3_addColumn 54 = .ok (.return_, 1) := by decide +kernel
set_option maxRecDepth 20000 in
theorem ggX3_wrap_J9_floorMod_7cf53 : GoodIn wsX3_wrap wsJ9_floorMod_7cf53 := goodIn_r _ [5] (by decide +kernel) (by decide +kernel)
set_option maxRecDepth 20000 in
theorem gX3_wrap_J9_floorMod_7cf53 : GoodIn wsX3_wrap (va_wsS RX3 78 yJ9_floorMod_7cf53 wsJ9_floorMod_7cf53) := goodIn_app (goodIn_of _ (by decide +kernel)) ggX3_wrap_J9_floorMod_7cf53
theorem dX3_wrap_0 : decode cX3_wrap 0 = .ok (.aload_n 0, 1) := by decide +kernel
theorem dX3_wrap_1 : decode cX3_wrap 1 = .ok (.getfield 18, 3) := by decide +kernel
theorem dX3_wrap_4 : decode cX3_wrap 4 = .ok (.ifCond .le 14, 3) := by decide +kernel
theorem dX3_wrap_7 : decode cX3_wrap 7 = .ok (.iload_n 1, 1) := by decide +kernel
theorem dX3_wrap_8 : decode cX3_wrap 8 = .ok (.aload_n 0, 1) := by decide +kernel
theorem dX3_wrap_9 : decode cX3_wrap 9 = .ok (.getfield 18, 3) := by decide +kernel
theorem dX3_wrap_12 : decode cX3_wrap 12 = .ok (.invokestatic 78, 3) := by decide +kernel
theorem dX3_wrap_15 : decode cX3_wrap 15 = .ok (.goto 4, 3) := by decide +kernel
theorem dX3_wrap_18 : decode cX3_wrap 18 = .ok (.iconst 0, 1) := by decide +kernel
theorem dX3_wrap_19 : decode cX3_wrap 19 = .ok (.ireturn, 1) := by decide +kernel
set_option maxRecDepth 20000 in
theorem ggX3_dotsAt_X3_wrap : GoodIn wsX3_dotsAt wsX3_wrap := goodIn_r _ [7, 1, 8, 9, 10, 11, 12, 13, 14] (by decide +kernel) (by decide +kernel)
set_option maxRecDepth 20000 in
theorem gX3_dotsAt_X3_wrap : GoodIn wsX3_dotsAt (wsV RX3 83 RX3 yX3_wrap wsX3_wrap) := goodIn_app (goodIn_of _ (by decide +kernel)) ggX3_dotsAt_X3_wrap
theorem dX3_dotsAt_0 : decode cX3_dotsAt 0 = .ok (.aload_n 0, 1) := by decide +kernel
theorem dX3_dotsAt_1 : decode cX3_dotsAt 1 = .ok (.iload_n 1, 1) := by decide +kernel
theorem dX3_dotsAt_2 : decode cX3_dotsAt 2 = .ok (.invokevirtual 83, 3) := by decide +kernel
theorem dX3_dotsAt_5 : decode cX3_dotsAt 5 = .ok (.istore_n 2, 1) := by decide +kernel
theorem dX3_dotsAt_6 : decode cX3_dotsAt 6 = .ok (.iload_n 2, 1) := by decide +kernel
theorem dX3_dotsAt_7 : decode cX3_dotsAt 7 = .ok (.aload_n 0, 1) := by decide +kernel
theorem dX3_dotsAt_8 : decode cX3_dotsAt 8 = .ok (.getfield 18, 3) := by decide +kernel
theorem dX3_dotsAt_11 : decode cX3_dotsAt 11 = .ok (.if_icmp .ge 21, 3) := by decide +kernel
theorem dX3_dotsAt_14 : decode cX3_dotsAt 14 = .ok (.iload_n 2, 1) := by decide +kernel
theorem dX3_dotsAt_15 : decode cX3_dotsAt 15 = .ok (.aload_n 0, 1) := by decide +kernel
theorem dX3_dotsAt_16 : decode cX3_dotsAt 16 = .ok (.getfield 9, 3) := by decide +kernel
theorem dX3_dotsAt_19 : decode cX3_dotsAt 19 = .ok (.arraylength, 1) := by decide +kernel
theorem dX3_dotsAt_20 : decode cX3_dotsAt 20 = .ok (.if_icmp .ge 12, 3) := by decide +kernel
theorem dX3_dotsAt_23 : decode cX3_dotsAt 23 = .ok (.aload_n 0, 1) := by decide +kernel
theorem dX3_dotsAt_24 : decode cX3_dotsAt 24 = .ok (.getfield 9, 3) := by decide +kernel
theorem dX3_dotsAt_27 : decode cX3_dotsAt 27 = .ok (.iload_n 2, 1) := by decide +kernel
theorem dX3_dotsAt_28 : decode cX3_dotsAt 28 = .ok (.iaload, 1) := by decide +kernel
theorem dX3_dotsAt_29 : decode cX3_dotsAt 29 = .ok (.goto 4, 3) := by decide +kernel
theorem dX3_dotsAt_32 : decode cX3_dotsAt 32 = .ok (.iconst 0, 1) := by decide +kernel
theorem dX3_dotsAt_33 : decode cX3_dotsAt 33 = .ok (.ireturn, 1) := by decide +kernel
set_option maxRecDepth 20000 in
theorem ggX3_colorAt_X3_wrap : GoodIn wsX3_colorAt wsX3_wrap := goodIn_r _ [7, 1, 8, 9, 10, 11, 12, 13, 14] (by decide +kernel) (by decide +kernel)
set_option maxRecDepth 20000 in
theorem gX3_colorAt_X3_wrap : GoodIn wsX3_colorAt (wsV RX3 83 RX3 yX3_wrap wsX3_wrap) := goodIn_app (goodIn_of _ (by decide +kernel)) ggX3_colorAt_X3_wrap
theorem dX3_colorAt_0 : decode cX3_colorAt 0 = .ok (.aload_n 0, 1) := by decide +kernel
theorem dX3_colorAt_1 : decode cX3_colorAt 1 = .ok (.iload_n 1, 1) := by decide +kernel
theorem dX3_colorAt_2 : decode cX3_colorAt 2 = .ok (.invokevirtual 83, 3) := by decide +kernel
theorem dX3_colorAt_5 : decode cX3_colorAt 5 = .ok (.istore_n 2, 1) := by decide +kernel
theorem dX3_colorAt_6 : decode cX3_colorAt 6 = .ok (.iload_n 2, 1) := by decide +kernel
theorem dX3_colorAt_7 : decode cX3_colorAt 7 = .ok (.aload_n 0, 1) := by decide +kernel
theorem dX3_colorAt_8 : decode cX3_colorAt 8 = .ok (.getfield 18, 3) := by decide +kernel
theorem dX3_colorAt_11 : decode cX3_colorAt 11 = .ok (.if_icmp .ge 21, 3) := by decide +kernel
theorem dX3_colorAt_14 : decode cX3_colorAt 14 = .ok (.iload_n 2, 1) := by decide +kernel
theorem dX3_colorAt_15 : decode cX3_colorAt 15 = .ok (.aload_n 0, 1) := by decide +kernel
theorem dX3_colorAt_16 : decode cX3_colorAt 16 = .ok (.getfield 15, 3) := by decide +kernel
theorem dX3_colorAt_19 : decode cX3_colorAt 19 = .ok (.arraylength, 1) := by decide +kernel
theorem dX3_colorAt_20 : decode cX3_colorAt 20 = .ok (.if_icmp .ge 12, 3) := by decide +kernel
theorem dX3_colorAt_23 : decode cX3_colorAt 23 = .ok (.aload_n 0, 1) := by decide +kernel
theorem dX3_colorAt_24 : decode cX3_colorAt 24 = .ok (.getfield 15, 3) := by decide +kernel
theorem dX3_colorAt_27 : decode cX3_colorAt 27 = .ok (.iload_n 2, 1) := by decide +kernel
theorem dX3_colorAt_28 : decode cX3_colorAt 28 = .ok (.iaload, 1) := by decide +kernel
theorem dX3_colorAt_29 : decode cX3_colorAt 29 = .ok (.goto 4, 3) := by decide +kernel
theorem dX3_colorAt_32 : decode cX3_colorAt 32 = .ok (.iconst 0, 1) := by decide +kernel
theorem dX3_colorAt_33 : decode cX3_colorAt 33 = .ok (.ireturn, 1) := by decide +kernel
theorem dX4_init_0 : decode cX4_init 0 = .ok (.aload_n 0, 1) := by decide +kernel
theorem dX4_init_1 : decode cX4_init 1 = .ok (.invokespecial 3, 3) := by decide +kernel
theorem dX4_init_4 : decode cX4_init 4 = .ok (.aload_n 0, 1) := by decide +kernel
theorem dX4_init_5 : decode cX4_init 5 = .ok (.bipush 12, 2) := by decide +kernel
theorem dX4_init_7 : decode cX4_init 7 = .ok (.newarray .int, 2) := by decide +kernel
theorem dX4_init_9 : decode cX4_init 9 = .ok (.putfield 9, 3) := by decide +kernel
theorem dX4_init_12 : decode cX4_init 12 = .ok (.return_, 1) := by decide +kernel
set_option maxRecDepth 20000 in
theorem ggX4_add_X5_isWithin : GoodIn wsX4_add wsX5_isWithin := goodIn_r _ [5] (by decide +kernel) (by decide +kernel)
set_option maxRecDepth 20000 in
theorem gX4_add_X5_isWithin_n19 : GoodIn wsX4_add (wsX5_isWithin) := ggX4_add_X5_isWithin
theorem dX4_add_0 : decode cX4_add 0 = .ok (.aload_n 0, 1) := by decide +kernel
theorem dX4_add_1 : decode cX4_add 1 = .ok (.getfield 15, 3) := by decide +kernel
theorem dX4_add_4 : decode cX4_add 4 = .ok (.iconst 0, 1) := by decide +kernel
theorem dX4_add_5 : decode cX4_add 5 = .ok (.aload_n 0, 1) := by decide +kernel
theorem dX4_add_6 : decode cX4_add 6 = .ok (.getfield 9, 3) := by decide +kernel
theorem dX4_add_9 : decode cX4_add 9 = .ok (.arraylength, 1) := by decide +kernel
theorem dX4_add_10 : decode cX4_add 10 = .ok (.iconst 1, 1) := by decide +kernel
theorem dX4_add_11 : decode cX4_add 11 = .ok (.isub, 1) := by decide +kernel
theorem dX4_add_12 : decode cX4_add 12 = .ok (.invokestatic 19, 3) := by decide +kernel
theorem dX4_add_15 : decode cX4_add 15 = .ok (.ifCond .eq 23, 3) := by decide +kernel
theorem dX4_add_18 : decode cX4_add 18 = .ok (.aload_n 0, 1) := by decide +kernel
theorem dX4_add_19 : decode cX4_add 19 = .ok (.getfield 9, 3) := by decide +kernel
theorem dX4_add_22 : decode cX4_add 22 = .ok (.aload_n 0, 1) := by decide +kernel
theorem dX4_add_23 : decode cX4_add 23 = .ok (.getfield 15, 3) := by decide +kernel
theorem dX4_add_26 : decode cX4_add 26 = .ok (.iload_n 1, 1) := by decide +kernel
theorem dX4_add_27 : decode cX4_add 27 = .ok (.iastore, 1) := by decide +kernel
theorem dX4_add_28 : decode cX4_add 28 = .ok (.aload_n 0, 1) := by decide +kernel
theorem dX4_add_29 : decode cX4_add 29 = .ok (.dup, 1) := by decide +kernel
theorem dX4_add_30 : decode cX4_add 30 = .ok (.getfield 15, 3) := by decide +kernel
theorem dX4_add_33 : decode cX4_add 33 = .ok (.iconst 1, 1) := by decide +kernel
theorem dX4_add_34 : decode cX4_add 34 = .ok (.iadd, 1) := by decide +kernel
theorem dX4_add_35 : decode cX4_add 35 = .ok (.putfield 15, 3) := by decide +kernel
theorem dX4_add_38 : decode cX4_add 38 = .ok (.return_, 1) := by decide +kernel
theorem dX4_empty_0 : decode cX4_empty 0 = .ok (.aload_n 0, 1) := by decide +kernel
theorem dX4_empty_1 : decode cX4_empty 1 = .ok (.iconst 0, 1) := by decide +kernel
theorem dX4_empty_2 : decode cX4_empty 2 = .ok (.putfield 15, 3) := by decide +kernel
theorem dX4_empty_5 : decode cX4_empty 5 = .ok (.return_, 1) := by decide +kernel
set_option maxRecDepth 20000 in
theorem ggX4_characterAt_X5_isWithin : GoodIn wsX4_characterAt wsX5_isWithin := goodIn_r _ [4] (by decide +kernel) (by decide +kernel)
set_option maxRecDepth 20000 in
theorem gX4_characterAt_X5_isWithin_n19 : GoodIn wsX4_characterAt (wsX5_isWithin) := ggX4_characterAt_X5_isWithin
theorem dX4_characterAt_0 : decode cX4_characterAt 0 = .ok (.iload_n 1, 1) := by decide +kernel
theorem dX4_characterAt_1 : decode cX4_characterAt 1 = .ok (.iconst 0, 1) := by decide +kernel
theorem dX4_characterAt_2 : decode cX4_characterAt 2 = .ok (.aload_n 0, 1) := by decide +kernel
theorem dX4_characterAt_3 : decode cX4_characterAt 3 = .ok (.getfield 9, 3) := by decide +kernel
theorem dX4_characterAt_6 : decode cX4_characterAt 6 = .ok (.arraylength, 1) := by decide +kernel
theorem dX4_characterAt_7 : decode cX4_characterAt 7 = .ok (.iconst 1, 1) := by decide +kernel
theorem dX4_characterAt_8 : decode cX4_characterAt 8 = .ok (.isub, 1) := by decide +kernel
theorem dX4_characterAt_9 : decode cX4_characterAt 9 = .ok (.invokestatic 19, 3) := by decide +kernel
theorem dX4_characterAt_12 : decode cX4_characterAt 12 = .ok (.ifCond .eq 12, 3) := by decide +kernel
theorem dX4_characterAt_15 : decode cX4_characterAt 15 = .ok (.aload_n 0, 1) := by decide +kernel
theorem dX4_characterAt_16 : decode cX4_characterAt 16 = .ok (.getfield 9, 3) := by decide +kernel
theorem dX4_characterAt_19 : decode cX4_characterAt 19 = .ok (.iload_n 1, 1) := by decide +kernel
theorem dX4_characterAt_20 : decode cX4_characterAt 20 = .ok (.iaload, 1) := by decide +kernel
theorem dX4_characterAt_21 : decode cX4_characterAt 21 = .ok (.goto 5, 3) := by decide +kernel
theorem dX4_characterAt_24 : decode cX4_characterAt 24 = .ok (.bipush 26, 2) := by decide +kernel
theorem dX4_characterAt_26 : decode cX4_characterAt 26 = .ok (.ireturn, 1) := by decide +kernel
set_option maxRecDepth 20000 in
theorem ggX4_copyFrom_X4_characterAt : GoodIn wsX4_copyFrom wsX4_characterAt := goodIn_r _ [7, 1, 8, 9, 10, 11, 12] (by decide +kernel) (by decide +kernel)
set_option maxRecDepth 20000 in
theorem gX4_copyFrom_X4_characterAt : GoodIn wsX4_copyFrom (wsV RX4 23 RX4 yX4_characterAt wsX4_characterAt) := goodIn_app (goodIn_of _ (by decide +kernel)) ggX4_copyFrom_X4_characterAt
theorem dX4_copyFrom_0 : decode cX4_copyFrom 0 = .ok (.iconst 0, 1) := by decide +kernel
theorem dX4_copyFrom_1 : decode cX4_copyFrom 1 = .ok (.istore_n 2, 1) := by decide +kernel
theorem dX4_copyFrom_2 : decode cX4_copyFrom 2 = .ok (.iload_n 2, 1) := by decide +kernel
theorem dX4_copyFrom_3 : decode cX4_copyFrom 3 = .ok (.aload_n 0, 1) := by decide +kernel
theorem dX4_copyFrom_4 : decode cX4_copyFrom 4 = .ok (.getfield 9, 3) := by decide +kernel
theorem dX4_copyFrom_7 : decode cX4_copyFrom 7 = .ok (.arraylength, 1) := by decide +kernel
theorem dX4_copyFrom_8 : decode cX4_copyFrom 8 = .ok (.if_icmp .ge 20, 3) := by decide +kernel
theorem dX4_copyFrom_11 : decode cX4_copyFrom 11 = .ok (.aload_n 0, 1) := by decide +kernel
theorem dX4_copyFrom_12 : decode cX4_copyFrom 12 = .ok (.getfield 9, 3) := by decide +kernel
theorem dX4_copyFrom_15 : decode cX4_copyFrom 15 = .ok (.iload_n 2, 1) := by decide +kernel
theorem dX4_copyFrom_16 : decode cX4_copyFrom 16 = .ok (.aload_n 1, 1) := by decide +kernel
theorem dX4_copyFrom_17 : decode cX4_copyFrom 17 = .ok (.iload_n 2, 1) := by decide +kernel
theorem dX4_copyFrom_18 : decode cX4_copyFrom 18 = .ok (.invokevirtual 23, 3) := by decide +kernel
theorem dX4_copyFrom_21 : decode cX4_copyFrom 21 = .ok (.iastore, 1) := by decide +kernel
theorem dX4_copyFrom_22 : decode cX4_copyFrom 22 = .ok (.iinc 2 1, 3) := by decide +kernel
theorem dX4_copyFrom_25 : decode cX4_copyFrom 25 = .ok (.goto (-23), 3) := by decide +kernel
theorem dX4_copyFrom_28 : decode cX4_copyFrom 28 = .ok (.aload_n 0, 1) := by decide +kernel
theorem dX4_copyFrom_29 : decode cX4_copyFrom 29 = .ok (.aload_n 1, 1) := by decide +kernel
theorem dX4_copyFrom_30 : decode cX4_copyFrom 30 = .ok (.getfield 15, 3) := by decide +kernel
theorem dX4_copyFrom_33 : decode cX4_copyFrom 33 = .ok (.putfield 15, 3) := by decide +kernel
theorem dX4_copyFrom_36 : decode cX4_copyFrom 36 = .ok (.return_, 1) := by decide +kernel
set_option maxRecDepth 20000 in
theorem ggX5_init_X0_init : GoodIn wsX5_init wsX0_init := goodIn_r _ [31, 32, 2, 3, 20, 33, 34, 57, 58] (by decide +kernel) (by decide +kernel)
set_option maxRecDepth 20000 in
theorem gX5_init_X0_init : GoodIn wsX5_init (wsX0_init) := ggX5_init_X0_init
set_option maxRecDepth 20000 in
theorem ggX5_init_X4_init : GoodIn wsX5_init wsX4_init := goodIn_r _ [36, 37, 2, 3, 20, 38, 71, 72] (by decide +kernel) (by decide +kernel)
set_option maxRecDepth 20000 in
theorem gX5_init_X4_init_n18 : GoodIn wsX5_init (wsX4_init) := ggX5_init_X4_init
set_option maxRecDepth 20000 in
theorem ggX5_init_X2_init : GoodIn wsX5_init wsX2_init := goodIn_r _ [41, 42, 2, 3, 43, 44, 45, 46, 47, 48, 49, 50, 9, 10, 51, 35, 36, 37, 20, 38, 73, 74, 78, 79, 80, 81, 71, 72] (by decide +kernel) (by decide +kernel)
set_option maxRecDepth 20000 in
theorem gX5_init_X2_init : GoodIn wsX5_init (wsX2_init) := ggX5_init_X2_init
set_option maxRecDepth 20000 in
theorem ggX5_init_X3_init : GoodIn wsX5_init wsX3_init := goodIn_r _ [53, 54, 2, 3, 20, 55, 56, 75, 76, 77] (by decide +kernel) (by decide +kernel)
set_option maxRecDepth 20000 in
theorem gX5_init_X3_init_n32 : GoodIn wsX5_init (wsX3_init) := ggX5_init_X3_init
theorem dX5_init_0 : decode cX5_init 0 = .ok (.aload_n 0, 1) := by decide +kernel
theorem dX5_init_1 : decode cX5_init 1 = .ok (.invokespecial 3, 3) := by decide +kernel
theorem dX5_init_4 : decode cX5_init 4 = .ok (.aload_n 0, 1) := by decide +kernel
theorem dX5_init_5 : decode cX5_init 5 = .ok (.new 9, 3) := by decide +kernel
theorem dX5_init_8 : decode cX5_init 8 = .ok (.dup, 1) := by decide +kernel
theorem dX5_init_9 : decode cX5_init 9 = .ok (.invokespecial 11, 3) := by decide +kernel
theorem dX5_init_12 : decode cX5_init 12 = .ok (.putfield 12, 3) := by decide +kernel
theorem dX5_init_15 : decode cX5_init 15 = .ok (.aload_n 0, 1) := by decide +kernel
theorem dX5_init_16 : decode cX5_init 16 = .ok (.new 16, 3) := by decide +kernel
theorem dX5_init_19 : decode cX5_init 19 = .ok (.dup, 1) := by decide +kernel
theorem dX5_init_20 : decode cX5_init 20 = .ok (.invokespecial 18, 3) := by decide +kernel
theorem dX5_init_23 : decode cX5_init 23 = .ok (.putfield 19, 3) := by decide +kernel
theorem dX5_init_26 : decode cX5_init 26 = .ok (.aload_n 0, 1) := by decide +kernel
theorem dX5_init_27 : decode cX5_init 27 = .ok (.new 23, 3) := by decide +kernel
theorem dX5_init_30 : decode cX5_init 30 = .ok (.dup, 1) := by decide +kernel
theorem dX5_init_31 : decode cX5_init 31 = .ok (.invokespecial 25, 3) := by decide +kernel
theorem dX5_init_34 : decode cX5_init 34 = .ok (.putfield 26, 3) := by decide +kernel
theorem dX5_init_37 : decode cX5_init 37 = .ok (.aload_n 0, 1) := by decide +kernel
theorem dX5_init_38 : decode cX5_init 38 = .ok (.new 30, 3) := by decide +kernel
theorem dX5_init_41 : decode cX5_init 41 = .ok (.dup, 1) := by decide +kernel
theorem dX5_init_42 : decode cX5_init 42 = .ok (.invokespecial 32, 3) := by decide +kernel
theorem dX5_init_45 : decode cX5_init 45 = .ok (.putfield 33, 3) := by decide +kernel
theorem dX5_init_48 : decode cX5_init 48 = .ok (.aload_n 0, 1) := by decide +kernel
theorem dX5_init_49 : decode cX5_init 49 = .ok (.bipush 32, 2) := by decide +kernel
theorem dX5_init_51 : decode cX5_init 51 = .ok (.newarray .int, 2) := by decide +kernel
theorem dX5_init_53 : decode cX5_init 53 = .ok (.putfield 37, 3) := by decide +kernel
theorem dX5_init_56 : decode cX5_init 56 = .ok (.aload_n 0, 1) := by decide +kernel
theorem dX5_init_57 : decode cX5_init 57 = .ok (.bipush 16, 2) := by decide +kernel
theorem dX5_init_59 : decode cX5_init 59 = .ok (.putfield 41, 3) := by decide +kernel
theorem dX5_init_62 : decode cX5_init 62 = .ok (.aload_n 0, 1) := by decide +kernel
theorem dX5_init_63 : decode cX5_init 63 = .ok (.iconst 4, 1) := by decide +kernel
theorem dX5_init_64 : decode cX5_init 64 = .ok (.putfield 45, 3) := by decide +kernel
theorem dX5_init_67 : decode cX5_init 67 = .ok (.aload_n 0, 1) := by decide +kernel
theorem dX5_init_68 : decode cX5_init 68 = .ok (.iconst 2, 1) := by decide +kernel
theorem dX5_init_69 : decode cX5_init 69 = .ok (.putfield 48, 3) := by decide +kernel
theorem dX5_init_72 : decode cX5_init 72 = .ok (.aload_n 0, 1) := by decide +kernel
theorem dX5_init_73 : decode cX5_init 73 = .ok (.iconst 0, 1) := by decide +kernel
theorem dX5_init_74 : decode cX5_init 74 = .ok (.putfield 51, 3) := by decide +kernel
theorem dX5_init_77 : decode cX5_init 77 = .ok (.aload_n 0, 1) := by decide +kernel
theorem dX5_init_78 : decode cX5_init 78 = .ok (.bipush 60, 2) := by decide +kernel
theorem dX5_init_80 : decode cX5_init 80 = .ok (.putfield 54, 3) := by decide +kernel
theorem dX5_init_83 : decode cX5_init 83 = .ok (.aload_n 0, 1) := by decide +kernel
theorem dX5_init_84 : decode cX5_init 84 = .ok (.iconst 0, 1) := by decide +kernel
theorem dX5_init_85 : decode cX5_init 85 = .ok (.putfield 57, 3) := by decide +kernel
theorem dX5_init_88 : decode cX5_init 88 = .ok (.aload_n 0, 1) := by decide +kernel
theorem dX5_init_89 : decode cX5_init 89 = .ok (.iconst 0, 1) := by decide +kernel
theorem dX5_init_90 : decode cX5_init 90 = .ok (.putfield 60, 3) := by decide +kernel
theorem dX5_init_93 : decode cX5_init 93 = .ok (.return_, 1) := by decide +kernel
set_option maxRecDepth 20000 in
theorem ggX5_setGlyphWidth_X5_isCharacter : GoodIn wsX5_setGlyphWidth wsX5_isCharacter := goodIn_r _ [5, 6, 7, 4, 8] (by decide +kernel) (by decide +kernel)
set_option maxRecDepth 20000 in
theorem gX5_setGlyphWidth_X5_isCharacter : GoodIn wsX5_setGlyphWidth (va_wsS RX5 63 yX5_isCharacter wsX5_isCharacter) := goodIn_app (goodIn_of _ (by decide +kernel)) ggX5_setGlyphWidth_X5_isCharacter
set_option maxRecDepth 20000 in
theorem ggX5_setGlyphWidth_X5_isWithin : GoodIn wsX5_setGlyphWidth wsX5_isWithin := goodIn_r _ [8] (by decide +kernel) (by decide +kernel)
set_option maxRecDepth 20000 in
theorem gX5_setGlyphWidth_X5_isWithin : GoodIn wsX5_setGlyphWidth (va_wsS RX5 67 yX5_isWithin wsX5_isWithin) := goodIn_app (goodIn_of _ (by decide +kernel)) ggX5_setGlyphWidth_X5_isWithin
set_option maxRecDepth 20000 in
theorem ggX5_setGlyphWidth_X0_widthOf : GoodIn wsX5_setGlyphWidth wsX0_widthOf := goodIn_r _ [13, 14, 90, 91] (by decide +kernel) (by decide +kernel)
set_option maxRecDepth 20000 in
theorem gX5_setGlyphWidth_X0_widthOf : GoodIn wsX5_setGlyphWidth (wsV RX5 71 RX0 yX0_widthOf wsX0_widthOf) := goodIn_app (goodIn_of _ (by decide +kernel)) ggX5_setGlyphWidth_X0_widthOf
set_option maxRecDepth 20000 in
theorem ggX5_setGlyphWidth_X0_resize : GoodIn wsX5_setGlyphWidth wsX0_resize := goodIn_r _ [18, 19, 14, 3, 4, 5, 6, 7, 8, 90, 91] (by decide +kernel) (by decide +kernel)
set_option maxRecDepth 20000 in
theorem gX5_setGlyphWidth_X0_resize : GoodIn wsX5_setGlyphWidth (wsV RX5 75 RX0 yX0_resize wsX0_resize) := goodIn_app (goodIn_of _ (by decide +kernel)) ggX5_setGlyphWidth_X0_resize
set_option maxRecDepth 20000 in
theorem ggX5_setGlyphWidth_X5_layOutStrip : GoodIn wsX5_setGlyphWidth wsX5_layOutStrip := goodIn_r _ [23, 24, 25, 1, 26, 27, 28, 29, 30, 31, 32, 33, 34, 35, 36, 37, 38, 39, 40, 41, 42, 43, 44, 45, 46, 47, 48, 7, 4, 8, 49, 50, 51, 52, 53, 54, 55, 56, 57, 58, 59, 60, 61, 62, 63, 64, 65, 66, 67, 68, 69, 70, 71, 72, 73, 10, 11, 12, 13, 14, 74, 75, 76, 77, 19, 78, 79, 80, 81, 82, 83, 84, 85, 86, 87, 88, 89, 92, 93, 94, 95, 96, 97, 98, 99, 100, 101, 102, 90, 91] (by decide +kernel) (by decide +kernel)
set_option maxRecDepth 20000 in
theorem gX5_setGlyphWidth_X5_layOutStrip : GoodIn wsX5_setGlyphWidth (wsV RX5 79 RX5 yX5_layOutStrip wsX5_layOutStrip) := goodIn_app (goodIn_of _ (by decide +kernel)) ggX5_setGlyphWidth_X5_layOutStrip
theorem dX5_setGlyphWidth_0 : decode cX5_setGlyphWidth 0 = .ok (.iload_n 1, 1) := by decide +kernel
theorem dX5_setGlyphWidth_1 : decode cX5_setGlyphWidth 1 = .ok (.invokestatic 63, 3) := by decide +kernel
theorem dX5_setGlyphWidth_4 : decode cX5_setGlyphWidth 4 = .ok (.ifCond .eq 13, 3) := by decide +kernel
theorem dX5_setGlyphWidth_7 : decode cX5_setGlyphWidth 7 = .ok (.iload_n 2, 1) := by decide +kernel
theorem dX5_setGlyphWidth_8 : decode cX5_setGlyphWidth 8 = .ok (.iconst 1, 1) := by decide +kernel
theorem dX5_setGlyphWidth_9 : decode cX5_setGlyphWidth 9 = .ok (.bipush 6, 2) := by decide +kernel
theorem dX5_setGlyphWidth_11 : decode cX5_setGlyphWidth 11 = .ok (.invokestatic 67, 3) := by decide +kernel
theorem dX5_setGlyphWidth_14 : decode cX5_setGlyphWidth 14 = .ok (.ifCond .ne 6, 3) := by decide +kernel
theorem dX5_setGlyphWidth_17 : decode cX5_setGlyphWidth 17 = .ok (.bipush (-11), 2) := by decide +kernel
theorem dX5_setGlyphWidth_19 : decode cX5_setGlyphWidth 19 = .ok (.ireturn, 1) := by decide +kernel
theorem dX5_setGlyphWidth_20 : decode cX5_setGlyphWidth 20 = .ok (.aload_n 0, 1) := by decide +kernel
theorem dX5_setGlyphWidth_21 : decode cX5_setGlyphWidth 21 = .ok (.getfield 12, 3) := by decide +kernel
theorem dX5_setGlyphWidth_24 : decode cX5_setGlyphWidth 24 = .ok (.iload_n 1, 1) := by decide +kernel
theorem dX5_setGlyphWidth_25 : decode cX5_setGlyphWidth 25 = .ok (.invokevirtual 71, 3) := by decide +kernel
theorem dX5_setGlyphWidth_28 : decode cX5_setGlyphWidth 28 = .ok (.istore_n 3, 1) := by decide +kernel
theorem dX5_setGlyphWidth_29 : decode cX5_setGlyphWidth 29 = .ok (.aload_n 0, 1) := by decide +kernel
theorem dX5_setGlyphWidth_30 : decode cX5_setGlyphWidth 30 = .ok (.getfield 12, 3) := by decide +kernel
theorem dX5_setGlyphWidth_33 : decode cX5_setGlyphWidth 33 = .ok (.iload_n 1, 1) := by decide +kernel
theorem dX5_setGlyphWidth_34 : decode cX5_setGlyphWidth 34 = .ok (.iload_n 2, 1) := by decide +kernel
theorem dX5_setGlyphWidth_35 : decode cX5_setGlyphWidth 35 = .ok (.invokevirtual 75, 3) := by decide +kernel
theorem dX5_setGlyphWidth_38 : decode cX5_setGlyphWidth 38 = .ok (.aload_n 0, 1) := by decide +kernel
theorem dX5_setGlyphWidth_39 : decode cX5_setGlyphWidth 39 = .ok (.invokevirtual 79, 3) := by decide +kernel
theorem dX5_setGlyphWidth_42 : decode cX5_setGlyphWidth 42 = .ok (.iload_n 3, 1) := by decide +kernel
theorem dX5_setGlyphWidth_43 : decode cX5_setGlyphWidth 43 = .ok (.ireturn, 1) := by decide +kernel
set_option maxRecDepth 20000 in
theorem ggX5_setGlyphColumn_X5_isCharacter : GoodIn wsX5_setGlyphColumn wsX5_isCharacter := goodIn_r _ [5, 6, 7, 4, 8] (by decide +kernel) (by decide +kernel)
set_option maxRecDepth 20000 in
theorem gX5_setGlyphColumn_X5_isCharacter : GoodIn wsX5_setGlyphColumn (va_wsS RX5 63 yX5_isCharacter wsX5_isCharacter) := goodIn_app (goodIn_of _ (by decide +kernel)) ggX5_setGlyphColumn_X5_isCharacter
set_option maxRecDepth 20000 in
theorem ggX5_setGlyphColumn_X5_isWithin : GoodIn wsX5_setGlyphColumn wsX5_isWithin := goodIn_r _ [8] (by decide +kernel) (by decide +kernel)
set_option maxRecDepth 20000 in
theorem gX5_setGlyphColumn_X5_isWithin : GoodIn wsX5_setGlyphColumn (va_wsS RX5 67 yX5_isWithin wsX5_isWithin) := goodIn_app (goodIn_of _ (by decide +kernel)) ggX5_setGlyphColumn_X5_isWithin
set_option maxRecDepth 20000 in
theorem ggX5_setGlyphColumn_X0_hasColumn : GoodIn wsX5_setGlyphColumn wsX0_hasColumn := goodIn_r _ [13, 14, 15, 16, 12, 17, 18, 7, 4, 8, 96, 97] (by decide +kernel) (by decide +kernel)
set_option maxRecDepth 20000 in
theorem gX5_setGlyphColumn_X0_hasColumn : GoodIn wsX5_setGlyphColumn (wsV RX5 82 RX0 yX0_hasColumn wsX0_hasColumn) := goodIn_app (goodIn_of _ (by decide +kernel)) ggX5_setGlyphColumn_X0_hasColumn
set_option maxRecDepth 20000 in
theorem ggX5_setGlyphColumn_X0_dotsOf : GoodIn wsX5_setGlyphColumn wsX0_dotsOf := goodIn_r _ [22, 23, 96, 97] (by decide +kernel) (by decide +kernel)
set_option maxRecDepth 20000 in
theorem gX5_setGlyphColumn_X0_dotsOf : GoodIn wsX5_setGlyphColumn (wsV RX5 86 RX0 yX0_dotsOf wsX0_dotsOf) := goodIn_app (goodIn_of _ (by decide +kernel)) ggX5_setGlyphColumn_X0_dotsOf
set_option maxRecDepth 20000 in
theorem ggX5_setGlyphColumn_X0_draw : GoodIn wsX5_setGlyphColumn wsX0_draw := goodIn_r _ [27, 23, 3, 4, 5, 6, 7, 8, 28, 10, 11, 12, 13, 14, 15, 16, 17, 18, 96, 97] (by decide +kernel) (by decide +kernel)
set_option maxRecDepth 20000 in
theorem gX5_setGlyphColumn_X0_draw : GoodIn wsX5_setGlyphColumn (wsV RX5 90 RX0 yX0_draw wsX0_draw) := goodIn_app (goodIn_of _ (by decide +kernel)) ggX5_setGlyphColumn_X0_draw
set_option maxRecDepth 20000 in
theorem ggX5_setGlyphColumn_X5_layOutStrip : GoodIn wsX5_setGlyphColumn wsX5_layOutStrip := goodIn_r _ [32, 33, 34, 1, 35, 36, 37, 38, 39, 40, 41, 42, 43, 44, 45, 46, 47, 48, 49, 50, 51, 52, 53, 54, 55, 56, 57, 7, 4, 8, 58, 59, 60, 61, 62, 63, 64, 65, 66, 67, 68, 69, 70, 71, 72, 73, 74, 75, 76, 77, 78, 79, 80, 81, 82, 15, 16, 12, 17, 18, 83, 20, 21, 22, 23, 84, 85, 86, 87, 88, 89, 90, 91, 92, 93, 94, 95, 98, 99, 100, 101, 102, 103, 104, 105, 106, 107, 108, 96, 97] (by decide +kernel) (by decide +kernel)
set_option maxRecDepth 20000 in
theorem gX5_setGlyphColumn_X5_layOutStrip : GoodIn wsX5_setGlyphColumn (wsV RX5 79 RX5 yX5_layOutStrip wsX5_layOutStrip) := goodIn_app (goodIn_of _ (by decide +kernel)) ggX5_setGlyphColumn_X5_layOutStrip
theorem dX5_setGlyphColumn_0 : decode cX5_setGlyphColumn 0 = .ok (.iload_n 1, 1) := by decide +kernel
theorem dX5_setGlyphColumn_1 : decode cX5_setGlyphColumn 1 = .ok (.invokestatic 63, 3) := by decide +kernel
theorem dX5_setGlyphColumn_4 : decode cX5_setGlyphColumn 4 = .ok (.ifCond .eq 26, 3) := by decide +kernel
theorem dX5_setGlyphColumn_7 : decode cX5_setGlyphColumn 7 = .ok (.iload_n 3, 1) := by decide +kernel
theorem dX5_setGlyphColumn_8 : decode cX5_setGlyphColumn 8 = .ok (.iconst 0, 1) := by decide +kernel
theorem dX5_setGlyphColumn_9 : decode cX5_setGlyphColumn 9 = .ok (.sipush 255, 3) := by decide +kernel
theorem dX5_setGlyphColumn_12 : decode cX5_setGlyphColumn 12 = .ok (.invokestatic 67, 3) := by decide +kernel
theorem dX5_setGlyphColumn_15 : decode cX5_setGlyphColumn 15 = .ok (.ifCond .eq 15, 3) := by decide +kernel
theorem dX5_setGlyphColumn_18 : decode cX5_setGlyphColumn 18 = .ok (.aload_n 0, 1) := by decide +kernel
theorem dX5_setGlyphColumn_19 : decode cX5_setGlyphColumn 19 = .ok (.getfield 12, 3) := by decide +kernel
theorem dX5_setGlyphColumn_22 : decode cX5_setGlyphColumn 22 = .ok (.iload_n 1, 1) := by decide +kernel
theorem dX5_setGlyphColumn_23 : decode cX5_setGlyphColumn 23 = .ok (.iload_n 2, 1) := by decide +kernel
theorem dX5_setGlyphColumn_24 : decode cX5_setGlyphColumn 24 = .ok (.invokevirtual 82, 3) := by decide +kernel
theorem dX5_setGlyphColumn_27 : decode cX5_setGlyphColumn 27 = .ok (.ifCond .ne 6, 3) := by decide +kernel
theorem dX5_setGlyphColumn_30 : decode cX5_setGlyphColumn 30 = .ok (.bipush (-11), 2) := by decide +kernel
theorem dX5_setGlyphColumn_32 : decode cX5_setGlyphColumn 32 = .ok (.ireturn, 1) := by decide +kernel
theorem dX5_setGlyphColumn_33 : decode cX5_setGlyphColumn 33 = .ok (.aload_n 0, 1) := by decide +kernel
theorem dX5_setGlyphColumn_34 : decode cX5_setGlyphColumn 34 = .ok (.getfield 12, 3) := by decide +kernel
theorem dX5_setGlyphColumn_37 : decode cX5_setGlyphColumn 37 = .ok (.iload_n 1, 1) := by decide +kernel
theorem dX5_setGlyphColumn_38 : decode cX5_setGlyphColumn 38 = .ok (.iload_n 2, 1) := by decide +kernel
theorem dX5_setGlyphColumn_39 : decode cX5_setGlyphColumn 39 = .ok (.invokevirtual 86, 3) := by decide +kernel
theorem dX5_setGlyphColumn_42 : decode cX5_setGlyphColumn 42 = .ok (.istore 4, 2) := by decide +kernel
theorem dX5_setGlyphColumn_44 : decode cX5_setGlyphColumn 44 = .ok (.aload_n 0, 1) := by decide +kernel
theorem dX5_setGlyphColumn_45 : decode cX5_setGlyphColumn 45 = .ok (.getfield 12, 3) := by decide +kernel
theorem dX5_setGlyphColumn_48 : decode cX5_setGlyphColumn 48 = .ok (.iload_n 1, 1) := by decide +kernel
theorem dX5_setGlyphColumn_49 : decode cX5_setGlyphColumn 49 = .ok (.iload_n 2, 1) := by decide +kernel
theorem dX5_setGlyphColumn_50 : decode cX5_setGlyphColumn 50 = .ok (.iload_n 3, 1) := by decide +kernel
theorem dX5_setGlyphColumn_51 : decode cX5_setGlyphColumn 51 = .ok (.invokevirtual 90, 3) := by decide +kernel
theorem dX5_setGlyphColumn_54 : decode cX5_setGlyphColumn 54 = .ok (.aload_n 0, 1) := by decide +kernel
theorem dX5_setGlyphColumn_55 : decode cX5_setGlyphColumn 55 = .ok (.invokevirtual 79, 3) := by decide +kernel
theorem dX5_setGlyphColumn_58 : decode cX5_setGlyphColumn 58 = .ok (.iload 4, 2) := by decide +kernel
theorem dX5_setGlyphColumn_60 : decode cX5_setGlyphColumn 60 = .ok (.ireturn, 1) := by decide +kernel
set_option maxRecDepth 20000 in
theorem ggX5_glyphColumn_X5_isCharacter : GoodIn wsX5_glyphColumn wsX5_isCharacter := goodIn_r _ [5, 6, 7, 4, 8] (by decide +kernel) (by decide +kernel)
set_option maxRecDepth 20000 in
theorem gX5_glyphColumn_X5_isCharacter : GoodIn wsX5_glyphColumn (va_wsS RX5 63 yX5_isCharacter wsX5_isCharacter) := goodIn_app (goodIn_of _ (by decide +kernel)) ggX5_glyphColumn_X5_isCharacter
set_option maxRecDepth 20000 in
theorem ggX5_glyphColumn_X5_isWithin : GoodIn wsX5_glyphColumn wsX5_isWithin := goodIn_r _ [8] (by decide +kernel) (by decide +kernel)
set_option maxRecDepth 20000 in
theorem gX5_glyphColumn_X5_isWithin : GoodIn wsX5_glyphColumn (va_wsS RX5 67 yX5_isWithin wsX5_isWithin) := goodIn_app (goodIn_of _ (by decide +kernel)) ggX5_glyphColumn_X5_isWithin
set_option maxRecDepth 20000 in
theorem ggX5_glyphColumn_X0_hasColumn : GoodIn wsX5_glyphColumn wsX0_hasColumn := goodIn_r _ [13, 14, 15, 16, 12, 17, 18, 7, 4, 8, 36, 37] (by decide +kernel) (by decide +kernel)
set_option maxRecDepth 20000 in
theorem gX5_glyphColumn_X0_hasColumn : GoodIn wsX5_glyphColumn (wsV RX5 82 RX0 yX0_hasColumn wsX0_hasColumn) := goodIn_app (goodIn_of _ (by decide +kernel)) ggX5_glyphColumn_X0_hasColumn
set_option maxRecDepth 20000 in
theorem ggX5_glyphColumn_X0_dotsOf : GoodIn wsX5_glyphColumn wsX0_dotsOf := goodIn_r _ [22, 23, 36, 37] (by decide +kernel) (by decide +kernel)
set_option maxRecDepth 20000 in
theorem gX5_glyphColumn_X0_dotsOf : GoodIn wsX5_glyphColumn (wsV RX5 86 RX0 yX0_dotsOf wsX0_dotsOf) := goodIn_app (goodIn_of _ (by decide +kernel)) ggX5_glyphColumn_X0_dotsOf
theorem dX5_glyphColumn_0 : decode cX5_glyphColumn 0 = .ok (.iload_n 1, 1) := by decide +kernel
theorem dX5_glyphColumn_1 : decode cX5_glyphColumn 1 = .ok (.invokestatic 63, 3) := by decide +kernel
theorem dX5_glyphColumn_4 : decode cX5_glyphColumn 4 = .ok (.ifCond .eq 12, 3) := by decide +kernel
theorem dX5_glyphColumn_7 : decode cX5_glyphColumn 7 = .ok (.iload_n 2, 1) := by decide +kernel
theorem dX5_glyphColumn_8 : decode cX5_glyphColumn 8 = .ok (.iconst 0, 1) := by decide +kernel
theorem dX5_glyphColumn_9 : decode cX5_glyphColumn 9 = .ok (.iconst 5, 1) := by decide +kernel
theorem dX5_glyphColumn_10 : decode cX5_glyphColumn 10 = .ok (.invokestatic 67, 3) := by decide +kernel
theorem dX5_glyphColumn_13 : decode cX5_glyphColumn 13 = .ok (.ifCond .ne 6, 3) := by decide +kernel
theorem dX5_glyphColumn_16 : decode cX5_glyphColumn 16 = .ok (.bipush (-11), 2) := by decide +kernel
theorem dX5_glyphColumn_18 : decode cX5_glyphColumn 18 = .ok (.ireturn, 1) := by decide +kernel
theorem dX5_glyphColumn_19 : decode cX5_glyphColumn 19 = .ok (.aload_n 0, 1) := by decide +kernel
theorem dX5_glyphColumn_20 : decode cX5_glyphColumn 20 = .ok (.getfield 12, 3) := by decide +kernel
theorem dX5_glyphColumn_23 : decode cX5_glyphColumn 23 = .ok (.iload_n 1, 1) := by decide +kernel
