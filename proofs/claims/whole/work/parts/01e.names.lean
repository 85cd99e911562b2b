theorem dX5_heaviestOffset_11 : decode cX5_heaviestOffset 11 = .ok (.getfield 114, 3) := by decide +kernel
theorem dX5_heaviestOffset_14 : decode cX5_heaviestOffset 14 = .ok (.if_icmp .ge 27, 3) := by decide +kernel
theorem dX5_heaviestOffset_17 : decode cX5_heaviestOffset 17 = .ok (.aload_n 0, 1) := by decide +kernel
theorem dX5_heaviestOffset_18 : decode cX5_heaviestOffset 18 = .ok (.iload_n 3, 1) := by decide +kernel
theorem dX5_heaviestOffset_19 : decode cX5_heaviestOffset 19 = .ok (.invokevirtual 158, 3) := by decide +kernel
theorem dX5_heaviestOffset_22 : decode cX5_heaviestOffset 22 = .ok (.istore 4, 2) := by decide +kernel
theorem dX5_heaviestOffset_24 : decode cX5_heaviestOffset 24 = .ok (.iload 4, 2) := by decide +kernel
theorem dX5_heaviestOffset_26 : decode cX5_heaviestOffset 26 = .ok (.iload_n 2, 1) := by decide +kernel
theorem dX5_heaviestOffset_27 : decode cX5_heaviestOffset 27 = .ok (.if_icmp .le 8, 3) := by decide +kernel
theorem dX5_heaviestOffset_30 : decode cX5_heaviestOffset 30 = .ok (.iload_n 3, 1) := by decide +kernel
theorem dX5_heaviestOffset_31 : decode cX5_heaviestOffset 31 = .ok (.istore_n 1, 1) := by decide +kernel
theorem dX5_heaviestOffset_32 : decode cX5_heaviestOffset 32 = .ok (.iload 4, 2) := by decide +kernel
theorem dX5_heaviestOffset_34 : decode cX5_heaviestOffset 34 = .ok (.istore_n 2, 1) := by decide +kernel
theorem dX5_heaviestOffset_35 : decode cX5_heaviestOffset 35 = .ok (.iinc 3 1, 3) := by decide +kernel
theorem dX5_heaviestOffset_38 : decode cX5_heaviestOffset 38 = .ok (.goto (-32), 3) := by decide +kernel
theorem dX5_heaviestOffset_41 : decode cX5_heaviestOffset 41 = .ok (.iload_n 1, 1) := by decide +kernel
theorem dX5_heaviestOffset_42 : decode cX5_heaviestOffset 42 = .ok (.ireturn, 1) := by decide +kernel
set_option maxRecDepth 20000 in
theorem ggX5_damageWith_X3_dotsAt : GoodIn wsX5_damageWith wsX3_dotsAt := goodIn_r _ [8, 9, 10, 11, 12, 13, 7, 14, 15, 16, 17, 18, 50, 51, 52] (by decide +kernel) (by decide +kernel)
set_option maxRecDepth 20000 in
theorem gX5_damageWith_X3_dotsAt : GoodIn wsX5_damageWith (wsV RX5 182 RX3 yX3_dotsAt wsX3_dotsAt) := goodIn_app (goodIn_of _ (by decide +kernel)) ggX5_damageWith_X3_dotsAt
set_option maxRecDepth 20000 in
theorem ggX5_damageWith_X5_shifted : GoodIn wsX5_damageWith wsX5_shifted := goodIn_r _ [22] (by decide +kernel) (by decide +kernel)
set_option maxRecDepth 20000 in
theorem gX5_damageWith_X5_shifted : GoodIn wsX5_damageWith (va_wsS RX5 185 yX5_shifted wsX5_shifted) := goodIn_app (goodIn_of _ (by decide +kernel)) ggX5_damageWith_X5_shifted
set_option maxRecDepth 20000 in
theorem ggX5_damageWith_X5_defectsOf : GoodIn wsX5_damageWith wsX5_defectsOf := goodIn_r _ [26, 27, 28, 29, 21, 30, 38, 39, 40, 41, 42, 43, 44, 45, 46, 47, 48, 49] (by decide +kernel) (by decide +kernel)
set_option maxRecDepth 20000 in
theorem gX5_damageWith_X5_defectsOf : GoodIn wsX5_damageWith (wsV RX5 174 RX5 yX5_defectsOf wsX5_defectsOf) := goodIn_app (goodIn_of _ (by decide +kernel)) ggX5_damageWith_X5_defectsOf
set_option maxRecDepth 20000 in
theorem ggX5_damageWith_J6_bitCount_0f7a4 : GoodIn wsX5_damageWith wsJ6_bitCount_0f7a4 := goodIn_r _ [34, 35, 36, 37] (by decide +kernel) (by decide +kernel)
set_option maxRecDepth 20000 in
theorem gX5_damageWith_J6_bitCount_0f7a4 : GoodIn wsX5_damageWith (va_wsS RX5 177 yJ6_bitCount_0f7a4 wsJ6_bitCount_0f7a4) := goodIn_app (goodIn_of _ (by decide +kernel)) ggX5_damageWith_J6_bitCount_0f7a4
theorem dX5_damageWith_0 : decode cX5_damageWith 0 = .ok (.iconst 0, 1) := by decide +kernel
theorem dX5_damageWith_1 : decode cX5_damageWith 1 = .ok (.istore_n 2, 1) := by decide +kernel
theorem dX5_damageWith_2 : decode cX5_damageWith 2 = .ok (.iconst 0, 1) := by decide +kernel
theorem dX5_damageWith_3 : decode cX5_damageWith 3 = .ok (.istore_n 3, 1) := by decide +kernel
theorem dX5_damageWith_4 : decode cX5_damageWith 4 = .ok (.iload_n 3, 1) := by decide +kernel
theorem dX5_damageWith_5 : decode cX5_damageWith 5 = .ok (.aload_n 0, 1) := by decide +kernel
theorem dX5_damageWith_6 : decode cX5_damageWith 6 = .ok (.getfield 41, 3) := by decide +kernel
theorem dX5_damageWith_9 : decode cX5_damageWith 9 = .ok (.if_icmp .ge 54, 3) := by decide +kernel
theorem dX5_damageWith_12 : decode cX5_damageWith 12 = .ok (.aload_n 0, 1) := by decide +kernel
theorem dX5_damageWith_13 : decode cX5_damageWith 13 = .ok (.getfield 33, 3) := by decide +kernel
theorem dX5_damageWith_16 : decode cX5_damageWith 16 = .ok (.aload_n 0, 1) := by decide +kernel
theorem dX5_damageWith_17 : decode cX5_damageWith 17 = .ok (.getfield 57, 3) := by decide +kernel
theorem dX5_damageWith_20 : decode cX5_damageWith 20 = .ok (.iload_n 3, 1) := by decide +kernel
theorem dX5_damageWith_21 : decode cX5_damageWith 21 = .ok (.iadd, 1) := by decide +kernel
theorem dX5_damageWith_22 : decode cX5_damageWith 22 = .ok (.invokevirtual 182, 3) := by decide +kernel
theorem dX5_damageWith_25 : decode cX5_damageWith 25 = .ok (.istore 4, 2) := by decide +kernel
theorem dX5_damageWith_27 : decode cX5_damageWith 27 = .ok (.iload 4, 2) := by decide +kernel
theorem dX5_damageWith_29 : decode cX5_damageWith 29 = .ok (.iload_n 1, 1) := by decide +kernel
theorem dX5_damageWith_30 : decode cX5_damageWith 30 = .ok (.invokestatic 185, 3) := by decide +kernel
theorem dX5_damageWith_33 : decode cX5_damageWith 33 = .ok (.aload_n 0, 1) := by decide +kernel
theorem dX5_damageWith_34 : decode cX5_damageWith 34 = .ok (.iload_n 3, 1) := by decide +kernel
theorem dX5_damageWith_35 : decode cX5_damageWith 35 = .ok (.invokevirtual 174, 3) := by decide +kernel
theorem dX5_damageWith_38 : decode cX5_damageWith 38 = .ok (.iconst (-1), 1) := by decide +kernel
theorem dX5_damageWith_39 : decode cX5_damageWith 39 = .ok (.ixor, 1) := by decide +kernel
theorem dX5_damageWith_40 : decode cX5_damageWith 40 = .ok (.iand, 1) := by decide +kernel
theorem dX5_damageWith_41 : decode cX5_damageWith 41 = .ok (.istore 5, 2) := by decide +kernel
theorem dX5_damageWith_43 : decode cX5_damageWith 43 = .ok (.iload_n 2, 1) := by decide +kernel
theorem dX5_damageWith_44 : decode cX5_damageWith 44 = .ok (.iload 4, 2) := by decide +kernel
theorem dX5_damageWith_46 : decode cX5_damageWith 46 = .ok (.invokestatic 177, 3) := by decide +kernel
theorem dX5_damageWith_49 : decode cX5_damageWith 49 = .ok (.iload 5, 2) := by decide +kernel
theorem dX5_damageWith_51 : decode cX5_damageWith 51 = .ok (.invokestatic 177, 3) := by decide +kernel
theorem dX5_damageWith_54 : decode cX5_damageWith 54 = .ok (.isub, 1) := by decide +kernel
theorem dX5_damageWith_55 : decode cX5_damageWith 55 = .ok (.iadd, 1) := by decide +kernel
theorem dX5_damageWith_56 : decode cX5_damageWith 56 = .ok (.istore_n 2, 1) := by decide +kernel
theorem dX5_damageWith_57 : decode cX5_damageWith 57 = .ok (.iinc 3 1, 3) := by decide +kernel
theorem dX5_damageWith_60 : decode cX5_damageWith 60 = .ok (.goto (-56), 3) := by decide +kernel
theorem dX5_damageWith_63 : decode cX5_damageWith 63 = .ok (.iload_n 2, 1) := by decide +kernel
theorem dX5_damageWith_64 : decode cX5_damageWith 64 = .ok (.ireturn, 1) := by decide +kernel
theorem dX6_init_0 : decode cX6_init 0 = .ok (.aload_n 0, 1) := by decide +kernel
theorem dX6_init_1 : decode cX6_init 1 = .ok (.invokespecial 1, 3) := by decide +kernel
theorem dX6_init_4 : decode cX6_init 4 = .ok (.aload_n 0, 1) := by decide +kernel
theorem dX6_init_5 : decode cX6_init 5 = .ok (.bipush 16, 2) := by decide +kernel
theorem dX6_init_7 : decode cX6_init 7 = .ok (.putfield 7, 3) := by decide +kernel
theorem dX6_init_10 : decode cX6_init 10 = .ok (.aload_n 0, 1) := by decide +kernel
theorem dX6_init_11 : decode cX6_init 11 = .ok (.iconst 4, 1) := by decide +kernel
theorem dX6_init_12 : decode cX6_init 12 = .ok (.putfield 13, 3) := by decide +kernel
theorem dX6_init_15 : decode cX6_init 15 = .ok (.aload_n 0, 1) := by decide +kernel
theorem dX6_init_16 : decode cX6_init 16 = .ok (.iconst 2, 1) := by decide +kernel
theorem dX6_init_17 : decode cX6_init 17 = .ok (.putfield 16, 3) := by decide +kernel
theorem dX6_init_20 : decode cX6_init 20 = .ok (.aload_n 0, 1) := by decide +kernel
theorem dX6_init_21 : decode cX6_init 21 = .ok (.bipush 60, 2) := by decide +kernel
theorem dX6_init_23 : decode cX6_init 23 = .ok (.putfield 19, 3) := by decide +kernel
theorem dX6_init_26 : decode cX6_init 26 = .ok (.aload_n 0, 1) := by decide +kernel
theorem dX6_init_27 : decode cX6_init 27 = .ok (.bipush 27, 2) := by decide +kernel
theorem dX6_init_29 : decode cX6_init 29 = .ok (.newarray .int, 2) := by decide +kernel
theorem dX6_init_31 : decode cX6_init 31 = .ok (.putfield 22, 3) := by decide +kernel
theorem dX6_init_34 : decode cX6_init 34 = .ok (.aload_n 0, 1) := by decide +kernel
theorem dX6_init_35 : decode cX6_init 35 = .ok (.sipush 162, 3) := by decide +kernel
theorem dX6_init_38 : decode cX6_init 38 = .ok (.newarray .int, 2) := by decide +kernel
theorem dX6_init_40 : decode cX6_init 40 = .ok (.putfield 26, 3) := by decide +kernel
theorem dX6_init_43 : decode cX6_init 43 = .ok (.aload_n 0, 1) := by decide +kernel
theorem dX6_init_44 : decode cX6_init 44 = .ok (.bipush 32, 2) := by decide +kernel
theorem dX6_init_46 : decode cX6_init 46 = .ok (.newarray .int, 2) := by decide +kernel
theorem dX6_init_48 : decode cX6_init 48 = .ok (.putfield 29, 3) := by decide +kernel
theorem dX6_init_51 : decode cX6_init 51 = .ok (.aload_n 0, 1) := by decide +kernel
theorem dX6_init_52 : decode cX6_init 52 = .ok (.bipush 12, 2) := by decide +kernel
theorem dX6_init_54 : decode cX6_init 54 = .ok (.newarray .int, 2) := by decide +kernel
theorem dX6_init_56 : decode cX6_init 56 = .ok (.putfield 32, 3) := by decide +kernel
theorem dX6_init_59 : decode cX6_init 59 = .ok (.aload_n 0, 1) := by decide +kernel
theorem dX6_init_60 : decode cX6_init 60 = .ok (.bipush 6, 2) := by decide +kernel
theorem dX6_init_62 : decode cX6_init 62 = .ok (.newarray .int, 2) := by decide +kernel
theorem dX6_init_64 : decode cX6_init 64 = .ok (.putfield 35, 3) := by decide +kernel
theorem dX6_init_67 : decode cX6_init 67 = .ok (.aload_n 0, 1) := by decide +kernel
theorem dX6_init_68 : decode cX6_init 68 = .ok (.bipush 6, 2) := by decide +kernel
theorem dX6_init_70 : decode cX6_init 70 = .ok (.newarray .int, 2) := by decide +kernel
theorem dX6_init_72 : decode cX6_init 72 = .ok (.putfield 38, 3) := by decide +kernel
theorem dX6_init_75 : decode cX6_init 75 = .ok (.aload_n 0, 1) := by decide +kernel
theorem dX6_init_76 : decode cX6_init 76 = .ok (.bipush 72, 2) := by decide +kernel
theorem dX6_init_78 : decode cX6_init 78 = .ok (.newarray .int, 2) := by decide +kernel
theorem dX6_init_80 : decode cX6_init 80 = .ok (.putfield 41, 3) := by decide +kernel
theorem dX6_init_83 : decode cX6_init 83 = .ok (.aload_n 0, 1) := by decide +kernel
theorem dX6_init_84 : decode cX6_init 84 = .ok (.sipush 600, 3) := by decide +kernel
theorem dX6_init_87 : decode cX6_init 87 = .ok (.newarray .int, 2) := by decide +kernel
theorem dX6_init_89 : decode cX6_init 89 = .ok (.putfield 44, 3) := by decide +kernel
theorem dX6_init_92 : decode cX6_init 92 = .ok (.aload_n 0, 1) := by decide +kernel
theorem dX6_init_93 : decode cX6_init 93 = .ok (.sipush 600, 3) := by decide +kernel
theorem dX6_init_96 : decode cX6_init 96 = .ok (.newarray .int, 2) := by decide +kernel
theorem dX6_init_98 : decode cX6_init 98 = .ok (.putfield 47, 3) := by decide +kernel
theorem dX6_init_101 : decode cX6_init 101 = .ok (.iconst 0, 1) := by decide +kernel
theorem dX6_init_102 : decode cX6_init 102 = .ok (.istore_n 1, 1) := by decide +kernel
theorem dX6_init_103 : decode cX6_init 103 = .ok (.iload_n 1, 1) := by decide +kernel
theorem dX6_init_104 : decode cX6_init 104 = .ok (.bipush 26, 2) := by decide +kernel
theorem dX6_init_106 : decode cX6_init 106 = .ok (.if_icmp .ge 68, 3) := by decide +kernel
theorem dX6_init_109 : decode cX6_init 109 = .ok (.aload_n 0, 1) := by decide +kernel
theorem dX6_init_110 : decode cX6_init 110 = .ok (.getfield 22, 3) := by decide +kernel
theorem dX6_init_113 : decode cX6_init 113 = .ok (.iload_n 1, 1) := by decide +kernel
theorem dX6_init_114 : decode cX6_init 114 = .ok (.iconst 3, 1) := by decide +kernel
theorem dX6_init_115 : decode cX6_init 115 = .ok (.iload_n 1, 1) := by decide +kernel
theorem dX6_init_116 : decode cX6_init 116 = .ok (.iconst 3, 1) := by decide +kernel
theorem dX6_init_117 : decode cX6_init 117 = .ok (.irem, 1) := by decide +kernel
theorem dX6_init_118 : decode cX6_init 118 = .ok (.iadd, 1) := by decide +kernel
theorem dX6_init_119 : decode cX6_init 119 = .ok (.iastore, 1) := by decide +kernel
theorem dX6_init_120 : decode cX6_init 120 = .ok (.iconst 0, 1) := by decide +kernel
theorem dX6_init_121 : decode cX6_init 121 = .ok (.istore_n 2, 1) := by decide +kernel
theorem dX6_init_122 : decode cX6_init 122 = .ok (.iload_n 2, 1) := by decide +kernel
theorem dX6_init_123 : decode cX6_init 123 = .ok (.aload_n 0, 1) := by decide +kernel
theorem dX6_init_124 : decode cX6_init 124 = .ok (.getfield 22, 3) := by decide +kernel
theorem dX6_init_127 : decode cX6_init 127 = .ok (.iload_n 1, 1) := by decide +kernel
theorem dX6_init_128 : decode cX6_init 128 = .ok (.iaload, 1) := by decide +kernel
theorem dX6_init_129 : decode cX6_init 129 = .ok (.if_icmp .ge 39, 3) := by decide +kernel
theorem dX6_init_132 : decode cX6_init 132 = .ok (.aload_n 0, 1) := by decide +kernel
theorem dX6_init_133 : decode cX6_init 133 = .ok (.getfield 26, 3) := by decide +kernel
theorem dX6_init_136 : decode cX6_init 136 = .ok (.bipush 6, 2) := by decide +kernel
theorem dX6_init_138 : decode cX6_init 138 = .ok (.iload_n 1, 1) := by decide +kernel
theorem dX6_init_139 : decode cX6_init 139 = .ok (.imul, 1) := by decide +kernel
theorem dX6_init_140 : decode cX6_init 140 = .ok (.iload_n 2, 1) := by decide +kernel
theorem dX6_init_141 : decode cX6_init 141 = .ok (.iadd, 1) := by decide +kernel
theorem dX6_init_142 : decode cX6_init 142 = .ok (.iload_n 1, 1) := by decide +kernel
theorem dX6_init_143 : decode cX6_init 143 = .ok (.iconst 1, 1) := by decide +kernel
theorem dX6_init_144 : decode cX6_init 144 = .ok (.iadd, 1) := by decide +kernel
theorem dX6_init_145 : decode cX6_init 145 = .ok (.iload_n 2, 1) := by decide +kernel
theorem dX6_init_146 : decode cX6_init 146 = .ok (.iconst 2, 1) := by decide +kernel
theorem dX6_init_147 : decode cX6_init 147 = .ok (.iadd, 1) := by decide +kernel
theorem dX6_init_148 : decode cX6_init 148 = .ok (.imul, 1) := by decide +kernel
theorem dX6_init_149 : decode cX6_init 149 = .ok (.bipush 29, 2) := by decide +kernel
theorem dX6_init_151 : decode cX6_init 151 = .ok (.imul, 1) := by decide +kernel
theorem dX6_init_152 : decode cX6_init 152 = .ok (.bipush 17, 2) := by decide +kernel
theorem dX6_init_154 : decode cX6_init 154 = .ok (.iload_n 2, 1) := by decide +kernel
theorem dX6_init_155 : decode cX6_init 155 = .ok (.imul, 1) := by decide +kernel
theorem dX6_init_156 : decode cX6_init 156 = .ok (.iadd, 1) := by decide +kernel
theorem dX6_init_157 : decode cX6_init 157 = .ok (.sipush 256, 3) := by decide +kernel
theorem dX6_init_160 : decode cX6_init 160 = .ok (.irem, 1) := by decide +kernel
theorem dX6_init_161 : decode cX6_init 161 = .ok (.iastore, 1) := by decide +kernel
theorem dX6_init_162 : decode cX6_init 162 = .ok (.iinc 2 1, 3) := by decide +kernel
theorem dX6_init_165 : decode cX6_init 165 = .ok (.goto (-43), 3) := by decide +kernel
theorem dX6_init_168 : decode cX6_init 168 = .ok (.iinc 1 1, 3) := by decide +kernel
theorem dX6_init_171 : decode cX6_init 171 = .ok (.goto (-68), 3) := by decide +kernel
theorem dX6_init_174 : decode cX6_init 174 = .ok (.aload_n 0, 1) := by decide +kernel
theorem dX6_init_175 : decode cX6_init 175 = .ok (.getfield 22, 3) := by decide +kernel
theorem dX6_init_178 : decode cX6_init 178 = .ok (.bipush 26, 2) := by decide +kernel
theorem dX6_init_180 : decode cX6_init 180 = .ok (.iconst 2, 1) := by decide +kernel
theorem dX6_init_181 : decode cX6_init 181 = .ok (.iastore, 1) := by decide +kernel
theorem dX6_init_182 : decode cX6_init 182 = .ok (.return_, 1) := by decide +kernel
theorem dX6_in_0 : decode cX6_in 0 = .ok (.iload_n 0, 1) := by decide +kernel
theorem dX6_in_1 : decode cX6_in 1 = .ok (.iload_n 1, 1) := by decide +kernel
theorem dX6_in_2 : decode cX6_in 2 = .ok (.if_icmp .lt 12, 3) := by decide +kernel
theorem dX6_in_5 : decode cX6_in 5 = .ok (.iload_n 0, 1) := by decide +kernel
theorem dX6_in_6 : decode cX6_in 6 = .ok (.iload_n 2, 1) := by decide +kernel
theorem dX6_in_7 : decode cX6_in 7 = .ok (.if_icmp .gt 7, 3) := by decide +kernel
theorem dX6_in_10 : decode cX6_in 10 = .ok (.iconst 1, 1) := by decide +kernel
theorem dX6_in_11 : decode cX6_in 11 = .ok (.goto 4, 3) := by decide +kernel
theorem dX6_in_14 : decode cX6_in 14 = .ok (.iconst 0, 1) := by decide +kernel
theorem dX6_in_15 : decode cX6_in 15 = .ok (.ireturn, 1) := by decide +kernel
theorem dX6_has_0 : decode cX6_has 0 = .ok (.iload_n 1, 1) := by decide +kernel
theorem dX6_has_1 : decode cX6_has 1 = .ok (.ifCond .lt 16, 3) := by decide +kernel
theorem dX6_has_4 : decode cX6_has 4 = .ok (.iload_n 0, 1) := by decide +kernel
theorem dX6_has_5 : decode cX6_has 5 = .ok (.iload_n 1, 1) := by decide +kernel
theorem dX6_has_6 : decode cX6_has 6 = .ok (.ishr, 1) := by decide +kernel
theorem dX6_has_7 : decode cX6_has 7 = .ok (.iconst 1, 1) := by decide +kernel
theorem dX6_has_8 : decode cX6_has 8 = .ok (.iand, 1) := by decide +kernel
theorem dX6_has_9 : decode cX6_has 9 = .ok (.iconst 1, 1) := by decide +kernel
theorem dX6_has_10 : decode cX6_has 10 = .ok (.if_icmp .ne 7, 3) := by decide +kernel
theorem dX6_has_13 : decode cX6_has 13 = .ok (.iconst 1, 1) := by decide +kernel
theorem dX6_has_14 : decode cX6_has 14 = .ok (.goto 4, 3) := by decide +kernel
theorem dX6_has_17 : decode cX6_has 17 = .ok (.iconst 0, 1) := by decide +kernel
theorem dX6_has_18 : decode cX6_has 18 = .ok (.ireturn, 1) := by decide +kernel
theorem dX6_widthOf_0 : decode cX6_widthOf 0 = .ok (.aload_n 0, 1) := by decide +kernel
theorem dX6_widthOf_1 : decode cX6_widthOf 1 = .ok (.getfield 35, 3) := by decide +kernel
theorem dX6_widthOf_4 : decode cX6_widthOf 4 = .ok (.iload_n 1, 1) := by decide +kernel
theorem dX6_widthOf_5 : decode cX6_widthOf 5 = .ok (.iaload, 1) := by decide +kernel
theorem dX6_widthOf_6 : decode cX6_widthOf 6 = .ok (.iconst 1, 1) := by decide +kernel
theorem dX6_widthOf_7 : decode cX6_widthOf 7 = .ok (.isub, 1) := by decide +kernel
theorem dX6_widthOf_8 : decode cX6_widthOf 8 = .ok (.istore_n 2, 1) := by decide +kernel
theorem dX6_widthOf_9 : decode cX6_widthOf 9 = .ok (.iconst 0, 1) := by decide +kernel
theorem dX6_widthOf_10 : decode cX6_widthOf 10 = .ok (.istore_n 3, 1) := by decide +kernel
theorem dX6_widthOf_11 : decode cX6_widthOf 11 = .ok (.iload_n 3, 1) := by decide +kernel
theorem dX6_widthOf_12 : decode cX6_widthOf 12 = .ok (.aload_n 0, 1) := by decide +kernel
theorem dX6_widthOf_13 : decode cX6_widthOf 13 = .ok (.getfield 35, 3) := by decide +kernel
theorem dX6_widthOf_16 : decode cX6_widthOf 16 = .ok (.iload_n 1, 1) := by decide +kernel
theorem dX6_widthOf_17 : decode cX6_widthOf 17 = .ok (.iaload, 1) := by decide +kernel
theorem dX6_widthOf_18 : decode cX6_widthOf 18 = .ok (.if_icmp .ge 28, 3) := by decide +kernel
theorem dX6_widthOf_21 : decode cX6_widthOf 21 = .ok (.iload_n 2, 1) := by decide +kernel
theorem dX6_widthOf_22 : decode cX6_widthOf 22 = .ok (.aload_n 0, 1) := by decide +kernel
theorem dX6_widthOf_23 : decode cX6_widthOf 23 = .ok (.getfield 22, 3) := by decide +kernel
theorem dX6_widthOf_26 : decode cX6_widthOf 26 = .ok (.aload_n 0, 1) := by decide +kernel
theorem dX6_widthOf_27 : decode cX6_widthOf 27 = .ok (.getfield 41, 3) := by decide +kernel
theorem dX6_widthOf_30 : decode cX6_widthOf 30 = .ok (.bipush 12, 2) := by decide +kernel
theorem dX6_widthOf_32 : decode cX6_widthOf 32 = .ok (.iload_n 1, 1) := by decide +kernel
theorem dX6_widthOf_33 : decode cX6_widthOf 33 = .ok (.imul, 1) := by decide +kernel
theorem dX6_widthOf_34 : decode cX6_widthOf 34 = .ok (.iload_n 3, 1) := by decide +kernel
theorem dX6_widthOf_35 : decode cX6_widthOf 35 = .ok (.iadd, 1) := by decide +kernel
theorem dX6_widthOf_36 : decode cX6_widthOf 36 = .ok (.iaload, 1) := by decide +kernel
theorem dX6_widthOf_37 : decode cX6_widthOf 37 = .ok (.iaload, 1) := by decide +kernel
theorem dX6_widthOf_38 : decode cX6_widthOf 38 = .ok (.iadd, 1) := by decide +kernel
theorem dX6_widthOf_39 : decode cX6_widthOf 39 = .ok (.istore_n 2, 1) := by decide +kernel
theorem dX6_widthOf_40 : decode cX6_widthOf 40 = .ok (.iinc 3 1, 3) := by decide +kernel
theorem dX6_widthOf_43 : decode cX6_widthOf 43 = .ok (.goto (-32), 3) := by decide +kernel
theorem dX6_widthOf_46 : decode cX6_widthOf 46 = .ok (.iload_n 2, 1) := by decide +kernel
theorem dX6_widthOf_47 : decode cX6_widthOf 47 = .ok (.ireturn, 1) := by decide +kernel
set_option maxRecDepth 20000 in
theorem ggX6_startOf_X6_widthOf : GoodIn wsX6_startOf wsX6_widthOf := goodIn_r _ [6, 7, 8, 9, 10, 11, 12, 13, 14, 15, 16, 17, 18, 19, 20, 21, 22, 23, 24, 25, 26, 27, 28] (by decide +kernel) (by decide +kernel)
set_option maxRecDepth 20000 in
theorem gX6_startOf_X6_widthOf : GoodIn wsX6_startOf (wsV RX6 50 RX6 yX6_widthOf wsX6_widthOf) := goodIn_app (goodIn_of _ (by decide +kernel)) ggX6_startOf_X6_widthOf
theorem dX6_startOf_0 : decode cX6_startOf 0 = .ok (.iconst 0, 1) := by decide +kernel
theorem dX6_startOf_1 : decode cX6_startOf 1 = .ok (.istore_n 2, 1) := by decide +kernel
theorem dX6_startOf_2 : decode cX6_startOf 2 = .ok (.iconst 0, 1) := by decide +kernel
theorem dX6_startOf_3 : decode cX6_startOf 3 = .ok (.istore_n 3, 1) := by decide +kernel
theorem dX6_startOf_4 : decode cX6_startOf 4 = .ok (.iload_n 3, 1) := by decide +kernel
theorem dX6_startOf_5 : decode cX6_startOf 5 = .ok (.iload_n 1, 1) := by decide +kernel
theorem dX6_startOf_6 : decode cX6_startOf 6 = .ok (.if_icmp .ge 22, 3) := by decide +kernel
theorem dX6_startOf_9 : decode cX6_startOf 9 = .ok (.iload_n 2, 1) := by decide +kernel
theorem dX6_startOf_10 : decode cX6_startOf 10 = .ok (.aload_n 0, 1) := by decide +kernel
theorem dX6_startOf_11 : decode cX6_startOf 11 = .ok (.iload_n 3, 1) := by decide +kernel
theorem dX6_startOf_12 : decode cX6_startOf 12 = .ok (.invokevirtual 50, 3) := by decide +kernel
theorem dX6_startOf_15 : decode cX6_startOf 15 = .ok (.aload_n 0, 1) := by decide +kernel
theorem dX6_startOf_16 : decode cX6_startOf 16 = .ok (.getfield 13, 3) := by decide +kernel
theorem dX6_startOf_19 : decode cX6_startOf 19 = .ok (.iadd, 1) := by decide +kernel
theorem dX6_startOf_20 : decode cX6_startOf 20 = .ok (.iadd, 1) := by decide +kernel
theorem dX6_startOf_21 : decode cX6_startOf 21 = .ok (.istore_n 2, 1) := by decide +kernel
theorem dX6_startOf_22 : decode cX6_startOf 22 = .ok (.iinc 3 1, 3) := by decide +kernel
theorem dX6_startOf_25 : decode cX6_startOf 25 = .ok (.goto (-21), 3) := by decide +kernel
theorem dX6_startOf_28 : decode cX6_startOf 28 = .ok (.iload_n 2, 1) := by decide +kernel
theorem dX6_startOf_29 : decode cX6_startOf 29 = .ok (.ireturn, 1) := by decide +kernel
set_option maxRecDepth 20000 in
theorem ggX6_all_X6_startOf : GoodIn wsX6_all wsX6_startOf := goodIn_r _ [6, 7, 8, 9, 10, 5, 11, 12, 13, 14, 15, 16, 17, 18, 19, 20, 21, 22, 23, 24, 25, 26, 27, 28, 29, 30, 31, 32, 33] (by decide +kernel) (by decide +kernel)
set_option maxRecDepth 20000 in
theorem gX6_all_X6_startOf : GoodIn wsX6_all (wsV RX6 57 RX6 yX6_startOf wsX6_startOf) := goodIn_app (goodIn_of _ (by decide +kernel)) ggX6_all_X6_startOf
theorem dX6_all_0 : decode cX6_all 0 = .ok (.aload_n 0, 1) := by decide +kernel
theorem dX6_all_1 : decode cX6_all 1 = .ok (.aload_n 0, 1) := by decide +kernel
theorem dX6_all_2 : decode cX6_all 2 = .ok (.getfield 54, 3) := by decide +kernel
theorem dX6_all_5 : decode cX6_all 5 = .ok (.invokevirtual 57, 3) := by decide +kernel
theorem dX6_all_8 : decode cX6_all 8 = .ok (.ireturn, 1) := by decide +kernel
set_option maxRecDepth 20000 in
theorem ggX6_settles_X6_all : GoodIn wsX6_settles wsX6_all := goodIn_r _ [6, 7, 8, 9, 10, 5, 11, 12, 13, 14, 15, 16, 17, 18, 19, 20, 21, 22, 23, 24, 25, 26, 27, 28, 29, 30, 31, 32, 33, 34, 35, 36, 37, 38] (by decide +kernel) (by decide +kernel)
set_option maxRecDepth 20000 in
theorem gX6_settles_X6_all : GoodIn wsX6_settles (wsV RX6 60 RX6 yX6_all wsX6_all) := goodIn_app (goodIn_of _ (by decide +kernel)) ggX6_settles_X6_all
theorem dX6_settles_0 : decode cX6_settles 0 = .ok (.aload_n 0, 1) := by decide +kernel
theorem dX6_settles_1 : decode cX6_settles 1 = .ok (.invokevirtual 60, 3) := by decide +kernel
theorem dX6_settles_4 : decode cX6_settles 4 = .ok (.istore_n 1, 1) := by decide +kernel
theorem dX6_settles_5 : decode cX6_settles 5 = .ok (.aload_n 0, 1) := by decide +kernel
theorem dX6_settles_6 : decode cX6_settles 6 = .ok (.aload_n 0, 1) := by decide +kernel
theorem dX6_settles_7 : decode cX6_settles 7 = .ok (.getfield 64, 3) := by decide +kernel
theorem dX6_settles_10 : decode cX6_settles 10 = .ok (.iload_n 1, 1) := by decide +kernel
theorem dX6_settles_11 : decode cX6_settles 11 = .ok (.if_icmp .ge 10, 3) := by decide +kernel
theorem dX6_settles_14 : decode cX6_settles 14 = .ok (.aload_n 0, 1) := by decide +kernel
theorem dX6_settles_15 : decode cX6_settles 15 = .ok (.getfield 64, 3) := by decide +kernel
theorem dX6_settles_18 : decode cX6_settles 18 = .ok (.goto 4, 3) := by decide +kernel
theorem dX6_settles_21 : decode cX6_settles 21 = .ok (.iconst 0, 1) := by decide +kernel
theorem dX6_settles_22 : decode cX6_settles 22 = .ok (.putfield 64, 3) := by decide +kernel
theorem dX6_settles_25 : decode cX6_settles 25 = .ok (.iload_n 1, 1) := by decide +kernel
theorem dX6_settles_26 : decode cX6_settles 26 = .ok (.ireturn, 1) := by decide +kernel
theorem dX6_dark_0 : decode cX6_dark 0 = .ok (.aload_n 0, 1) := by decide +kernel
theorem dX6_dark_1 : decode cX6_dark 1 = .ok (.getfield 44, 3) := by decide +kernel
theorem dX6_dark_4 : decode cX6_dark 4 = .ok (.aload_n 0, 1) := by decide +kernel
theorem dX6_dark_5 : decode cX6_dark 5 = .ok (.getfield 67, 3) := by decide +kernel
theorem dX6_dark_8 : decode cX6_dark 8 = .ok (.iconst 0, 1) := by decide +kernel
theorem dX6_dark_9 : decode cX6_dark 9 = .ok (.iastore, 1) := by decide +kernel
theorem dX6_dark_10 : decode cX6_dark 10 = .ok (.aload_n 0, 1) := by decide +kernel
theorem dX6_dark_11 : decode cX6_dark 11 = .ok (.getfield 47, 3) := by decide +kernel
theorem dX6_dark_14 : decode cX6_dark 14 = .ok (.aload_n 0, 1) := by decide +kernel
theorem dX6_dark_15 : decode cX6_dark 15 = .ok (.getfield 67, 3) := by decide +kernel
theorem dX6_dark_18 : decode cX6_dark 18 = .ok (.iconst 0, 1) := by decide +kernel
theorem dX6_dark_19 : decode cX6_dark 19 = .ok (.iastore, 1) := by decide +kernel
theorem dX6_dark_20 : decode cX6_dark 20 = .ok (.aload_n 0, 1) := by decide +kernel
theorem dX6_dark_21 : decode cX6_dark 21 = .ok (.dup, 1) := by decide +kernel
theorem dX6_dark_22 : decode cX6_dark 22 = .ok (.getfield 67, 3) := by decide +kernel
theorem dX6_dark_25 : decode cX6_dark 25 = .ok (.iconst 1, 1) := by decide +kernel
theorem dX6_dark_26 : decode cX6_dark 26 = .ok (.iadd, 1) := by decide +kernel
theorem dX6_dark_27 : decode cX6_dark 27 = .ok (.putfield 67, 3) := by decide +kernel
theorem dX6_dark_30 : decode cX6_dark 30 = .ok (.return_, 1) := by decide +kernel
set_option maxRecDepth 20000 in
theorem ggX6_draws_X6_dark : GoodIn wsX6_draws wsX6_dark := goodIn_r _ [15, 6, 1, 8, 16, 17, 18, 19, 20, 21, 22, 23, 24, 25, 26, 27, 28, 29, 30, 31, 32, 33, 34] (by decide +kernel) (by decide +kernel)
set_option maxRecDepth 20000 in
theorem gX6_draws_X6_dark : GoodIn wsX6_draws (wsV RX6 70 RX6 yX6_dark wsX6_dark) := goodIn_app (goodIn_of _ (by decide +kernel)) ggX6_draws_X6_dark
theorem dX6_draws_0 : decode cX6_draws 0 = .ok (.aload_n 0, 1) := by decide +kernel
theorem dX6_draws_1 : decode cX6_draws 1 = .ok (.iconst 0, 1) := by decide +kernel
theorem dX6_draws_2 : decode cX6_draws 2 = .ok (.putfield 67, 3) := by decide +kernel
theorem dX6_draws_5 : decode cX6_draws 5 = .ok (.iconst 0, 1) := by decide +kernel
theorem dX6_draws_6 : decode cX6_draws 6 = .ok (.istore_n 1, 1) := by decide +kernel
theorem dX6_draws_7 : decode cX6_draws 7 = .ok (.iload_n 1, 1) := by decide +kernel
theorem dX6_draws_8 : decode cX6_draws 8 = .ok (.aload_n 0, 1) := by decide +kernel
theorem dX6_draws_9 : decode cX6_draws 9 = .ok (.getfield 54, 3) := by decide +kernel
theorem dX6_draws_12 : decode cX6_draws 12 = .ok (.if_icmp .ge 133, 3) := by decide +kernel
theorem dX6_draws_15 : decode cX6_draws 15 = .ok (.iconst 0, 1) := by decide +kernel
theorem dX6_draws_16 : decode cX6_draws 16 = .ok (.istore_n 2, 1) := by decide +kernel
theorem dX6_draws_17 : decode cX6_draws 17 = .ok (.iload_n 2, 1) := by decide +kernel
theorem dX6_draws_18 : decode cX6_draws 18 = .ok (.aload_n 0, 1) := by decide +kernel
theorem dX6_draws_19 : decode cX6_draws 19 = .ok (.getfield 35, 3) := by decide +kernel
theorem dX6_draws_22 : decode cX6_draws 22 = .ok (.iload_n 1, 1) := by decide +kernel
theorem dX6_draws_23 : decode cX6_draws 23 = .ok (.iaload, 1) := by decide +kernel
theorem dX6_draws_24 : decode cX6_draws 24 = .ok (.if_icmp .ge 95, 3) := by decide +kernel
theorem dX6_draws_27 : decode cX6_draws 27 = .ok (.aload_n 0, 1) := by decide +kernel
theorem dX6_draws_28 : decode cX6_draws 28 = .ok (.getfield 41, 3) := by decide +kernel
theorem dX6_draws_31 : decode cX6_draws 31 = .ok (.bipush 12, 2) := by decide +kernel
theorem dX6_draws_33 : decode cX6_draws 33 = .ok (.iload_n 1, 1) := by decide +kernel
theorem dX6_draws_34 : decode cX6_draws 34 = .ok (.imul, 1) := by decide +kernel
theorem dX6_draws_35 : decode cX6_draws 35 = .ok (.iload_n 2, 1) := by decide +kernel
theorem dX6_draws_36 : decode cX6_draws 36 = .ok (.iadd, 1) := by decide +kernel
theorem dX6_draws_37 : decode cX6_draws 37 = .ok (.iaload, 1) := by decide +kernel
theorem dX6_draws_38 : decode cX6_draws 38 = .ok (.istore_n 3, 1) := by decide +kernel
theorem dX6_draws_39 : decode cX6_draws 39 = .ok (.iload_n 2, 1) := by decide +kernel
theorem dX6_draws_40 : decode cX6_draws 40 = .ok (.ifCond .le 7, 3) := by decide +kernel
theorem dX6_draws_43 : decode cX6_draws 43 = .ok (.aload_n 0, 1) := by decide +kernel
theorem dX6_draws_44 : decode cX6_draws 44 = .ok (.invokevirtual 70, 3) := by decide +kernel
theorem dX6_draws_47 : decode cX6_draws 47 = .ok (.iconst 0, 1) := by decide +kernel
theorem dX6_draws_48 : decode cX6_draws 48 = .ok (.istore 4, 2) := by decide +kernel
theorem dX6_draws_50 : decode cX6_draws 50 = .ok (.iload 4, 2) := by decide +kernel
theorem dX6_draws_52 : decode cX6_draws 52 = .ok (.aload_n 0, 1) := by decide +kernel
theorem dX6_draws_53 : decode cX6_draws 53 = .ok (.getfield 22, 3) := by decide +kernel
theorem dX6_draws_56 : decode cX6_draws 56 = .ok (.iload_n 3, 1) := by decide +kernel
theorem dX6_draws_57 : decode cX6_draws 57 = .ok (.iaload, 1) := by decide +kernel
theorem dX6_draws_58 : decode cX6_draws 58 = .ok (.if_icmp .ge 55, 3) := by decide +kernel
theorem dX6_draws_61 : decode cX6_draws 61 = .ok (.aload_n 0, 1) := by decide +kernel
theorem dX6_draws_62 : decode cX6_draws 62 = .ok (.getfield 44, 3) := by decide +kernel
theorem dX6_draws_65 : decode cX6_draws 65 = .ok (.aload_n 0, 1) := by decide +kernel
theorem dX6_draws_66 : decode cX6_draws 66 = .ok (.getfield 67, 3) := by decide +kernel
theorem dX6_draws_69 : decode cX6_draws 69 = .ok (.aload_n 0, 1) := by decide +kernel
theorem dX6_draws_70 : decode cX6_draws 70 = .ok (.getfield 26, 3) := by decide +kernel
theorem dX6_draws_73 : decode cX6_draws 73 = .ok (.bipush 6, 2) := by decide +kernel
theorem dX6_draws_75 : decode cX6_draws 75 = .ok (.iload_n 3, 1) := by decide +kernel
theorem dX6_draws_76 : decode cX6_draws 76 = .ok (.imul, 1) := by decide +kernel
theorem dX6_draws_77 : decode cX6_draws 77 = .ok (.iload 4, 2) := by decide +kernel
theorem dX6_draws_79 : decode cX6_draws 79 = .ok (.iadd, 1) := by decide +kernel
theorem dX6_draws_80 : decode cX6_draws 80 = .ok (.iaload, 1) := by decide +kernel
theorem dX6_draws_81 : decode cX6_draws 81 = .ok (.iastore, 1) := by decide +kernel
theorem dX6_draws_82 : decode cX6_draws 82 = .ok (.aload_n 0, 1) := by decide +kernel
theorem dX6_draws_83 : decode cX6_draws 83 = .ok (.getfield 47, 3) := by decide +kernel
theorem dX6_draws_86 : decode cX6_draws 86 = .ok (.aload_n 0, 1) := by decide +kernel
theorem dX6_draws_87 : decode cX6_draws 87 = .ok (.getfield 67, 3) := by decide +kernel
theorem dX6_draws_90 : decode cX6_draws 90 = .ok (.aload_n 0, 1) := by decide +kernel
theorem dX6_draws_91 : decode cX6_draws 91 = .ok (.getfield 38, 3) := by decide +kernel
theorem dX6_draws_94 : decode cX6_draws 94 = .ok (.iload_n 1, 1) := by decide +kernel
theorem dX6_draws_95 : decode cX6_draws 95 = .ok (.iaload, 1) := by decide +kernel
theorem dX6_draws_96 : decode cX6_draws 96 = .ok (.iastore, 1) := by decide +kernel
theorem dX6_draws_97 : decode cX6_draws 97 = .ok (.aload_n 0, 1) := by decide +kernel
theorem dX6_draws_98 : decode cX6_draws 98 = .ok (.dup, 1) := by decide +kernel
theorem dX6_draws_99 : decode cX6_draws 99 = .ok (.getfield 67, 3) := by decide +kernel
theorem dX6_draws_102 : decode cX6_draws 102 = .ok (.iconst 1, 1) := by decide +kernel
theorem dX6_draws_103 : decode cX6_draws 103 = .ok (.iadd, 1) := by decide +kernel
theorem dX6_draws_104 : decode cX6_draws 104 = .ok (.putfield 67, 3) := by decide +kernel
theorem dX6_draws_107 : decode cX6_draws 107 = .ok (.iinc 4 1, 3) := by decide +kernel
theorem dX6_draws_110 : decode cX6_draws 110 = .ok (.goto (-60), 3) := by decide +kernel
theorem dX6_draws_113 : decode cX6_draws 113 = .ok (.iinc 2 1, 3) := by decide +kernel
theorem dX6_draws_116 : decode cX6_draws 116 = .ok (.goto (-99), 3) := by decide +kernel
theorem dX6_draws_119 : decode cX6_draws 119 = .ok (.iconst 0, 1) := by decide +kernel
theorem dX6_draws_120 : decode cX6_draws 120 = .ok (.istore_n 2, 1) := by decide +kernel
theorem dX6_draws_121 : decode cX6_draws 121 = .ok (.iload_n 2, 1) := by decide +kernel
theorem dX6_draws_122 : decode cX6_draws 122 = .ok (.aload_n 0, 1) := by decide +kernel
theorem dX6_draws_123 : decode cX6_draws 123 = .ok (.getfield 13, 3) := by decide +kernel
theorem dX6_draws_126 : decode cX6_draws 126 = .ok (.if_icmp .ge 13, 3) := by decide +kernel
theorem dX6_draws_129 : decode cX6_draws 129 = .ok (.aload_n 0, 1) := by decide +kernel
theorem dX6_draws_130 : decode cX6_draws 130 = .ok (.invokevirtual 70, 3) := by decide +kernel
theorem dX6_draws_133 : decode cX6_draws 133 = .ok (.iinc 2 1, 3) := by decide +kernel
theorem dX6_draws_136 : decode cX6_draws 136 = .ok (.goto (-15), 3) := by decide +kernel
theorem dX6_draws_139 : decode cX6_draws 139 = .ok (.iinc 1 1, 3) := by decide +kernel
theorem dX6_draws_142 : decode cX6_draws 142 = .ok (.goto (-135), 3) := by decide +kernel
theorem dX6_draws_145 : decode cX6_draws 145 = .ok (.return_, 1) := by decide +kernel
set_option maxRecDepth 20000 in
theorem ggX6_setGlyphWidth_X6_in : GoodIn wsX6_setGlyphWidth wsX6_in := goodIn_r _ [6] (by decide +kernel) (by decide +kernel)
set_option maxRecDepth 20000 in
theorem gX6_setGlyphWidth_X6_in : GoodIn wsX6_setGlyphWidth (va_wsS RX6 73 yX6_in wsX6_in) := goodIn_app (goodIn_of _ (by decide +kernel)) ggX6_setGlyphWidth_X6_in
set_option maxRecDepth 20000 in
theorem ggX6_setGlyphWidth_X6_settles : GoodIn wsX6_setGlyphWidth wsX6_settles := goodIn_r _ [10, 11, 12, 13, 14, 5, 15, 16, 17, 18, 19, 20, 21, 22, 23, 24, 25, 26, 1, 27, 28, 29, 30, 31, 32, 33, 34, 35, 36, 37, 38, 39, 40, 41, 42, 43, 44, 45, 46] (by decide +kernel) (by decide +kernel)
set_option maxRecDepth 20000 in
theorem gX6_setGlyphWidth_X6_settles : GoodIn wsX6_setGlyphWidth (wsV RX6 77 RX6 yX6_settles wsX6_settles) := goodIn_app (goodIn_of _ (by decide +kernel)) ggX6_setGlyphWidth_X6_settles
theorem dX6_setGlyphWidth_0 : decode cX6_setGlyphWidth 0 = .ok (.iload_n 1, 1) := by decide +kernel
theorem dX6_setGlyphWidth_1 : decode cX6_setGlyphWidth 1 = .ok (.iconst 0, 1) := by decide +kernel
theorem dX6_setGlyphWidth_2 : decode cX6_setGlyphWidth 2 = .ok (.bipush 26, 2) := by decide +kernel
theorem dX6_setGlyphWidth_4 : decode cX6_setGlyphWidth 4 = .ok (.invokestatic 73, 3) := by decide +kernel
theorem dX6_setGlyphWidth_7 : decode cX6_setGlyphWidth 7 = .ok (.ifCond .eq 13, 3) := by decide +kernel
theorem dX6_setGlyphWidth_10 : decode cX6_setGlyphWidth 10 = .ok (.iload_n 2, 1) := by decide +kernel
theorem dX6_setGlyphWidth_11 : decode cX6_setGlyphWidth 11 = .ok (.iconst 1, 1) := by decide +kernel
theorem dX6_setGlyphWidth_12 : decode cX6_setGlyphWidth 12 = .ok (.bipush 6, 2) := by decide +kernel
theorem dX6_setGlyphWidth_14 : decode cX6_setGlyphWidth 14 = .ok (.invokestatic 73, 3) := by decide +kernel
theorem dX6_setGlyphWidth_17 : decode cX6_setGlyphWidth 17 = .ok (.ifCond .ne 6, 3) := by decide +kernel
theorem dX6_setGlyphWidth_20 : decode cX6_setGlyphWidth 20 = .ok (.bipush (-11), 2) := by decide +kernel
theorem dX6_setGlyphWidth_22 : decode cX6_setGlyphWidth 22 = .ok (.ireturn, 1) := by decide +kernel
theorem dX6_setGlyphWidth_23 : decode cX6_setGlyphWidth 23 = .ok (.aload_n 0, 1) := by decide +kernel
theorem dX6_setGlyphWidth_24 : decode cX6_setGlyphWidth 24 = .ok (.getfield 22, 3) := by decide +kernel
theorem dX6_setGlyphWidth_27 : decode cX6_setGlyphWidth 27 = .ok (.iload_n 1, 1) := by decide +kernel
theorem dX6_setGlyphWidth_28 : decode cX6_setGlyphWidth 28 = .ok (.iaload, 1) := by decide +kernel
theorem dX6_setGlyphWidth_29 : decode cX6_setGlyphWidth 29 = .ok (.istore_n 3, 1) := by decide +kernel
theorem dX6_setGlyphWidth_30 : decode cX6_setGlyphWidth 30 = .ok (.iload_n 3, 1) := by decide +kernel
theorem dX6_setGlyphWidth_31 : decode cX6_setGlyphWidth 31 = .ok (.istore 4, 2) := by decide +kernel
theorem dX6_setGlyphWidth_33 : decode cX6_setGlyphWidth 33 = .ok (.iload 4, 2) := by decide +kernel
theorem dX6_setGlyphWidth_35 : decode cX6_setGlyphWidth 35 = .ok (.iload_n 2, 1) := by decide +kernel
theorem dX6_setGlyphWidth_36 : decode cX6_setGlyphWidth 36 = .ok (.if_icmp .ge 22, 3) := by decide +kernel
theorem dX6_setGlyphWidth_39 : decode cX6_setGlyphWidth 39 = .ok (.aload_n 0, 1) := by decide +kernel
theorem dX6_setGlyphWidth_40 : decode cX6_setGlyphWidth 40 = .ok (.getfield 26, 3) := by decide +kernel
theorem dX6_setGlyphWidth_43 : decode cX6_setGlyphWidth 43 = .ok (.bipush 6, 2) := by decide +kernel
theorem dX6_setGlyphWidth_45 : decode cX6_setGlyphWidth 45 = .ok (.iload_n 1, 1) := by decide +kernel
theorem dX6_setGlyphWidth_46 : decode cX6_setGlyphWidth 46 = .ok (.imul, 1) := by decide +kernel
theorem dX6_setGlyphWidth_47 : decode cX6_setGlyphWidth 47 = .ok (.iload 4, 2) := by decide +kernel
theorem dX6_setGlyphWidth_49 : decode cX6_setGlyphWidth 49 = .ok (.iadd, 1) := by decide +kernel
theorem dX6_setGlyphWidth_50 : decode cX6_setGlyphWidth 50 = .ok (.iconst 0, 1) := by decide +kernel
theorem dX6_setGlyphWidth_51 : decode cX6_setGlyphWidth 51 = .ok (.iastore, 1) := by decide +kernel
theorem dX6_setGlyphWidth_52 : decode cX6_setGlyphWidth 52 = .ok (.iinc 4 1, 3) := by decide +kernel
theorem dX6_setGlyphWidth_55 : decode cX6_setGlyphWidth 55 = .ok (.goto (-22), 3) := by decide +kernel
theorem dX6_setGlyphWidth_58 : decode cX6_setGlyphWidth 58 = .ok (.aload_n 0, 1) := by decide +kernel
theorem dX6_setGlyphWidth_59 : decode cX6_setGlyphWidth 59 = .ok (.getfield 22, 3) := by decide +kernel
theorem dX6_setGlyphWidth_62 : decode cX6_setGlyphWidth 62 = .ok (.iload_n 1, 1) := by decide +kernel
theorem dX6_setGlyphWidth_63 : decode cX6_setGlyphWidth 63 = .ok (.iload_n 2, 1) := by decide +kernel
theorem dX6_setGlyphWidth_64 : decode cX6_setGlyphWidth 64 = .ok (.iastore, 1) := by decide +kernel
theorem dX6_setGlyphWidth_65 : decode cX6_setGlyphWidth 65 = .ok (.aload_n 0, 1) := by decide +kernel
theorem dX6_setGlyphWidth_66 : decode cX6_setGlyphWidth 66 = .ok (.invokevirtual 77, 3) := by decide +kernel
theorem dX6_setGlyphWidth_69 : decode cX6_setGlyphWidth 69 = .ok (.pop, 1) := by decide +kernel
theorem dX6_setGlyphWidth_70 : decode cX6_setGlyphWidth 70 = .ok (.iload_n 3, 1) := by decide +kernel
theorem dX6_setGlyphWidth_71 : decode cX6_setGlyphWidth 71 = .ok (.ireturn, 1) := by decide +kernel
set_option maxRecDepth 20000 in
theorem ggX6_setGlyphColumn_X6_in : GoodIn wsX6_setGlyphColumn wsX6_in := goodIn_r _ [6] (by decide +kernel) (by decide +kernel)
set_option maxRecDepth 20000 in
theorem gX6_setGlyphColumn_X6_in : GoodIn wsX6_setGlyphColumn (va_wsS RX6 73 yX6_in wsX6_in) := goodIn_app (goodIn_of _ (by decide +kernel)) ggX6_setGlyphColumn_X6_in
theorem dX6_setGlyphColumn_0 : decode cX6_setGlyphColumn 0 = .ok (.iload_n 1, 1) := by decide +kernel
theorem dX6_setGlyphColumn_1 : decode cX6_setGlyphColumn 1 = .ok (.iconst 0, 1) := by decide +kernel
theorem dX6_setGlyphColumn_2 : decode cX6_setGlyphColumn 2 = .ok (.bipush 26, 2) := by decide +kernel
theorem dX6_setGlyphColumn_4 : decode cX6_setGlyphColumn 4 = .ok (.invokestatic 73, 3) := by decide +kernel
theorem dX6_setGlyphColumn_7 : decode cX6_setGlyphColumn 7 = .ok (.ifCond .eq 30, 3) := by decide +kernel
theorem dX6_setGlyphColumn_10 : decode cX6_setGlyphColumn 10 = .ok (.iload_n 2, 1) := by decide +kernel
theorem dX6_setGlyphColumn_11 : decode cX6_setGlyphColumn 11 = .ok (.iconst 0, 1) := by decide +kernel
theorem dX6_setGlyphColumn_12 : decode cX6_setGlyphColumn 12 = .ok (.aload_n 0, 1) := by decide +kernel
theorem dX6_setGlyphColumn_13 : decode cX6_setGlyphColumn 13 = .ok (.getfield 22, 3) := by decide +kernel
theorem dX6_setGlyphColumn_16 : decode cX6_setGlyphColumn 16 = .ok (.iload_n 1, 1) := by decide +kernel
theorem dX6_setGlyphColumn_17 : decode cX6_setGlyphColumn 17 = .ok (.iaload, 1) := by decide +kernel
theorem dX6_setGlyphColumn_18 : decode cX6_setGlyphColumn 18 = .ok (.iconst 1, 1) := by decide +kernel
theorem dX6_setGlyphColumn_19 : decode cX6_setGlyphColumn 19 = .ok (.isub, 1) := by decide +kernel
theorem dX6_setGlyphColumn_20 : decode cX6_setGlyphColumn 20 = .ok (.invokestatic 73, 3) := by decide +kernel
theorem dX6_setGlyphColumn_23 : decode cX6_setGlyphColumn 23 = .ok (.ifCond .eq 14, 3) := by decide +kernel
theorem dX6_setGlyphColumn_26 : decode cX6_setGlyphColumn 26 = .ok (.iload_n 3, 1) := by decide +kernel
theorem dX6_setGlyphColumn_27 : decode cX6_setGlyphColumn 27 = .ok (.iconst 0, 1) := by decide +kernel
theorem dX6_setGlyphColumn_28 : decode cX6_setGlyphColumn 28 = .ok (.sipush 255, 3) := by decide +kernel
theorem dX6_setGlyphColumn_31 : decode cX6_setGlyphColumn 31 = .ok (.invokestatic 73, 3) := by decide +kernel
theorem dX6_setGlyphColumn_34 : decode cX6_setGlyphColumn 34 = .ok (.ifCond .ne 6, 3) := by decide +kernel
theorem dX6_setGlyphColumn_37 : decode cX6_setGlyphColumn 37 = .ok (.bipush (-11), 2) := by decide +kernel
theorem dX6_setGlyphColumn_39 : decode cX6_setGlyphColumn 39 = .ok (.ireturn, 1) := by decide +kernel
theorem dX6_setGlyphColumn_40 : decode cX6_setGlyphColumn 40 = .ok (.aload_n 0, 1) := by decide +kernel
theorem dX6_setGlyphColumn_41 : decode cX6_setGlyphColumn 41 = .ok (.getfield 26, 3) := by decide +kernel
theorem dX6_setGlyphColumn_44 : decode cX6_setGlyphColumn 44 = .ok (.bipush 6, 2) := by decide +kernel
theorem dX6_setGlyphColumn_46 : decode cX6_setGlyphColumn 46 = .ok (.iload_n 1, 1) := by decide +kernel
theorem dX6_setGlyphColumn_47 : decode cX6_setGlyphColumn 47 = .ok (.imul, 1) := by decide +kernel
theorem dX6_setGlyphColumn_48 : decode cX6_setGlyphColumn 48 = .ok (.iload_n 2, 1) := by decide +kernel
theorem dX6_setGlyphColumn_49 : decode cX6_setGlyphColumn 49 = .ok (.iadd, 1) := by decide +kernel
theorem dX6_setGlyphColumn_50 : decode cX6_setGlyphColumn 50 = .ok (.iaload, 1) := by decide +kernel
theorem dX6_setGlyphColumn_51 : decode cX6_setGlyphColumn 51 = .ok (.istore 4, 2) := by decide +kernel
theorem dX6_setGlyphColumn_53 : decode cX6_setGlyphColumn 53 = .ok (.aload_n 0, 1) := by decide +kernel
theorem dX6_setGlyphColumn_54 : decode cX6_setGlyphColumn 54 = .ok (.getfield 26, 3) := by decide +kernel
theorem dX6_setGlyphColumn_57 : decode cX6_setGlyphColumn 57 = .ok (.bipush 6, 2) := by decide +kernel
theorem dX6_setGlyphColumn_59 : decode cX6_setGlyphColumn 59 = .ok (.iload_n 1, 1) := by decide +kernel
theorem dX6_setGlyphColumn_60 : decode cX6_setGlyphColumn 60 = .ok (.imul, 1) := by decide +kernel
theorem dX6_setGlyphColumn_61 : decode cX6_setGlyphColumn 61 = .ok (.iload_n 2, 1) := by decide +kernel
theorem dX6_setGlyphColumn_62 : decode cX6_setGlyphColumn 62 = .ok (.iadd, 1) := by decide +kernel
theorem dX6_setGlyphColumn_63 : decode cX6_setGlyphColumn 63 = .ok (.iload_n 3, 1) := by decide +kernel
theorem dX6_setGlyphColumn_64 : decode cX6_setGlyphColumn 64 = .ok (.iastore, 1) := by decide +kernel
theorem dX6_setGlyphColumn_65 : decode cX6_setGlyphColumn 65 = .ok (.iload 4, 2) := by decide +kernel
theorem dX6_setGlyphColumn_67 : decode cX6_setGlyphColumn 67 = .ok (.ireturn, 1) := by decide +kernel
set_option maxRecDepth 20000 in
theorem ggX6_glyphColumn_X6_in : GoodIn wsX6_glyphColumn wsX6_in := goodIn_r _ [6] (by decide +kernel) (by decide +kernel)
set_option maxRecDepth 20000 in
theorem gX6_glyphColumn_X6_in : GoodIn wsX6_glyphColumn (va_wsS RX6 73 yX6_in wsX6_in) := goodIn_app (goodIn_of _ (by decide +kernel)) ggX6_glyphColumn_X6_in
theorem dX6_glyphColumn_0 : decode cX6_glyphColumn 0 = .ok (.iload_n 1, 1) := by decide +kernel
theorem dX6_glyphColumn_1 : decode cX6_glyphColumn 1 = .ok (.iconst 0, 1) := by decide +kernel
theorem dX6_glyphColumn_2 : decode cX6_glyphColumn 2 = .ok (.bipush 26, 2) := by decide +kernel
theorem dX6_glyphColumn_4 : decode cX6_glyphColumn 4 = .ok (.invokestatic 73, 3) := by decide +kernel
theorem dX6_glyphColumn_7 : decode cX6_glyphColumn 7 = .ok (.ifCond .eq 12, 3) := by decide +kernel
theorem dX6_glyphColumn_10 : decode cX6_glyphColumn 10 = .ok (.iload_n 2, 1) := by decide +kernel
theorem dX6_glyphColumn_11 : decode cX6_glyphColumn 11 = .ok (.iconst 0, 1) := by decide +kernel
theorem dX6_glyphColumn_12 : decode cX6_glyphColumn 12 = .ok (.iconst 5, 1) := by decide +kernel
theorem dX6_glyphColumn_13 : decode cX6_glyphColumn 13 = .ok (.invokestatic 73, 3) := by decide +kernel
theorem dX6_glyphColumn_16 : decode cX6_glyphColumn 16 = .ok (.ifCond .ne 6, 3) := by decide +kernel
theorem dX6_glyphColumn_19 : decode cX6_glyphColumn 19 = .ok (.bipush (-11), 2) := by decide +kernel
theorem dX6_glyphColumn_21 : decode cX6_glyphColumn 21 = .ok (.ireturn, 1) := by decide +kernel
theorem dX6_glyphColumn_22 : decode cX6_glyphColumn 22 = .ok (.iload_n 2, 1) := by decide +kernel
theorem dX6_glyphColumn_23 : decode cX6_glyphColumn 23 = .ok (.aload_n 0, 1) := by decide +kernel
theorem dX6_glyphColumn_24 : decode cX6_glyphColumn 24 = .ok (.getfield 22, 3) := by decide +kernel
theorem dX6_glyphColumn_27 : decode cX6_glyphColumn 27 = .ok (.iload_n 1, 1) := by decide +kernel
theorem dX6_glyphColumn_28 : decode cX6_glyphColumn 28 = .ok (.iaload, 1) := by decide +kernel
theorem dX6_glyphColumn_29 : decode cX6_glyphColumn 29 = .ok (.if_icmp .ge 17, 3) := by decide +kernel
theorem dX6_glyphColumn_32 : decode cX6_glyphColumn 32 = .ok (.aload_n 0, 1) := by decide +kernel
theorem dX6_glyphColumn_33 : decode cX6_glyphColumn 33 = .ok (.getfield 26, 3) := by decide +kernel
theorem dX6_glyphColumn_36 : decode cX6_glyphColumn 36 = .ok (.bipush 6, 2) := by decide +kernel
theorem dX6_glyphColumn_38 : decode cX6_glyphColumn 38 = .ok (.iload_n 1, 1) := by decide +kernel
theorem dX6_glyphColumn_39 : decode cX6_glyphColumn 39 = .ok (.imul, 1) := by decide +kernel
theorem dX6_glyphColumn_40 : decode cX6_glyphColumn 40 = .ok (.iload_n 2, 1) := by decide +kernel
theorem dX6_glyphColumn_41 : decode cX6_glyphColumn 41 = .ok (.iadd, 1) := by decide +kernel
theorem dX6_glyphColumn_42 : decode cX6_glyphColumn 42 = .ok (.iaload, 1) := by decide +kernel
theorem dX6_glyphColumn_43 : decode cX6_glyphColumn 43 = .ok (.goto 5, 3) := by decide +kernel
theorem dX6_glyphColumn_46 : decode cX6_glyphColumn 46 = .ok (.bipush (-14), 2) := by decide +kernel
theorem dX6_glyphColumn_48 : decode cX6_glyphColumn 48 = .ok (.ireturn, 1) := by decide +kernel
set_option maxRecDepth 20000 in
theorem ggX6_append_X6_in : GoodIn wsX6_append wsX6_in := goodIn_r _ [6] (by decide +kernel) (by decide +kernel)
set_option maxRecDepth 20000 in
theorem gX6_append_X6_in : GoodIn wsX6_append (va_wsS RX6 73 yX6_in wsX6_in) := goodIn_app (goodIn_of _ (by decide +kernel)) ggX6_append_X6_in
theorem dX6_append_0 : decode cX6_append 0 = .ok (.iload_n 1, 1) := by decide +kernel
theorem dX6_append_1 : decode cX6_append 1 = .ok (.iconst 0, 1) := by decide +kernel
theorem dX6_append_2 : decode cX6_append 2 = .ok (.bipush 26, 2) := by decide +kernel
theorem dX6_append_4 : decode cX6_append 4 = .ok (.invokestatic 73, 3) := by decide +kernel
theorem dX6_append_7 : decode cX6_append 7 = .ok (.ifCond .ne 6, 3) := by decide +kernel
theorem dX6_append_10 : decode cX6_append 10 = .ok (.bipush (-11), 2) := by decide +kernel
theorem dX6_append_12 : decode cX6_append 12 = .ok (.ireturn, 1) := by decide +kernel
theorem dX6_append_13 : decode cX6_append 13 = .ok (.aload_n 0, 1) := by decide +kernel
theorem dX6_append_14 : decode cX6_append 14 = .ok (.getfield 80, 3) := by decide +kernel
theorem dX6_append_17 : decode cX6_append 17 = .ok (.bipush 12, 2) := by decide +kernel
theorem dX6_append_19 : decode cX6_append 19 = .ok (.if_icmp .ne 6, 3) := by decide +kernel
theorem dX6_append_22 : decode cX6_append 22 = .ok (.bipush (-13), 2) := by decide +kernel
theorem dX6_append_24 : decode cX6_append 24 = .ok (.ireturn, 1) := by decide +kernel
theorem dX6_append_25 : decode cX6_append 25 = .ok (.aload_n 0, 1) := by decide +kernel
theorem dX6_append_26 : decode cX6_append 26 = .ok (.getfield 32, 3) := by decide +kernel
theorem dX6_append_29 : decode cX6_append 29 = .ok (.aload_n 0, 1) := by decide +kernel
theorem dX6_append_30 : decode cX6_append 30 = .ok (.getfield 80, 3) := by decide +kernel
theorem dX6_append_33 : decode cX6_append 33 = .ok (.iload_n 1, 1) := by decide +kernel
theorem dX6_append_34 : decode cX6_append 34 = .ok (.iastore, 1) := by decide +kernel
theorem dX6_append_35 : decode cX6_append 35 = .ok (.aload_n 0, 1) := by decide +kernel
theorem dX6_append_36 : decode cX6_append 36 = .ok (.dup, 1) := by decide +kernel
theorem dX6_append_37 : decode cX6_append 37 = .ok (.getfield 80, 3) := by decide +kernel
theorem dX6_append_40 : decode cX6_append 40 = .ok (.iconst 1, 1) := by decide +kernel
theorem dX6_append_41 : decode cX6_append 41 = .ok (.iadd, 1) := by decide +kernel
theorem dX6_append_42 : decode cX6_append 42 = .ok (.putfield 80, 3) := by decide +kernel
theorem dX6_append_45 : decode cX6_append 45 = .ok (.aload_n 0, 1) := by decide +kernel
theorem dX6_append_46 : decode cX6_append 46 = .ok (.getfield 80, 3) := by decide +kernel
theorem dX6_append_49 : decode cX6_append 49 = .ok (.ireturn, 1) := by decide +kernel
theorem dX6_clearText_0 : decode cX6_clearText 0 = .ok (.aload_n 0, 1) := by decide +kernel
theorem dX6_clearText_1 : decode cX6_clearText 1 = .ok (.getfield 80, 3) := by decide +kernel
theorem dX6_clearText_4 : decode cX6_clearText 4 = .ok (.istore_n 1, 1) := by decide +kernel
theorem dX6_clearText_5 : decode cX6_clearText 5 = .ok (.aload_n 0, 1) := by decide +kernel
theorem dX6_clearText_6 : decode cX6_clearText 6 = .ok (.iconst 0, 1) := by decide +kernel
theorem dX6_clearText_7 : decode cX6_clearText 7 = .ok (.putfield 80, 3) := by decide +kernel
theorem dX6_clearText_10 : decode cX6_clearText 10 = .ok (.iload_n 1, 1) := by decide +kernel
theorem dX6_clearText_11 : decode cX6_clearText 11 = .ok (.ireturn, 1) := by decide +kernel
theorem dX6_copies_0 : decode cX6_copies 0 = .ok (.aload_n 0, 1) := by decide +kernel
theorem dX6_copies_1 : decode cX6_copies 1 = .ok (.getfield 35, 3) := by decide +kernel
theorem dX6_copies_4 : decode cX6_copies 4 = .ok (.iload_n 2, 1) := by decide +kernel
theorem dX6_copies_5 : decode cX6_copies 5 = .ok (.aload_n 0, 1) := by decide +kernel
theorem dX6_copies_6 : decode cX6_copies 6 = .ok (.getfield 35, 3) := by decide +kernel
theorem dX6_copies_9 : decode cX6_copies 9 = .ok (.iload_n 1, 1) := by decide +kernel
theorem dX6_copies_10 : decode cX6_copies 10 = .ok (.iaload, 1) := by decide +kernel
theorem dX6_copies_11 : decode cX6_copies 11 = .ok (.iastore, 1) := by decide +kernel
theorem dX6_copies_12 : decode cX6_copies 12 = .ok (.aload_n 0, 1) := by decide +kernel
theorem dX6_copies_13 : decode cX6_copies 13 = .ok (.getfield 38, 3) := by decide +kernel
theorem dX6_copies_16 : decode cX6_copies 16 = .ok (.iload_n 2, 1) := by decide +kernel
theorem dX6_copies_17 : decode cX6_copies 17 = .ok (.aload_n 0, 1) := by decide +kernel
theorem dX6_copies_18 : decode cX6_copies 18 = .ok (.getfield 38, 3) := by decide +kernel
theorem dX6_copies_21 : decode cX6_copies 21 = .ok (.iload_n 1, 1) := by decide +kernel
theorem dX6_copies_22 : decode cX6_copies 22 = .ok (.iaload, 1) := by decide +kernel
theorem dX6_copies_23 : decode cX6_copies 23 = .ok (.iastore, 1) := by decide +kernel
theorem dX6_copies_24 : decode cX6_copies 24 = .ok (.iconst 0, 1) := by decide +kernel
theorem dX6_copies_25 : decode cX6_copies 25 = .ok (.istore_n 3, 1) := by decide +kernel
theorem dX6_copies_26 : decode cX6_copies 26 = .ok (.iload_n 3, 1) := by decide +kernel
theorem dX6_copies_27 : decode cX6_copies 27 = .ok (.bipush 12, 2) := by decide +kernel
theorem dX6_copies_29 : decode cX6_copies 29 = .ok (.if_icmp .ge 31, 3) := by decide +kernel
theorem dX6_copies_32 : decode cX6_copies 32 = .ok (.aload_n 0, 1) := by decide +kernel
theorem dX6_copies_33 : decode cX6_copies 33 = .ok (.getfield 41, 3) := by decide +kernel
theorem dX6_copies_36 : decode cX6_copies 36 = .ok (.bipush 12, 2) := by decide +kernel
theorem dX6_copies_38 : decode cX6_copies 38 = .ok (.iload_n 2, 1) := by decide +kernel
theorem dX6_copies_39 : decode cX6_copies 39 = .ok (.imul, 1) := by decide +kernel
theorem dX6_copies_40 : decode cX6_copies 40 = .ok (.iload_n 3, 1) := by decide +kernel
theorem dX6_copies_41 : decode cX6_copies 41 = .ok (.iadd, 1) := by decide +kernel
theorem dX6_copies_42 : decode cX6_copies 42 = .ok (.aload_n 0, 1) := by decide +kernel
theorem dX6_copies_43 : decode cX6_copies 43 = .ok (.getfield 41, 3) := by decide +kernel
theorem dX6_copies_46 : decode cX6_copies 46 = .ok (.bipush 12, 2) := by decide +kernel
theorem dX6_copies_48 : decode cX6_copies 48 = .ok (.iload_n 1, 1) := by decide +kernel
theorem dX6_copies_49 : decode cX6_copies 49 = .ok (.imul, 1) := by decide +kernel
theorem dX6_copies_50 : decode cX6_copies 50 = .ok (.iload_n 3, 1) := by decide +kernel
theorem dX6_copies_51 : decode cX6_copies 51 = .ok (.iadd, 1) := by decide +kernel
theorem dX6_copies_52 : decode cX6_copies 52 = .ok (.iaload, 1) := by decide +kernel
theorem dX6_copies_53 : decode cX6_copies 53 = .ok (.iastore, 1) := by decide +kernel
theorem dX6_copies_54 : decode cX6_copies 54 = .ok (.iinc 3 1, 3) := by decide +kernel
theorem dX6_copies_57 : decode cX6_copies 57 = .ok (.goto (-31), 3) := by decide +kernel
theorem dX6_copies_60 : decode cX6_copies 60 = .ok (.return_, 1) := by decide +kernel
set_option maxRecDepth 20000 in
theorem ggX6_insertMessage_X6_in : GoodIn wsX6_insertMessage wsX6_in := goodIn_r _ [10] (by decide +kernel) (by decide +kernel)
set_option maxRecDepth 20000 in
theorem gX6_insertMessage_X6_in : GoodIn wsX6_insertMessage (va_wsS RX6 73 yX6_in wsX6_in) := goodIn_app (goodIn_of _ (by decide +kernel)) ggX6_insertMessage_X6_in
set_option maxRecDepth 20000 in
theorem ggX6_insertMessage_X6_copies : GoodIn wsX6_insertMessage wsX6_copies := goodIn_r _ [14, 3, 4, 5, 34, 35, 36, 37, 38, 39, 40, 41, 42, 43, 44, 45, 46, 47, 48, 49, 50, 51, 52] (by decide +kernel) (by decide +kernel)
set_option maxRecDepth 20000 in
theorem gX6_insertMessage_X6_copies : GoodIn wsX6_insertMessage (wsV RX6 83 RX6 yX6_copies wsX6_copies) := goodIn_app (goodIn_of _ (by decide +kernel)) ggX6_insertMessage_X6_copies
set_option maxRecDepth 20000 in
theorem ggX6_insertMessage_X6_settles : GoodIn wsX6_insertMessage wsX6_settles := goodIn_r _ [18, 19, 20, 21, 22, 9, 23, 1, 24, 25, 26, 27, 28, 29, 30, 31, 32, 3, 33, 5, 34, 35, 36, 37, 38, 39, 40, 41, 42, 43, 44, 45, 46, 47, 48, 49, 50, 51, 52] (by decide +kernel) (by decide +kernel)
set_option maxRecDepth 20000 in
theorem gX6_insertMessage_X6_settles : GoodIn wsX6_insertMessage (wsV RX6 77 RX6 yX6_settles wsX6_settles) := goodIn_app (goodIn_of _ (by decide +kernel)) ggX6_insertMessage_X6_settles
theorem dX6_insertMessage_0 : decode cX6_insertMessage 0 = .ok (.iload_n 1, 1) := by decide +kernel
theorem dX6_insertMessage_1 : decode cX6_insertMessage 1 = .ok (.iconst 0, 1) := by decide +kernel
theorem dX6_insertMessage_2 : decode cX6_insertMessage 2 = .ok (.aload_n 0, 1) := by decide +kernel
theorem dX6_insertMessage_3 : decode cX6_insertMessage 3 = .ok (.getfield 54, 3) := by decide +kernel
theorem dX6_insertMessage_6 : decode cX6_insertMessage 6 = .ok (.invokestatic 73, 3) := by decide +kernel
theorem dX6_insertMessage_9 : decode cX6_insertMessage 9 = .ok (.ifCond .eq 12, 3) := by decide +kernel
theorem dX6_insertMessage_12 : decode cX6_insertMessage 12 = .ok (.iload_n 2, 1) := by decide +kernel
theorem dX6_insertMessage_13 : decode cX6_insertMessage 13 = .ok (.iconst 1, 1) := by decide +kernel
theorem dX6_insertMessage_14 : decode cX6_insertMessage 14 = .ok (.iconst 3, 1) := by decide +kernel
theorem dX6_insertMessage_15 : decode cX6_insertMessage 15 = .ok (.invokestatic 73, 3) := by decide +kernel
theorem dX6_insertMessage_18 : decode cX6_insertMessage 18 = .ok (.ifCond .ne 6, 3) := by decide +kernel
theorem dX6_insertMessage_21 : decode cX6_insertMessage 21 = .ok (.bipush (-11), 2) := by decide +kernel
theorem dX6_insertMessage_23 : decode cX6_insertMessage 23 = .ok (.ireturn, 1) := by decide +kernel
theorem dX6_insertMessage_24 : decode cX6_insertMessage 24 = .ok (.aload_n 0, 1) := by decide +kernel
theorem dX6_insertMessage_25 : decode cX6_insertMessage 25 = .ok (.getfield 80, 3) := by decide +kernel
theorem dX6_insertMessage_28 : decode cX6_insertMessage 28 = .ok (.ifCond .ne 6, 3) := by decide +kernel
theorem dX6_insertMessage_31 : decode cX6_insertMessage 31 = .ok (.bipush (-12), 2) := by decide +kernel
theorem dX6_insertMessage_33 : decode cX6_insertMessage 33 = .ok (.ireturn, 1) := by decide +kernel
theorem dX6_insertMessage_34 : decode cX6_insertMessage 34 = .ok (.aload_n 0, 1) := by decide +kernel
theorem dX6_insertMessage_35 : decode cX6_insertMessage 35 = .ok (.getfield 54, 3) := by decide +kernel
theorem dX6_insertMessage_38 : decode cX6_insertMessage 38 = .ok (.bipush 6, 2) := by decide +kernel
theorem dX6_insertMessage_40 : decode cX6_insertMessage 40 = .ok (.if_icmp .ne 6, 3) := by decide +kernel
theorem dX6_insertMessage_43 : decode cX6_insertMessage 43 = .ok (.bipush (-13), 2) := by decide +kernel
theorem dX6_insertMessage_45 : decode cX6_insertMessage 45 = .ok (.ireturn, 1) := by decide +kernel
theorem dX6_insertMessage_46 : decode cX6_insertMessage 46 = .ok (.aload_n 0, 1) := by decide +kernel
theorem dX6_insertMessage_47 : decode cX6_insertMessage 47 = .ok (.getfield 54, 3) := by decide +kernel
theorem dX6_insertMessage_50 : decode cX6_insertMessage 50 = .ok (.istore_n 3, 1) := by decide +kernel
theorem dX6_insertMessage_51 : decode cX6_insertMessage 51 = .ok (.iload_n 3, 1) := by decide +kernel
theorem dX6_insertMessage_52 : decode cX6_insertMessage 52 = .ok (.iload_n 1, 1) := by decide +kernel
theorem dX6_insertMessage_53 : decode cX6_insertMessage 53 = .ok (.if_icmp .le 17, 3) := by decide +kernel
theorem dX6_insertMessage_56 : decode cX6_insertMessage 56 = .ok (.aload_n 0, 1) := by decide +kernel
theorem dX6_insertMessage_57 : decode cX6_insertMessage 57 = .ok (.iload_n 3, 1) := by decide +kernel
theorem dX6_insertMessage_58 : decode cX6_insertMessage 58 = .ok (.iconst 1, 1) := by decide +kernel
theorem dX6_insertMessage_59 : decode cX6_insertMessage 59 = .ok (.isub, 1) := by decide +kernel
theorem dX6_insertMessage_60 : decode cX6_insertMessage 60 = .ok (.iload_n 3, 1) := by decide +kernel
theorem dX6_insertMessage_61 : decode cX6_insertMessage 61 = .ok (.invokevirtual 83, 3) := by decide +kernel
theorem dX6_insertMessage_64 : decode cX6_insertMessage 64 = .ok (.iinc 3 (-1), 3) := by decide +kernel
theorem dX6_insertMessage_67 : decode cX6_insertMessage 67 = .ok (.goto (-16), 3) := by decide +kernel
theorem dX6_insertMessage_70 : decode cX6_insertMessage 70 = .ok (.aload_n 0, 1) := by decide +kernel
theorem dX6_insertMessage_71 : decode cX6_insertMessage 71 = .ok (.getfield 35, 3) := by decide +kernel
theorem dX6_insertMessage_74 : decode cX6_insertMessage 74 = .ok (.iload_n 1, 1) := by decide +kernel
theorem dX6_insertMessage_75 : decode cX6_insertMessage 75 = .ok (.aload_n 0, 1) := by decide +kernel
theorem dX6_insertMessage_76 : decode cX6_insertMessage 76 = .ok (.getfield 80, 3) := by decide +kernel
theorem dX6_insertMessage_79 : decode cX6_insertMessage 79 = .ok (.iastore, 1) := by decide +kernel
theorem dX6_insertMessage_80 : decode cX6_insertMessage 80 = .ok (.aload_n 0, 1) := by decide +kernel
theorem dX6_insertMessage_81 : decode cX6_insertMessage 81 = .ok (.getfield 38, 3) := by decide +kernel
theorem dX6_insertMessage_84 : decode cX6_insertMessage 84 = .ok (.iload_n 1, 1) := by decide +kernel
theorem dX6_insertMessage_85 : decode cX6_insertMessage 85 = .ok (.iload_n 2, 1) := by decide +kernel
theorem dX6_insertMessage_86 : decode cX6_insertMessage 86 = .ok (.iastore, 1) := by decide +kernel
theorem dX6_insertMessage_87 : decode cX6_insertMessage 87 = .ok (.iconst 0, 1) := by decide +kernel
theorem dX6_insertMessage_88 : decode cX6_insertMessage 88 = .ok (.istore_n 3, 1) := by decide +kernel
theorem dX6_insertMessage_89 : decode cX6_insertMessage 89 = .ok (.iload_n 3, 1) := by decide +kernel
theorem dX6_insertMessage_90 : decode cX6_insertMessage 90 = .ok (.aload_n 0, 1) := by decide +kernel
theorem dX6_insertMessage_91 : decode cX6_insertMessage 91 = .ok (.getfield 80, 3) := by decide +kernel
theorem dX6_insertMessage_94 : decode cX6_insertMessage 94 = .ok (.if_icmp .ge 26, 3) := by decide +kernel
theorem dX6_insertMessage_97 : decode cX6_insertMessage 97 = .ok (.aload_n 0, 1) := by decide +kernel
theorem dX6_insertMessage_98 : decode cX6_insertMessage 98 = .ok (.getfield 41, 3) := by decide +kernel
theorem dX6_insertMessage_101 : decode cX6_insertMessage 101 = .ok (.bipush 12, 2) := by decide +kernel
theorem dX6_insertMessage_103 : decode cX6_insertMessage 103 = .ok (.iload_n 1, 1) := by decide +kernel
theorem dX6_insertMessage_104 : decode cX6_insertMessage 104 = .ok (.imul, 1) := by decide +kernel
theorem dX6_insertMessage_105 : decode cX6_insertMessage 105 = .ok (.iload_n 3, 1) := by decide +kernel
theorem dX6_insertMessage_106 : decode cX6_insertMessage 106 = .ok (.iadd, 1) := by decide +kernel
theorem dX6_insertMessage_107 : decode cX6_insertMessage 107 = .ok (.aload_n 0, 1) := by decide +kernel
theorem dX6_insertMessage_108 : decode cX6_insertMessage 108 = .ok (.getfield 32, 3) := by decide +kernel
theorem dX6_insertMessage_111 : decode cX6_insertMessage 111 = .ok (.iload_n 3, 1) := by decide +kernel
theorem dX6_insertMessage_112 : decode cX6_insertMessage 112 = .ok (.iaload, 1) := by decide +kernel
theorem dX6_insertMessage_113 : decode cX6_insertMessage 113 = .ok (.iastore, 1) := by decide +kernel
theorem dX6_insertMessage_114 : decode cX6_insertMessage 114 = .ok (.iinc 3 1, 3) := by decide +kernel
theorem dX6_insertMessage_117 : decode cX6_insertMessage 117 = .ok (.goto (-28), 3) := by decide +kernel
theorem dX6_insertMessage_120 : decode cX6_insertMessage 120 = .ok (.aload_n 0, 1) := by decide +kernel
theorem dX6_insertMessage_121 : decode cX6_insertMessage 121 = .ok (.dup, 1) := by decide +kernel
theorem dX6_insertMessage_122 : decode cX6_insertMessage 122 = .ok (.getfield 54, 3) := by decide +kernel
theorem dX6_insertMessage_125 : decode cX6_insertMessage 125 = .ok (.iconst 1, 1) := by decide +kernel
theorem dX6_insertMessage_126 : decode cX6_insertMessage 126 = .ok (.iadd, 1) := by decide +kernel
theorem dX6_insertMessage_127 : decode cX6_insertMessage 127 = .ok (.putfield 54, 3) := by decide +kernel
theorem dX6_insertMessage_130 : decode cX6_insertMessage 130 = .ok (.aload_n 0, 1) := by decide +kernel
theorem dX6_insertMessage_131 : decode cX6_insertMessage 131 = .ok (.invokevirtual 77, 3) := by decide +kernel
theorem dX6_insertMessage_134 : decode cX6_insertMessage 134 = .ok (.ireturn, 1) := by decide +kernel
set_option maxRecDepth 20000 in
theorem ggX6_isMessage_X6_in : GoodIn wsX6_isMessage wsX6_in := goodIn_r _ [5] (by decide +kernel) (by decide +kernel)
set_option maxRecDepth 20000 in
theorem gX6_isMessage_X6_in : GoodIn wsX6_isMessage (va_wsS RX6 73 yX6_in wsX6_in) := goodIn_app (goodIn_of _ (by decide +kernel)) ggX6_isMessage_X6_in
theorem dX6_isMessage_0 : decode cX6_isMessage 0 = .ok (.iload_n 1, 1) := by decide +kernel
theorem dX6_isMessage_1 : decode cX6_isMessage 1 = .ok (.iconst 0, 1) := by decide +kernel
theorem dX6_isMessage_2 : decode cX6_isMessage 2 = .ok (.aload_n 0, 1) := by decide +kernel
theorem dX6_isMessage_3 : decode cX6_isMessage 3 = .ok (.getfield 54, 3) := by decide +kernel
theorem dX6_isMessage_6 : decode cX6_isMessage 6 = .ok (.iconst 1, 1) := by decide +kernel
theorem dX6_isMessage_7 : decode cX6_isMessage 7 = .ok (.isub, 1) := by decide +kernel
theorem dX6_isMessage_8 : decode cX6_isMessage 8 = .ok (.invokestatic 73, 3) := by decide +kernel
theorem dX6_isMessage_11 : decode cX6_isMessage 11 = .ok (.ireturn, 1) := by decide +kernel
set_option maxRecDepth 20000 in
theorem ggX6_removeMessage_X6_isMessage : GoodIn wsX6_removeMessage wsX6_isMessage := goodIn_r _ [6, 1, 7, 8, 5, 9, 36, 37, 38, 39, 40, 41, 42, 43, 44, 45, 46, 47, 48, 49, 50, 51, 52, 53, 54] (by decide +kernel) (by decide +kernel)
set_option maxRecDepth 20000 in
theorem gX6_removeMessage_X6_isMessage : GoodIn wsX6_removeMessage (wsV RX6 87 RX6 yX6_isMessage wsX6_isMessage) := goodIn_app (goodIn_of _ (by decide +kernel)) ggX6_removeMessage_X6_isMessage
set_option maxRecDepth 20000 in
theorem ggX6_removeMessage_X6_copies : GoodIn wsX6_removeMessage wsX6_copies := goodIn_r _ [13, 14, 15, 16, 36, 37, 38, 39, 40, 41, 42, 43, 44, 45, 46, 47, 48, 49, 50, 51, 52, 53, 54] (by decide +kernel) (by decide +kernel)
set_option maxRecDepth 20000 in
theorem gX6_removeMessage_X6_copies : GoodIn wsX6_removeMessage (wsV RX6 83 RX6 yX6_copies wsX6_copies) := goodIn_app (goodIn_of _ (by decide +kernel)) ggX6_removeMessage_X6_copies
set_option maxRecDepth 20000 in
theorem ggX6_removeMessage_X6_settles : GoodIn wsX6_removeMessage wsX6_settles := goodIn_r _ [20, 21, 22, 23, 24, 5, 25, 1, 26, 27, 28, 29, 30, 31, 32, 33, 34, 14, 35, 16, 36, 37, 38, 39, 40, 41, 42, 43, 44, 45, 46, 47, 48, 49, 50, 51, 52, 53, 54] (by decide +kernel) (by decide +kernel)
set_option maxRecDepth 20000 in
theorem gX6_removeMessage_X6_settles : GoodIn wsX6_removeMessage (wsV RX6 77 RX6 yX6_settles wsX6_settles) := goodIn_app (goodIn_of _ (by decide +kernel)) ggX6_removeMessage_X6_settles
theorem dX6_removeMessage_0 : decode cX6_removeMessage 0 = .ok (.aload_n 0, 1) := by decide +kernel
theorem dX6_removeMessage_1 : decode cX6_removeMessage 1 = .ok (.iload_n 1, 1) := by decide +kernel
theorem dX6_removeMessage_2 : decode cX6_removeMessage 2 = .ok (.invokevirtual 87, 3) := by decide +kernel
theorem dX6_removeMessage_5 : decode cX6_removeMessage 5 = .ok (.ifCond .ne 6, 3) := by decide +kernel
theorem dX6_removeMessage_8 : decode cX6_removeMessage 8 = .ok (.bipush (-11), 2) := by decide +kernel
theorem dX6_removeMessage_10 : decode cX6_removeMessage 10 = .ok (.ireturn, 1) := by decide +kernel
theorem dX6_removeMessage_11 : decode cX6_removeMessage 11 = .ok (.aload_n 0, 1) := by decide +kernel
theorem dX6_removeMessage_12 : decode cX6_removeMessage 12 = .ok (.dup, 1) := by decide +kernel
theorem dX6_removeMessage_13 : decode cX6_removeMessage 13 = .ok (.getfield 54, 3) := by decide +kernel
theorem dX6_removeMessage_16 : decode cX6_removeMessage 16 = .ok (.iconst 1, 1) := by decide +kernel
theorem dX6_removeMessage_17 : decode cX6_removeMessage 17 = .ok (.isub, 1) := by decide +kernel
theorem dX6_removeMessage_18 : decode cX6_removeMessage 18 = .ok (.putfield 54, 3) := by decide +kernel
theorem dX6_removeMessage_21 : decode cX6_removeMessage 21 = .ok (.iload_n 1, 1) := by decide +kernel
theorem dX6_removeMessage_22 : decode cX6_removeMessage 22 = .ok (.istore_n 2, 1) := by decide +kernel
theorem dX6_removeMessage_23 : decode cX6_removeMessage 23 = .ok (.iload_n 2, 1) := by decide +kernel
theorem dX6_removeMessage_24 : decode cX6_removeMessage 24 = .ok (.aload_n 0, 1) := by decide +kernel
theorem dX6_removeMessage_25 : decode cX6_removeMessage 25 = .ok (.getfield 54, 3) := by decide +kernel
theorem dX6_removeMessage_28 : decode cX6_removeMessage 28 = .ok (.if_icmp .ge 17, 3) := by decide +kernel
theorem dX6_removeMessage_31 : decode cX6_removeMessage 31 = .ok (.aload_n 0, 1) := by decide +kernel
theorem dX6_removeMessage_32 : decode cX6_removeMessage 32 = .ok (.iload_n 2, 1) := by decide +kernel
theorem dX6_removeMessage_33 : decode cX6_removeMessage 33 = .ok (.iconst 1, 1) := by decide +kernel
theorem dX6_removeMessage_34 : decode cX6_removeMessage 34 = .ok (.iadd, 1) := by decide +kernel
theorem dX6_removeMessage_35 : decode cX6_removeMessage 35 = .ok (.iload_n 2, 1) := by decide +kernel
theorem dX6_removeMessage_36 : decode cX6_removeMessage 36 = .ok (.invokevirtual 83, 3) := by decide +kernel
theorem dX6_removeMessage_39 : decode cX6_removeMessage 39 = .ok (.iinc 2 1, 3) := by decide +kernel
theorem dX6_removeMessage_42 : decode cX6_removeMessage 42 = .ok (.goto (-19), 3) := by decide +kernel
theorem dX6_removeMessage_45 : decode cX6_removeMessage 45 = .ok (.aload_n 0, 1) := by decide +kernel
theorem dX6_removeMessage_46 : decode cX6_removeMessage 46 = .ok (.invokevirtual 77, 3) := by decide +kernel
theorem dX6_removeMessage_49 : decode cX6_removeMessage 49 = .ok (.ireturn, 1) := by decide +kernel
set_option maxRecDepth 20000 in
theorem ggX6_setColor_X6_isMessage : GoodIn wsX6_setColor wsX6_isMessage := goodIn_r _ [6, 7, 8, 9, 5, 10, 11, 12, 13, 14, 15, 16, 17, 18, 19, 20, 21, 22, 23, 24, 25, 26, 27, 28, 29] (by decide +kernel) (by decide +kernel)
set_option maxRecDepth 20000 in
theorem gX6_setColor_X6_isMessage : GoodIn wsX6_setColor (wsV RX6 87 RX6 yX6_isMessage wsX6_isMessage) := goodIn_app (goodIn_of _ (by decide +kernel)) ggX6_setColor_X6_isMessage
set_option maxRecDepth 20000 in
theorem ggX6_setColor_X6_in : GoodIn wsX6_setColor wsX6_in := goodIn_r _ [10] (by decide +kernel) (by decide +kernel)
set_option maxRecDepth 20000 in
theorem gX6_setColor_X6_in : GoodIn wsX6_setColor (va_wsS RX6 73 yX6_in wsX6_in) := goodIn_app (goodIn_of _ (by decide +kernel)) ggX6_setColor_X6_in
theorem dX6_setColor_0 : decode cX6_setColor 0 = .ok (.aload_n 0, 1) := by decide +kernel
theorem dX6_setColor_1 : decode cX6_setColor 1 = .ok (.iload_n 1, 1) := by decide +kernel
theorem dX6_setColor_2 : decode cX6_setColor 2 = .ok (.invokevirtual 87, 3) := by decide +kernel
theorem dX6_setColor_5 : decode cX6_setColor 5 = .ok (.ifCond .eq 12, 3) := by decide +kernel
theorem dX6_setColor_8 : decode cX6_setColor 8 = .ok (.iload_n 2, 1) := by decide +kernel
theorem dX6_setColor_9 : decode cX6_setColor 9 = .ok (.iconst 1, 1) := by decide +kernel
theorem dX6_setColor_10 : decode cX6_setColor 10 = .ok (.iconst 3, 1) := by decide +kernel
theorem dX6_setColor_11 : decode cX6_setColor 11 = .ok (.invokestatic 73, 3) := by decide +kernel
theorem dX6_setColor_14 : decode cX6_setColor 14 = .ok (.ifCond .ne 6, 3) := by decide +kernel
theorem dX6_setColor_17 : decode cX6_setColor 17 = .ok (.bipush (-11), 2) := by decide +kernel
theorem dX6_setColor_19 : decode cX6_setColor 19 = .ok (.ireturn, 1) := by decide +kernel
theorem dX6_setColor_20 : decode cX6_setColor 20 = .ok (.aload_n 0, 1) := by decide +kernel
theorem dX6_setColor_21 : decode cX6_setColor 21 = .ok (.getfield 38, 3) := by decide +kernel
theorem dX6_setColor_24 : decode cX6_setColor 24 = .ok (.iload_n 1, 1) := by decide +kernel
theorem dX6_setColor_25 : decode cX6_setColor 25 = .ok (.iaload, 1) := by decide +kernel
theorem dX6_setColor_26 : decode cX6_setColor 26 = .ok (.istore_n 3, 1) := by decide +kernel
theorem dX6_setColor_27 : decode cX6_setColor 27 = .ok (.aload_n 0, 1) := by decide +kernel
theorem dX6_setColor_28 : decode cX6_setColor 28 = .ok (.getfield 38, 3) := by decide +kernel
theorem dX6_setColor_31 : decode cX6_setColor 31 = .ok (.iload_n 1, 1) := by decide +kernel
theorem dX6_setColor_32 : decode cX6_setColor 32 = .ok (.iload_n 2, 1) := by decide +kernel
theorem dX6_setColor_33 : decode cX6_setColor 33 = .ok (.iastore, 1) := by decide +kernel
theorem dX6_setColor_34 : decode cX6_setColor 34 = .ok (.iload_n 3, 1) := by decide +kernel
theorem dX6_setColor_35 : decode cX6_setColor 35 = .ok (.ireturn, 1) := by decide +kernel
set_option maxRecDepth 20000 in
theorem ggX6_messageWidth_X6_isMessage : GoodIn wsX6_messageWidth wsX6_isMessage := goodIn_r _ [5, 6, 7, 8, 4, 9, 17, 18, 19, 20, 21, 22, 23, 24, 25, 26, 27, 28, 29, 30, 31, 32, 33, 34, 35] (by decide +kernel) (by decide +kernel)
set_option maxRecDepth 20000 in
theorem gX6_messageWidth_X6_isMessage : GoodIn wsX6_messageWidth (wsV RX6 87 RX6 yX6_isMessage wsX6_isMessage) := goodIn_app (goodIn_of _ (by decide +kernel)) ggX6_messageWidth_X6_isMessage
set_option maxRecDepth 20000 in
theorem ggX6_messageWidth_X6_widthOf : GoodIn wsX6_messageWidth wsX6_widthOf := goodIn_r _ [13, 14, 15, 16, 17, 18, 19, 20, 21, 22, 23, 24, 25, 26, 27, 28, 29, 30, 31, 32, 33, 34, 35] (by decide +kernel) (by decide +kernel)
set_option maxRecDepth 20000 in
theorem gX6_messageWidth_X6_widthOf : GoodIn wsX6_messageWidth (wsV RX6 50 RX6 yX6_widthOf wsX6_widthOf) := goodIn_app (goodIn_of _ (by decide +kernel)) ggX6_messageWidth_X6_widthOf
theorem dX6_messageWidth_0 : decode cX6_messageWidth 0 = .ok (.aload_n 0, 1) := by decide +kernel
theorem dX6_messageWidth_1 : decode cX6_messageWidth 1 = .ok (.iload_n 1, 1) := by decide +kernel
theorem dX6_messageWidth_2 : decode cX6_messageWidth 2 = .ok (.invokevirtual 87, 3) := by decide +kernel
theorem dX6_messageWidth_5 : decode cX6_messageWidth 5 = .ok (.ifCond .eq 11, 3) := by decide +kernel
theorem dX6_messageWidth_8 : decode cX6_messageWidth 8 = .ok (.aload_n 0, 1) := by decide +kernel
theorem dX6_messageWidth_9 : decode cX6_messageWidth 9 = .ok (.iload_n 1, 1) := by decide +kernel
theorem dX6_messageWidth_10 : decode cX6_messageWidth 10 = .ok (.invokevirtual 50, 3) := by decide +kernel
theorem dX6_messageWidth_13 : decode cX6_messageWidth 13 = .ok (.goto 5, 3) := by decide +kernel
theorem dX6_messageWidth_16 : decode cX6_messageWidth 16 = .ok (.bipush (-11), 2) := by decide +kernel
theorem dX6_messageWidth_18 : decode cX6_messageWidth 18 = .ok (.ireturn, 1) := by decide +kernel
set_option maxRecDepth 20000 in
theorem ggX6_messageStart_X6_isMessage : GoodIn wsX6_messageStart wsX6_isMessage := goodIn_r _ [5, 6, 7, 8, 4, 9, 22, 23, 24, 25, 26, 27, 28, 29, 30, 31, 32, 33, 34, 35, 36, 37, 38, 39, 40] (by decide +kernel) (by decide +kernel)
set_option maxRecDepth 20000 in
theorem gX6_messageStart_X6_isMessage : GoodIn wsX6_messageStart (wsV RX6 87 RX6 yX6_isMessage wsX6_isMessage) := goodIn_app (goodIn_of _ (by decide +kernel)) ggX6_messageStart_X6_isMessage
set_option maxRecDepth 20000 in
theorem ggX6_messageStart_X6_startOf : GoodIn wsX6_messageStart wsX6_startOf := goodIn_r _ [13, 14, 15, 16, 17, 4, 18, 19, 20, 21, 22, 23, 24, 25, 26, 27, 28, 29, 30, 31, 32, 33, 34, 35, 36, 37, 38, 39, 40] (by decide +kernel) (by decide +kernel)
set_option maxRecDepth 20000 in
theorem gX6_messageStart_X6_startOf : GoodIn wsX6_messageStart (wsV RX6 57 RX6 yX6_startOf wsX6_startOf) := goodIn_app (goodIn_of _ (by decide +kernel)) ggX6_messageStart_X6_startOf
theorem dX6_messageStart_0 : decode cX6_messageStart 0 = .ok (.aload_n 0, 1) := by decide +kernel
theorem dX6_messageStart_1 : decode cX6_messageStart 1 = .ok (.iload_n 1, 1) := by decide +kernel
theorem dX6_messageStart_2 : decode cX6_messageStart 2 = .ok (.invokevirtual 87, 3) := by decide +kernel
theorem dX6_messageStart_5 : decode cX6_messageStart 5 = .ok (.ifCond .eq 11, 3) := by decide +kernel
theorem dX6_messageStart_8 : decode cX6_messageStart 8 = .ok (.aload_n 0, 1) := by decide +kernel
theorem dX6_messageStart_9 : decode cX6_messageStart 9 = .ok (.iload_n 1, 1) := by decide +kernel
theorem dX6_messageStart_10 : decode cX6_messageStart 10 = .ok (.invokevirtual 57, 3) := by decide +kernel
theorem dX6_messageStart_13 : decode cX6_messageStart 13 = .ok (.goto 5, 3) := by decide +kernel
theorem dX6_messageStart_16 : decode cX6_messageStart 16 = .ok (.bipush (-11), 2) := by decide +kernel
theorem dX6_messageStart_18 : decode cX6_messageStart 18 = .ok (.ireturn, 1) := by decide +kernel
set_option maxRecDepth 20000 in
theorem ggX6_setColumns_X6_in : GoodIn wsX6_setColumns wsX6_in := goodIn_r _ [6] (by decide +kernel) (by decide +kernel)
set_option maxRecDepth 20000 in
theorem gX6_setColumns_X6_in : GoodIn wsX6_setColumns (va_wsS RX6 73 yX6_in wsX6_in) := goodIn_app (goodIn_of _ (by decide +kernel)) ggX6_setColumns_X6_in
theorem dX6_setColumns_0 : decode cX6_setColumns 0 = .ok (.iload_n 1, 1) := by decide +kernel
theorem dX6_setColumns_1 : decode cX6_setColumns 1 = .ok (.bipush 8, 2) := by decide +kernel
theorem dX6_setColumns_3 : decode cX6_setColumns 3 = .ok (.bipush 32, 2) := by decide +kernel
theorem dX6_setColumns_5 : decode cX6_setColumns 5 = .ok (.invokestatic 73, 3) := by decide +kernel
theorem dX6_setColumns_8 : decode cX6_setColumns 8 = .ok (.ifCond .ne 6, 3) := by decide +kernel
theorem dX6_setColumns_11 : decode cX6_setColumns 11 = .ok (.bipush (-11), 2) := by decide +kernel
theorem dX6_setColumns_13 : decode cX6_setColumns 13 = .ok (.ireturn, 1) := by decide +kernel
theorem dX6_setColumns_14 : decode cX6_setColumns 14 = .ok (.aload_n 0, 1) := by decide +kernel
theorem dX6_setColumns_15 : decode cX6_setColumns 15 = .ok (.getfield 7, 3) := by decide +kernel
theorem dX6_setColumns_18 : decode cX6_setColumns 18 = .ok (.istore_n 2, 1) := by decide +kernel
theorem dX6_setColumns_19 : decode cX6_setColumns 19 = .ok (.aload_n 0, 1) := by decide +kernel
theorem dX6_setColumns_20 : decode cX6_setColumns 20 = .ok (.iload_n 1, 1) := by decide +kernel
theorem dX6_setColumns_21 : decode cX6_setColumns 21 = .ok (.putfield 7, 3) := by decide +kernel
theorem dX6_setColumns_24 : decode cX6_setColumns 24 = .ok (.iload_n 1, 1) := by decide +kernel
theorem dX6_setColumns_25 : decode cX6_setColumns 25 = .ok (.istore_n 3, 1) := by decide +kernel
theorem dX6_setColumns_26 : decode cX6_setColumns 26 = .ok (.iload_n 3, 1) := by decide +kernel
theorem dX6_setColumns_27 : decode cX6_setColumns 27 = .ok (.bipush 32, 2) := by decide +kernel
theorem dX6_setColumns_29 : decode cX6_setColumns 29 = .ok (.if_icmp .ge 16, 3) := by decide +kernel
theorem dX6_setColumns_32 : decode cX6_setColumns 32 = .ok (.aload_n 0, 1) := by decide +kernel
theorem dX6_setColumns_33 : decode cX6_setColumns 33 = .ok (.getfield 29, 3) := by decide +kernel
theorem dX6_setColumns_36 : decode cX6_setColumns 36 = .ok (.iload_n 3, 1) := by decide +kernel
theorem dX6_setColumns_37 : decode cX6_setColumns 37 = .ok (.iconst 0, 1) := by decide +kernel
theorem dX6_setColumns_38 : decode cX6_setColumns 38 = .ok (.iastore, 1) := by decide +kernel
theorem dX6_setColumns_39 : decode cX6_setColumns 39 = .ok (.iinc 3 1, 3) := by decide +kernel
theorem dX6_setColumns_42 : decode cX6_setColumns 42 = .ok (.goto (-16), 3) := by decide +kernel
theorem dX6_setColumns_45 : decode cX6_setColumns 45 = .ok (.iload_n 2, 1) := by decide +kernel
theorem dX6_setColumns_46 : decode cX6_setColumns 46 = .ok (.ireturn, 1) := by decide +kernel
set_option maxRecDepth 20000 in
theorem ggX6_setGap_X6_in : GoodIn wsX6_setGap wsX6_in := goodIn_r _ [5] (by decide +kernel) (by decide +kernel)
set_option maxRecDepth 20000 in
theorem gX6_setGap_X6_in : GoodIn wsX6_setGap (va_wsS RX6 73 yX6_in wsX6_in) := goodIn_app (goodIn_of _ (by decide +kernel)) ggX6_setGap_X6_in
set_option maxRecDepth 20000 in
theorem ggX6_setGap_X6_settles : GoodIn wsX6_setGap wsX6_settles := goodIn_r _ [9, 10, 11, 12, 13, 4, 14, 15, 16, 17, 18, 19, 1, 20, 21, 22, 23, 24, 25, 26, 27, 28, 29, 30, 31, 32, 33, 34, 35, 36, 37, 38, 39, 40, 41, 42, 43, 44, 45] (by decide +kernel) (by decide +kernel)
set_option maxRecDepth 20000 in
theorem gX6_setGap_X6_settles : GoodIn wsX6_setGap (wsV RX6 77 RX6 yX6_settles wsX6_settles) := goodIn_app (goodIn_of _ (by decide +kernel)) ggX6_setGap_X6_settles
theorem dX6_setGap_0 : decode cX6_setGap 0 = .ok (.iload_n 1, 1) := by decide +kernel
theorem dX6_setGap_1 : decode cX6_setGap 1 = .ok (.iconst 0, 1) := by decide +kernel
theorem dX6_setGap_2 : decode cX6_setGap 2 = .ok (.bipush 9, 2) := by decide +kernel
theorem dX6_setGap_4 : decode cX6_setGap 4 = .ok (.invokestatic 73, 3) := by decide +kernel
theorem dX6_setGap_7 : decode cX6_setGap 7 = .ok (.ifCond .ne 6, 3) := by decide +kernel
theorem dX6_setGap_10 : decode cX6_setGap 10 = .ok (.bipush (-11), 2) := by decide +kernel
theorem dX6_setGap_12 : decode cX6_setGap 12 = .ok (.ireturn, 1) := by decide +kernel
theorem dX6_setGap_13 : decode cX6_setGap 13 = .ok (.aload_n 0, 1) := by decide +kernel
theorem dX6_setGap_14 : decode cX6_setGap 14 = .ok (.getfield 13, 3) := by decide +kernel
theorem dX6_setGap_17 : decode cX6_setGap 17 = .ok (.istore_n 2, 1) := by decide +kernel
theorem dX6_setGap_18 : decode cX6_setGap 18 = .ok (.aload_n 0, 1) := by decide +kernel
theorem dX6_setGap_19 : decode cX6_setGap 19 = .ok (.iload_n 1, 1) := by decide +kernel
theorem dX6_setGap_20 : decode cX6_setGap 20 = .ok (.putfield 13, 3) := by decide +kernel
theorem dX6_setGap_23 : decode cX6_setGap 23 = .ok (.aload_n 0, 1) := by decide +kernel
theorem dX6_setGap_24 : decode cX6_setGap 24 = .ok (.invokevirtual 77, 3) := by decide +kernel
theorem dX6_setGap_27 : decode cX6_setGap 27 = .ok (.pop, 1) := by decide +kernel
theorem dX6_setGap_28 : decode cX6_setGap 28 = .ok (.iload_n 2, 1) := by decide +kernel
theorem dX6_setGap_29 : decode cX6_setGap 29 = .ok (.ireturn, 1) := by decide +kernel
set_option maxRecDepth 20000 in
theorem ggX6_setSpeed_X6_in : GoodIn wsX6_setSpeed wsX6_in := goodIn_r _ [6] (by decide +kernel) (by decide +kernel)
set_option maxRecDepth 20000 in
theorem gX6_setSpeed_X6_in : GoodIn wsX6_setSpeed (va_wsS RX6 73 yX6_in wsX6_in) := goodIn_app (goodIn_of _ (by decide +kernel)) ggX6_setSpeed_X6_in
theorem dX6_setSpeed_0 : decode cX6_setSpeed 0 = .ok (.iload_n 1, 1) := by decide +kernel
theorem dX6_setSpeed_1 : decode cX6_setSpeed 1 = .ok (.iconst 1, 1) := by decide +kernel
theorem dX6_setSpeed_2 : decode cX6_setSpeed 2 = .ok (.bipush 9, 2) := by decide +kernel
theorem dX6_setSpeed_4 : decode cX6_setSpeed 4 = .ok (.invokestatic 73, 3) := by decide +kernel
theorem dX6_setSpeed_7 : decode cX6_setSpeed 7 = .ok (.ifCond .ne 6, 3) := by decide +kernel
theorem dX6_setSpeed_10 : decode cX6_setSpeed 10 = .ok (.bipush (-11), 2) := by decide +kernel
theorem dX6_setSpeed_12 : decode cX6_setSpeed 12 = .ok (.ireturn, 1) := by decide +kernel
theorem dX6_setSpeed_13 : decode cX6_setSpeed 13 = .ok (.aload_n 0, 1) := by decide +kernel
theorem dX6_setSpeed_14 : decode cX6_setSpeed 14 = .ok (.getfield 16, 3) := by decide +kernel
theorem dX6_setSpeed_17 : decode cX6_setSpeed 17 = .ok (.istore_n 2, 1) := by decide +kernel
theorem dX6_setSpeed_18 : decode cX6_setSpeed 18 = .ok (.aload_n 0, 1) := by decide +kernel
theorem dX6_setSpeed_19 : decode cX6_setSpeed 19 = .ok (.iload_n 1, 1) := by decide +kernel
theorem dX6_setSpeed_20 : decode cX6_setSpeed 20 = .ok (.putfield 16, 3) := by decide +kernel
theorem dX6_setSpeed_23 : decode cX6_setSpeed 23 = .ok (.aload_n 0, 1) := by decide +kernel
theorem dX6_setSpeed_24 : decode cX6_setSpeed 24 = .ok (.iconst 0, 1) := by decide +kernel
theorem dX6_setSpeed_25 : decode cX6_setSpeed 25 = .ok (.putfield 91, 3) := by decide +kernel
theorem dX6_setSpeed_28 : decode cX6_setSpeed 28 = .ok (.iload_n 2, 1) := by decide +kernel
theorem dX6_setSpeed_29 : decode cX6_setSpeed 29 = .ok (.ireturn, 1) := by decide +kernel
set_option maxRecDepth 20000 in
theorem ggX6_setShift_X6_in : GoodIn wsX6_setShift wsX6_in := goodIn_r _ [5] (by decide +kernel) (by decide +kernel)
set_option maxRecDepth 20000 in
theorem gX6_setShift_X6_in : GoodIn wsX6_setShift (va_wsS RX6 73 yX6_in wsX6_in) := goodIn_app (goodIn_of _ (by decide +kernel)) ggX6_setShift_X6_in
theorem dX6_setShift_0 : decode cX6_setShift 0 = .ok (.iload_n 1, 1) := by decide +kernel
theorem dX6_setShift_1 : decode cX6_setShift 1 = .ok (.bipush (-2), 2) := by decide +kernel
theorem dX6_setShift_3 : decode cX6_setShift 3 = .ok (.iconst 2, 1) := by decide +kernel
theorem dX6_setShift_4 : decode cX6_setShift 4 = .ok (.invokestatic 73, 3) := by decide +kernel
theorem dX6_setShift_7 : decode cX6_setShift 7 = .ok (.ifCond .ne 6, 3) := by decide +kernel
theorem dX6_setShift_10 : decode cX6_setShift 10 = .ok (.bipush (-11), 2) := by decide +kernel
theorem dX6_setShift_12 : decode cX6_setShift 12 = .ok (.ireturn, 1) := by decide +kernel
