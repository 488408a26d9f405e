theorem dX7_init_0 : decode cX7_init 0 = .ok (.aload_n 0, 1) := by decide +kernel
theorem dX7_init_1 : decode cX7_init 1 = .ok (.invokespecial 1, 3) := by decide +kernel
theorem dX7_init_4 : decode cX7_init 4 = .ok (.aload_n 0, 1) := by decide +kernel
theorem dX7_init_5 : decode cX7_init 5 = .ok (.sipush 3047, 3) := by decide +kernel
theorem dX7_init_8 : decode cX7_init 8 = .ok (.newarray .int, 2) := by decide +kernel
theorem dX7_init_10 : decode cX7_init 10 = .ok (.putfield 7, 3) := by decide +kernel
theorem dX7_init_13 : decode cX7_init 13 = .ok (.aload_n 0, 1) := by decide +kernel
theorem dX7_init_14 : decode cX7_init 14 = .ok (.sipush 3047, 3) := by decide +kernel
theorem dX7_init_17 : decode cX7_init 17 = .ok (.newarray .int, 2) := by decide +kernel
theorem dX7_init_19 : decode cX7_init 19 = .ok (.putfield 13, 3) := by decide +kernel
theorem dX7_init_22 : decode cX7_init 22 = .ok (.aload_n 0, 1) := by decide +kernel
theorem dX7_init_23 : decode cX7_init 23 = .ok (.sipush 3047, 3) := by decide +kernel
theorem dX7_init_26 : decode cX7_init 26 = .ok (.newarray .int, 2) := by decide +kernel
theorem dX7_init_28 : decode cX7_init 28 = .ok (.putfield 16, 3) := by decide +kernel
theorem dX7_init_31 : decode cX7_init 31 = .ok (.aload_n 0, 1) := by decide +kernel
theorem dX7_init_32 : decode cX7_init 32 = .ok (.iconst 4, 1) := by decide +kernel
theorem dX7_init_33 : decode cX7_init 33 = .ok (.newarray .int, 2) := by decide +kernel
theorem dX7_init_35 : decode cX7_init 35 = .ok (.putfield 19, 3) := by decide +kernel
theorem dX7_init_38 : decode cX7_init 38 = .ok (.aload_n 0, 1) := by decide +kernel
theorem dX7_init_39 : decode cX7_init 39 = .ok (.iconst 4, 1) := by decide +kernel
theorem dX7_init_40 : decode cX7_init 40 = .ok (.newarray .int, 2) := by decide +kernel
theorem dX7_init_42 : decode cX7_init 42 = .ok (.putfield 22, 3) := by decide +kernel
theorem dX7_init_45 : decode cX7_init 45 = .ok (.aload_n 0, 1) := by decide +kernel
theorem dX7_init_46 : decode cX7_init 46 = .ok (.bipush 96, 2) := by decide +kernel
theorem dX7_init_48 : decode cX7_init 48 = .ok (.newarray .int, 2) := by decide +kernel
theorem dX7_init_50 : decode cX7_init 50 = .ok (.putfield 25, 3) := by decide +kernel
theorem dX7_init_53 : decode cX7_init 53 = .ok (.aload_n 0, 1) := by decide +kernel
theorem dX7_init_54 : decode cX7_init 54 = .ok (.iconst 5, 1) := by decide +kernel
theorem dX7_init_55 : decode cX7_init 55 = .ok (.newarray .int, 2) := by decide +kernel
theorem dX7_init_57 : decode cX7_init 57 = .ok (.putfield 28, 3) := by decide +kernel
theorem dX7_init_60 : decode cX7_init 60 = .ok (.aload_n 0, 1) := by decide +kernel
theorem dX7_init_61 : decode cX7_init 61 = .ok (.iconst 5, 1) := by decide +kernel
theorem dX7_init_62 : decode cX7_init 62 = .ok (.newarray .int, 2) := by decide +kernel
theorem dX7_init_64 : decode cX7_init 64 = .ok (.putfield 31, 3) := by decide +kernel
theorem dX7_init_67 : decode cX7_init 67 = .ok (.aload_n 0, 1) := by decide +kernel
theorem dX7_init_68 : decode cX7_init 68 = .ok (.iconst 5, 1) := by decide +kernel
theorem dX7_init_69 : decode cX7_init 69 = .ok (.newarray .int, 2) := by decide +kernel
theorem dX7_init_71 : decode cX7_init 71 = .ok (.putfield 34, 3) := by decide +kernel
theorem dX7_init_74 : decode cX7_init 74 = .ok (.aload_n 0, 1) := by decide +kernel
theorem dX7_init_75 : decode cX7_init 75 = .ok (.iconst 5, 1) := by decide +kernel
theorem dX7_init_76 : decode cX7_init 76 = .ok (.newarray .int, 2) := by decide +kernel
theorem dX7_init_78 : decode cX7_init 78 = .ok (.putfield 37, 3) := by decide +kernel
theorem dX7_init_81 : decode cX7_init 81 = .ok (.aload_n 0, 1) := by decide +kernel
theorem dX7_init_82 : decode cX7_init 82 = .ok (.bipush 120, 2) := by decide +kernel
theorem dX7_init_84 : decode cX7_init 84 = .ok (.newarray .int, 2) := by decide +kernel
theorem dX7_init_86 : decode cX7_init 86 = .ok (.putfield 40, 3) := by decide +kernel
theorem dX7_init_89 : decode cX7_init 89 = .ok (.aload_n 0, 1) := by decide +kernel
theorem dX7_init_90 : decode cX7_init 90 = .ok (.bipush 47, 2) := by decide +kernel
theorem dX7_init_92 : decode cX7_init 92 = .ok (.newarray .int, 2) := by decide +kernel
theorem dX7_init_94 : decode cX7_init 94 = .ok (.putfield 43, 3) := by decide +kernel
theorem dX7_init_97 : decode cX7_init 97 = .ok (.aload_n 0, 1) := by decide +kernel
theorem dX7_init_98 : decode cX7_init 98 = .ok (.bipush 96, 2) := by decide +kernel
theorem dX7_init_100 : decode cX7_init 100 = .ok (.newarray .int, 2) := by decide +kernel
theorem dX7_init_102 : decode cX7_init 102 = .ok (.putfield 46, 3) := by decide +kernel
theorem dX7_init_105 : decode cX7_init 105 = .ok (.aload_n 0, 1) := by decide +kernel
theorem dX7_init_106 : decode cX7_init 106 = .ok (.sipush 128, 3) := by decide +kernel
theorem dX7_init_109 : decode cX7_init 109 = .ok (.newarray .int, 2) := by decide +kernel
theorem dX7_init_111 : decode cX7_init 111 = .ok (.putfield 49, 3) := by decide +kernel
theorem dX7_init_114 : decode cX7_init 114 = .ok (.aload_n 0, 1) := by decide +kernel
theorem dX7_init_115 : decode cX7_init 115 = .ok (.bipush 100, 2) := by decide +kernel
theorem dX7_init_117 : decode cX7_init 117 = .ok (.newarray .int, 2) := by decide +kernel
theorem dX7_init_119 : decode cX7_init 119 = .ok (.putfield 52, 3) := by decide +kernel
theorem dX7_init_122 : decode cX7_init 122 = .ok (.aload_n 0, 1) := by decide +kernel
theorem dX7_init_123 : decode cX7_init 123 = .ok (.bipush 24, 2) := by decide +kernel
theorem dX7_init_125 : decode cX7_init 125 = .ok (.newarray .int, 2) := by decide +kernel
theorem dX7_init_127 : decode cX7_init 127 = .ok (.putfield 55, 3) := by decide +kernel
theorem dX7_init_130 : decode cX7_init 130 = .ok (.aload_n 0, 1) := by decide +kernel
theorem dX7_init_131 : decode cX7_init 131 = .ok (.bipush 60, 2) := by decide +kernel
theorem dX7_init_133 : decode cX7_init 133 = .ok (.newarray .int, 2) := by decide +kernel
theorem dX7_init_135 : decode cX7_init 135 = .ok (.putfield 58, 3) := by decide +kernel
theorem dX7_init_138 : decode cX7_init 138 = .ok (.aload_n 0, 1) := by decide +kernel
theorem dX7_init_139 : decode cX7_init 139 = .ok (.bipush 60, 2) := by decide +kernel
theorem dX7_init_141 : decode cX7_init 141 = .ok (.newarray .int, 2) := by decide +kernel
theorem dX7_init_143 : decode cX7_init 143 = .ok (.putfield 61, 3) := by decide +kernel
theorem dX7_init_146 : decode cX7_init 146 = .ok (.aload_n 0, 1) := by decide +kernel
theorem dX7_init_147 : decode cX7_init 147 = .ok (.getfield 7, 3) := by decide +kernel
theorem dX7_init_150 : decode cX7_init 150 = .ok (.bipush 6, 2) := by decide +kernel
theorem dX7_init_152 : decode cX7_init 152 = .ok (.iconst 1, 1) := by decide +kernel
theorem dX7_init_153 : decode cX7_init 153 = .ok (.iastore, 1) := by decide +kernel
theorem dX7_init_154 : decode cX7_init 154 = .ok (.aload_n 0, 1) := by decide +kernel
theorem dX7_init_155 : decode cX7_init 155 = .ok (.getfield 7, 3) := by decide +kernel
theorem dX7_init_158 : decode cX7_init 158 = .ok (.bipush 8, 2) := by decide +kernel
theorem dX7_init_160 : decode cX7_init 160 = .ok (.iconst 3, 1) := by decide +kernel
theorem dX7_init_161 : decode cX7_init 161 = .ok (.iastore, 1) := by decide +kernel
theorem dX7_init_162 : decode cX7_init 162 = .ok (.aload_n 0, 1) := by decide +kernel
theorem dX7_init_163 : decode cX7_init 163 = .ok (.getfield 7, 3) := by decide +kernel
theorem dX7_init_166 : decode cX7_init 166 = .ok (.bipush 9, 2) := by decide +kernel
theorem dX7_init_168 : decode cX7_init 168 = .ok (.bipush 10, 2) := by decide +kernel
theorem dX7_init_170 : decode cX7_init 170 = .ok (.iastore, 1) := by decide +kernel
theorem dX7_init_171 : decode cX7_init 171 = .ok (.iconst 0, 1) := by decide +kernel
theorem dX7_init_172 : decode cX7_init 172 = .ok (.istore_n 1, 1) := by decide +kernel
theorem dX7_init_173 : decode cX7_init 173 = .ok (.iload_n 1, 1) := by decide +kernel
theorem dX7_init_174 : decode cX7_init 174 = .ok (.iconst 4, 1) := by decide +kernel
theorem dX7_init_175 : decode cX7_init 175 = .ok (.if_icmp .ge 16, 3) := by decide +kernel
theorem dX7_init_178 : decode cX7_init 178 = .ok (.aload_n 0, 1) := by decide +kernel
theorem dX7_init_179 : decode cX7_init 179 = .ok (.getfield 19, 3) := by decide +kernel
theorem dX7_init_182 : decode cX7_init 182 = .ok (.iload_n 1, 1) := by decide +kernel
theorem dX7_init_183 : decode cX7_init 183 = .ok (.iconst (-1), 1) := by decide +kernel
theorem dX7_init_184 : decode cX7_init 184 = .ok (.iastore, 1) := by decide +kernel
theorem dX7_init_185 : decode cX7_init 185 = .ok (.iinc 1 1, 3) := by decide +kernel
theorem dX7_init_188 : decode cX7_init 188 = .ok (.goto (-15), 3) := by decide +kernel
theorem dX7_init_191 : decode cX7_init 191 = .ok (.return_, 1) := by decide +kernel
theorem dX7_isIn_0 : decode cX7_isIn 0 = .ok (.lload_n 0, 1) := by decide +kernel
theorem dX7_isIn_1 : decode cX7_isIn 1 = .ok (.lload_n 2, 1) := by decide +kernel
theorem dX7_isIn_2 : decode cX7_isIn 2 = .ok (.lcmp, 1) := by decide +kernel
theorem dX7_isIn_3 : decode cX7_isIn 3 = .ok (.ifCond .lt 14, 3) := by decide +kernel
theorem dX7_isIn_6 : decode cX7_isIn 6 = .ok (.lload_n 0, 1) := by decide +kernel
theorem dX7_isIn_7 : decode cX7_isIn 7 = .ok (.lload 4, 2) := by decide +kernel
theorem dX7_isIn_9 : decode cX7_isIn 9 = .ok (.lcmp, 1) := by decide +kernel
theorem dX7_isIn_10 : decode cX7_isIn 10 = .ok (.ifCond .gt 7, 3) := by decide +kernel
theorem dX7_isIn_13 : decode cX7_isIn 13 = .ok (.iconst 1, 1) := by decide +kernel
theorem dX7_isIn_14 : decode cX7_isIn 14 = .ok (.goto 4, 3) := by decide +kernel
theorem dX7_isIn_17 : decode cX7_isIn 17 = .ok (.iconst 0, 1) := by decide +kernel
theorem dX7_isIn_18 : decode cX7_isIn 18 = .ok (.ireturn, 1) := by decide +kernel
theorem dX7_orNone_0 : decode cX7_orNone 0 = .ok (.iload_n 0, 1) := by decide +kernel
theorem dX7_orNone_1 : decode cX7_orNone 1 = .ok (.ifCond .ge 8, 3) := by decide +kernel
theorem dX7_orNone_4 : decode cX7_orNone 4 = .ok (.ldc 64, 2) := by decide +kernel
theorem dX7_orNone_6 : decode cX7_orNone 6 = .ok (.goto 4, 3) := by decide +kernel
theorem dX7_orNone_9 : decode cX7_orNone 9 = .ok (.iload_n 0, 1) := by decide +kernel
theorem dX7_orNone_10 : decode cX7_orNone 10 = .ok (.ireturn, 1) := by decide +kernel
theorem dX7_within_0 : decode cX7_within 0 = .ok (.iload_n 0, 1) := by decide +kernel
theorem dX7_within_1 : decode cX7_within 1 = .ok (.ifCond .ge 7, 3) := by decide +kernel
theorem dX7_within_4 : decode cX7_within 4 = .ok (.iconst 0, 1) := by decide +kernel
theorem dX7_within_5 : decode cX7_within 5 = .ok (.goto 13, 3) := by decide +kernel
theorem dX7_within_8 : decode cX7_within 8 = .ok (.iload_n 0, 1) := by decide +kernel
theorem dX7_within_9 : decode cX7_within 9 = .ok (.iload_n 1, 1) := by decide +kernel
theorem dX7_within_10 : decode cX7_within 10 = .ok (.if_icmp .le 7, 3) := by decide +kernel
theorem dX7_within_13 : decode cX7_within 13 = .ok (.iload_n 1, 1) := by decide +kernel
theorem dX7_within_14 : decode cX7_within 14 = .ok (.goto 4, 3) := by decide +kernel
theorem dX7_within_17 : decode cX7_within 17 = .ok (.iload_n 0, 1) := by decide +kernel
theorem dX7_within_18 : decode cX7_within 18 = .ok (.ireturn, 1) := by decide +kernel
theorem dX7_off_0 : decode cX7_off 0 = .ok (.iload_n 0, 1) := by decide +kernel
theorem dX7_off_1 : decode cX7_off 1 = .ok (.iload_n 1, 1) := by decide +kernel
theorem dX7_off_2 : decode cX7_off 2 = .ok (.if_icmp .ge 9, 3) := by decide +kernel
theorem dX7_off_5 : decode cX7_off 5 = .ok (.iload_n 1, 1) := by decide +kernel
theorem dX7_off_6 : decode cX7_off 6 = .ok (.iload_n 0, 1) := by decide +kernel
theorem dX7_off_7 : decode cX7_off 7 = .ok (.isub, 1) := by decide +kernel
theorem dX7_off_8 : decode cX7_off 8 = .ok (.goto 6, 3) := by decide +kernel
theorem dX7_off_11 : decode cX7_off 11 = .ok (.iload_n 0, 1) := by decide +kernel
theorem dX7_off_12 : decode cX7_off 12 = .ok (.iload_n 1, 1) := by decide +kernel
theorem dX7_off_13 : decode cX7_off 13 = .ok (.isub, 1) := by decide +kernel
theorem dX7_off_14 : decode cX7_off 14 = .ok (.ireturn, 1) := by decide +kernel
theorem dX7_becomes_0 : decode cX7_becomes 0 = .ok (.aload_n 0, 1) := by decide +kernel
theorem dX7_becomes_1 : decode cX7_becomes 1 = .ok (.getfield 7, 3) := by decide +kernel
theorem dX7_becomes_4 : decode cX7_becomes 4 = .ok (.iload_n 1, 1) := by decide +kernel
theorem dX7_becomes_5 : decode cX7_becomes 5 = .ok (.iaload, 1) := by decide +kernel
theorem dX7_becomes_6 : decode cX7_becomes 6 = .ok (.istore_n 3, 1) := by decide +kernel
theorem dX7_becomes_7 : decode cX7_becomes 7 = .ok (.aload_n 0, 1) := by decide +kernel
theorem dX7_becomes_8 : decode cX7_becomes 8 = .ok (.getfield 7, 3) := by decide +kernel
theorem dX7_becomes_11 : decode cX7_becomes 11 = .ok (.iload_n 1, 1) := by decide +kernel
theorem dX7_becomes_12 : decode cX7_becomes 12 = .ok (.iload_n 2, 1) := by decide +kernel
theorem dX7_becomes_13 : decode cX7_becomes 13 = .ok (.iastore, 1) := by decide +kernel
theorem dX7_becomes_14 : decode cX7_becomes 14 = .ok (.iload_n 3, 1) := by decide +kernel
theorem dX7_becomes_15 : decode cX7_becomes 15 = .ok (.ireturn, 1) := by decide +kernel
theorem dX7_textAt_0 : decode cX7_textAt 0 = .ok (.bipush 47, 2) := by decide +kernel
theorem dX7_textAt_2 : decode cX7_textAt 2 = .ok (.sipush 200, 3) := by decide +kernel
theorem dX7_textAt_5 : decode cX7_textAt 5 = .ok (.iload_n 1, 1) := by decide +kernel
theorem dX7_textAt_6 : decode cX7_textAt 6 = .ok (.imul, 1) := by decide +kernel
theorem dX7_textAt_7 : decode cX7_textAt 7 = .ok (.iadd, 1) := by decide +kernel
theorem dX7_textAt_8 : decode cX7_textAt 8 = .ok (.ireturn, 1) := by decide +kernel
theorem dX7_sets_0 : decode cX7_sets 0 = .ok (.aload_n 0, 1) := by decide +kernel
theorem dX7_sets_1 : decode cX7_sets 1 = .ok (.getfield 7, 3) := by decide +kernel
theorem dX7_sets_4 : decode cX7_sets 4 = .ok (.bipush 11, 2) := by decide +kernel
theorem dX7_sets_6 : decode cX7_sets 6 = .ok (.iconst 4, 1) := by decide +kernel
theorem dX7_sets_7 : decode cX7_sets 7 = .ok (.iload_n 1, 1) := by decide +kernel
theorem dX7_sets_8 : decode cX7_sets 8 = .ok (.imul, 1) := by decide +kernel
theorem dX7_sets_9 : decode cX7_sets 9 = .ok (.iadd, 1) := by decide +kernel
theorem dX7_sets_10 : decode cX7_sets 10 = .ok (.iload_n 2, 1) := by decide +kernel
theorem dX7_sets_11 : decode cX7_sets 11 = .ok (.iadd, 1) := by decide +kernel
theorem dX7_sets_12 : decode cX7_sets 12 = .ok (.iload_n 3, 1) := by decide +kernel
theorem dX7_sets_13 : decode cX7_sets 13 = .ok (.iastore, 1) := by decide +kernel
theorem dX7_sets_14 : decode cX7_sets 14 = .ok (.return_, 1) := by decide +kernel
set_option maxRecDepth 20000 in
theorem ggX7_isStall_X7_isIn : GoodIn wsX7_isStall wsX7_isIn := goodIn_r _ [5] (by decide +kernel) (by decide +kernel)
set_option maxRecDepth 20000 in
theorem gX7_isStall_X7_isIn : GoodIn wsX7_isStall (va_wsS RX7 65 yX7_isIn wsX7_isIn) := goodIn_app (goodIn_of _ (by decide +kernel)) ggX7_isStall_X7_isIn
theorem dX7_isStall_0 : decode cX7_isStall 0 = .ok (.iload_n 1, 1) := by decide +kernel
theorem dX7_isStall_1 : decode cX7_isStall 1 = .ok (.i2l, 1) := by decide +kernel
theorem dX7_isStall_2 : decode cX7_isStall 2 = .ok (.lconst 0, 1) := by decide +kernel
theorem dX7_isStall_3 : decode cX7_isStall 3 = .ok (.aload_n 0, 1) := by decide +kernel
theorem dX7_isStall_4 : decode cX7_isStall 4 = .ok (.getfield 7, 3) := by decide +kernel
theorem dX7_isStall_7 : decode cX7_isStall 7 = .ok (.iconst 0, 1) := by decide +kernel
theorem dX7_isStall_8 : decode cX7_isStall 8 = .ok (.iaload, 1) := by decide +kernel
theorem dX7_isStall_9 : decode cX7_isStall 9 = .ok (.iconst 1, 1) := by decide +kernel
theorem dX7_isStall_10 : decode cX7_isStall 10 = .ok (.isub, 1) := by decide +kernel
theorem dX7_isStall_11 : decode cX7_isStall 11 = .ok (.i2l, 1) := by decide +kernel
theorem dX7_isStall_12 : decode cX7_isStall 12 = .ok (.invokestatic 65, 3) := by decide +kernel
theorem dX7_isStall_15 : decode cX7_isStall 15 = .ok (.ireturn, 1) := by decide +kernel
set_option maxRecDepth 20000 in
theorem ggX7_isText_X7_isIn : GoodIn wsX7_isText wsX7_isIn := goodIn_r _ [5] (by decide +kernel) (by decide +kernel)
set_option maxRecDepth 20000 in
theorem gX7_isText_X7_isIn : GoodIn wsX7_isText (va_wsS RX7 65 yX7_isIn wsX7_isIn) := goodIn_app (goodIn_of _ (by decide +kernel)) ggX7_isText_X7_isIn
theorem dX7_isText_0 : decode cX7_isText 0 = .ok (.iload_n 1, 1) := by decide +kernel
theorem dX7_isText_1 : decode cX7_isText 1 = .ok (.i2l, 1) := by decide +kernel
theorem dX7_isText_2 : decode cX7_isText 2 = .ok (.lconst 0, 1) := by decide +kernel
theorem dX7_isText_3 : decode cX7_isText 3 = .ok (.aload_n 0, 1) := by decide +kernel
theorem dX7_isText_4 : decode cX7_isText 4 = .ok (.getfield 7, 3) := by decide +kernel
theorem dX7_isText_7 : decode cX7_isText 7 = .ok (.iconst 1, 1) := by decide +kernel
theorem dX7_isText_8 : decode cX7_isText 8 = .ok (.iaload, 1) := by decide +kernel
theorem dX7_isText_9 : decode cX7_isText 9 = .ok (.iconst 1, 1) := by decide +kernel
theorem dX7_isText_10 : decode cX7_isText 10 = .ok (.isub, 1) := by decide +kernel
theorem dX7_isText_11 : decode cX7_isText 11 = .ok (.i2l, 1) := by decide +kernel
theorem dX7_isText_12 : decode cX7_isText 12 = .ok (.invokestatic 65, 3) := by decide +kernel
theorem dX7_isText_15 : decode cX7_isText 15 = .ok (.ireturn, 1) := by decide +kernel
theorem dX7_drawn_0 : decode cX7_drawn 0 = .ok (.aload_n 0, 1) := by decide +kernel
theorem dX7_drawn_1 : decode cX7_drawn 1 = .ok (.getfield 7, 3) := by decide +kernel
theorem dX7_drawn_4 : decode cX7_drawn 4 = .ok (.bipush 6, 2) := by decide +kernel
theorem dX7_drawn_6 : decode cX7_drawn 6 = .ok (.aload_n 0, 1) := by decide +kernel
theorem dX7_drawn_7 : decode cX7_drawn 7 = .ok (.getfield 7, 3) := by decide +kernel
theorem dX7_drawn_10 : decode cX7_drawn 10 = .ok (.bipush 6, 2) := by decide +kernel
theorem dX7_drawn_12 : decode cX7_drawn 12 = .ok (.iaload, 1) := by decide +kernel
theorem dX7_drawn_13 : decode cX7_drawn 13 = .ok (.ldc 69, 2) := by decide +kernel
theorem dX7_drawn_15 : decode cX7_drawn 15 = .ok (.imul, 1) := by decide +kernel
theorem dX7_drawn_16 : decode cX7_drawn 16 = .ok (.sipush 12345, 3) := by decide +kernel
theorem dX7_drawn_19 : decode cX7_drawn 19 = .ok (.iadd, 1) := by decide +kernel
theorem dX7_drawn_20 : decode cX7_drawn 20 = .ok (.iastore, 1) := by decide +kernel
theorem dX7_drawn_21 : decode cX7_drawn 21 = .ok (.aload_n 0, 1) := by decide +kernel
theorem dX7_drawn_22 : decode cX7_drawn 22 = .ok (.getfield 7, 3) := by decide +kernel
theorem dX7_drawn_25 : decode cX7_drawn 25 = .ok (.bipush 6, 2) := by decide +kernel
theorem dX7_drawn_27 : decode cX7_drawn 27 = .ok (.iaload, 1) := by decide +kernel
theorem dX7_drawn_28 : decode cX7_drawn 28 = .ok (.bipush 8, 2) := by decide +kernel
theorem dX7_drawn_30 : decode cX7_drawn 30 = .ok (.iushr, 1) := by decide +kernel
theorem dX7_drawn_31 : decode cX7_drawn 31 = .ok (.ireturn, 1) := by decide +kernel
set_option maxRecDepth 20000 in
theorem ggX7_comes_X7_sets : GoodIn wsX7_comes wsX7_sets := goodIn_r _ [6, 1, 7, 8, 9, 10, 11, 12, 13, 14, 15, 16, 17, 18, 19, 20, 21, 22, 23, 24, 25, 26, 27, 28, 29, 30, 31, 32, 33, 34, 35, 36, 37] (by decide +kernel) (by decide +kernel)
set_option maxRecDepth 20000 in
theorem gX7_comes_X7_sets : GoodIn wsX7_comes (wsV RX7 70 RX7 yX7_sets wsX7_sets) := goodIn_app (goodIn_of _ (by decide +kernel)) ggX7_comes_X7_sets
theorem dX7_comes_0 : decode cX7_comes 0 = .ok (.aload_n 0, 1) := by decide +kernel
theorem dX7_comes_1 : decode cX7_comes 1 = .ok (.getfield 7, 3) := by decide +kernel
theorem dX7_comes_4 : decode cX7_comes 4 = .ok (.iconst 0, 1) := by decide +kernel
theorem dX7_comes_5 : decode cX7_comes 5 = .ok (.iaload, 1) := by decide +kernel
theorem dX7_comes_6 : decode cX7_comes 6 = .ok (.istore 4, 2) := by decide +kernel
theorem dX7_comes_8 : decode cX7_comes 8 = .ok (.aload_n 0, 1) := by decide +kernel
theorem dX7_comes_9 : decode cX7_comes 9 = .ok (.getfield 7, 3) := by decide +kernel
theorem dX7_comes_12 : decode cX7_comes 12 = .ok (.iconst 0, 1) := by decide +kernel
theorem dX7_comes_13 : decode cX7_comes 13 = .ok (.dup2, 1) := by decide +kernel
theorem dX7_comes_14 : decode cX7_comes 14 = .ok (.iaload, 1) := by decide +kernel
theorem dX7_comes_15 : decode cX7_comes 15 = .ok (.iconst 1, 1) := by decide +kernel
theorem dX7_comes_16 : decode cX7_comes 16 = .ok (.iadd, 1) := by decide +kernel
theorem dX7_comes_17 : decode cX7_comes 17 = .ok (.iastore, 1) := by decide +kernel
theorem dX7_comes_18 : decode cX7_comes 18 = .ok (.aload_n 0, 1) := by decide +kernel
theorem dX7_comes_19 : decode cX7_comes 19 = .ok (.iload 4, 2) := by decide +kernel
theorem dX7_comes_21 : decode cX7_comes 21 = .ok (.iconst 0, 1) := by decide +kernel
theorem dX7_comes_22 : decode cX7_comes 22 = .ok (.iload_n 1, 1) := by decide +kernel
theorem dX7_comes_23 : decode cX7_comes 23 = .ok (.invokevirtual 70, 3) := by decide +kernel
theorem dX7_comes_26 : decode cX7_comes 26 = .ok (.aload_n 0, 1) := by decide +kernel
theorem dX7_comes_27 : decode cX7_comes 27 = .ok (.iload 4, 2) := by decide +kernel
theorem dX7_comes_29 : decode cX7_comes 29 = .ok (.iconst 1, 1) := by decide +kernel
theorem dX7_comes_30 : decode cX7_comes 30 = .ok (.iload_n 2, 1) := by decide +kernel
theorem dX7_comes_31 : decode cX7_comes 31 = .ok (.invokevirtual 70, 3) := by decide +kernel
theorem dX7_comes_34 : decode cX7_comes 34 = .ok (.aload_n 0, 1) := by decide +kernel
theorem dX7_comes_35 : decode cX7_comes 35 = .ok (.iload 4, 2) := by decide +kernel
theorem dX7_comes_37 : decode cX7_comes 37 = .ok (.iconst 2, 1) := by decide +kernel
theorem dX7_comes_38 : decode cX7_comes 38 = .ok (.bipush 100, 2) := by decide +kernel
theorem dX7_comes_40 : decode cX7_comes 40 = .ok (.invokevirtual 70, 3) := by decide +kernel
theorem dX7_comes_43 : decode cX7_comes 43 = .ok (.aload_n 0, 1) := by decide +kernel
theorem dX7_comes_44 : decode cX7_comes 44 = .ok (.iload 4, 2) := by decide +kernel
theorem dX7_comes_46 : decode cX7_comes 46 = .ok (.iconst 3, 1) := by decide +kernel
theorem dX7_comes_47 : decode cX7_comes 47 = .ok (.iload_n 3, 1) := by decide +kernel
theorem dX7_comes_48 : decode cX7_comes 48 = .ok (.invokevirtual 70, 3) := by decide +kernel
theorem dX7_comes_51 : decode cX7_comes 51 = .ok (.return_, 1) := by decide +kernel
set_option maxRecDepth 20000 in
theorem ggX7_stall_X7_isIn : GoodIn wsX7_stall wsX7_isIn := goodIn_r _ [10] (by decide +kernel) (by decide +kernel)
set_option maxRecDepth 20000 in
theorem gX7_stall_X7_isIn : GoodIn wsX7_stall (va_wsS RX7 65 yX7_isIn wsX7_isIn) := goodIn_app (goodIn_of _ (by decide +kernel)) ggX7_stall_X7_isIn
set_option maxRecDepth 20000 in
theorem ggX7_stall_X7_comes : GoodIn wsX7_stall wsX7_comes := goodIn_r _ [14, 5, 15, 16, 17, 9, 18, 19, 20, 21, 22, 23, 24, 25, 26, 27, 28, 29, 30, 31, 32, 33, 34, 35, 36, 37, 38, 39, 40, 41, 42, 43, 44, 45, 46, 47, 48, 49] (by decide +kernel) (by decide +kernel)
set_option maxRecDepth 20000 in
theorem gX7_stall_X7_comes : GoodIn wsX7_stall (wsV RX7 82 RX7 yX7_comes wsX7_comes) := goodIn_app (goodIn_of _ (by decide +kernel)) ggX7_stall_X7_comes
theorem dX7_stall_0 : decode cX7_stall 0 = .ok (.iload_n 1, 1) := by decide +kernel
theorem dX7_stall_1 : decode cX7_stall 1 = .ok (.i2l, 1) := by decide +kernel
theorem dX7_stall_2 : decode cX7_stall 2 = .ok (.lconst 0, 1) := by decide +kernel
theorem dX7_stall_3 : decode cX7_stall 3 = .ok (.ldc2_w 74, 3) := by decide +kernel
theorem dX7_stall_6 : decode cX7_stall 6 = .ok (.invokestatic 65, 3) := by decide +kernel
theorem dX7_stall_9 : decode cX7_stall 9 = .ok (.ifCond .eq 27, 3) := by decide +kernel
theorem dX7_stall_12 : decode cX7_stall 12 = .ok (.iload_n 2, 1) := by decide +kernel
theorem dX7_stall_13 : decode cX7_stall 13 = .ok (.i2l, 1) := by decide +kernel
theorem dX7_stall_14 : decode cX7_stall 14 = .ok (.lconst 0, 1) := by decide +kernel
theorem dX7_stall_15 : decode cX7_stall 15 = .ok (.ldc2_w 76, 3) := by decide +kernel
theorem dX7_stall_18 : decode cX7_stall 18 = .ok (.invokestatic 65, 3) := by decide +kernel
theorem dX7_stall_21 : decode cX7_stall 21 = .ok (.ifCond .eq 15, 3) := by decide +kernel
theorem dX7_stall_24 : decode cX7_stall 24 = .ok (.iload_n 3, 1) := by decide +kernel
theorem dX7_stall_25 : decode cX7_stall 25 = .ok (.i2l, 1) := by decide +kernel
theorem dX7_stall_26 : decode cX7_stall 26 = .ok (.lconst 0, 1) := by decide +kernel
theorem dX7_stall_27 : decode cX7_stall 27 = .ok (.ldc2_w 78, 3) := by decide +kernel
theorem dX7_stall_30 : decode cX7_stall 30 = .ok (.invokestatic 65, 3) := by decide +kernel
theorem dX7_stall_33 : decode cX7_stall 33 = .ok (.ifCond .ne 6, 3) := by decide +kernel
theorem dX7_stall_36 : decode cX7_stall 36 = .ok (.ldc 80, 2) := by decide +kernel
theorem dX7_stall_38 : decode cX7_stall 38 = .ok (.ireturn, 1) := by decide +kernel
theorem dX7_stall_39 : decode cX7_stall 39 = .ok (.aload_n 0, 1) := by decide +kernel
theorem dX7_stall_40 : decode cX7_stall 40 = .ok (.getfield 7, 3) := by decide +kernel
theorem dX7_stall_43 : decode cX7_stall 43 = .ok (.iconst 0, 1) := by decide +kernel
theorem dX7_stall_44 : decode cX7_stall 44 = .ok (.iaload, 1) := by decide +kernel
theorem dX7_stall_45 : decode cX7_stall 45 = .ok (.bipush 9, 2) := by decide +kernel
theorem dX7_stall_47 : decode cX7_stall 47 = .ok (.if_icmp .ne 6, 3) := by decide +kernel
theorem dX7_stall_53 : decode cX7_stall 53 = .ok (.aload_n 0, 1) := by decide +kernel
theorem dX7_stall_54 : decode cX7_stall 54 = .ok (.iload_n 1, 1) := by decide +kernel
theorem dX7_stall_55 : decode cX7_stall 55 = .ok (.iload_n 2, 1) := by decide +kernel
theorem dX7_stall_56 : decode cX7_stall 56 = .ok (.iload_n 3, 1) := by decide +kernel
theorem dX7_stall_57 : decode cX7_stall 57 = .ok (.invokevirtual 82, 3) := by decide +kernel
theorem dX7_stall_60 : decode cX7_stall 60 = .ok (.aload_n 0, 1) := by decide +kernel
theorem dX7_stall_61 : decode cX7_stall 61 = .ok (.getfield 7, 3) := by decide +kernel
theorem dX7_stall_64 : decode cX7_stall 64 = .ok (.iconst 0, 1) := by decide +kernel
theorem dX7_stall_65 : decode cX7_stall 65 = .ok (.iaload, 1) := by decide +kernel
theorem dX7_stall_66 : decode cX7_stall 66 = .ok (.iconst 1, 1) := by decide +kernel
theorem dX7_stall_67 : decode cX7_stall 67 = .ok (.isub, 1) := by decide +kernel
theorem dX7_stall_68 : decode cX7_stall 68 = .ok (.ireturn, 1) := by decide +kernel
theorem dX7_shadeFrom_0 : decode cX7_shadeFrom 0 = .ok (.aload_n 0, 1) := by decide +kernel
theorem dX7_shadeFrom_1 : decode cX7_shadeFrom 1 = .ok (.getfield 7, 3) := by decide +kernel
theorem dX7_shadeFrom_4 : decode cX7_shadeFrom 4 = .ok (.bipush 7, 2) := by decide +kernel
theorem dX7_shadeFrom_6 : decode cX7_shadeFrom 6 = .ok (.iaload, 1) := by decide +kernel
theorem dX7_shadeFrom_7 : decode cX7_shadeFrom 7 = .ok (.aload_n 0, 1) := by decide +kernel
theorem dX7_shadeFrom_8 : decode cX7_shadeFrom 8 = .ok (.getfield 7, 3) := by decide +kernel
theorem dX7_shadeFrom_11 : decode cX7_shadeFrom 11 = .ok (.iconst 2, 1) := by decide +kernel
theorem dX7_shadeFrom_12 : decode cX7_shadeFrom 12 = .ok (.iaload, 1) := by decide +kernel
theorem dX7_shadeFrom_13 : decode cX7_shadeFrom 13 = .ok (.bipush 10, 2) := by decide +kernel
theorem dX7_shadeFrom_15 : decode cX7_shadeFrom 15 = .ok (.irem, 1) := by decide +kernel
theorem dX7_shadeFrom_16 : decode cX7_shadeFrom 16 = .ok (.iconst 5, 1) := by decide +kernel
theorem dX7_shadeFrom_17 : decode cX7_shadeFrom 17 = .ok (.isub, 1) := by decide +kernel
theorem dX7_shadeFrom_18 : decode cX7_shadeFrom 18 = .ok (.iconst 2, 1) := by decide +kernel
theorem dX7_shadeFrom_19 : decode cX7_shadeFrom 19 = .ok (.idiv, 1) := by decide +kernel
theorem dX7_shadeFrom_20 : decode cX7_shadeFrom 20 = .ok (.iadd, 1) := by decide +kernel
theorem dX7_shadeFrom_21 : decode cX7_shadeFrom 21 = .ok (.ireturn, 1) := by decide +kernel
set_option maxRecDepth 20000 in
theorem ggX7_heat_X7_off : GoodIn wsX7_heat wsX7_off := goodIn_r _ [5] (by decide +kernel) (by decide +kernel)
set_option maxRecDepth 20000 in
theorem gX7_heat_X7_off : GoodIn wsX7_heat (va_wsS RX7 93 yX7_off wsX7_off) := goodIn_app (goodIn_of _ (by decide +kernel)) ggX7_heat_X7_off
theorem dX7_heat_0 : decode cX7_heat 0 = .ok (.bipush 45, 2) := by decide +kernel
theorem dX7_heat_2 : decode cX7_heat 2 = .ok (.iconst 5, 1) := by decide +kernel
theorem dX7_heat_3 : decode cX7_heat 3 = .ok (.aload_n 0, 1) := by decide +kernel
theorem dX7_heat_4 : decode cX7_heat 4 = .ok (.getfield 7, 3) := by decide +kernel
theorem dX7_heat_7 : decode cX7_heat 7 = .ok (.iconst 2, 1) := by decide +kernel
theorem dX7_heat_8 : decode cX7_heat 8 = .ok (.iaload, 1) := by decide +kernel
theorem dX7_heat_9 : decode cX7_heat 9 = .ok (.bipush 10, 2) := by decide +kernel
theorem dX7_heat_11 : decode cX7_heat 11 = .ok (.irem, 1) := by decide +kernel
theorem dX7_heat_12 : decode cX7_heat 12 = .ok (.iconst 5, 1) := by decide +kernel
theorem dX7_heat_13 : decode cX7_heat 13 = .ok (.invokestatic 93, 3) := by decide +kernel
theorem dX7_heat_16 : decode cX7_heat 16 = .ok (.imul, 1) := by decide +kernel
theorem dX7_heat_17 : decode cX7_heat 17 = .ok (.isub, 1) := by decide +kernel
theorem dX7_heat_18 : decode cX7_heat 18 = .ok (.ireturn, 1) := by decide +kernel
set_option maxRecDepth 20000 in
theorem ggX7_told_X7_isStall : GoodIn wsX7_told wsX7_isStall := goodIn_r _ [6, 7, 8, 9, 5, 10, 62, 63, 64, 65, 66, 67, 68, 69, 70, 71, 72, 73, 74, 75, 76, 77, 78, 79, 80, 81, 82, 83, 84, 85, 86, 87, 88, 89, 90, 91, 92] (by decide +kernel) (by decide +kernel)
set_option maxRecDepth 20000 in
theorem gX7_told_X7_isStall : GoodIn wsX7_told (wsV RX7 116 RX7 yX7_isStall wsX7_isStall) := goodIn_app (goodIn_of _ (by decide +kernel)) ggX7_told_X7_isStall
theorem dX7_told_0 : decode cX7_told 0 = .ok (.aload_n 0, 1) := by decide +kernel
theorem dX7_told_1 : decode cX7_told 1 = .ok (.iload_n 1, 1) := by decide +kernel
theorem dX7_told_2 : decode cX7_told 2 = .ok (.invokevirtual 116, 3) := by decide +kernel
theorem dX7_told_5 : decode cX7_told 5 = .ok (.ifCond .ne 6, 3) := by decide +kernel
theorem dX7_told_8 : decode cX7_told 8 = .ok (.ldc 80, 2) := by decide +kernel
theorem dX7_told_10 : decode cX7_told 10 = .ok (.ireturn, 1) := by decide +kernel
set_option maxRecDepth 20000 in
theorem ggX7_as_X7_isStall : GoodIn wsX7_as wsX7_isStall := goodIn_r _ [8, 9, 10, 11, 7, 12, 20, 21, 22, 23, 24, 25, 26, 27, 28, 29, 30, 31, 32, 33, 34, 35, 36, 37, 38, 39, 40, 41, 42, 43, 44, 45, 46, 47, 48, 49, 50] (by decide +kernel) (by decide +kernel)
set_option maxRecDepth 20000 in
theorem gX7_as_X7_isStall : GoodIn wsX7_as (wsV RX7 116 RX7 yX7_isStall wsX7_isStall) := goodIn_app (goodIn_of _ (by decide +kernel)) ggX7_as_X7_isStall
theorem dX7_as_0 : decode cX7_as 0 = .ok (.aload_n 0, 1) := by decide +kernel
theorem dX7_as_1 : decode cX7_as 1 = .ok (.iload_n 1, 1) := by decide +kernel
theorem dX7_as_2 : decode cX7_as 2 = .ok (.invokevirtual 116, 3) := by decide +kernel
theorem dX7_as_5 : decode cX7_as 5 = .ok (.ifCond .eq 15, 3) := by decide +kernel
theorem dX7_as_20 : decode cX7_as 20 = .ok (.ldc 80, 2) := by decide +kernel
theorem dX7_as_22 : decode cX7_as 22 = .ok (.ireturn, 1) := by decide +kernel
set_option maxRecDepth 20000 in
theorem ggX7_turns_X7_isStall : GoodIn wsX7_turns wsX7_isStall := goodIn_r _ [7, 8, 9, 10, 6, 11, 16, 17, 18, 19, 20, 21, 22, 23, 24, 25, 26, 27, 28, 29, 30, 31, 32, 33, 34, 35, 36, 37, 38, 39, 40, 41, 42, 43, 44, 45, 46] (by decide +kernel) (by decide +kernel)
set_option maxRecDepth 20000 in
theorem gX7_turns_X7_isStall : GoodIn wsX7_turns (wsV RX7 116 RX7 yX7_isStall wsX7_isStall) := goodIn_app (goodIn_of _ (by decide +kernel)) ggX7_turns_X7_isStall
theorem dX7_turns_0 : decode cX7_turns 0 = .ok (.aload_n 0, 1) := by decide +kernel
theorem dX7_turns_1 : decode cX7_turns 1 = .ok (.iload_n 1, 1) := by decide +kernel
theorem dX7_turns_2 : decode cX7_turns 2 = .ok (.invokevirtual 116, 3) := by decide +kernel
theorem dX7_turns_5 : decode cX7_turns 5 = .ok (.ifCond .eq 29, 3) := by decide +kernel
theorem dX7_turns_34 : decode cX7_turns 34 = .ok (.ldc 80, 2) := by decide +kernel
theorem dX7_turns_36 : decode cX7_turns 36 = .ok (.ireturn, 1) := by decide +kernel
set_option maxRecDepth 20000 in
theorem ggX7_set_X7_isStall : GoodIn wsX7_set wsX7_isStall := goodIn_r _ [10, 11, 12, 13, 9, 14, 19, 20, 21, 22, 23, 24, 25, 26, 27, 28, 29, 30, 31, 32, 33, 34, 35, 36, 37, 38, 39, 40, 41, 42, 43, 44, 45, 46, 47, 48, 49] (by decide +kernel) (by decide +kernel)
set_option maxRecDepth 20000 in
theorem gX7_set_X7_isStall : GoodIn wsX7_set (wsV RX7 116 RX7 yX7_isStall wsX7_isStall) := goodIn_app (goodIn_of _ (by decide +kernel)) ggX7_set_X7_isStall
theorem dX7_set_0 : decode cX7_set 0 = .ok (.aload_n 0, 1) := by decide +kernel
theorem dX7_set_1 : decode cX7_set 1 = .ok (.iload_n 1, 1) := by decide +kernel
theorem dX7_set_2 : decode cX7_set 2 = .ok (.invokevirtual 116, 3) := by decide +kernel
theorem dX7_set_5 : decode cX7_set 5 = .ok (.ifCond .eq 49, 3) := by decide +kernel
theorem dX7_set_54 : decode cX7_set 54 = .ok (.ldc 80, 2) := by decide +kernel
theorem dX7_set_56 : decode cX7_set 56 = .ok (.ireturn, 1) := by decide +kernel
theorem dX7_shadedSet_0 : decode cX7_shadedSet 0 = .ok (.iconst 0, 1) := by decide +kernel
theorem dX7_shadedSet_1 : decode cX7_shadedSet 1 = .ok (.istore_n 1, 1) := by decide +kernel
theorem dX7_shadedSet_2 : decode cX7_shadedSet 2 = .ok (.iconst 0, 1) := by decide +kernel
theorem dX7_shadedSet_3 : decode cX7_shadedSet 3 = .ok (.istore_n 2, 1) := by decide +kernel
theorem dX7_shadedSet_4 : decode cX7_shadedSet 4 = .ok (.iload_n 2, 1) := by decide +kernel
theorem dX7_shadedSet_5 : decode cX7_shadedSet 5 = .ok (.aload_n 0, 1) := by decide +kernel
theorem dX7_shadedSet_6 : decode cX7_shadedSet 6 = .ok (.getfield 7, 3) := by decide +kernel
theorem dX7_shadedSet_9 : decode cX7_shadedSet 9 = .ok (.iconst 0, 1) := by decide +kernel
theorem dX7_shadedSet_10 : decode cX7_shadedSet 10 = .ok (.iaload, 1) := by decide +kernel
theorem dX7_shadedSet_11 : decode cX7_shadedSet 11 = .ok (.if_icmp .ge 27, 3) := by decide +kernel
theorem dX7_shadedSet_38 : decode cX7_shadedSet 38 = .ok (.iload_n 1, 1) := by decide +kernel
theorem dX7_shadedSet_39 : decode cX7_shadedSet 39 = .ok (.ireturn, 1) := by decide +kernel
set_option maxRecDepth 20000 in
theorem ggX7_firstShaded_X7_shadeFrom : GoodIn wsX7_firstShaded wsX7_shadeFrom := goodIn_r _ [6, 1, 7, 8, 9, 10, 11, 12, 13, 14, 15, 16, 17, 18, 19, 20, 21, 22, 23, 24, 25, 26, 27, 28, 29, 30, 31, 32, 33, 34, 35, 36, 37] (by decide +kernel) (by decide +kernel)
set_option maxRecDepth 20000 in
theorem gX7_firstShaded_X7_shadeFrom : GoodIn wsX7_firstShaded (wsV RX7 89 RX7 yX7_shadeFrom wsX7_shadeFrom) := goodIn_app (goodIn_of _ (by decide +kernel)) ggX7_firstShaded_X7_shadeFrom
theorem dX7_firstShaded_0 : decode cX7_firstShaded 0 = .ok (.aload_n 0, 1) := by decide +kernel
theorem dX7_firstShaded_1 : decode cX7_firstShaded 1 = .ok (.invokevirtual 89, 3) := by decide +kernel
theorem dX7_firstShaded_4 : decode cX7_firstShaded 4 = .ok (.ifCond .ge 7, 3) := by decide +kernel
theorem dX7_firstShaded_7 : decode cX7_firstShaded 7 = .ok (.iconst 0, 1) := by decide +kernel
theorem dX7_firstShaded_8 : decode cX7_firstShaded 8 = .ok (.goto 7, 3) := by decide +kernel
theorem dX7_firstShaded_15 : decode cX7_firstShaded 15 = .ok (.istore_n 1, 1) := by decide +kernel
theorem dX7_firstShaded_16 : decode cX7_firstShaded 16 = .ok (.iload_n 1, 1) := by decide +kernel
theorem dX7_firstShaded_17 : decode cX7_firstShaded 17 = .ok (.bipush 12, 2) := by decide +kernel
theorem dX7_firstShaded_19 : decode cX7_firstShaded 19 = .ok (.if_icmp .ge 23, 3) := by decide +kernel
theorem dX7_firstShaded_22 : decode cX7_firstShaded 22 = .ok (.iload_n 1, 1) := by decide +kernel
theorem dX7_firstShaded_23 : decode cX7_firstShaded 23 = .ok (.aload_n 0, 1) := by decide +kernel
theorem dX7_firstShaded_24 : decode cX7_firstShaded 24 = .ok (.invokevirtual 89, 3) := by decide +kernel
theorem dX7_firstShaded_27 : decode cX7_firstShaded 27 = .ok (.aload_n 0, 1) := by decide +kernel
theorem dX7_firstShaded_28 : decode cX7_firstShaded 28 = .ok (.getfield 7, 3) := by decide +kernel
theorem dX7_firstShaded_31 : decode cX7_firstShaded 31 = .ok (.bipush 8, 2) := by decide +kernel
theorem dX7_firstShaded_33 : decode cX7_firstShaded 33 = .ok (.iaload, 1) := by decide +kernel
theorem dX7_firstShaded_34 : decode cX7_firstShaded 34 = .ok (.iadd, 1) := by decide +kernel
theorem dX7_firstShaded_35 : decode cX7_firstShaded 35 = .ok (.if_icmp .ge 7, 3) := by decide +kernel
theorem dX7_firstShaded_38 : decode cX7_firstShaded 38 = .ok (.iload_n 1, 1) := by decide +kernel
theorem dX7_firstShaded_39 : decode cX7_firstShaded 39 = .ok (.goto 4, 3) := by decide +kernel
theorem dX7_firstShaded_43 : decode cX7_firstShaded 43 = .ok (.ireturn, 1) := by decide +kernel
set_option maxRecDepth 20000 in
theorem ggX7_cloth_X7_heat : GoodIn wsX7_cloth wsX7_heat := goodIn_r _ [7, 1, 8, 9, 6, 10, 38, 39, 40, 41, 42, 43, 44, 45, 46, 47, 48, 49, 50, 51, 52, 53, 54, 55, 56, 57, 58, 59, 60, 61, 62, 63, 64, 65, 66, 67, 68] (by decide +kernel) (by decide +kernel)
set_option maxRecDepth 20000 in
theorem gX7_cloth_X7_heat : GoodIn wsX7_cloth (wsV RX7 100 RX7 yX7_heat wsX7_heat) := goodIn_app (goodIn_of _ (by decide +kernel)) ggX7_cloth_X7_heat
set_option maxRecDepth 20000 in
theorem ggX7_cloth_X7_firstShaded : GoodIn wsX7_cloth wsX7_firstShaded := goodIn_r _ [14, 1, 15, 16, 17, 6, 18, 38, 39, 40, 41, 42, 43, 44, 45, 46, 47, 48, 49, 50, 51, 52, 53, 54, 55, 56, 57, 58, 59, 60, 61, 62, 63, 64, 65, 66, 67, 68] (by decide +kernel) (by decide +kernel)
set_option maxRecDepth 20000 in
theorem gX7_cloth_X7_firstShaded : GoodIn wsX7_cloth (wsV RX7 137 RX7 yX7_firstShaded wsX7_firstShaded) := goodIn_app (goodIn_of _ (by decide +kernel)) ggX7_cloth_X7_firstShaded
set_option maxRecDepth 20000 in
theorem ggX7_cloth_X7_orNone : GoodIn wsX7_cloth wsX7_orNone := goodIn_r _ [21, 22] (by decide +kernel) (by decide +kernel)
set_option maxRecDepth 20000 in
theorem gX7_cloth_X7_orNone : GoodIn wsX7_cloth (va_wsS RX7 140 yX7_orNone wsX7_orNone) := goodIn_app (goodIn_of _ (by decide +kernel)) ggX7_cloth_X7_orNone
set_option maxRecDepth 20000 in
theorem ggX7_cloth_X7_shadedSet : GoodIn wsX7_cloth wsX7_shadedSet := goodIn_r _ [26, 1, 27, 28, 29, 6, 30, 31, 32, 33, 34, 15, 16, 17, 18, 35, 36, 37, 38, 39, 40, 41, 42, 43, 44, 45, 46, 47, 48, 49, 50, 51, 52, 53, 54, 55, 56, 57, 58, 59, 60, 61, 62, 63, 64, 65, 66, 67, 68] (by decide +kernel) (by decide +kernel)
set_option maxRecDepth 20000 in
theorem gX7_cloth_X7_shadedSet : GoodIn wsX7_cloth (wsV RX7 143 RX7 yX7_shadedSet wsX7_shadedSet) := goodIn_app (goodIn_of _ (by decide +kernel)) ggX7_cloth_X7_shadedSet
theorem dX7_cloth_0 : decode cX7_cloth 0 = .ok (.iload_n 1, 1) := by decide +kernel
theorem dX7_cloth_1 : decode cX7_cloth 1 = .ok (.tableswitch 71 0 6 #[43, 43, 43, 43, 53, 58, 66], 43) := by decide +kernel
theorem dX7_cloth_44 : decode cX7_cloth 44 = .ok (.aload_n 0, 1) := by decide +kernel
theorem dX7_cloth_45 : decode cX7_cloth 45 = .ok (.getfield 7, 3) := by decide +kernel
theorem dX7_cloth_48 : decode cX7_cloth 48 = .ok (.bipush 7, 2) := by decide +kernel
theorem dX7_cloth_50 : decode cX7_cloth 50 = .ok (.iload_n 1, 1) := by decide +kernel
theorem dX7_cloth_51 : decode cX7_cloth 51 = .ok (.iadd, 1) := by decide +kernel
theorem dX7_cloth_52 : decode cX7_cloth 52 = .ok (.iaload, 1) := by decide +kernel
theorem dX7_cloth_53 : decode cX7_cloth 53 = .ok (.ireturn, 1) := by decide +kernel
theorem dX7_cloth_54 : decode cX7_cloth 54 = .ok (.aload_n 0, 1) := by decide +kernel
theorem dX7_cloth_55 : decode cX7_cloth 55 = .ok (.invokevirtual 100, 3) := by decide +kernel
theorem dX7_cloth_58 : decode cX7_cloth 58 = .ok (.ireturn, 1) := by decide +kernel
theorem dX7_cloth_59 : decode cX7_cloth 59 = .ok (.aload_n 0, 1) := by decide +kernel
theorem dX7_cloth_60 : decode cX7_cloth 60 = .ok (.invokevirtual 137, 3) := by decide +kernel
theorem dX7_cloth_63 : decode cX7_cloth 63 = .ok (.invokestatic 140, 3) := by decide +kernel
theorem dX7_cloth_66 : decode cX7_cloth 66 = .ok (.ireturn, 1) := by decide +kernel
theorem dX7_cloth_67 : decode cX7_cloth 67 = .ok (.aload_n 0, 1) := by decide +kernel
theorem dX7_cloth_68 : decode cX7_cloth 68 = .ok (.invokevirtual 143, 3) := by decide +kernel
theorem dX7_cloth_71 : decode cX7_cloth 71 = .ok (.ireturn, 1) := by decide +kernel
theorem dX7_cloth_72 : decode cX7_cloth 72 = .ok (.ldc 80, 2) := by decide +kernel
theorem dX7_cloth_74 : decode cX7_cloth 74 = .ok (.ireturn, 1) := by decide +kernel
set_option maxRecDepth 20000 in
theorem ggX7_holds_X7_within : GoodIn wsX7_holds wsX7_within := goodIn_r _ [5] (by decide +kernel) (by decide +kernel)
set_option maxRecDepth 20000 in
theorem gX7_holds_X7_within : GoodIn wsX7_holds (va_wsS RX7 106 yX7_within wsX7_within) := goodIn_app (goodIn_of _ (by decide +kernel)) ggX7_holds_X7_within
theorem dX7_holds_0 : decode cX7_holds 0 = .ok (.aload_n 0, 1) := by decide +kernel
theorem dX7_holds_1 : decode cX7_holds 1 = .ok (.getfield 7, 3) := by decide +kernel
theorem dX7_holds_4 : decode cX7_holds 4 = .ok (.bipush 7, 2) := by decide +kernel
theorem dX7_holds_6 : decode cX7_holds 6 = .ok (.aload_n 0, 1) := by decide +kernel
theorem dX7_holds_7 : decode cX7_holds 7 = .ok (.getfield 7, 3) := by decide +kernel
theorem dX7_holds_10 : decode cX7_holds 10 = .ok (.bipush 7, 2) := by decide +kernel
theorem dX7_holds_12 : decode cX7_holds 12 = .ok (.iaload, 1) := by decide +kernel
theorem dX7_holds_13 : decode cX7_holds 13 = .ok (.bipush 12, 2) := by decide +kernel
theorem dX7_holds_15 : decode cX7_holds 15 = .ok (.aload_n 0, 1) := by decide +kernel
theorem dX7_holds_16 : decode cX7_holds 16 = .ok (.getfield 7, 3) := by decide +kernel
theorem dX7_holds_19 : decode cX7_holds 19 = .ok (.bipush 8, 2) := by decide +kernel
theorem dX7_holds_21 : decode cX7_holds 21 = .ok (.iaload, 1) := by decide +kernel
theorem dX7_holds_22 : decode cX7_holds 22 = .ok (.isub, 1) := by decide +kernel
theorem dX7_holds_23 : decode cX7_holds 23 = .ok (.invokestatic 106, 3) := by decide +kernel
theorem dX7_holds_26 : decode cX7_holds 26 = .ok (.iastore, 1) := by decide +kernel
theorem dX7_holds_27 : decode cX7_holds 27 = .ok (.return_, 1) := by decide +kernel
theorem dX7_mostOf_0 : decode cX7_mostOf 0 = .ok (.iload_n 1, 1) := by decide +kernel
theorem dX7_mostOf_1 : decode cX7_mostOf 1 = .ok (.ifCond .ne 16, 3) := by decide +kernel
theorem dX7_mostOf_4 : decode cX7_mostOf 4 = .ok (.bipush 12, 2) := by decide +kernel
theorem dX7_mostOf_6 : decode cX7_mostOf 6 = .ok (.aload_n 0, 1) := by decide +kernel
theorem dX7_mostOf_7 : decode cX7_mostOf 7 = .ok (.getfield 7, 3) := by decide +kernel
theorem dX7_mostOf_10 : decode cX7_mostOf 10 = .ok (.bipush 8, 2) := by decide +kernel
theorem dX7_mostOf_12 : decode cX7_mostOf 12 = .ok (.iaload, 1) := by decide +kernel
theorem dX7_mostOf_13 : decode cX7_mostOf 13 = .ok (.isub, 1) := by decide +kernel
theorem dX7_mostOf_14 : decode cX7_mostOf 14 = .ok (.goto 24, 3) := by decide +kernel
theorem dX7_mostOf_17 : decode cX7_mostOf 17 = .ok (.iload_n 1, 1) := by decide +kernel
theorem dX7_mostOf_18 : decode cX7_mostOf 18 = .ok (.iconst 1, 1) := by decide +kernel
theorem dX7_mostOf_19 : decode cX7_mostOf 19 = .ok (.if_icmp .ne 8, 3) := by decide +kernel
theorem dX7_mostOf_22 : decode cX7_mostOf 22 = .ok (.bipush 6, 2) := by decide +kernel
theorem dX7_mostOf_24 : decode cX7_mostOf 24 = .ok (.goto 14, 3) := by decide +kernel
theorem dX7_mostOf_27 : decode cX7_mostOf 27 = .ok (.iload_n 1, 1) := by decide +kernel
theorem dX7_mostOf_28 : decode cX7_mostOf 28 = .ok (.iconst 2, 1) := by decide +kernel
theorem dX7_mostOf_29 : decode cX7_mostOf 29 = .ok (.if_icmp .ne 8, 3) := by decide +kernel
theorem dX7_mostOf_32 : decode cX7_mostOf 32 = .ok (.bipush 100, 2) := by decide +kernel
theorem dX7_mostOf_34 : decode cX7_mostOf 34 = .ok (.goto 4, 3) := by decide +kernel
theorem dX7_mostOf_37 : decode cX7_mostOf 37 = .ok (.iconst 2, 1) := by decide +kernel
theorem dX7_mostOf_38 : decode cX7_mostOf 38 = .ok (.ireturn, 1) := by decide +kernel
set_option maxRecDepth 20000 in
theorem ggX7_rule_X7_isIn : GoodIn wsX7_rule wsX7_isIn := goodIn_r _ [6] (by decide +kernel) (by decide +kernel)
set_option maxRecDepth 20000 in
theorem gX7_rule_X7_isIn : GoodIn wsX7_rule (va_wsS RX7 65 yX7_isIn wsX7_isIn) := goodIn_app (goodIn_of _ (by decide +kernel)) ggX7_rule_X7_isIn
set_option maxRecDepth 20000 in
theorem ggX7_rule_X7_mostOf : GoodIn wsX7_rule wsX7_mostOf := goodIn_r _ [10, 11, 23, 24, 25, 26, 27, 28, 29, 30, 31, 32, 33, 34, 35, 36, 37, 38, 39, 40, 41, 42, 43, 44, 45, 46, 47, 48, 49, 50, 51, 52, 53] (by decide +kernel) (by decide +kernel)
set_option maxRecDepth 20000 in
theorem gX7_rule_X7_mostOf : GoodIn wsX7_rule (wsV RX7 146 RX7 yX7_mostOf wsX7_mostOf) := goodIn_app (goodIn_of _ (by decide +kernel)) ggX7_rule_X7_mostOf
set_option maxRecDepth 20000 in
theorem ggX7_rule_X7_becomes : GoodIn wsX7_rule wsX7_becomes := goodIn_r _ [15, 11, 23, 24, 25, 26, 27, 28, 29, 30, 31, 32, 33, 34, 35, 36, 37, 38, 39, 40, 41, 42, 43, 44, 45, 46, 47, 48, 49, 50, 51, 52, 53] (by decide +kernel) (by decide +kernel)
set_option maxRecDepth 20000 in
theorem gX7_rule_X7_becomes : GoodIn wsX7_rule (wsV RX7 130 RX7 yX7_becomes wsX7_becomes) := goodIn_app (goodIn_of _ (by decide +kernel)) ggX7_rule_X7_becomes
set_option maxRecDepth 20000 in
theorem ggX7_rule_X7_holds : GoodIn wsX7_rule wsX7_holds := goodIn_r _ [19, 11, 20, 21, 5, 22, 23, 24, 25, 26, 27, 28, 29, 30, 31, 32, 33, 34, 35, 36, 37, 38, 39, 40, 41, 42, 43, 44, 45, 46, 47, 48, 49, 50, 51, 52, 53] (by decide +kernel) (by decide +kernel)
set_option maxRecDepth 20000 in
theorem gX7_rule_X7_holds : GoodIn wsX7_rule (wsV RX7 149 RX7 yX7_holds wsX7_holds) := goodIn_app (goodIn_of _ (by decide +kernel)) ggX7_rule_X7_holds
theorem dX7_rule_0 : decode cX7_rule 0 = .ok (.iload_n 1, 1) := by decide +kernel
theorem dX7_rule_1 : decode cX7_rule 1 = .ok (.i2l, 1) := by decide +kernel
theorem dX7_rule_2 : decode cX7_rule 2 = .ok (.lconst 0, 1) := by decide +kernel
theorem dX7_rule_3 : decode cX7_rule 3 = .ok (.ldc2_w 133, 3) := by decide +kernel
theorem dX7_rule_6 : decode cX7_rule 6 = .ok (.invokestatic 65, 3) := by decide +kernel
theorem dX7_rule_9 : decode cX7_rule 9 = .ok (.ifCond .eq 27, 3) := by decide +kernel
theorem dX7_rule_12 : decode cX7_rule 12 = .ok (.iload_n 2, 1) := by decide +kernel
theorem dX7_rule_13 : decode cX7_rule 13 = .ok (.i2l, 1) := by decide +kernel
theorem dX7_rule_14 : decode cX7_rule 14 = .ok (.iload_n 1, 1) := by decide +kernel
theorem dX7_rule_15 : decode cX7_rule 15 = .ok (.iconst 1, 1) := by decide +kernel
theorem dX7_rule_16 : decode cX7_rule 16 = .ok (.if_icmp .ne 7, 3) := by decide +kernel
theorem dX7_rule_19 : decode cX7_rule 19 = .ok (.lconst 1, 1) := by decide +kernel
theorem dX7_rule_20 : decode cX7_rule 20 = .ok (.goto 4, 3) := by decide +kernel
theorem dX7_rule_23 : decode cX7_rule 23 = .ok (.lconst 0, 1) := by decide +kernel
theorem dX7_rule_24 : decode cX7_rule 24 = .ok (.aload_n 0, 1) := by decide +kernel
theorem dX7_rule_25 : decode cX7_rule 25 = .ok (.iload_n 1, 1) := by decide +kernel
theorem dX7_rule_26 : decode cX7_rule 26 = .ok (.invokevirtual 146, 3) := by decide +kernel
theorem dX7_rule_29 : decode cX7_rule 29 = .ok (.i2l, 1) := by decide +kernel
theorem dX7_rule_30 : decode cX7_rule 30 = .ok (.invokestatic 65, 3) := by decide +kernel
theorem dX7_rule_33 : decode cX7_rule 33 = .ok (.ifCond .ne 6, 3) := by decide +kernel
theorem dX7_rule_36 : decode cX7_rule 36 = .ok (.ldc 80, 2) := by decide +kernel
theorem dX7_rule_38 : decode cX7_rule 38 = .ok (.ireturn, 1) := by decide +kernel
theorem dX7_rule_39 : decode cX7_rule 39 = .ok (.aload_n 0, 1) := by decide +kernel
theorem dX7_rule_40 : decode cX7_rule 40 = .ok (.bipush 7, 2) := by decide +kernel
theorem dX7_rule_42 : decode cX7_rule 42 = .ok (.iload_n 1, 1) := by decide +kernel
theorem dX7_rule_43 : decode cX7_rule 43 = .ok (.iadd, 1) := by decide +kernel
theorem dX7_rule_44 : decode cX7_rule 44 = .ok (.iload_n 2, 1) := by decide +kernel
theorem dX7_rule_45 : decode cX7_rule 45 = .ok (.invokevirtual 130, 3) := by decide +kernel
theorem dX7_rule_48 : decode cX7_rule 48 = .ok (.istore_n 3, 1) := by decide +kernel
theorem dX7_rule_49 : decode cX7_rule 49 = .ok (.aload_n 0, 1) := by decide +kernel
theorem dX7_rule_50 : decode cX7_rule 50 = .ok (.invokevirtual 149, 3) := by decide +kernel
theorem dX7_rule_53 : decode cX7_rule 53 = .ok (.iload_n 3, 1) := by decide +kernel
theorem dX7_rule_54 : decode cX7_rule 54 = .ok (.ireturn, 1) := by decide +kernel
set_option maxRecDepth 20000 in
theorem ggX7_deal_X7_isIn : GoodIn wsX7_deal wsX7_isIn := goodIn_r _ [7] (by decide +kernel) (by decide +kernel)
set_option maxRecDepth 20000 in
theorem gX7_deal_X7_isIn : GoodIn wsX7_deal (va_wsS RX7 65 yX7_isIn wsX7_isIn) := goodIn_app (goodIn_of _ (by decide +kernel)) ggX7_deal_X7_isIn
set_option maxRecDepth 20000 in
theorem ggX7_deal_X7_drawn : GoodIn wsX7_deal wsX7_drawn := goodIn_r _ [11, 3, 12, 21, 22, 23, 24, 25, 26, 27, 28, 29, 30, 31, 32, 33, 34, 35, 36, 37, 38, 39, 40, 41, 42, 43, 44, 45, 46, 47, 48, 49, 50, 51] (by decide +kernel) (by decide +kernel)
set_option maxRecDepth 20000 in
theorem gX7_deal_X7_drawn : GoodIn wsX7_deal (wsV RX7 154 RX7 yX7_drawn wsX7_drawn) := goodIn_app (goodIn_of _ (by decide +kernel)) ggX7_deal_X7_drawn
set_option maxRecDepth 20000 in
theorem ggX7_deal_X7_comes : GoodIn wsX7_deal wsX7_comes := goodIn_r _ [16, 3, 17, 18, 19, 6, 20, 21, 22, 23, 24, 25, 26, 27, 28, 29, 30, 31, 32, 33, 34, 35, 36, 37, 38, 39, 40, 41, 42, 43, 44, 45, 46, 47, 48, 49, 50, 51] (by decide +kernel) (by decide +kernel)
set_option maxRecDepth 20000 in
theorem gX7_deal_X7_comes : GoodIn wsX7_deal (wsV RX7 82 RX7 yX7_comes wsX7_comes) := goodIn_app (goodIn_of _ (by decide +kernel)) ggX7_deal_X7_comes
theorem dX7_deal_0 : decode cX7_deal 0 = .ok (.iload_n 1, 1) := by decide +kernel
theorem dX7_deal_1 : decode cX7_deal 1 = .ok (.i2l, 1) := by decide +kernel
theorem dX7_deal_2 : decode cX7_deal 2 = .ok (.lconst 1, 1) := by decide +kernel
theorem dX7_deal_3 : decode cX7_deal 3 = .ok (.ldc2_w 152, 3) := by decide +kernel
theorem dX7_deal_6 : decode cX7_deal 6 = .ok (.invokestatic 65, 3) := by decide +kernel
theorem dX7_deal_9 : decode cX7_deal 9 = .ok (.ifCond .ne 6, 3) := by decide +kernel
theorem dX7_deal_12 : decode cX7_deal 12 = .ok (.ldc 80, 2) := by decide +kernel
theorem dX7_deal_14 : decode cX7_deal 14 = .ok (.ireturn, 1) := by decide +kernel
theorem dX7_deal_15 : decode cX7_deal 15 = .ok (.iconst 0, 1) := by decide +kernel
theorem dX7_deal_16 : decode cX7_deal 16 = .ok (.istore_n 2, 1) := by decide +kernel
theorem dX7_deal_17 : decode cX7_deal 17 = .ok (.iload_n 2, 1) := by decide +kernel
theorem dX7_deal_18 : decode cX7_deal 18 = .ok (.iload_n 1, 1) := by decide +kernel
theorem dX7_deal_19 : decode cX7_deal 19 = .ok (.if_icmp .ge 51, 3) := by decide +kernel
theorem dX7_deal_22 : decode cX7_deal 22 = .ok (.aload_n 0, 1) := by decide +kernel
theorem dX7_deal_23 : decode cX7_deal 23 = .ok (.getfield 7, 3) := by decide +kernel
theorem dX7_deal_26 : decode cX7_deal 26 = .ok (.iconst 0, 1) := by decide +kernel
theorem dX7_deal_27 : decode cX7_deal 27 = .ok (.iaload, 1) := by decide +kernel
theorem dX7_deal_28 : decode cX7_deal 28 = .ok (.bipush 9, 2) := by decide +kernel
theorem dX7_deal_30 : decode cX7_deal 30 = .ok (.if_icmp .ge 40, 3) := by decide +kernel
theorem dX7_deal_33 : decode cX7_deal 33 = .ok (.aload_n 0, 1) := by decide +kernel
theorem dX7_deal_34 : decode cX7_deal 34 = .ok (.invokevirtual 154, 3) := by decide +kernel
theorem dX7_deal_37 : decode cX7_deal 37 = .ok (.bipush 6, 2) := by decide +kernel
theorem dX7_deal_39 : decode cX7_deal 39 = .ok (.irem, 1) := by decide +kernel
theorem dX7_deal_40 : decode cX7_deal 40 = .ok (.istore_n 3, 1) := by decide +kernel
theorem dX7_deal_41 : decode cX7_deal 41 = .ok (.aload_n 0, 1) := by decide +kernel
theorem dX7_deal_42 : decode cX7_deal 42 = .ok (.invokevirtual 154, 3) := by decide +kernel
theorem dX7_deal_45 : decode cX7_deal 45 = .ok (.bipush 12, 2) := by decide +kernel
theorem dX7_deal_47 : decode cX7_deal 47 = .ok (.irem, 1) := by decide +kernel
theorem dX7_deal_48 : decode cX7_deal 48 = .ok (.istore 4, 2) := by decide +kernel
theorem dX7_deal_50 : decode cX7_deal 50 = .ok (.aload_n 0, 1) := by decide +kernel
theorem dX7_deal_51 : decode cX7_deal 51 = .ok (.iload_n 3, 1) := by decide +kernel
theorem dX7_deal_52 : decode cX7_deal 52 = .ok (.iload 4, 2) := by decide +kernel
theorem dX7_deal_54 : decode cX7_deal 54 = .ok (.aload_n 0, 1) := by decide +kernel
theorem dX7_deal_55 : decode cX7_deal 55 = .ok (.invokevirtual 154, 3) := by decide +kernel
theorem dX7_deal_58 : decode cX7_deal 58 = .ok (.bipush 40, 2) := by decide +kernel
theorem dX7_deal_60 : decode cX7_deal 60 = .ok (.irem, 1) := by decide +kernel
theorem dX7_deal_61 : decode cX7_deal 61 = .ok (.invokevirtual 82, 3) := by decide +kernel
theorem dX7_deal_64 : decode cX7_deal 64 = .ok (.iinc 2 1, 3) := by decide +kernel
theorem dX7_deal_67 : decode cX7_deal 67 = .ok (.goto (-50), 3) := by decide +kernel
theorem dX7_deal_70 : decode cX7_deal 70 = .ok (.iload_n 2, 1) := by decide +kernel
theorem dX7_deal_71 : decode cX7_deal 71 = .ok (.ireturn, 1) := by decide +kernel
set_option maxRecDepth 20000 in
theorem ggX7_seed_X7_becomes : GoodIn wsX7_seed wsX7_becomes := goodIn_r _ [5, 6, 7, 8, 9, 10, 11, 12, 13, 14, 15, 16, 17, 18, 19, 20, 21, 22, 23, 24, 25, 26, 27, 28, 29, 30, 31, 32, 33, 34, 35, 36, 37] (by decide +kernel) (by decide +kernel)
set_option maxRecDepth 20000 in
theorem gX7_seed_X7_becomes : GoodIn wsX7_seed (wsV RX7 130 RX7 yX7_becomes wsX7_becomes) := goodIn_app (goodIn_of _ (by decide +kernel)) ggX7_seed_X7_becomes
theorem dX7_seed_0 : decode cX7_seed 0 = .ok (.aload_n 0, 1) := by decide +kernel
theorem dX7_seed_1 : decode cX7_seed 1 = .ok (.bipush 6, 2) := by decide +kernel
theorem dX7_seed_3 : decode cX7_seed 3 = .ok (.iload_n 1, 1) := by decide +kernel
theorem dX7_seed_4 : decode cX7_seed 4 = .ok (.invokevirtual 130, 3) := by decide +kernel
theorem dX7_seed_7 : decode cX7_seed 7 = .ok (.ireturn, 1) := by decide +kernel
theorem dX7_hauls_0 : decode cX7_hauls 0 = .ok (.aload_n 0, 1) := by decide +kernel
theorem dX7_hauls_1 : decode cX7_hauls 1 = .ok (.getfield 7, 3) := by decide +kernel
theorem dX7_hauls_4 : decode cX7_hauls 4 = .ok (.bipush 10, 2) := by decide +kernel
theorem dX7_hauls_6 : decode cX7_hauls 6 = .ok (.iaload, 1) := by decide +kernel
theorem dX7_hauls_7 : decode cX7_hauls 7 = .ok (.ifCond .ne 5, 3) := by decide +kernel
theorem dX7_hauls_10 : decode cX7_hauls 10 = .ok (.iconst 0, 1) := by decide +kernel
theorem dX7_hauls_11 : decode cX7_hauls 11 = .ok (.ireturn, 1) := by decide +kernel
set_option maxRecDepth 20000 in
theorem ggX7_goesOnBy_X7_holds : GoodIn wsX7_goesOnBy wsX7_holds := goodIn_r _ [6, 1, 7, 8, 5, 9, 66, 67, 68, 69, 70, 71, 72, 73, 74, 75, 76, 77, 78, 79, 80, 81, 82, 83, 84, 85, 86, 87, 88, 89, 90, 91, 92, 93, 94, 95, 96] (by decide +kernel) (by decide +kernel)
set_option maxRecDepth 20000 in
theorem gX7_goesOnBy_X7_holds : GoodIn wsX7_goesOnBy (wsV RX7 149 RX7 yX7_holds wsX7_holds) := goodIn_app (goodIn_of _ (by decide +kernel)) ggX7_goesOnBy_X7_holds
set_option maxRecDepth 20000 in
theorem ggX7_goesOnBy_X7_drawn : GoodIn wsX7_goesOnBy wsX7_drawn := goodIn_r _ [64, 1, 65, 66, 67, 68, 69, 70, 71, 72, 73, 74, 75, 76, 77, 78, 79, 80, 81, 82, 83, 84, 85, 86, 87, 88, 89, 90, 91, 92, 93, 94, 95, 96] (by decide +kernel) (by decide +kernel)
set_option maxRecDepth 20000 in
theorem gX7_goesOnBy_X7_drawn : GoodIn wsX7_goesOnBy (wsV RX7 154 RX7 yX7_drawn wsX7_drawn) := goodIn_app (goodIn_of _ (by decide +kernel)) ggX7_goesOnBy_X7_drawn
theorem dX7_goesOnBy_0 : decode cX7_goesOnBy 0 = .ok (.aload_n 0, 1) := by decide +kernel
theorem dX7_goesOnBy_1 : decode cX7_goesOnBy 1 = .ok (.getfield 7, 3) := by decide +kernel
theorem dX7_goesOnBy_4 : decode cX7_goesOnBy 4 = .ok (.bipush 7, 2) := by decide +kernel
theorem dX7_goesOnBy_6 : decode cX7_goesOnBy 6 = .ok (.dup2, 1) := by decide +kernel
theorem dX7_goesOnBy_7 : decode cX7_goesOnBy 7 = .ok (.iaload, 1) := by decide +kernel
theorem dX7_goesOnBy_8 : decode cX7_goesOnBy 8 = .ok (.iload_n 1, 1) := by decide +kernel
theorem dX7_goesOnBy_9 : decode cX7_goesOnBy 9 = .ok (.iadd, 1) := by decide +kernel
theorem dX7_goesOnBy_10 : decode cX7_goesOnBy 10 = .ok (.iastore, 1) := by decide +kernel
theorem dX7_goesOnBy_11 : decode cX7_goesOnBy 11 = .ok (.aload_n 0, 1) := by decide +kernel
theorem dX7_goesOnBy_12 : decode cX7_goesOnBy 12 = .ok (.invokevirtual 149, 3) := by decide +kernel
theorem dX7_goesOnBy_15 : decode cX7_goesOnBy 15 = .ok (.iconst 0, 1) := by decide +kernel
theorem dX7_goesOnBy_16 : decode cX7_goesOnBy 16 = .ok (.istore_n 2, 1) := by decide +kernel
theorem dX7_goesOnBy_17 : decode cX7_goesOnBy 17 = .ok (.iload_n 2, 1) := by decide +kernel
theorem dX7_goesOnBy_18 : decode cX7_goesOnBy 18 = .ok (.aload_n 0, 1) := by decide +kernel
theorem dX7_goesOnBy_19 : decode cX7_goesOnBy 19 = .ok (.getfield 7, 3) := by decide +kernel
theorem dX7_goesOnBy_22 : decode cX7_goesOnBy 22 = .ok (.iconst 0, 1) := by decide +kernel
theorem dX7_goesOnBy_23 : decode cX7_goesOnBy 23 = .ok (.iaload, 1) := by decide +kernel
theorem dX7_goesOnBy_24 : decode cX7_goesOnBy 24 = .ok (.if_icmp .ge 66, 3) := by decide +kernel
theorem dX7_goesOnBy_90 : decode cX7_goesOnBy 90 = .ok (.aload_n 0, 1) := by decide +kernel
theorem dX7_goesOnBy_91 : decode cX7_goesOnBy 91 = .ok (.invokevirtual 154, 3) := by decide +kernel
theorem dX7_goesOnBy_94 : decode cX7_goesOnBy 94 = .ok (.bipush 100, 2) := by decide +kernel
theorem dX7_goesOnBy_96 : decode cX7_goesOnBy 96 = .ok (.irem, 1) := by decide +kernel
theorem dX7_goesOnBy_97 : decode cX7_goesOnBy 97 = .ok (.aload_n 0, 1) := by decide +kernel
theorem dX7_goesOnBy_98 : decode cX7_goesOnBy 98 = .ok (.getfield 7, 3) := by decide +kernel
theorem dX7_goesOnBy_101 : decode cX7_goesOnBy 101 = .ok (.bipush 9, 2) := by decide +kernel
theorem dX7_goesOnBy_103 : decode cX7_goesOnBy 103 = .ok (.iaload, 1) := by decide +kernel
theorem dX7_goesOnBy_104 : decode cX7_goesOnBy 104 = .ok (.if_icmp .ge 45, 3) := by decide +kernel
theorem dX7_goesOnBy_107 : decode cX7_goesOnBy 107 = .ok (.aload_n 0, 1) := by decide +kernel
theorem dX7_goesOnBy_108 : decode cX7_goesOnBy 108 = .ok (.invokevirtual 154, 3) := by decide +kernel
theorem dX7_goesOnBy_111 : decode cX7_goesOnBy 111 = .ok (.iconst 3, 1) := by decide +kernel
theorem dX7_goesOnBy_112 : decode cX7_goesOnBy 112 = .ok (.irem, 1) := by decide +kernel
theorem dX7_goesOnBy_113 : decode cX7_goesOnBy 113 = .ok (.iconst 1, 1) := by decide +kernel
theorem dX7_goesOnBy_114 : decode cX7_goesOnBy 114 = .ok (.isub, 1) := by decide +kernel
theorem dX7_goesOnBy_115 : decode cX7_goesOnBy 115 = .ok (.istore_n 2, 1) := by decide +kernel
theorem dX7_goesOnBy_116 : decode cX7_goesOnBy 116 = .ok (.aload_n 0, 1) := by decide +kernel
theorem dX7_goesOnBy_117 : decode cX7_goesOnBy 117 = .ok (.getfield 7, 3) := by decide +kernel
theorem dX7_goesOnBy_120 : decode cX7_goesOnBy 120 = .ok (.bipush 7, 2) := by decide +kernel
theorem dX7_goesOnBy_122 : decode cX7_goesOnBy 122 = .ok (.dup2, 1) := by decide +kernel
theorem dX7_goesOnBy_123 : decode cX7_goesOnBy 123 = .ok (.iaload, 1) := by decide +kernel
theorem dX7_goesOnBy_124 : decode cX7_goesOnBy 124 = .ok (.iload_n 2, 1) := by decide +kernel
theorem dX7_goesOnBy_125 : decode cX7_goesOnBy 125 = .ok (.iadd, 1) := by decide +kernel
theorem dX7_goesOnBy_126 : decode cX7_goesOnBy 126 = .ok (.iastore, 1) := by decide +kernel
theorem dX7_goesOnBy_127 : decode cX7_goesOnBy 127 = .ok (.aload_n 0, 1) := by decide +kernel
theorem dX7_goesOnBy_128 : decode cX7_goesOnBy 128 = .ok (.invokevirtual 149, 3) := by decide +kernel
theorem dX7_goesOnBy_131 : decode cX7_goesOnBy 131 = .ok (.aload_n 0, 1) := by decide +kernel
theorem dX7_goesOnBy_132 : decode cX7_goesOnBy 132 = .ok (.getfield 7, 3) := by decide +kernel
theorem dX7_goesOnBy_135 : decode cX7_goesOnBy 135 = .ok (.iconst 5, 1) := by decide +kernel
theorem dX7_goesOnBy_136 : decode cX7_goesOnBy 136 = .ok (.dup2, 1) := by decide +kernel
theorem dX7_goesOnBy_137 : decode cX7_goesOnBy 137 = .ok (.iaload, 1) := by decide +kernel
theorem dX7_goesOnBy_138 : decode cX7_goesOnBy 138 = .ok (.iload_n 2, 1) := by decide +kernel
theorem dX7_goesOnBy_139 : decode cX7_goesOnBy 139 = .ok (.ifCond .ne 7, 3) := by decide +kernel
theorem dX7_goesOnBy_142 : decode cX7_goesOnBy 142 = .ok (.iconst 0, 1) := by decide +kernel
theorem dX7_goesOnBy_143 : decode cX7_goesOnBy 143 = .ok (.goto 4, 3) := by decide +kernel
theorem dX7_goesOnBy_146 : decode cX7_goesOnBy 146 = .ok (.iconst 1, 1) := by decide +kernel
theorem dX7_goesOnBy_147 : decode cX7_goesOnBy 147 = .ok (.iadd, 1) := by decide +kernel
theorem dX7_goesOnBy_148 : decode cX7_goesOnBy 148 = .ok (.iastore, 1) := by decide +kernel
theorem dX7_goesOnBy_149 : decode cX7_goesOnBy 149 = .ok (.aload_n 0, 1) := by decide +kernel
theorem dX7_goesOnBy_150 : decode cX7_goesOnBy 150 = .ok (.getfield 7, 3) := by decide +kernel
theorem dX7_goesOnBy_153 : decode cX7_goesOnBy 153 = .ok (.iconst 2, 1) := by decide +kernel
theorem dX7_goesOnBy_154 : decode cX7_goesOnBy 154 = .ok (.dup2, 1) := by decide +kernel
theorem dX7_goesOnBy_155 : decode cX7_goesOnBy 155 = .ok (.iaload, 1) := by decide +kernel
theorem dX7_goesOnBy_156 : decode cX7_goesOnBy 156 = .ok (.iconst 1, 1) := by decide +kernel
theorem dX7_goesOnBy_157 : decode cX7_goesOnBy 157 = .ok (.iadd, 1) := by decide +kernel
theorem dX7_goesOnBy_158 : decode cX7_goesOnBy 158 = .ok (.iastore, 1) := by decide +kernel
theorem dX7_goesOnBy_159 : decode cX7_goesOnBy 159 = .ok (.return_, 1) := by decide +kernel
set_option maxRecDepth 20000 in
theorem ggX7_goesOn_X7_hauls : GoodIn wsX7_goesOn wsX7_hauls := goodIn_r _ [5, 6, 7, 8, 9, 4, 10, 11, 12, 13, 14, 15, 16, 17, 18, 19, 20, 21, 22, 23, 24, 25, 26, 27, 28, 29, 30, 31, 32, 33, 34, 35, 36, 37, 38, 39, 40, 41, 42, 43, 44, 45, 46, 47, 48, 49, 50, 51, 52, 53, 54, 55, 56, 57, 58, 59, 60, 61, 62, 63, 64, 65, 66, 67, 68, 82, 83, 84, 85, 86, 87, 88, 89, 90, 91, 92, 93, 94, 95, 96, 97, 98, 99, 100, 101, 102, 103, 104, 105, 106, 107, 108, 109, 110, 111, 112] (by decide +kernel) (by decide +kernel)
set_option maxRecDepth 20000 in
theorem gX7_goesOn_X7_hauls : GoodIn wsX7_goesOn (wsV RX7 163 RX7 yX7_hauls wsX7_hauls) := goodIn_app (goodIn_of _ (by decide +kernel)) ggX7_goesOn_X7_hauls
set_option maxRecDepth 20000 in
theorem ggX7_goesOn_X7_goesOnBy : GoodIn wsX7_goesOn wsX7_goesOnBy := goodIn_r _ [72, 6, 11, 12, 13, 4, 14, 15, 16, 17, 37, 38, 39, 40, 22, 23, 24, 25, 26, 27, 28, 29, 30, 31, 32, 33, 34, 35, 36, 41, 42, 43, 44, 45, 46, 47, 48, 49, 50, 51, 52, 53, 54, 55, 56, 57, 58, 59, 60, 61, 62, 63, 64, 65, 66, 67, 68, 73, 74, 75, 76, 77, 78, 79, 80, 81, 82, 83, 84, 85, 86, 87, 88, 89, 90, 91, 92, 93, 94, 95, 96, 97, 98, 99, 100, 101, 102, 103, 104, 105, 106, 107, 108, 109, 110, 111, 112] (by decide +kernel) (by decide +kernel)
set_option maxRecDepth 20000 in
theorem gX7_goesOn_X7_goesOnBy : GoodIn wsX7_goesOn (wsV RX7 166 RX7 yX7_goesOnBy wsX7_goesOnBy) := goodIn_app (goodIn_of _ (by decide +kernel)) ggX7_goesOn_X7_goesOnBy
theorem dX7_goesOn_0 : decode cX7_goesOn 0 = .ok (.aload_n 0, 1) := by decide +kernel
theorem dX7_goesOn_1 : decode cX7_goesOn 1 = .ok (.aload_n 0, 1) := by decide +kernel
theorem dX7_goesOn_2 : decode cX7_goesOn 2 = .ok (.invokevirtual 163, 3) := by decide +kernel
theorem dX7_goesOn_5 : decode cX7_goesOn 5 = .ok (.invokevirtual 166, 3) := by decide +kernel
theorem dX7_goesOn_8 : decode cX7_goesOn 8 = .ok (.return_, 1) := by decide +kernel
set_option maxRecDepth 20000 in
theorem ggX7_hours_X7_isIn : GoodIn wsX7_hours wsX7_isIn := goodIn_r _ [7] (by decide +kernel) (by decide +kernel)
set_option maxRecDepth 20000 in
theorem gX7_hours_X7_isIn : GoodIn wsX7_hours (va_wsS RX7 65 yX7_isIn wsX7_isIn) := goodIn_app (goodIn_of _ (by decide +kernel)) ggX7_hours_X7_isIn
set_option maxRecDepth 20000 in
theorem ggX7_hours_X7_goesOn : GoodIn wsX7_hours wsX7_goesOn := goodIn_r _ [11, 12, 13, 14, 6, 15, 3, 16, 17, 18, 19, 20, 21, 22, 23, 24, 25, 26, 27, 28, 29, 30, 31, 32, 33, 34, 35, 36, 37, 38, 39, 40, 41, 42, 4, 5, 7, 43, 44, 45, 46, 47, 48, 49, 50, 51, 52, 53, 54, 55, 56, 57, 58, 59, 60, 61, 62, 63, 64, 65, 66, 67, 68, 69, 70, 71, 72, 73, 74, 75, 76, 77, 78, 79, 80, 81, 82, 83, 84, 85, 86, 87, 88, 89, 90, 91, 92, 93, 94, 95, 96, 97, 98, 99, 100, 101, 102, 103, 104, 105, 106, 107, 108, 109, 110, 111, 112, 113, 114, 115, 116, 117, 118] (by decide +kernel) (by decide +kernel)
set_option maxRecDepth 20000 in
theorem gX7_hours_X7_goesOn : GoodIn wsX7_hours (wsV RX7 172 RX7 yX7_goesOn wsX7_goesOn) := goodIn_app (goodIn_of _ (by decide +kernel)) ggX7_hours_X7_goesOn
theorem dX7_hours_0 : decode cX7_hours 0 = .ok (.iload_n 1, 1) := by decide +kernel
theorem dX7_hours_1 : decode cX7_hours 1 = .ok (.i2l, 1) := by decide +kernel
theorem dX7_hours_2 : decode cX7_hours 2 = .ok (.lconst 1, 1) := by decide +kernel
theorem dX7_hours_3 : decode cX7_hours 3 = .ok (.ldc2_w 170, 3) := by decide +kernel
theorem dX7_hours_6 : decode cX7_hours 6 = .ok (.invokestatic 65, 3) := by decide +kernel
theorem dX7_hours_9 : decode cX7_hours 9 = .ok (.ifCond .ne 6, 3) := by decide +kernel
theorem dX7_hours_12 : decode cX7_hours 12 = .ok (.ldc 80, 2) := by decide +kernel
theorem dX7_hours_14 : decode cX7_hours 14 = .ok (.ireturn, 1) := by decide +kernel
theorem dX7_hours_15 : decode cX7_hours 15 = .ok (.aload_n 0, 1) := by decide +kernel
theorem dX7_hours_16 : decode cX7_hours 16 = .ok (.getfield 7, 3) := by decide +kernel
theorem dX7_hours_19 : decode cX7_hours 19 = .ok (.iconst 4, 1) := by decide +kernel
theorem dX7_hours_20 : decode cX7_hours 20 = .ok (.iaload, 1) := by decide +kernel
theorem dX7_hours_21 : decode cX7_hours 21 = .ok (.istore_n 2, 1) := by decide +kernel
theorem dX7_hours_22 : decode cX7_hours 22 = .ok (.iconst 0, 1) := by decide +kernel
theorem dX7_hours_23 : decode cX7_hours 23 = .ok (.istore_n 3, 1) := by decide +kernel
theorem dX7_hours_24 : decode cX7_hours 24 = .ok (.iload_n 3, 1) := by decide +kernel
theorem dX7_hours_25 : decode cX7_hours 25 = .ok (.iload_n 1, 1) := by decide +kernel
theorem dX7_hours_26 : decode cX7_hours 26 = .ok (.if_icmp .ge 25, 3) := by decide +kernel
theorem dX7_hours_29 : decode cX7_hours 29 = .ok (.aload_n 0, 1) := by decide +kernel
theorem dX7_hours_30 : decode cX7_hours 30 = .ok (.getfield 7, 3) := by decide +kernel
theorem dX7_hours_33 : decode cX7_hours 33 = .ok (.iconst 2, 1) := by decide +kernel
theorem dX7_hours_34 : decode cX7_hours 34 = .ok (.iaload, 1) := by decide +kernel
theorem dX7_hours_35 : decode cX7_hours 35 = .ok (.sipush 9999, 3) := by decide +kernel
theorem dX7_hours_38 : decode cX7_hours 38 = .ok (.if_icmp .ge 13, 3) := by decide +kernel
theorem dX7_hours_41 : decode cX7_hours 41 = .ok (.aload_n 0, 1) := by decide +kernel
theorem dX7_hours_42 : decode cX7_hours 42 = .ok (.invokevirtual 172, 3) := by decide +kernel
theorem dX7_hours_45 : decode cX7_hours 45 = .ok (.iinc 3 1, 3) := by decide +kernel
theorem dX7_hours_48 : decode cX7_hours 48 = .ok (.goto (-24), 3) := by decide +kernel
theorem dX7_hours_51 : decode cX7_hours 51 = .ok (.aload_n 0, 1) := by decide +kernel
theorem dX7_hours_52 : decode cX7_hours 52 = .ok (.getfield 7, 3) := by decide +kernel
theorem dX7_hours_55 : decode cX7_hours 55 = .ok (.iconst 4, 1) := by decide +kernel
theorem dX7_hours_56 : decode cX7_hours 56 = .ok (.iaload, 1) := by decide +kernel
theorem dX7_hours_57 : decode cX7_hours 57 = .ok (.iload_n 2, 1) := by decide +kernel
theorem dX7_hours_58 : decode cX7_hours 58 = .ok (.isub, 1) := by decide +kernel
theorem dX7_hours_59 : decode cX7_hours 59 = .ok (.ireturn, 1) := by decide +kernel
theorem dX7_book_0 : decode cX7_book 0 = .ok (.iload_n 1, 1) := by decide +kernel
theorem dX7_book_1 : decode cX7_book 1 = .ok (.tableswitch 55 0 3 #[31, 38, 45, 52], 31) := by decide +kernel
theorem dX7_book_32 : decode cX7_book 32 = .ok (.aload_n 0, 1) := by decide +kernel
theorem dX7_book_33 : decode cX7_book 33 = .ok (.getfield 7, 3) := by decide +kernel
theorem dX7_book_36 : decode cX7_book 36 = .ok (.iconst 4, 1) := by decide +kernel
theorem dX7_book_37 : decode cX7_book 37 = .ok (.iaload, 1) := by decide +kernel
theorem dX7_book_38 : decode cX7_book 38 = .ok (.ireturn, 1) := by decide +kernel
theorem dX7_book_39 : decode cX7_book 39 = .ok (.aload_n 0, 1) := by decide +kernel
theorem dX7_book_40 : decode cX7_book 40 = .ok (.getfield 7, 3) := by decide +kernel
theorem dX7_book_43 : decode cX7_book 43 = .ok (.iconst 3, 1) := by decide +kernel
theorem dX7_book_44 : decode cX7_book 44 = .ok (.iaload, 1) := by decide +kernel
theorem dX7_book_45 : decode cX7_book 45 = .ok (.ireturn, 1) := by decide +kernel
theorem dX7_book_46 : decode cX7_book 46 = .ok (.aload_n 0, 1) := by decide +kernel
theorem dX7_book_47 : decode cX7_book 47 = .ok (.getfield 7, 3) := by decide +kernel
theorem dX7_book_50 : decode cX7_book 50 = .ok (.iconst 5, 1) := by decide +kernel
theorem dX7_book_51 : decode cX7_book 51 = .ok (.iaload, 1) := by decide +kernel
theorem dX7_book_52 : decode cX7_book 52 = .ok (.ireturn, 1) := by decide +kernel
theorem dX7_book_53 : decode cX7_book 53 = .ok (.goto 6, 3) := by decide +kernel
theorem dX7_book_56 : decode cX7_book 56 = .ok (.ldc 80, 2) := by decide +kernel
theorem dX7_book_58 : decode cX7_book 58 = .ok (.ireturn, 1) := by decide +kernel
theorem dX7_book_59 : decode cX7_book 59 = .ok (.iconst 0, 1) := by decide +kernel
theorem dX7_book_60 : decode cX7_book 60 = .ok (.istore_n 2, 1) := by decide +kernel
theorem dX7_book_61 : decode cX7_book 61 = .ok (.iconst 0, 1) := by decide +kernel
theorem dX7_book_62 : decode cX7_book 62 = .ok (.istore_n 3, 1) := by decide +kernel
theorem dX7_book_63 : decode cX7_book 63 = .ok (.iload_n 3, 1) := by decide +kernel
theorem dX7_book_64 : decode cX7_book 64 = .ok (.aload_n 0, 1) := by decide +kernel
theorem dX7_book_65 : decode cX7_book 65 = .ok (.getfield 7, 3) := by decide +kernel
theorem dX7_book_68 : decode cX7_book 68 = .ok (.iconst 0, 1) := by decide +kernel
theorem dX7_book_69 : decode cX7_book 69 = .ok (.iaload, 1) := by decide +kernel
theorem dX7_book_70 : decode cX7_book 70 = .ok (.if_icmp .ge 18, 3) := by decide +kernel
theorem dX7_book_88 : decode cX7_book 88 = .ok (.iload_n 2, 1) := by decide +kernel
theorem dX7_book_89 : decode cX7_book 89 = .ok (.ireturn, 1) := by decide +kernel
theorem dX7_laysBy_0 : decode cX7_laysBy 0 = .ok (.iconst 0, 1) := by decide +kernel
theorem dX7_laysBy_1 : decode cX7_laysBy 1 = .ok (.istore_n 1, 1) := by decide +kernel
theorem dX7_laysBy_2 : decode cX7_laysBy 2 = .ok (.iload_n 1, 1) := by decide +kernel
theorem dX7_laysBy_3 : decode cX7_laysBy 3 = .ok (.bipush 47, 2) := by decide +kernel
theorem dX7_laysBy_5 : decode cX7_laysBy 5 = .ok (.if_icmp .ge 21, 3) := by decide +kernel
theorem dX7_laysBy_8 : decode cX7_laysBy 8 = .ok (.aload_n 0, 1) := by decide +kernel
theorem dX7_laysBy_9 : decode cX7_laysBy 9 = .ok (.getfield 43, 3) := by decide +kernel
theorem dX7_laysBy_12 : decode cX7_laysBy 12 = .ok (.iload_n 1, 1) := by decide +kernel
theorem dX7_laysBy_13 : decode cX7_laysBy 13 = .ok (.aload_n 0, 1) := by decide +kernel
theorem dX7_laysBy_14 : decode cX7_laysBy 14 = .ok (.getfield 7, 3) := by decide +kernel
theorem dX7_laysBy_17 : decode cX7_laysBy 17 = .ok (.iload_n 1, 1) := by decide +kernel
theorem dX7_laysBy_18 : decode cX7_laysBy 18 = .ok (.iaload, 1) := by decide +kernel
theorem dX7_laysBy_19 : decode cX7_laysBy 19 = .ok (.iastore, 1) := by decide +kernel
theorem dX7_laysBy_20 : decode cX7_laysBy 20 = .ok (.iinc 1 1, 3) := by decide +kernel
theorem dX7_laysBy_23 : decode cX7_laysBy 23 = .ok (.goto (-21), 3) := by decide +kernel
theorem dX7_laysBy_26 : decode cX7_laysBy 26 = .ok (.return_, 1) := by decide +kernel
theorem dX7_laysBack_0 : decode cX7_laysBack 0 = .ok (.iconst 0, 1) := by decide +kernel
theorem dX7_laysBack_1 : decode cX7_laysBack 1 = .ok (.istore_n 1, 1) := by decide +kernel
theorem dX7_laysBack_2 : decode cX7_laysBack 2 = .ok (.iload_n 1, 1) := by decide +kernel
theorem dX7_laysBack_3 : decode cX7_laysBack 3 = .ok (.bipush 47, 2) := by decide +kernel
theorem dX7_laysBack_5 : decode cX7_laysBack 5 = .ok (.if_icmp .ge 21, 3) := by decide +kernel
theorem dX7_laysBack_8 : decode cX7_laysBack 8 = .ok (.aload_n 0, 1) := by decide +kernel
theorem dX7_laysBack_9 : decode cX7_laysBack 9 = .ok (.getfield 7, 3) := by decide +kernel
theorem dX7_laysBack_12 : decode cX7_laysBack 12 = .ok (.iload_n 1, 1) := by decide +kernel
theorem dX7_laysBack_13 : decode cX7_laysBack 13 = .ok (.aload_n 0, 1) := by decide +kernel
theorem dX7_laysBack_14 : decode cX7_laysBack 14 = .ok (.getfield 43, 3) := by decide +kernel
theorem dX7_laysBack_17 : decode cX7_laysBack 17 = .ok (.iload_n 1, 1) := by decide +kernel
theorem dX7_laysBack_18 : decode cX7_laysBack 18 = .ok (.iaload, 1) := by decide +kernel
theorem dX7_laysBack_19 : decode cX7_laysBack 19 = .ok (.iastore, 1) := by decide +kernel
theorem dX7_laysBack_20 : decode cX7_laysBack 20 = .ok (.iinc 1 1, 3) := by decide +kernel
theorem dX7_laysBack_23 : decode cX7_laysBack 23 = .ok (.goto (-21), 3) := by decide +kernel
theorem dX7_laysBack_26 : decode cX7_laysBack 26 = .ok (.return_, 1) := by decide +kernel
set_option maxRecDepth 20000 in
theorem ggX7_goesOnMany_X7_goesOn : GoodIn wsX7_goesOnMany wsX7_goesOn := goodIn_r _ [5, 6, 7, 8, 4, 9, 10, 11, 12, 13, 14, 15, 16, 17, 18, 19, 20, 21, 22, 23, 24, 25, 26, 27, 28, 29, 30, 31, 32, 33, 34, 35, 36, 37, 38, 39, 40, 41, 42, 43, 44, 45, 46, 47, 48, 49, 50, 51, 52, 53, 54, 55, 56, 57, 58, 59, 60, 61, 62, 63, 64, 65, 66, 67, 68, 69, 70, 71, 72, 73, 74, 75, 76, 77, 78, 79, 80, 81, 82, 83, 84, 85, 86, 87, 88, 89, 90, 91, 92, 93, 94, 95, 96, 97, 98, 99, 100, 101, 102, 103, 104, 105, 106, 107, 108, 109, 110, 111, 112, 113, 114, 115, 116] (by decide +kernel) (by decide +kernel)
set_option maxRecDepth 20000 in
theorem gX7_goesOnMany_X7_goesOn : GoodIn wsX7_goesOnMany (wsV RX7 172 RX7 yX7_goesOn wsX7_goesOn) := goodIn_app (goodIn_of _ (by decide +kernel)) ggX7_goesOnMany_X7_goesOn
theorem dX7_goesOnMany_0 : decode cX7_goesOnMany 0 = .ok (.iconst 0, 1) := by decide +kernel
theorem dX7_goesOnMany_1 : decode cX7_goesOnMany 1 = .ok (.istore_n 2, 1) := by decide +kernel
theorem dX7_goesOnMany_2 : decode cX7_goesOnMany 2 = .ok (.iload_n 2, 1) := by decide +kernel
theorem dX7_goesOnMany_3 : decode cX7_goesOnMany 3 = .ok (.iload_n 1, 1) := by decide +kernel
theorem dX7_goesOnMany_4 : decode cX7_goesOnMany 4 = .ok (.if_icmp .ge 13, 3) := by decide +kernel
theorem dX7_goesOnMany_7 : decode cX7_goesOnMany 7 = .ok (.aload_n 0, 1) := by decide +kernel
theorem dX7_goesOnMany_8 : decode cX7_goesOnMany 8 = .ok (.invokevirtual 172, 3) := by decide +kernel
theorem dX7_goesOnMany_11 : decode cX7_goesOnMany 11 = .ok (.iinc 2 1, 3) := by decide +kernel
theorem dX7_goesOnMany_14 : decode cX7_goesOnMany 14 = .ok (.goto (-12), 3) := by decide +kernel
theorem dX7_goesOnMany_17 : decode cX7_goesOnMany 17 = .ok (.return_, 1) := by decide +kernel
set_option maxRecDepth 20000 in
theorem ggX7_behind_X7_isIn : GoodIn wsX7_behind wsX7_isIn := goodIn_r _ [8] (by decide +kernel) (by decide +kernel)
set_option maxRecDepth 20000 in
theorem gX7_behind_X7_isIn : GoodIn wsX7_behind (va_wsS RX7 65 yX7_isIn wsX7_isIn) := goodIn_app (goodIn_of _ (by decide +kernel)) ggX7_behind_X7_isIn
set_option maxRecDepth 20000 in
theorem ggX7_behind_X7_laysBy : GoodIn wsX7_behind wsX7_laysBy := goodIn_r _ [12, 13, 4, 102, 103, 104, 105, 106, 107, 108, 109, 110, 111, 112, 113, 114, 115, 116, 117, 118, 119, 120, 121, 122, 123, 124, 125, 126, 127, 128, 129, 130, 131, 132] (by decide +kernel) (by decide +kernel)
set_option maxRecDepth 20000 in
theorem gX7_behind_X7_laysBy : GoodIn wsX7_behind (wsV RX7 175 RX7 yX7_laysBy wsX7_laysBy) := goodIn_app (goodIn_of _ (by decide +kernel)) ggX7_behind_X7_laysBy
set_option maxRecDepth 20000 in
theorem ggX7_behind_X7_goesOnMany : GoodIn wsX7_behind wsX7_goesOnMany := goodIn_r _ [17, 18, 19, 20, 7, 21, 22, 23, 24, 25, 4, 26, 27, 28, 29, 30, 31, 32, 33, 34, 35, 36, 37, 38, 39, 40, 41, 42, 43, 44, 45, 46, 47, 48, 49, 50, 51, 52, 5, 6, 8, 53, 54, 55, 56, 57, 58, 59, 60, 61, 62, 63, 64, 65, 66, 67, 68, 69, 70, 71, 72, 73, 74, 75, 76, 77, 78, 79, 80, 81, 82, 83, 84, 85, 86, 87, 88, 89, 90, 91, 92, 93, 94, 95, 96, 97, 102, 103, 104, 105, 106, 107, 108, 109, 110, 111, 112, 113, 114, 115, 116, 117, 118, 119, 120, 121, 122, 123, 124, 125, 126, 127, 128, 129, 130, 131, 132] (by decide +kernel) (by decide +kernel)
set_option maxRecDepth 20000 in
theorem gX7_behind_X7_goesOnMany : GoodIn wsX7_behind (wsV RX7 178 RX7 yX7_goesOnMany wsX7_goesOnMany) := goodIn_app (goodIn_of _ (by decide +kernel)) ggX7_behind_X7_goesOnMany
set_option maxRecDepth 20000 in
theorem ggX7_behind_X7_laysBack : GoodIn wsX7_behind wsX7_laysBack := goodIn_r _ [101, 4, 13, 102, 103, 104, 105, 106, 107, 108, 109, 110, 111, 112, 113, 114, 115, 116, 117, 118, 119, 120, 121, 122, 123, 124, 125, 126, 127, 128, 129, 130, 131, 132] (by decide +kernel) (by decide +kernel)
set_option maxRecDepth 20000 in
theorem gX7_behind_X7_laysBack : GoodIn wsX7_behind (wsV RX7 181 RX7 yX7_laysBack wsX7_laysBack) := goodIn_app (goodIn_of _ (by decide +kernel)) ggX7_behind_X7_laysBack
theorem dX7_behind_0 : decode cX7_behind 0 = .ok (.iload_n 1, 1) := by decide +kernel
theorem dX7_behind_1 : decode cX7_behind 1 = .ok (.i2l, 1) := by decide +kernel
theorem dX7_behind_2 : decode cX7_behind 2 = .ok (.lconst 0, 1) := by decide +kernel
theorem dX7_behind_3 : decode cX7_behind 3 = .ok (.ldc2_w 170, 3) := by decide +kernel
theorem dX7_behind_6 : decode cX7_behind 6 = .ok (.invokestatic 65, 3) := by decide +kernel
theorem dX7_behind_9 : decode cX7_behind 9 = .ok (.ifCond .eq 15, 3) := by decide +kernel
theorem dX7_behind_12 : decode cX7_behind 12 = .ok (.iload_n 2, 1) := by decide +kernel
theorem dX7_behind_13 : decode cX7_behind 13 = .ok (.i2l, 1) := by decide +kernel
theorem dX7_behind_14 : decode cX7_behind 14 = .ok (.lconst 0, 1) := by decide +kernel
theorem dX7_behind_15 : decode cX7_behind 15 = .ok (.ldc2_w 133, 3) := by decide +kernel
theorem dX7_behind_18 : decode cX7_behind 18 = .ok (.invokestatic 65, 3) := by decide +kernel
theorem dX7_behind_21 : decode cX7_behind 21 = .ok (.ifCond .ne 6, 3) := by decide +kernel
theorem dX7_behind_24 : decode cX7_behind 24 = .ok (.ldc 80, 2) := by decide +kernel
theorem dX7_behind_26 : decode cX7_behind 26 = .ok (.ireturn, 1) := by decide +kernel
theorem dX7_behind_27 : decode cX7_behind 27 = .ok (.aload_n 0, 1) := by decide +kernel
theorem dX7_behind_28 : decode cX7_behind 28 = .ok (.invokevirtual 175, 3) := by decide +kernel
theorem dX7_behind_31 : decode cX7_behind 31 = .ok (.aload_n 0, 1) := by decide +kernel
theorem dX7_behind_32 : decode cX7_behind 32 = .ok (.iload_n 1, 1) := by decide +kernel
theorem dX7_behind_33 : decode cX7_behind 33 = .ok (.invokevirtual 178, 3) := by decide +kernel
theorem dX7_behind_36 : decode cX7_behind 36 = .ok (.iload_n 2, 1) := by decide +kernel
theorem dX7_behind_37 : decode cX7_behind 37 = .ok (.ifCond .ne 12, 3) := by decide +kernel
theorem dX7_behind_40 : decode cX7_behind 40 = .ok (.aload_n 0, 1) := by decide +kernel
theorem dX7_behind_41 : decode cX7_behind 41 = .ok (.getfield 7, 3) := by decide +kernel
theorem dX7_behind_44 : decode cX7_behind 44 = .ok (.iconst 4, 1) := by decide +kernel
theorem dX7_behind_45 : decode cX7_behind 45 = .ok (.iaload, 1) := by decide +kernel
theorem dX7_behind_46 : decode cX7_behind 46 = .ok (.goto 38, 3) := by decide +kernel
theorem dX7_behind_49 : decode cX7_behind 49 = .ok (.iload_n 2, 1) := by decide +kernel
theorem dX7_behind_50 : decode cX7_behind 50 = .ok (.iconst 1, 1) := by decide +kernel
theorem dX7_behind_51 : decode cX7_behind 51 = .ok (.if_icmp .ne 12, 3) := by decide +kernel
theorem dX7_behind_54 : decode cX7_behind 54 = .ok (.aload_n 0, 1) := by decide +kernel
theorem dX7_behind_55 : decode cX7_behind 55 = .ok (.getfield 7, 3) := by decide +kernel
theorem dX7_behind_58 : decode cX7_behind 58 = .ok (.iconst 3, 1) := by decide +kernel
theorem dX7_behind_59 : decode cX7_behind 59 = .ok (.iaload, 1) := by decide +kernel
theorem dX7_behind_60 : decode cX7_behind 60 = .ok (.goto 24, 3) := by decide +kernel
theorem dX7_behind_63 : decode cX7_behind 63 = .ok (.iload_n 2, 1) := by decide +kernel
theorem dX7_behind_64 : decode cX7_behind 64 = .ok (.iconst 2, 1) := by decide +kernel
theorem dX7_behind_65 : decode cX7_behind 65 = .ok (.if_icmp .ne 13, 3) := by decide +kernel
theorem dX7_behind_68 : decode cX7_behind 68 = .ok (.aload_n 0, 1) := by decide +kernel
theorem dX7_behind_69 : decode cX7_behind 69 = .ok (.getfield 7, 3) := by decide +kernel
theorem dX7_behind_72 : decode cX7_behind 72 = .ok (.bipush 7, 2) := by decide +kernel
theorem dX7_behind_74 : decode cX7_behind 74 = .ok (.iaload, 1) := by decide +kernel
theorem dX7_behind_75 : decode cX7_behind 75 = .ok (.goto 9, 3) := by decide +kernel
theorem dX7_behind_78 : decode cX7_behind 78 = .ok (.aload_n 0, 1) := by decide +kernel
theorem dX7_behind_79 : decode cX7_behind 79 = .ok (.getfield 7, 3) := by decide +kernel
theorem dX7_behind_82 : decode cX7_behind 82 = .ok (.iconst 5, 1) := by decide +kernel
theorem dX7_behind_83 : decode cX7_behind 83 = .ok (.iaload, 1) := by decide +kernel
theorem dX7_behind_84 : decode cX7_behind 84 = .ok (.istore_n 3, 1) := by decide +kernel
theorem dX7_behind_85 : decode cX7_behind 85 = .ok (.aload_n 0, 1) := by decide +kernel
theorem dX7_behind_86 : decode cX7_behind 86 = .ok (.invokevirtual 181, 3) := by decide +kernel
theorem dX7_behind_89 : decode cX7_behind 89 = .ok (.iload_n 3, 1) := by decide +kernel
theorem dX7_behind_90 : decode cX7_behind 90 = .ok (.ireturn, 1) := by decide +kernel
set_option maxRecDepth 20000 in
theorem ggX7_goods_X7_isStall : GoodIn wsX7_goods wsX7_isStall := goodIn_r _ [7, 8, 9, 10, 6, 11, 105, 106, 107, 108, 109, 110, 111, 112, 113, 114, 115, 116, 117, 118, 119, 120, 121, 122, 123, 124, 125, 126, 127, 128, 129, 130, 131, 132, 133, 134, 135] (by decide +kernel) (by decide +kernel)
set_option maxRecDepth 20000 in
theorem gX7_goods_X7_isStall : GoodIn wsX7_goods (wsV RX7 116 RX7 yX7_isStall wsX7_isStall) := goodIn_app (goodIn_of _ (by decide +kernel)) ggX7_goods_X7_isStall
theorem dX7_goods_0 : decode cX7_goods 0 = .ok (.aload_n 0, 1) := by decide +kernel
theorem dX7_goods_1 : decode cX7_goods 1 = .ok (.iload_n 1, 1) := by decide +kernel
theorem dX7_goods_2 : decode cX7_goods 2 = .ok (.invokevirtual 116, 3) := by decide +kernel
theorem dX7_goods_5 : decode cX7_goods 5 = .ok (.ifCond .eq 15, 3) := by decide +kernel
theorem dX7_goods_20 : decode cX7_goods 20 = .ok (.ldc 80, 2) := by decide +kernel
theorem dX7_goods_22 : decode cX7_goods 22 = .ok (.ireturn, 1) := by decide +kernel
set_option maxRecDepth 20000 in
theorem ggX7_best_X7_isIn : GoodIn wsX7_best wsX7_isIn := goodIn_r _ [7] (by decide +kernel) (by decide +kernel)
set_option maxRecDepth 20000 in
theorem gX7_best_X7_isIn : GoodIn wsX7_best (va_wsS RX7 65 yX7_isIn wsX7_isIn) := goodIn_app (goodIn_of _ (by decide +kernel)) ggX7_best_X7_isIn
set_option maxRecDepth 20000 in
theorem ggX7_best_X7_laysBy : GoodIn wsX7_best wsX7_laysBy := goodIn_r _ [11, 12, 3, 81, 82, 83, 84, 85, 86, 87, 88, 89, 90, 91, 92, 93, 94, 95, 96, 97, 98, 99, 100, 101, 102, 103, 104, 105, 106, 107, 108, 109, 110, 111] (by decide +kernel) (by decide +kernel)
set_option maxRecDepth 20000 in
theorem gX7_best_X7_laysBy : GoodIn wsX7_best (wsV RX7 175 RX7 yX7_laysBy wsX7_laysBy) := goodIn_app (goodIn_of _ (by decide +kernel)) ggX7_best_X7_laysBy
set_option maxRecDepth 20000 in
theorem ggX7_best_X7_goesOnBy : GoodIn wsX7_best wsX7_goesOnBy := goodIn_r _ [16, 3, 17, 18, 19, 6, 20, 21, 22, 23, 24, 25, 26, 27, 28, 29, 30, 31, 32, 33, 34, 35, 36, 37, 38, 39, 4, 5, 7, 40, 41, 42, 43, 44, 45, 46, 47, 48, 49, 50, 51, 52, 53, 54, 55, 56, 57, 58, 59, 60, 61, 62, 63, 64, 65, 66, 67, 68, 69, 70, 71, 72, 73, 74, 75, 76, 81, 82, 83, 84, 85, 86, 87, 88, 89, 90, 91, 92, 93, 94, 95, 96, 97, 98, 99, 100, 101, 102, 103, 104, 105, 106, 107, 108, 109, 110, 111] (by decide +kernel) (by decide +kernel)
set_option maxRecDepth 20000 in
theorem gX7_best_X7_goesOnBy : GoodIn wsX7_best (wsV RX7 166 RX7 yX7_goesOnBy wsX7_goesOnBy) := goodIn_app (goodIn_of _ (by decide +kernel)) ggX7_best_X7_goesOnBy
set_option maxRecDepth 20000 in
theorem ggX7_best_X7_laysBack : GoodIn wsX7_best wsX7_laysBack := goodIn_r _ [80, 3, 12, 81, 82, 83, 84, 85, 86, 87, 88, 89, 90, 91, 92, 93, 94, 95, 96, 97, 98, 99, 100, 101, 102, 103, 104, 105, 106, 107, 108, 109, 110, 111] (by decide +kernel) (by decide +kernel)
set_option maxRecDepth 20000 in
theorem gX7_best_X7_laysBack : GoodIn wsX7_best (wsV RX7 181 RX7 yX7_laysBack wsX7_laysBack) := goodIn_app (goodIn_of _ (by decide +kernel)) ggX7_best_X7_laysBack
theorem dX7_best_0 : decode cX7_best 0 = .ok (.iload_n 1, 1) := by decide +kernel
theorem dX7_best_1 : decode cX7_best 1 = .ok (.i2l, 1) := by decide +kernel
theorem dX7_best_2 : decode cX7_best 2 = .ok (.lconst 1, 1) := by decide +kernel
theorem dX7_best_3 : decode cX7_best 3 = .ok (.ldc2_w 74, 3) := by decide +kernel
theorem dX7_best_6 : decode cX7_best 6 = .ok (.invokestatic 65, 3) := by decide +kernel
theorem dX7_best_9 : decode cX7_best 9 = .ok (.ifCond .eq 13, 3) := by decide +kernel
theorem dX7_best_12 : decode cX7_best 12 = .ok (.iload_n 2, 1) := by decide +kernel
theorem dX7_best_13 : decode cX7_best 13 = .ok (.i2l, 1) := by decide +kernel
theorem dX7_best_14 : decode cX7_best 14 = .ok (.lconst 0, 1) := by decide +kernel
theorem dX7_best_15 : decode cX7_best 15 = .ok (.lconst 1, 1) := by decide +kernel
theorem dX7_best_16 : decode cX7_best 16 = .ok (.invokestatic 65, 3) := by decide +kernel
theorem dX7_best_19 : decode cX7_best 19 = .ok (.ifCond .ne 6, 3) := by decide +kernel
theorem dX7_best_22 : decode cX7_best 22 = .ok (.ldc 80, 2) := by decide +kernel
theorem dX7_best_24 : decode cX7_best 24 = .ok (.ireturn, 1) := by decide +kernel
theorem dX7_best_25 : decode cX7_best 25 = .ok (.iconst 1, 1) := by decide +kernel
theorem dX7_best_26 : decode cX7_best 26 = .ok (.istore_n 3, 1) := by decide +kernel
theorem dX7_best_27 : decode cX7_best 27 = .ok (.iconst 1, 1) := by decide +kernel
theorem dX7_best_28 : decode cX7_best 28 = .ok (.istore 4, 2) := by decide +kernel
theorem dX7_best_30 : decode cX7_best 30 = .ok (.iload 4, 2) := by decide +kernel
theorem dX7_best_32 : decode cX7_best 32 = .ok (.iload_n 1, 1) := by decide +kernel
theorem dX7_best_33 : decode cX7_best 33 = .ok (.if_icmp .ge 13, 3) := by decide +kernel
theorem dX7_best_36 : decode cX7_best 36 = .ok (.iload_n 3, 1) := by decide +kernel
theorem dX7_best_37 : decode cX7_best 37 = .ok (.iconst 3, 1) := by decide +kernel
theorem dX7_best_38 : decode cX7_best 38 = .ok (.imul, 1) := by decide +kernel
theorem dX7_best_39 : decode cX7_best 39 = .ok (.istore_n 3, 1) := by decide +kernel
theorem dX7_best_40 : decode cX7_best 40 = .ok (.iinc 4 1, 3) := by decide +kernel
theorem dX7_best_43 : decode cX7_best 43 = .ok (.goto (-13), 3) := by decide +kernel
theorem dX7_best_46 : decode cX7_best 46 = .ok (.aload_n 0, 1) := by decide +kernel
theorem dX7_best_47 : decode cX7_best 47 = .ok (.invokevirtual 175, 3) := by decide +kernel
theorem dX7_best_50 : decode cX7_best 50 = .ok (.iconst (-1), 1) := by decide +kernel
theorem dX7_best_51 : decode cX7_best 51 = .ok (.istore 4, 2) := by decide +kernel
theorem dX7_best_53 : decode cX7_best 53 = .ok (.iconst 0, 1) := by decide +kernel
theorem dX7_best_54 : decode cX7_best 54 = .ok (.istore 5, 2) := by decide +kernel
theorem dX7_best_56 : decode cX7_best 56 = .ok (.iconst 0, 1) := by decide +kernel
theorem dX7_best_57 : decode cX7_best 57 = .ok (.istore 6, 2) := by decide +kernel
theorem dX7_best_59 : decode cX7_best 59 = .ok (.iload 6, 2) := by decide +kernel
theorem dX7_best_61 : decode cX7_best 61 = .ok (.iconst 3, 1) := by decide +kernel
theorem dX7_best_62 : decode cX7_best 62 = .ok (.iload_n 3, 1) := by decide +kernel
theorem dX7_best_63 : decode cX7_best 63 = .ok (.imul, 1) := by decide +kernel
theorem dX7_best_64 : decode cX7_best 64 = .ok (.if_icmp .ge 91, 3) := by decide +kernel
theorem dX7_best_67 : decode cX7_best 67 = .ok (.iload_n 3, 1) := by decide +kernel
theorem dX7_best_68 : decode cX7_best 68 = .ok (.istore 7, 2) := by decide +kernel
theorem dX7_best_70 : decode cX7_best 70 = .ok (.iload 7, 2) := by decide +kernel
theorem dX7_best_72 : decode cX7_best 72 = .ok (.ifCond .le 45, 3) := by decide +kernel
theorem dX7_best_75 : decode cX7_best 75 = .ok (.iload 6, 2) := by decide +kernel
theorem dX7_best_77 : decode cX7_best 77 = .ok (.iload 7, 2) := by decide +kernel
theorem dX7_best_79 : decode cX7_best 79 = .ok (.idiv, 1) := by decide +kernel
theorem dX7_best_80 : decode cX7_best 80 = .ok (.iconst 3, 1) := by decide +kernel
theorem dX7_best_81 : decode cX7_best 81 = .ok (.irem, 1) := by decide +kernel
theorem dX7_best_82 : decode cX7_best 82 = .ok (.istore 8, 2) := by decide +kernel
theorem dX7_best_84 : decode cX7_best 84 = .ok (.aload_n 0, 1) := by decide +kernel
theorem dX7_best_85 : decode cX7_best 85 = .ok (.iload 8, 2) := by decide +kernel
theorem dX7_best_87 : decode cX7_best 87 = .ok (.ifCond .ne 7, 3) := by decide +kernel
theorem dX7_best_90 : decode cX7_best 90 = .ok (.iconst 0, 1) := by decide +kernel
theorem dX7_best_91 : decode cX7_best 91 = .ok (.goto 14, 3) := by decide +kernel
theorem dX7_best_94 : decode cX7_best 94 = .ok (.iload 8, 2) := by decide +kernel
theorem dX7_best_96 : decode cX7_best 96 = .ok (.iconst 1, 1) := by decide +kernel
theorem dX7_best_97 : decode cX7_best 97 = .ok (.if_icmp .ne 7, 3) := by decide +kernel
theorem dX7_best_100 : decode cX7_best 100 = .ok (.iconst (-1), 1) := by decide +kernel
theorem dX7_best_101 : decode cX7_best 101 = .ok (.goto 4, 3) := by decide +kernel
theorem dX7_best_104 : decode cX7_best 104 = .ok (.iconst 1, 1) := by decide +kernel
theorem dX7_best_105 : decode cX7_best 105 = .ok (.invokevirtual 166, 3) := by decide +kernel
theorem dX7_best_108 : decode cX7_best 108 = .ok (.iload 7, 2) := by decide +kernel
theorem dX7_best_110 : decode cX7_best 110 = .ok (.iconst 3, 1) := by decide +kernel
theorem dX7_best_111 : decode cX7_best 111 = .ok (.idiv, 1) := by decide +kernel
theorem dX7_best_112 : decode cX7_best 112 = .ok (.istore 7, 2) := by decide +kernel
theorem dX7_best_114 : decode cX7_best 114 = .ok (.goto (-44), 3) := by decide +kernel
theorem dX7_best_117 : decode cX7_best 117 = .ok (.aload_n 0, 1) := by decide +kernel
theorem dX7_best_118 : decode cX7_best 118 = .ok (.getfield 7, 3) := by decide +kernel
theorem dX7_best_121 : decode cX7_best 121 = .ok (.iconst 4, 1) := by decide +kernel
theorem dX7_best_122 : decode cX7_best 122 = .ok (.iaload, 1) := by decide +kernel
theorem dX7_best_123 : decode cX7_best 123 = .ok (.istore 7, 2) := by decide +kernel
theorem dX7_best_125 : decode cX7_best 125 = .ok (.aload_n 0, 1) := by decide +kernel
theorem dX7_best_126 : decode cX7_best 126 = .ok (.invokevirtual 181, 3) := by decide +kernel
theorem dX7_best_129 : decode cX7_best 129 = .ok (.iload 4, 2) := by decide +kernel
theorem dX7_best_131 : decode cX7_best 131 = .ok (.ifCond .lt 10, 3) := by decide +kernel
theorem dX7_best_134 : decode cX7_best 134 = .ok (.iload 7, 2) := by decide +kernel
theorem dX7_best_136 : decode cX7_best 136 = .ok (.iload 5, 2) := by decide +kernel
theorem dX7_best_138 : decode cX7_best 138 = .ok (.if_icmp .ge 11, 3) := by decide +kernel
theorem dX7_best_141 : decode cX7_best 141 = .ok (.iload 6, 2) := by decide +kernel
theorem dX7_best_143 : decode cX7_best 143 = .ok (.istore 4, 2) := by decide +kernel
theorem dX7_best_145 : decode cX7_best 145 = .ok (.iload 7, 2) := by decide +kernel
theorem dX7_best_147 : decode cX7_best 147 = .ok (.istore 5, 2) := by decide +kernel
theorem dX7_best_149 : decode cX7_best 149 = .ok (.iinc 6 1, 3) := by decide +kernel
theorem dX7_best_152 : decode cX7_best 152 = .ok (.goto (-93), 3) := by decide +kernel
theorem dX7_best_155 : decode cX7_best 155 = .ok (.iload_n 2, 1) := by decide +kernel
theorem dX7_best_156 : decode cX7_best 156 = .ok (.ifCond .ne 8, 3) := by decide +kernel
theorem dX7_best_159 : decode cX7_best 159 = .ok (.iload 4, 2) := by decide +kernel
theorem dX7_best_161 : decode cX7_best 161 = .ok (.goto 5, 3) := by decide +kernel
theorem dX7_best_164 : decode cX7_best 164 = .ok (.iload 5, 2) := by decide +kernel
theorem dX7_best_166 : decode cX7_best 166 = .ok (.ireturn, 1) := by decide +kernel
set_option maxRecDepth 20000 in
theorem ggX7_wider_X7_isIn : GoodIn wsX7_wider wsX7_isIn := goodIn_r _ [8] (by decide +kernel) (by decide +kernel)
set_option maxRecDepth 20000 in
theorem gX7_wider_X7_isIn : GoodIn wsX7_wider (va_wsS RX7 65 yX7_isIn wsX7_isIn) := goodIn_app (goodIn_of _ (by decide +kernel)) ggX7_wider_X7_isIn
set_option maxRecDepth 20000 in
theorem ggX7_wider_X7_laysBy : GoodIn wsX7_wider wsX7_laysBy := goodIn_r _ [12, 13, 4, 106, 107, 108, 109, 110, 111, 112, 113, 114, 115, 116, 117, 118, 119, 120, 121, 122, 123, 124, 125, 126, 127, 128, 129, 130, 131, 132, 133, 134, 135, 136] (by decide +kernel) (by decide +kernel)
set_option maxRecDepth 20000 in
theorem gX7_wider_X7_laysBy : GoodIn wsX7_wider (wsV RX7 175 RX7 yX7_laysBy wsX7_laysBy) := goodIn_app (goodIn_of _ (by decide +kernel)) ggX7_wider_X7_laysBy
set_option maxRecDepth 20000 in
theorem ggX7_wider_X7_holds : GoodIn wsX7_wider wsX7_holds := goodIn_r _ [17, 4, 18, 19, 7, 20, 106, 107, 108, 109, 110, 111, 112, 113, 114, 115, 116, 117, 118, 119, 120, 121, 122, 123, 124, 125, 126, 127, 128, 129, 130, 131, 132, 133, 134, 135, 136] (by decide +kernel) (by decide +kernel)
set_option maxRecDepth 20000 in
theorem gX7_wider_X7_holds : GoodIn wsX7_wider (wsV RX7 149 RX7 yX7_holds wsX7_holds) := goodIn_app (goodIn_of _ (by decide +kernel)) ggX7_wider_X7_holds
set_option maxRecDepth 20000 in
theorem ggX7_wider_X7_goesOnMany : GoodIn wsX7_wider wsX7_goesOnMany := goodIn_r _ [24, 25, 26, 27, 7, 28, 29, 30, 31, 32, 4, 33, 34, 35, 36, 14, 15, 16, 17, 18, 19, 20, 37, 38, 39, 40, 41, 42, 43, 44, 45, 46, 47, 48, 49, 50, 51, 52, 5, 6, 8, 53, 54, 55, 56, 57, 58, 59, 60, 61, 62, 63, 64, 65, 66, 67, 68, 69, 70, 71, 72, 73, 74, 75, 76, 77, 78, 79, 80, 81, 82, 83, 84, 85, 86, 87, 88, 89, 90, 91, 92, 93, 94, 95, 96, 97, 106, 107, 108, 109, 110, 111, 112, 113, 114, 115, 116, 117, 118, 119, 120, 121, 122, 123, 124, 125, 126, 127, 128, 129, 130, 131, 132, 133, 134, 135, 136] (by decide +kernel) (by decide +kernel)
set_option maxRecDepth 20000 in
theorem gX7_wider_X7_goesOnMany : GoodIn wsX7_wider (wsV RX7 178 RX7 yX7_goesOnMany wsX7_goesOnMany) := goodIn_app (goodIn_of _ (by decide +kernel)) ggX7_wider_X7_goesOnMany
set_option maxRecDepth 20000 in
theorem ggX7_wider_X7_laysBack : GoodIn wsX7_wider wsX7_laysBack := goodIn_r _ [101, 4, 13, 106, 107, 108, 109, 110, 111, 112, 113, 114, 115, 116, 117, 118, 119, 120, 121, 122, 123, 124, 125, 126, 127, 128, 129, 130, 131, 132, 133, 134, 135, 136] (by decide +kernel) (by decide +kernel)
set_option maxRecDepth 20000 in
theorem gX7_wider_X7_laysBack : GoodIn wsX7_wider (wsV RX7 181 RX7 yX7_laysBack wsX7_laysBack) := goodIn_app (goodIn_of _ (by decide +kernel)) ggX7_wider_X7_laysBack
set_option maxRecDepth 20000 in
theorem ggX7_wider_X7_orNone : GoodIn wsX7_wider wsX7_orNone := goodIn_r _ [104, 105] (by decide +kernel) (by decide +kernel)
set_option maxRecDepth 20000 in
theorem gX7_wider_X7_orNone : GoodIn wsX7_wider (va_wsS RX7 140 yX7_orNone wsX7_orNone) := goodIn_app (goodIn_of _ (by decide +kernel)) ggX7_wider_X7_orNone
theorem dX7_wider_0 : decode cX7_wider 0 = .ok (.iload_n 1, 1) := by decide +kernel
theorem dX7_wider_1 : decode cX7_wider 1 = .ok (.i2l, 1) := by decide +kernel
theorem dX7_wider_2 : decode cX7_wider 2 = .ok (.lconst 0, 1) := by decide +kernel
theorem dX7_wider_3 : decode cX7_wider 3 = .ok (.ldc2_w 184, 3) := by decide +kernel
theorem dX7_wider_6 : decode cX7_wider 6 = .ok (.invokestatic 65, 3) := by decide +kernel
theorem dX7_wider_9 : decode cX7_wider 9 = .ok (.ifCond .eq 15, 3) := by decide +kernel
theorem dX7_wider_12 : decode cX7_wider 12 = .ok (.iload_n 2, 1) := by decide +kernel
theorem dX7_wider_13 : decode cX7_wider 13 = .ok (.i2l, 1) := by decide +kernel
theorem dX7_wider_14 : decode cX7_wider 14 = .ok (.lconst 1, 1) := by decide +kernel
theorem dX7_wider_15 : decode cX7_wider 15 = .ok (.ldc2_w 186, 3) := by decide +kernel
theorem dX7_wider_18 : decode cX7_wider 18 = .ok (.invokestatic 65, 3) := by decide +kernel
theorem dX7_wider_21 : decode cX7_wider 21 = .ok (.ifCond .ne 6, 3) := by decide +kernel
theorem dX7_wider_24 : decode cX7_wider 24 = .ok (.ldc 80, 2) := by decide +kernel
theorem dX7_wider_26 : decode cX7_wider 26 = .ok (.ireturn, 1) := by decide +kernel
theorem dX7_wider_27 : decode cX7_wider 27 = .ok (.aload_n 0, 1) := by decide +kernel
theorem dX7_wider_28 : decode cX7_wider 28 = .ok (.invokevirtual 175, 3) := by decide +kernel
theorem dX7_wider_31 : decode cX7_wider 31 = .ok (.iconst (-1), 1) := by decide +kernel
theorem dX7_wider_32 : decode cX7_wider 32 = .ok (.istore_n 3, 1) := by decide +kernel
theorem dX7_wider_33 : decode cX7_wider 33 = .ok (.bipush 6, 2) := by decide +kernel
theorem dX7_wider_35 : decode cX7_wider 35 = .ok (.istore 4, 2) := by decide +kernel
theorem dX7_wider_37 : decode cX7_wider 37 = .ok (.iload 4, 2) := by decide +kernel
theorem dX7_wider_39 : decode cX7_wider 39 = .ok (.iconst 1, 1) := by decide +kernel
theorem dX7_wider_40 : decode cX7_wider 40 = .ok (.if_icmp .lt 48, 3) := by decide +kernel
theorem dX7_wider_43 : decode cX7_wider 43 = .ok (.aload_n 0, 1) := by decide +kernel
theorem dX7_wider_44 : decode cX7_wider 44 = .ok (.getfield 7, 3) := by decide +kernel
theorem dX7_wider_47 : decode cX7_wider 47 = .ok (.bipush 8, 2) := by decide +kernel
theorem dX7_wider_49 : decode cX7_wider 49 = .ok (.iload 4, 2) := by decide +kernel
theorem dX7_wider_51 : decode cX7_wider 51 = .ok (.iastore, 1) := by decide +kernel
theorem dX7_wider_52 : decode cX7_wider 52 = .ok (.aload_n 0, 1) := by decide +kernel
theorem dX7_wider_53 : decode cX7_wider 53 = .ok (.invokevirtual 149, 3) := by decide +kernel
theorem dX7_wider_56 : decode cX7_wider 56 = .ok (.aload_n 0, 1) := by decide +kernel
theorem dX7_wider_57 : decode cX7_wider 57 = .ok (.iload_n 2, 1) := by decide +kernel
theorem dX7_wider_58 : decode cX7_wider 58 = .ok (.invokevirtual 178, 3) := by decide +kernel
theorem dX7_wider_61 : decode cX7_wider 61 = .ok (.aload_n 0, 1) := by decide +kernel
theorem dX7_wider_62 : decode cX7_wider 62 = .ok (.getfield 7, 3) := by decide +kernel
theorem dX7_wider_65 : decode cX7_wider 65 = .ok (.iconst 4, 1) := by decide +kernel
theorem dX7_wider_66 : decode cX7_wider 66 = .ok (.iaload, 1) := by decide +kernel
theorem dX7_wider_67 : decode cX7_wider 67 = .ok (.iload_n 1, 1) := by decide +kernel
theorem dX7_wider_68 : decode cX7_wider 68 = .ok (.if_icmp .gt 8, 3) := by decide +kernel
theorem dX7_wider_71 : decode cX7_wider 71 = .ok (.iload 4, 2) := by decide +kernel
theorem dX7_wider_73 : decode cX7_wider 73 = .ok (.goto 4, 3) := by decide +kernel
theorem dX7_wider_77 : decode cX7_wider 77 = .ok (.istore_n 3, 1) := by decide +kernel
theorem dX7_wider_78 : decode cX7_wider 78 = .ok (.aload_n 0, 1) := by decide +kernel
theorem dX7_wider_79 : decode cX7_wider 79 = .ok (.invokevirtual 181, 3) := by decide +kernel
theorem dX7_wider_82 : decode cX7_wider 82 = .ok (.iinc 4 (-1), 3) := by decide +kernel
theorem dX7_wider_85 : decode cX7_wider 85 = .ok (.goto (-48), 3) := by decide +kernel
theorem dX7_wider_88 : decode cX7_wider 88 = .ok (.iload_n 3, 1) := by decide +kernel
theorem dX7_wider_89 : decode cX7_wider 89 = .ok (.invokestatic 140, 3) := by decide +kernel
theorem dX7_wider_92 : decode cX7_wider 92 = .ok (.ireturn, 1) := by decide +kernel
set_option maxRecDepth 20000 in
theorem ggX7_shaded_X7_isStall : GoodIn wsX7_shaded wsX7_isStall := goodIn_r _ [8, 3, 9, 10, 7, 11, 97, 98, 99, 100, 101, 102, 103, 104, 105, 106, 107, 108, 109, 110, 111, 112, 113, 114, 115, 116, 117, 118, 119, 120, 121, 122, 123, 124, 125, 126, 127] (by decide +kernel) (by decide +kernel)
set_option maxRecDepth 20000 in
theorem gX7_shaded_X7_isStall : GoodIn wsX7_shaded (wsV RX7 116 RX7 yX7_isStall wsX7_isStall) := goodIn_app (goodIn_of _ (by decide +kernel)) ggX7_shaded_X7_isStall
theorem dX7_shaded_0 : decode cX7_shaded 0 = .ok (.aload_n 0, 1) := by decide +kernel
theorem dX7_shaded_1 : decode cX7_shaded 1 = .ok (.iload_n 1, 1) := by decide +kernel
theorem dX7_shaded_2 : decode cX7_shaded 2 = .ok (.invokevirtual 116, 3) := by decide +kernel
theorem dX7_shaded_5 : decode cX7_shaded 5 = .ok (.ifCond .eq 15, 3) := by decide +kernel
theorem dX7_shaded_20 : decode cX7_shaded 20 = .ok (.ldc 80, 2) := by decide +kernel
theorem dX7_shaded_22 : decode cX7_shaded 22 = .ok (.ireturn, 1) := by decide +kernel
set_option maxRecDepth 20000 in
theorem ggX7_without_X7_isIn : GoodIn wsX7_without wsX7_isIn := goodIn_r _ [8] (by decide +kernel) (by decide +kernel)
set_option maxRecDepth 20000 in
theorem gX7_without_X7_isIn : GoodIn wsX7_without (va_wsS RX7 65 yX7_isIn wsX7_isIn) := goodIn_app (goodIn_of _ (by decide +kernel)) ggX7_without_X7_isIn
set_option maxRecDepth 20000 in
theorem ggX7_without_X7_laysBy : GoodIn wsX7_without wsX7_laysBy := goodIn_r _ [12, 13, 3, 102, 103, 104, 105, 106, 107, 108, 109, 110, 111, 112, 113, 114, 115, 116, 117, 118, 119, 120, 121, 122, 123, 124, 125, 126, 127, 128, 129, 130, 131, 132] (by decide +kernel) (by decide +kernel)
set_option maxRecDepth 20000 in
theorem gX7_without_X7_laysBy : GoodIn wsX7_without (wsV RX7 175 RX7 yX7_laysBy wsX7_laysBy) := goodIn_app (goodIn_of _ (by decide +kernel)) ggX7_without_X7_laysBy
theorem dX7_without_0 : decode cX7_without 0 = .ok (.iload_n 1, 1) := by decide +kernel
theorem dX7_without_1 : decode cX7_without 1 = .ok (.i2l, 1) := by decide +kernel
theorem dX7_without_2 : decode cX7_without 2 = .ok (.lconst 1, 1) := by decide +kernel
theorem dX7_without_3 : decode cX7_without 3 = .ok (.ldc2_w 186, 3) := by decide +kernel
theorem dX7_without_6 : decode cX7_without 6 = .ok (.invokestatic 65, 3) := by decide +kernel
theorem dX7_without_9 : decode cX7_without 9 = .ok (.ifCond .eq 13, 3) := by decide +kernel
theorem dX7_without_12 : decode cX7_without 12 = .ok (.iload_n 2, 1) := by decide +kernel
theorem dX7_without_13 : decode cX7_without 13 = .ok (.i2l, 1) := by decide +kernel
theorem dX7_without_14 : decode cX7_without 14 = .ok (.lconst 0, 1) := by decide +kernel
theorem dX7_without_15 : decode cX7_without 15 = .ok (.lconst 1, 1) := by decide +kernel
theorem dX7_without_16 : decode cX7_without 16 = .ok (.invokestatic 65, 3) := by decide +kernel
theorem dX7_without_19 : decode cX7_without 19 = .ok (.ifCond .ne 6, 3) := by decide +kernel
theorem dX7_without_22 : decode cX7_without 22 = .ok (.ldc 80, 2) := by decide +kernel
theorem dX7_without_24 : decode cX7_without 24 = .ok (.ireturn, 1) := by decide +kernel
theorem dX7_without_25 : decode cX7_without 25 = .ok (.aload_n 0, 1) := by decide +kernel
theorem dX7_without_26 : decode cX7_without 26 = .ok (.invokevirtual 175, 3) := by decide +kernel
theorem dX7_without_29 : decode cX7_without 29 = .ok (.iconst (-1), 1) := by decide +kernel
theorem dX7_without_30 : decode cX7_without 30 = .ok (.istore_n 3, 1) := by decide +kernel
theorem dX7_without_31 : decode cX7_without 31 = .ok (.iconst 0, 1) := by decide +kernel
theorem dX7_without_32 : decode cX7_without 32 = .ok (.istore 4, 2) := by decide +kernel
theorem dX7_without_34 : decode cX7_without 34 = .ok (.iconst 0, 1) := by decide +kernel
theorem dX7_without_35 : decode cX7_without 35 = .ok (.istore 5, 2) := by decide +kernel
theorem dX7_without_37 : decode cX7_without 37 = .ok (.iload 5, 2) := by decide +kernel
theorem dX7_without_39 : decode cX7_without 39 = .ok (.aload_n 0, 1) := by decide +kernel
theorem dX7_without_40 : decode cX7_without 40 = .ok (.getfield 7, 3) := by decide +kernel
theorem dX7_without_43 : decode cX7_without 43 = .ok (.iconst 0, 1) := by decide +kernel
theorem dX7_without_44 : decode cX7_without 44 = .ok (.iaload, 1) := by decide +kernel
theorem dX7_without_45 : decode cX7_without 45 = .ok (.if_icmp .ge 52, 3) := by decide +kernel
theorem dX7_without_97 : decode cX7_without 97 = .ok (.iload_n 3, 1) := by decide +kernel
theorem dX7_without_98 : decode cX7_without 98 = .ok (.ifCond .ge 8, 3) := by decide +kernel
theorem dX7_without_101 : decode cX7_without 101 = .ok (.ldc 64, 2) := by decide +kernel
theorem dX7_without_103 : decode cX7_without 103 = .ok (.goto 13, 3) := by decide +kernel
theorem dX7_without_116 : decode cX7_without 116 = .ok (.ireturn, 1) := by decide +kernel
set_option maxRecDepth 20000 in
theorem ggX7_fee_X7_counts : GoodIn wsX7_fee wsX7_counts := goodIn_r _ [7, 1, 8, 9, 10, 6, 11, 20, 21, 22, 23, 24, 25, 26, 27, 28, 29, 30, 31, 32, 33, 34, 35, 36, 37, 38, 39, 40, 41, 42, 43, 44, 45, 46, 47, 48, 49, 50] (by decide +kernel) (by decide +kernel)
set_option maxRecDepth 20000 in
theorem gX7_fee_X7_counts : GoodIn wsX7_fee (wsV RX7 96 RX7 yX7_counts wsX7_counts) := goodIn_app (goodIn_of _ (by decide +kernel)) ggX7_fee_X7_counts
theorem dX7_fee_0 : decode cX7_fee 0 = .ok (.aload_n 0, 1) := by decide +kernel
theorem dX7_fee_1 : decode cX7_fee 1 = .ok (.iconst 1, 1) := by decide +kernel
theorem dX7_fee_2 : decode cX7_fee 2 = .ok (.invokevirtual 96, 3) := by decide +kernel
theorem dX7_fee_5 : decode cX7_fee 5 = .ok (.istore_n 1, 1) := by decide +kernel
theorem dX7_fee_6 : decode cX7_fee 6 = .ok (.iload_n 1, 1) := by decide +kernel
theorem dX7_fee_7 : decode cX7_fee 7 = .ok (.ifCond .ge 10, 3) := by decide +kernel
theorem dX7_fee_10 : decode cX7_fee 10 = .ok (.aload_n 0, 1) := by decide +kernel
theorem dX7_fee_11 : decode cX7_fee 11 = .ok (.getfield 7, 3) := by decide +kernel
theorem dX7_fee_14 : decode cX7_fee 14 = .ok (.iconst 3, 1) := by decide +kernel
theorem dX7_fee_15 : decode cX7_fee 15 = .ok (.iaload, 1) := by decide +kernel
theorem dX7_fee_16 : decode cX7_fee 16 = .ok (.ireturn, 1) := by decide +kernel
set_option maxRecDepth 20000 in
theorem ggX7_fine_X7_isStall : GoodIn wsX7_fine wsX7_isStall := goodIn_r _ [7, 8, 9, 10, 6, 11, 40, 41, 42, 43, 44, 45, 46, 47, 48, 49, 50, 51, 52, 53, 54, 55, 56, 57, 58, 59, 60, 61, 62, 63, 64, 65, 66, 67, 68, 69, 70] (by decide +kernel) (by decide +kernel)
set_option maxRecDepth 20000 in
theorem gX7_fine_X7_isStall : GoodIn wsX7_fine (wsV RX7 116 RX7 yX7_isStall wsX7_isStall) := goodIn_app (goodIn_of _ (by decide +kernel)) ggX7_fine_X7_isStall
theorem dX7_fine_0 : decode cX7_fine 0 = .ok (.aload_n 0, 1) := by decide +kernel
theorem dX7_fine_1 : decode cX7_fine 1 = .ok (.iload_n 1, 1) := by decide +kernel
theorem dX7_fine_2 : decode cX7_fine 2 = .ok (.invokevirtual 116, 3) := by decide +kernel
theorem dX7_fine_5 : decode cX7_fine 5 = .ok (.ifCond .ne 6, 3) := by decide +kernel
theorem dX7_fine_8 : decode cX7_fine 8 = .ok (.ldc 80, 2) := by decide +kernel
theorem dX7_fine_10 : decode cX7_fine 10 = .ok (.ireturn, 1) := by decide +kernel
theorem dX7_feed_0 : decode cX7_feed 0 = .ok (.aload_n 0, 1) := by decide +kernel
theorem dX7_feed_1 : decode cX7_feed 1 = .ok (.getfield 188, 3) := by decide +kernel
theorem dX7_feed_4 : decode cX7_feed 4 = .ok (.bipush 12, 2) := by decide +kernel
theorem dX7_feed_6 : decode cX7_feed 6 = .ok (.iadd, 1) := by decide +kernel
theorem dX7_feed_7 : decode cX7_feed 7 = .ok (.bipush 96, 2) := by decide +kernel
theorem dX7_feed_9 : decode cX7_feed 9 = .ok (.if_icmp .le 6, 3) := by decide +kernel
theorem dX7_feed_15 : decode cX7_feed 15 = .ok (.iconst 0, 1) := by decide +kernel
theorem dX7_feed_16 : decode cX7_feed 16 = .ok (.istore 4, 2) := by decide +kernel
theorem dX7_feed_18 : decode cX7_feed 18 = .ok (.iload 4, 2) := by decide +kernel
theorem dX7_feed_20 : decode cX7_feed 20 = .ok (.bipush 12, 2) := by decide +kernel
theorem dX7_feed_22 : decode cX7_feed 22 = .ok (.if_icmp .ge 69, 3) := by decide +kernel
theorem dX7_feed_25 : decode cX7_feed 25 = .ok (.iload 4, 2) := by decide +kernel
theorem dX7_feed_27 : decode cX7_feed 27 = .ok (.iconst 4, 1) := by decide +kernel
theorem dX7_feed_28 : decode cX7_feed 28 = .ok (.if_icmp .ge 7, 3) := by decide +kernel
theorem dX7_feed_31 : decode cX7_feed 31 = .ok (.iload_n 1, 1) := by decide +kernel
theorem dX7_feed_32 : decode cX7_feed 32 = .ok (.goto 15, 3) := by decide +kernel
theorem dX7_feed_35 : decode cX7_feed 35 = .ok (.iload 4, 2) := by decide +kernel
theorem dX7_feed_37 : decode cX7_feed 37 = .ok (.bipush 8, 2) := by decide +kernel
theorem dX7_feed_39 : decode cX7_feed 39 = .ok (.if_icmp .ge 7, 3) := by decide +kernel
theorem dX7_feed_42 : decode cX7_feed 42 = .ok (.iload_n 2, 1) := by decide +kernel
theorem dX7_feed_43 : decode cX7_feed 43 = .ok (.goto 4, 3) := by decide +kernel
theorem dX7_feed_46 : decode cX7_feed 46 = .ok (.iload_n 3, 1) := by decide +kernel
theorem dX7_feed_47 : decode cX7_feed 47 = .ok (.istore 5, 2) := by decide +kernel
theorem dX7_feed_49 : decode cX7_feed 49 = .ok (.aload_n 0, 1) := by decide +kernel
theorem dX7_feed_50 : decode cX7_feed 50 = .ok (.getfield 46, 3) := by decide +kernel
theorem dX7_feed_53 : decode cX7_feed 53 = .ok (.aload_n 0, 1) := by decide +kernel
theorem dX7_feed_54 : decode cX7_feed 54 = .ok (.getfield 188, 3) := by decide +kernel
theorem dX7_feed_57 : decode cX7_feed 57 = .ok (.iload 5, 2) := by decide +kernel
theorem dX7_feed_59 : decode cX7_feed 59 = .ok (.bipush 24, 2) := by decide +kernel
theorem dX7_feed_61 : decode cX7_feed 61 = .ok (.bipush 8, 2) := by decide +kernel
theorem dX7_feed_63 : decode cX7_feed 63 = .ok (.iload 4, 2) := by decide +kernel
theorem dX7_feed_65 : decode cX7_feed 65 = .ok (.iconst 4, 1) := by decide +kernel
theorem dX7_feed_66 : decode cX7_feed 66 = .ok (.irem, 1) := by decide +kernel
theorem dX7_feed_67 : decode cX7_feed 67 = .ok (.imul, 1) := by decide +kernel
theorem dX7_feed_68 : decode cX7_feed 68 = .ok (.isub, 1) := by decide +kernel
theorem dX7_feed_69 : decode cX7_feed 69 = .ok (.ishr, 1) := by decide +kernel
theorem dX7_feed_70 : decode cX7_feed 70 = .ok (.sipush 255, 3) := by decide +kernel
theorem dX7_feed_73 : decode cX7_feed 73 = .ok (.iand, 1) := by decide +kernel
theorem dX7_feed_74 : decode cX7_feed 74 = .ok (.iastore, 1) := by decide +kernel
theorem dX7_feed_75 : decode cX7_feed 75 = .ok (.aload_n 0, 1) := by decide +kernel
theorem dX7_feed_76 : decode cX7_feed 76 = .ok (.dup, 1) := by decide +kernel
theorem dX7_feed_77 : decode cX7_feed 77 = .ok (.getfield 188, 3) := by decide +kernel
theorem dX7_feed_80 : decode cX7_feed 80 = .ok (.iconst 1, 1) := by decide +kernel
theorem dX7_feed_81 : decode cX7_feed 81 = .ok (.iadd, 1) := by decide +kernel
theorem dX7_feed_82 : decode cX7_feed 82 = .ok (.putfield 188, 3) := by decide +kernel
theorem dX7_feed_85 : decode cX7_feed 85 = .ok (.iinc 4 1, 3) := by decide +kernel
theorem dX7_feed_88 : decode cX7_feed 88 = .ok (.goto (-70), 3) := by decide +kernel
theorem dX7_feed_91 : decode cX7_feed 91 = .ok (.aload_n 0, 1) := by decide +kernel
theorem dX7_feed_92 : decode cX7_feed 92 = .ok (.getfield 188, 3) := by decide +kernel
theorem dX7_feed_95 : decode cX7_feed 95 = .ok (.ireturn, 1) := by decide +kernel
set_option maxRecDepth 20000 in
theorem ggX7_trim_X7_isIn : GoodIn wsX7_trim wsX7_isIn := goodIn_r _ [6] (by decide +kernel) (by decide +kernel)
set_option maxRecDepth 20000 in
theorem gX7_trim_X7_isIn : GoodIn wsX7_trim (va_wsS RX7 65 yX7_isIn wsX7_isIn) := goodIn_app (goodIn_of _ (by decide +kernel)) ggX7_trim_X7_isIn
theorem dX7_trim_0 : decode cX7_trim 0 = .ok (.iload_n 1, 1) := by decide +kernel
theorem dX7_trim_1 : decode cX7_trim 1 = .ok (.i2l, 1) := by decide +kernel
theorem dX7_trim_2 : decode cX7_trim 2 = .ok (.lconst 0, 1) := by decide +kernel
theorem dX7_trim_3 : decode cX7_trim 3 = .ok (.aload_n 0, 1) := by decide +kernel
theorem dX7_trim_4 : decode cX7_trim 4 = .ok (.getfield 188, 3) := by decide +kernel
theorem dX7_trim_7 : decode cX7_trim 7 = .ok (.i2l, 1) := by decide +kernel
theorem dX7_trim_8 : decode cX7_trim 8 = .ok (.invokestatic 65, 3) := by decide +kernel
theorem dX7_trim_11 : decode cX7_trim 11 = .ok (.ifCond .ne 6, 3) := by decide +kernel
theorem dX7_trim_14 : decode cX7_trim 14 = .ok (.ldc 80, 2) := by decide +kernel
theorem dX7_trim_16 : decode cX7_trim 16 = .ok (.ireturn, 1) := by decide +kernel
theorem dX7_trim_17 : decode cX7_trim 17 = .ok (.aload_n 0, 1) := by decide +kernel
theorem dX7_trim_18 : decode cX7_trim 18 = .ok (.iload_n 1, 1) := by decide +kernel
theorem dX7_trim_19 : decode cX7_trim 19 = .ok (.putfield 188, 3) := by decide +kernel
theorem dX7_trim_22 : decode cX7_trim 22 = .ok (.iload_n 1, 1) := by decide +kernel
theorem dX7_trim_23 : decode cX7_trim 23 = .ok (.ireturn, 1) := by decide +kernel
theorem dX7_nextToken_0 : decode cX7_nextToken 0 = .ok (.aload_n 0, 1) := by decide +kernel
theorem dX7_nextToken_1 : decode cX7_nextToken 1 = .ok (.getfield 200, 3) := by decide +kernel
theorem dX7_nextToken_4 : decode cX7_nextToken 4 = .ok (.ifCond .le 23, 3) := by decide +kernel
theorem dX7_nextToken_27 : decode cX7_nextToken 27 = .ok (.iconst 0, 1) := by decide +kernel
theorem dX7_nextToken_28 : decode cX7_nextToken 28 = .ok (.istore_n 1, 1) := by decide +kernel
theorem dX7_nextToken_29 : decode cX7_nextToken 29 = .ok (.aload_n 0, 1) := by decide +kernel
theorem dX7_nextToken_30 : decode cX7_nextToken 30 = .ok (.getfield 200, 3) := by decide +kernel
theorem dX7_nextToken_33 : decode cX7_nextToken 33 = .ok (.istore_n 2, 1) := by decide +kernel
theorem dX7_nextToken_34 : decode cX7_nextToken 34 = .ok (.aload_n 0, 1) := by decide +kernel
theorem dX7_nextToken_35 : decode cX7_nextToken 35 = .ok (.getfield 200, 3) := by decide +kernel
theorem dX7_nextToken_38 : decode cX7_nextToken 38 = .ok (.aload_n 0, 1) := by decide +kernel
theorem dX7_nextToken_39 : decode cX7_nextToken 39 = .ok (.getfield 188, 3) := by decide +kernel
theorem dX7_nextToken_42 : decode cX7_nextToken 42 = .ok (.if_icmp .ge 30, 3) := by decide +kernel
theorem dX7_nextToken_72 : decode cX7_nextToken 72 = .ok (.iload_n 1, 1) := by decide +kernel
theorem dX7_nextToken_73 : decode cX7_nextToken 73 = .ok (.ifCond .eq 15, 3) := by decide +kernel
theorem dX7_nextToken_88 : decode cX7_nextToken 88 = .ok (.iconst 0, 1) := by decide +kernel
theorem dX7_nextToken_89 : decode cX7_nextToken 89 = .ok (.istore_n 1, 1) := by decide +kernel
theorem dX7_nextToken_90 : decode cX7_nextToken 90 = .ok (.aload_n 0, 1) := by decide +kernel
theorem dX7_nextToken_91 : decode cX7_nextToken 91 = .ok (.aload_n 0, 1) := by decide +kernel
theorem dX7_nextToken_92 : decode cX7_nextToken 92 = .ok (.getfield 200, 3) := by decide +kernel
theorem dX7_nextToken_95 : decode cX7_nextToken 95 = .ok (.putfield 206, 3) := by decide +kernel
theorem dX7_nextToken_98 : decode cX7_nextToken 98 = .ok (.aload_n 0, 1) := by decide +kernel
theorem dX7_nextToken_99 : decode cX7_nextToken 99 = .ok (.getfield 206, 3) := by decide +kernel
theorem dX7_nextToken_102 : decode cX7_nextToken 102 = .ok (.aload_n 0, 1) := by decide +kernel
theorem dX7_nextToken_103 : decode cX7_nextToken 103 = .ok (.getfield 188, 3) := by decide +kernel
theorem dX7_nextToken_106 : decode cX7_nextToken 106 = .ok (.if_icmp .ne 11, 3) := by decide +kernel
theorem dX7_nextToken_109 : decode cX7_nextToken 109 = .ok (.aload_n 0, 1) := by decide +kernel
theorem dX7_nextToken_110 : decode cX7_nextToken 110 = .ok (.iconst 0, 1) := by decide +kernel
theorem dX7_nextToken_111 : decode cX7_nextToken 111 = .ok (.putfield 203, 3) := by decide +kernel
theorem dX7_nextToken_114 : decode cX7_nextToken 114 = .ok (.goto 225, 3) := by decide +kernel
theorem dX7_nextToken_339 : decode cX7_nextToken 339 = .ok (.return_, 1) := by decide +kernel
theorem dX7_isWordAt_0 : decode cX7_isWordAt 0 = .ok (.iload 4, 2) := by decide +kernel
theorem dX7_isWordAt_2 : decode cX7_isWordAt 2 = .ok (.ifCond .ne 7, 3) := by decide +kernel
theorem dX7_isWordAt_5 : decode cX7_isWordAt 5 = .ok (.iconst 3, 1) := by decide +kernel
theorem dX7_isWordAt_6 : decode cX7_isWordAt 6 = .ok (.goto 4, 3) := by decide +kernel
theorem dX7_isWordAt_9 : decode cX7_isWordAt 9 = .ok (.iconst 4, 1) := by decide +kernel
theorem dX7_isWordAt_10 : decode cX7_isWordAt 10 = .ok (.istore 5, 2) := by decide +kernel
theorem dX7_isWordAt_12 : decode cX7_isWordAt 12 = .ok (.aload_n 0, 1) := by decide +kernel
theorem dX7_isWordAt_13 : decode cX7_isWordAt 13 = .ok (.getfield 203, 3) := by decide +kernel
theorem dX7_isWordAt_16 : decode cX7_isWordAt 16 = .ok (.iconst 1, 1) := by decide +kernel
theorem dX7_isWordAt_17 : decode cX7_isWordAt 17 = .ok (.if_icmp .ne 85, 3) := by decide +kernel
theorem dX7_isWordAt_102 : decode cX7_isWordAt 102 = .ok (.iconst 0, 1) := by decide +kernel
theorem dX7_isWordAt_103 : decode cX7_isWordAt 103 = .ok (.ireturn, 1) := by decide +kernel
set_option maxRecDepth 20000 in
theorem ggX7_key_X7_isWordAt : GoodIn wsX7_key wsX7_isWordAt := goodIn_r _ [5, 6, 7, 8, 9, 10, 11, 12, 13, 14, 15, 16, 17, 18, 19, 20, 21, 22, 23, 24, 25, 26, 27, 28, 29, 30, 31, 32, 33, 34, 35, 36, 37, 38, 39, 40] (by decide +kernel) (by decide +kernel)
set_option maxRecDepth 20000 in
theorem gX7_key_X7_isWordAt : GoodIn wsX7_key (wsV RX7 221 RX7 yX7_isWordAt wsX7_isWordAt) := goodIn_app (goodIn_of _ (by decide +kernel)) ggX7_key_X7_isWordAt
theorem dX7_key_0 : decode cX7_key 0 = .ok (.aload_n 0, 1) := by decide +kernel
theorem dX7_key_1 : decode cX7_key 1 = .ok (.bipush 109, 2) := by decide +kernel
theorem dX7_key_3 : decode cX7_key 3 = .ok (.bipush 101, 2) := by decide +kernel
theorem dX7_key_5 : decode cX7_key 5 = .ok (.bipush 108, 2) := by decide +kernel
theorem dX7_key_7 : decode cX7_key 7 = .ok (.bipush 116, 2) := by decide +kernel
theorem dX7_key_9 : decode cX7_key 9 = .ok (.invokevirtual 221, 3) := by decide +kernel
theorem dX7_key_12 : decode cX7_key 12 = .ok (.ifCond .eq 5, 3) := by decide +kernel
theorem dX7_key_17 : decode cX7_key 17 = .ok (.aload_n 0, 1) := by decide +kernel
theorem dX7_key_18 : decode cX7_key 18 = .ok (.bipush 102, 2) := by decide +kernel
theorem dX7_key_20 : decode cX7_key 20 = .ok (.bipush 101, 2) := by decide +kernel
theorem dX7_key_22 : decode cX7_key 22 = .ok (.bipush 101, 2) := by decide +kernel
theorem dX7_key_24 : decode cX7_key 24 = .ok (.iconst 0, 1) := by decide +kernel
theorem dX7_key_25 : decode cX7_key 25 = .ok (.invokevirtual 221, 3) := by decide +kernel
theorem dX7_key_28 : decode cX7_key 28 = .ok (.ifCond .eq 5, 3) := by decide +kernel
theorem dX7_key_33 : decode cX7_key 33 = .ok (.aload_n 0, 1) := by decide +kernel
theorem dX7_key_34 : decode cX7_key 34 = .ok (.bipush 102, 2) := by decide +kernel
theorem dX7_key_36 : decode cX7_key 36 = .ok (.bipush 105, 2) := by decide +kernel
theorem dX7_key_38 : decode cX7_key 38 = .ok (.bipush 110, 2) := by decide +kernel
theorem dX7_key_40 : decode cX7_key 40 = .ok (.bipush 101, 2) := by decide +kernel
theorem dX7_key_42 : decode cX7_key 42 = .ok (.invokevirtual 221, 3) := by decide +kernel
theorem dX7_key_45 : decode cX7_key 45 = .ok (.ifCond .eq 7, 3) := by decide +kernel
theorem dX7_key_52 : decode cX7_key 52 = .ok (.iconst (-1), 1) := by decide +kernel
theorem dX7_key_53 : decode cX7_key 53 = .ok (.ireturn, 1) := by decide +kernel
set_option maxRecDepth 20000 in
theorem ggX7_parse_X7_textAt : GoodIn wsX7_parse wsX7_textAt := goodIn_r _ [14] (by decide +kernel) (by decide +kernel)
set_option maxRecDepth 20000 in
theorem gX7_parse_X7_textAt : GoodIn wsX7_parse (wsV RX7 271 RX7 yX7_textAt wsX7_textAt) := goodIn_app (goodIn_of _ (by decide +kernel)) ggX7_parse_X7_textAt
set_option maxRecDepth 20000 in
theorem ggX7_parse_X7_nextToken : GoodIn wsX7_parse wsX7_nextToken := goodIn_r _ [18, 1, 2, 9, 19, 20, 21, 22, 23, 24, 25, 13, 26, 27, 28, 29, 30, 31, 32, 33, 34, 35, 36, 37, 81, 82, 83, 84, 85, 86, 87, 88, 89, 90, 91, 92, 93, 94, 95, 96, 97, 98, 99, 100, 101, 102, 103, 104, 105, 106, 107, 108, 109, 110, 111] (by decide +kernel) (by decide +kernel)
set_option maxRecDepth 20000 in
theorem gX7_parse_X7_nextToken : GoodIn wsX7_parse (wsV RX7 237 RX7 yX7_nextToken wsX7_nextToken) := goodIn_app (goodIn_of _ (by decide +kernel)) ggX7_parse_X7_nextToken
set_option maxRecDepth 20000 in
theorem ggX7_parse_X7_key : GoodIn wsX7_parse wsX7_key := goodIn_r _ [41, 42, 43, 44, 13, 45, 2, 1, 20, 19, 81, 82, 83, 84, 85, 86, 87, 88, 89, 90, 91, 92, 93, 94, 95, 96, 97, 98, 99, 100, 101, 102, 103, 104, 105, 106, 107, 108, 109, 110, 111] (by decide +kernel) (by decide +kernel)
set_option maxRecDepth 20000 in
theorem gX7_parse_X7_key : GoodIn wsX7_parse (wsV RX7 274 RX7 yX7_key wsX7_key) := goodIn_app (goodIn_of _ (by decide +kernel)) ggX7_parse_X7_key
theorem dX7_parse_0 : decode cX7_parse 0 = .ok (.aload_n 0, 1) := by decide +kernel
theorem dX7_parse_1 : decode cX7_parse 1 = .ok (.iconst 0, 1) := by decide +kernel
theorem dX7_parse_2 : decode cX7_parse 2 = .ok (.putfield 200, 3) := by decide +kernel
theorem dX7_parse_5 : decode cX7_parse 5 = .ok (.aload_n 0, 1) := by decide +kernel
theorem dX7_parse_6 : decode cX7_parse 6 = .ok (.iconst 3, 1) := by decide +kernel
theorem dX7_parse_7 : decode cX7_parse 7 = .ok (.putfield 203, 3) := by decide +kernel
theorem dX7_parse_10 : decode cX7_parse 10 = .ok (.aload_n 0, 1) := by decide +kernel
theorem dX7_parse_11 : decode cX7_parse 11 = .ok (.iconst 0, 1) := by decide +kernel
theorem dX7_parse_12 : decode cX7_parse 12 = .ok (.putfield 265, 3) := by decide +kernel
theorem dX7_parse_15 : decode cX7_parse 15 = .ok (.aload_n 0, 1) := by decide +kernel
theorem dX7_parse_16 : decode cX7_parse 16 = .ok (.iconst 0, 1) := by decide +kernel
theorem dX7_parse_17 : decode cX7_parse 17 = .ok (.putfield 262, 3) := by decide +kernel
theorem dX7_parse_20 : decode cX7_parse 20 = .ok (.aload_n 0, 1) := by decide +kernel
theorem dX7_parse_21 : decode cX7_parse 21 = .ok (.iconst 0, 1) := by decide +kernel
theorem dX7_parse_22 : decode cX7_parse 22 = .ok (.putfield 228, 3) := by decide +kernel
theorem dX7_parse_25 : decode cX7_parse 25 = .ok (.aload_n 0, 1) := by decide +kernel
theorem dX7_parse_26 : decode cX7_parse 26 = .ok (.iconst 0, 1) := by decide +kernel
theorem dX7_parse_27 : decode cX7_parse 27 = .ok (.putfield 256, 3) := by decide +kernel
theorem dX7_parse_30 : decode cX7_parse 30 = .ok (.aload_n 0, 1) := by decide +kernel
theorem dX7_parse_31 : decode cX7_parse 31 = .ok (.aload_n 0, 1) := by decide +kernel
theorem dX7_parse_32 : decode cX7_parse 32 = .ok (.getfield 7, 3) := by decide +kernel
theorem dX7_parse_35 : decode cX7_parse 35 = .ok (.iconst 1, 1) := by decide +kernel
theorem dX7_parse_36 : decode cX7_parse 36 = .ok (.iaload, 1) := by decide +kernel
theorem dX7_parse_37 : decode cX7_parse 37 = .ok (.bipush 14, 2) := by decide +kernel
theorem dX7_parse_39 : decode cX7_parse 39 = .ok (.if_icmp .ge 18, 3) := by decide +kernel
theorem dX7_parse_42 : decode cX7_parse 42 = .ok (.aload_n 0, 1) := by decide +kernel
theorem dX7_parse_43 : decode cX7_parse 43 = .ok (.aload_n 0, 1) := by decide +kernel
theorem dX7_parse_44 : decode cX7_parse 44 = .ok (.getfield 7, 3) := by decide +kernel
theorem dX7_parse_47 : decode cX7_parse 47 = .ok (.iconst 1, 1) := by decide +kernel
theorem dX7_parse_48 : decode cX7_parse 48 = .ok (.iaload, 1) := by decide +kernel
theorem dX7_parse_49 : decode cX7_parse 49 = .ok (.invokevirtual 271, 3) := by decide +kernel
theorem dX7_parse_52 : decode cX7_parse 52 = .ok (.iconst 4, 1) := by decide +kernel
theorem dX7_parse_53 : decode cX7_parse 53 = .ok (.iadd, 1) := by decide +kernel
theorem dX7_parse_54 : decode cX7_parse 54 = .ok (.goto 6, 3) := by decide +kernel
theorem dX7_parse_60 : decode cX7_parse 60 = .ok (.putfield 225, 3) := by decide +kernel
theorem dX7_parse_63 : decode cX7_parse 63 = .ok (.aload_n 0, 1) := by decide +kernel
theorem dX7_parse_64 : decode cX7_parse 64 = .ok (.invokevirtual 237, 3) := by decide +kernel
theorem dX7_parse_67 : decode cX7_parse 67 = .ok (.aload_n 0, 1) := by decide +kernel
theorem dX7_parse_68 : decode cX7_parse 68 = .ok (.invokevirtual 274, 3) := by decide +kernel
theorem dX7_parse_71 : decode cX7_parse 71 = .ok (.istore_n 1, 1) := by decide +kernel
theorem dX7_parse_72 : decode cX7_parse 72 = .ok (.iload_n 1, 1) := by decide +kernel
theorem dX7_parse_73 : decode cX7_parse 73 = .ok (.ifCond .lt 7, 3) := by decide +kernel
theorem dX7_parse_80 : decode cX7_parse 80 = .ok (.iconst 0, 1) := by decide +kernel
theorem dX7_parse_81 : decode cX7_parse 81 = .ok (.istore_n 2, 1) := by decide +kernel
theorem dX7_parse_82 : decode cX7_parse 82 = .ok (.iload_n 2, 1) := by decide +kernel
theorem dX7_parse_83 : decode cX7_parse 83 = .ok (.ifCond .eq 28, 3) := by decide +kernel
theorem dX7_parse_111 : decode cX7_parse 111 = .ok (.aload_n 0, 1) := by decide +kernel
theorem dX7_parse_112 : decode cX7_parse 112 = .ok (.iconst 0, 1) := by decide +kernel
theorem dX7_parse_113 : decode cX7_parse 113 = .ok (.putfield 188, 3) := by decide +kernel
theorem dX7_parse_116 : decode cX7_parse 116 = .ok (.iload_n 2, 1) := by decide +kernel
theorem dX7_parse_117 : decode cX7_parse 117 = .ok (.ifCond .eq 7, 3) := by decide +kernel
theorem dX7_parse_124 : decode cX7_parse 124 = .ok (.iconst (-1), 1) := by decide +kernel
theorem dX7_parse_125 : decode cX7_parse 125 = .ok (.ireturn, 1) := by decide +kernel
set_option maxRecDepth 20000 in
theorem ggX7_text_X7_parse : GoodIn wsX7_text wsX7_parse := goodIn_r _ [10, 11, 12, 13, 14, 5, 4, 2, 15, 16, 17, 18, 19, 9, 20, 21, 22, 23, 24, 25, 1, 26, 27, 28, 29, 30, 31, 32, 33, 34, 35, 36, 37, 38, 39, 40, 41, 42, 43, 44, 45, 46, 47, 48, 49, 50, 51, 52, 53, 54, 55, 56, 57, 58, 59, 60, 61, 62, 63, 64, 65, 66, 67, 68, 69, 70, 71, 72, 73, 74, 75, 76, 77, 78, 79, 80, 81, 82, 83, 84, 85, 86, 87, 88, 89, 90, 91, 92, 93, 94, 95, 96, 97, 98, 99, 100, 101, 102, 103, 104, 105, 106, 107, 108, 109, 110, 111, 112, 113, 114, 115, 116] (by decide +kernel) (by decide +kernel)
set_option maxRecDepth 20000 in
theorem gX7_text_X7_parse : GoodIn wsX7_text (wsV RX7 277 RX7 yX7_parse wsX7_parse) := goodIn_app (goodIn_of _ (by decide +kernel)) ggX7_text_X7_parse
theorem dX7_text_0 : decode cX7_text 0 = .ok (.aload_n 0, 1) := by decide +kernel
theorem dX7_text_1 : decode cX7_text 1 = .ok (.invokevirtual 277, 3) := by decide +kernel
theorem dX7_text_4 : decode cX7_text 4 = .ok (.istore_n 1, 1) := by decide +kernel
theorem dX7_text_5 : decode cX7_text 5 = .ok (.iload_n 1, 1) := by decide +kernel
theorem dX7_text_6 : decode cX7_text 6 = .ok (.ifCond .ge 11, 3) := by decide +kernel
theorem dX7_text_9 : decode cX7_text 9 = .ok (.bipush (-100), 2) := by decide +kernel
theorem dX7_text_11 : decode cX7_text 11 = .ok (.aload_n 0, 1) := by decide +kernel
theorem dX7_text_12 : decode cX7_text 12 = .ok (.getfield 206, 3) := by decide +kernel
theorem dX7_text_15 : decode cX7_text 15 = .ok (.isub, 1) := by decide +kernel
theorem dX7_text_16 : decode cX7_text 16 = .ok (.ireturn, 1) := by decide +kernel
set_option maxRecDepth 20000 in
theorem ggX7_textTold_X7_isText : GoodIn wsX7_textTold wsX7_isText := goodIn_r _ [7, 2, 8, 9, 6, 10, 15, 16, 17, 18, 19, 20, 21, 22, 23, 24, 25, 26, 27, 28, 29, 30, 31, 32, 33, 34, 35, 36, 37, 38, 39, 40, 41, 42, 43, 44, 45] (by decide +kernel) (by decide +kernel)
set_option maxRecDepth 20000 in
theorem gX7_textTold_X7_isText : GoodIn wsX7_textTold (wsV RX7 280 RX7 yX7_isText wsX7_isText) := goodIn_app (goodIn_of _ (by decide +kernel)) ggX7_textTold_X7_isText
theorem dX7_textTold_0 : decode cX7_textTold 0 = .ok (.aload_n 0, 1) := by decide +kernel
theorem dX7_textTold_1 : decode cX7_textTold 1 = .ok (.iload_n 1, 1) := by decide +kernel
theorem dX7_textTold_2 : decode cX7_textTold 2 = .ok (.invokevirtual 280, 3) := by decide +kernel
theorem dX7_textTold_5 : decode cX7_textTold 5 = .ok (.ifCond .eq 13, 3) := by decide +kernel
theorem dX7_textTold_18 : decode cX7_textTold 18 = .ok (.ldc 80, 2) := by decide +kernel
theorem dX7_textTold_20 : decode cX7_textTold 20 = .ok (.ireturn, 1) := by decide +kernel
theorem dX7_counts_0 : decode cX7_counts 0 = .ok (.iconst (-1), 1) := by decide +kernel
theorem dX7_counts_1 : decode cX7_counts 1 = .ok (.istore_n 2, 1) := by decide +kernel
theorem dX7_counts_2 : decode cX7_counts 2 = .ok (.iconst 0, 1) := by decide +kernel
theorem dX7_counts_3 : decode cX7_counts 3 = .ok (.istore_n 3, 1) := by decide +kernel
theorem dX7_counts_4 : decode cX7_counts 4 = .ok (.iload_n 3, 1) := by decide +kernel
theorem dX7_counts_5 : decode cX7_counts 5 = .ok (.aload_n 0, 1) := by decide +kernel
theorem dX7_counts_6 : decode cX7_counts 6 = .ok (.getfield 7, 3) := by decide +kernel
theorem dX7_counts_9 : decode cX7_counts 9 = .ok (.iconst 1, 1) := by decide +kernel
theorem dX7_counts_10 : decode cX7_counts 10 = .ok (.iaload, 1) := by decide +kernel
theorem dX7_counts_11 : decode cX7_counts 11 = .ok (.if_icmp .ge 29, 3) := by decide +kernel
theorem dX7_counts_40 : decode cX7_counts 40 = .ok (.iload_n 2, 1) := by decide +kernel
theorem dX7_counts_41 : decode cX7_counts 41 = .ok (.ireturn, 1) := by decide +kernel
set_option maxRecDepth 20000 in
theorem ggX7_why_X7_isIn : GoodIn wsX7_why wsX7_isIn := goodIn_r _ [6] (by decide +kernel) (by decide +kernel)
set_option maxRecDepth 20000 in
theorem gX7_why_X7_isIn : GoodIn wsX7_why (va_wsS RX7 65 yX7_isIn wsX7_isIn) := goodIn_app (goodIn_of _ (by decide +kernel)) ggX7_why_X7_isIn
set_option maxRecDepth 20000 in
theorem ggX7_why_X7_counts : GoodIn wsX7_why wsX7_counts := goodIn_r _ [10, 11, 12, 13, 14, 5, 15, 20, 21, 22, 23, 24, 25, 26, 27, 28, 29, 30, 31, 32, 33, 34, 35, 36, 37, 38, 39, 40, 41, 42, 43, 44, 45, 46, 47, 48, 49, 50] (by decide +kernel) (by decide +kernel)
set_option maxRecDepth 20000 in
theorem gX7_why_X7_counts : GoodIn wsX7_why (wsV RX7 96 RX7 yX7_counts wsX7_counts) := goodIn_app (goodIn_of _ (by decide +kernel)) ggX7_why_X7_counts
set_option maxRecDepth 20000 in
theorem ggX7_why_X7_orNone : GoodIn wsX7_why wsX7_orNone := goodIn_r _ [18, 19] (by decide +kernel) (by decide +kernel)
set_option maxRecDepth 20000 in
theorem gX7_why_X7_orNone : GoodIn wsX7_why (va_wsS RX7 140 yX7_orNone wsX7_orNone) := goodIn_app (goodIn_of _ (by decide +kernel)) ggX7_why_X7_orNone
theorem dX7_why_0 : decode cX7_why 0 = .ok (.iload_n 1, 1) := by decide +kernel
theorem dX7_why_1 : decode cX7_why 1 = .ok (.i2l, 1) := by decide +kernel
theorem dX7_why_2 : decode cX7_why 2 = .ok (.lconst 0, 1) := by decide +kernel
theorem dX7_why_3 : decode cX7_why 3 = .ok (.ldc2_w 283, 3) := by decide +kernel
theorem dX7_why_6 : decode cX7_why 6 = .ok (.invokestatic 65, 3) := by decide +kernel
theorem dX7_why_9 : decode cX7_why 9 = .ok (.ifCond .eq 14, 3) := by decide +kernel
theorem dX7_why_12 : decode cX7_why 12 = .ok (.aload_n 0, 1) := by decide +kernel
theorem dX7_why_13 : decode cX7_why 13 = .ok (.iload_n 1, 1) := by decide +kernel
theorem dX7_why_14 : decode cX7_why 14 = .ok (.invokevirtual 96, 3) := by decide +kernel
theorem dX7_why_17 : decode cX7_why 17 = .ok (.invokestatic 140, 3) := by decide +kernel
theorem dX7_why_20 : decode cX7_why 20 = .ok (.goto 5, 3) := by decide +kernel
theorem dX7_why_23 : decode cX7_why 23 = .ok (.ldc 80, 2) := by decide +kernel
theorem dX7_why_25 : decode cX7_why 25 = .ok (.ireturn, 1) := by decide +kernel
set_option maxRecDepth 20000 in
theorem ggX7_isSheet_X7_isIn : GoodIn wsX7_isSheet wsX7_isIn := goodIn_r _ [5] (by decide +kernel) (by decide +kernel)
set_option maxRecDepth 20000 in
theorem gX7_isSheet_X7_isIn : GoodIn wsX7_isSheet (va_wsS RX7 65 yX7_isIn wsX7_isIn) := goodIn_app (goodIn_of _ (by decide +kernel)) ggX7_isSheet_X7_isIn
theorem dX7_isSheet_0 : decode cX7_isSheet 0 = .ok (.iload_n 0, 1) := by decide +kernel
theorem dX7_isSheet_1 : decode cX7_isSheet 1 = .ok (.i2l, 1) := by decide +kernel
theorem dX7_isSheet_2 : decode cX7_isSheet 2 = .ok (.lconst 0, 1) := by decide +kernel
theorem dX7_isSheet_3 : decode cX7_isSheet 3 = .ok (.ldc2_w 133, 3) := by decide +kernel
theorem dX7_isSheet_6 : decode cX7_isSheet 6 = .ok (.invokestatic 65, 3) := by decide +kernel
theorem dX7_isSheet_9 : decode cX7_isSheet 9 = .ok (.ireturn, 1) := by decide +kernel
set_option maxRecDepth 20000 in
theorem ggX7_sheet_X7_isSheet : GoodIn wsX7_sheet wsX7_isSheet := goodIn_r _ [10, 11, 12, 13, 9, 14] (by decide +kernel) (by decide +kernel)
set_option maxRecDepth 20000 in
theorem gX7_sheet_X7_isSheet : GoodIn wsX7_sheet (va_wsS RX7 289 yX7_isSheet wsX7_isSheet) := goodIn_app (goodIn_of _ (by decide +kernel)) ggX7_sheet_X7_isSheet
set_option maxRecDepth 20000 in
theorem ggX7_sheet_X7_isIn : GoodIn wsX7_sheet wsX7_isIn := goodIn_r _ [14] (by decide +kernel) (by decide +kernel)
set_option maxRecDepth 20000 in
theorem gX7_sheet_X7_isIn : GoodIn wsX7_sheet (va_wsS RX7 65 yX7_isIn wsX7_isIn) := goodIn_app (goodIn_of _ (by decide +kernel)) ggX7_sheet_X7_isIn
theorem dX7_sheet_0 : decode cX7_sheet 0 = .ok (.iload_n 1, 1) := by decide +kernel
theorem dX7_sheet_1 : decode cX7_sheet 1 = .ok (.invokestatic 289, 3) := by decide +kernel
theorem dX7_sheet_4 : decode cX7_sheet 4 = .ok (.ifCond .eq 25, 3) := by decide +kernel
theorem dX7_sheet_7 : decode cX7_sheet 7 = .ok (.iload_n 2, 1) := by decide +kernel
theorem dX7_sheet_8 : decode cX7_sheet 8 = .ok (.i2l, 1) := by decide +kernel
theorem dX7_sheet_9 : decode cX7_sheet 9 = .ok (.ldc2_w 292, 3) := by decide +kernel
theorem dX7_sheet_12 : decode cX7_sheet 12 = .ok (.lconst 1, 1) := by decide +kernel
theorem dX7_sheet_13 : decode cX7_sheet 13 = .ok (.invokestatic 65, 3) := by decide +kernel
theorem dX7_sheet_16 : decode cX7_sheet 16 = .ok (.ifCond .eq 13, 3) := by decide +kernel
theorem dX7_sheet_19 : decode cX7_sheet 19 = .ok (.iload_n 2, 1) := by decide +kernel
theorem dX7_sheet_20 : decode cX7_sheet 20 = .ok (.ifCond .lt 12, 3) := by decide +kernel
theorem dX7_sheet_23 : decode cX7_sheet 23 = .ok (.iload_n 3, 1) := by decide +kernel
theorem dX7_sheet_24 : decode cX7_sheet 24 = .ok (.bipush 24, 2) := by decide +kernel
theorem dX7_sheet_26 : decode cX7_sheet 26 = .ok (.if_icmp .le 6, 3) := by decide +kernel
theorem dX7_sheet_29 : decode cX7_sheet 29 = .ok (.ldc 80, 2) := by decide +kernel
theorem dX7_sheet_31 : decode cX7_sheet 31 = .ok (.ireturn, 1) := by decide +kernel
theorem dX7_sheet_32 : decode cX7_sheet 32 = .ok (.iload_n 2, 1) := by decide +kernel
theorem dX7_sheet_33 : decode cX7_sheet 33 = .ok (.ifCond .lt 11, 3) := by decide +kernel
theorem dX7_sheet_36 : decode cX7_sheet 36 = .ok (.iload_n 3, 1) := by decide +kernel
theorem dX7_sheet_37 : decode cX7_sheet 37 = .ok (.ifCond .ge 7, 3) := by decide +kernel
theorem dX7_sheet_40 : decode cX7_sheet 40 = .ok (.ldc_w 294, 3) := by decide +kernel
theorem dX7_sheet_43 : decode cX7_sheet 43 = .ok (.ireturn, 1) := by decide +kernel
theorem dX7_sheet_44 : decode cX7_sheet 44 = .ok (.aload_n 0, 1) := by decide +kernel
theorem dX7_sheet_45 : decode cX7_sheet 45 = .ok (.getfield 19, 3) := by decide +kernel
theorem dX7_sheet_48 : decode cX7_sheet 48 = .ok (.iload_n 1, 1) := by decide +kernel
theorem dX7_sheet_49 : decode cX7_sheet 49 = .ok (.iload_n 2, 1) := by decide +kernel
theorem dX7_sheet_50 : decode cX7_sheet 50 = .ok (.iastore, 1) := by decide +kernel
theorem dX7_sheet_51 : decode cX7_sheet 51 = .ok (.aload_n 0, 1) := by decide +kernel
theorem dX7_sheet_52 : decode cX7_sheet 52 = .ok (.getfield 22, 3) := by decide +kernel
theorem dX7_sheet_55 : decode cX7_sheet 55 = .ok (.iload_n 1, 1) := by decide +kernel
theorem dX7_sheet_56 : decode cX7_sheet 56 = .ok (.iload_n 2, 1) := by decide +kernel
theorem dX7_sheet_57 : decode cX7_sheet 57 = .ok (.ifCond .ge 7, 3) := by decide +kernel
theorem dX7_sheet_60 : decode cX7_sheet 60 = .ok (.iconst 0, 1) := by decide +kernel
theorem dX7_sheet_61 : decode cX7_sheet 61 = .ok (.goto 4, 3) := by decide +kernel
theorem dX7_sheet_64 : decode cX7_sheet 64 = .ok (.iload_n 3, 1) := by decide +kernel
theorem dX7_sheet_65 : decode cX7_sheet 65 = .ok (.iastore, 1) := by decide +kernel
theorem dX7_sheet_66 : decode cX7_sheet 66 = .ok (.iconst 0, 1) := by decide +kernel
theorem dX7_sheet_67 : decode cX7_sheet 67 = .ok (.istore 4, 2) := by decide +kernel
theorem dX7_sheet_69 : decode cX7_sheet 69 = .ok (.iload 4, 2) := by decide +kernel
theorem dX7_sheet_71 : decode cX7_sheet 71 = .ok (.bipush 24, 2) := by decide +kernel
theorem dX7_sheet_73 : decode cX7_sheet 73 = .ok (.if_icmp .ge 22, 3) := by decide +kernel
theorem dX7_sheet_76 : decode cX7_sheet 76 = .ok (.aload_n 0, 1) := by decide +kernel
theorem dX7_sheet_77 : decode cX7_sheet 77 = .ok (.getfield 25, 3) := by decide +kernel
theorem dX7_sheet_80 : decode cX7_sheet 80 = .ok (.bipush 24, 2) := by decide +kernel
theorem dX7_sheet_82 : decode cX7_sheet 82 = .ok (.iload_n 1, 1) := by decide +kernel
theorem dX7_sheet_83 : decode cX7_sheet 83 = .ok (.imul, 1) := by decide +kernel
theorem dX7_sheet_84 : decode cX7_sheet 84 = .ok (.iload 4, 2) := by decide +kernel
theorem dX7_sheet_86 : decode cX7_sheet 86 = .ok (.iadd, 1) := by decide +kernel
theorem dX7_sheet_87 : decode cX7_sheet 87 = .ok (.iconst 0, 1) := by decide +kernel
theorem dX7_sheet_88 : decode cX7_sheet 88 = .ok (.iastore, 1) := by decide +kernel
theorem dX7_sheet_89 : decode cX7_sheet 89 = .ok (.iinc 4 1, 3) := by decide +kernel
theorem dX7_sheet_92 : decode cX7_sheet 92 = .ok (.goto (-23), 3) := by decide +kernel
theorem dX7_sheet_95 : decode cX7_sheet 95 = .ok (.aload_n 0, 1) := by decide +kernel
theorem dX7_sheet_96 : decode cX7_sheet 96 = .ok (.getfield 22, 3) := by decide +kernel
theorem dX7_sheet_99 : decode cX7_sheet 99 = .ok (.iload_n 1, 1) := by decide +kernel
theorem dX7_sheet_100 : decode cX7_sheet 100 = .ok (.iaload, 1) := by decide +kernel
theorem dX7_sheet_101 : decode cX7_sheet 101 = .ok (.ireturn, 1) := by decide +kernel
set_option maxRecDepth 20000 in
theorem ggX7_mark_X7_isSheet : GoodIn wsX7_mark wsX7_isSheet := goodIn_r _ [14, 15, 16, 17, 13, 18] (by decide +kernel) (by decide +kernel)
set_option maxRecDepth 20000 in
theorem gX7_mark_X7_isSheet : GoodIn wsX7_mark (va_wsS RX7 289 yX7_isSheet wsX7_isSheet) := goodIn_app (goodIn_of _ (by decide +kernel)) ggX7_mark_X7_isSheet
theorem dX7_mark_0 : decode cX7_mark 0 = .ok (.iload_n 1, 1) := by decide +kernel
theorem dX7_mark_1 : decode cX7_mark 1 = .ok (.invokestatic 289, 3) := by decide +kernel
theorem dX7_mark_4 : decode cX7_mark 4 = .ok (.ifCond .ne 6, 3) := by decide +kernel
theorem dX7_mark_7 : decode cX7_mark 7 = .ok (.ldc 80, 2) := by decide +kernel
theorem dX7_mark_9 : decode cX7_mark 9 = .ok (.ireturn, 1) := by decide +kernel
theorem dX7_mark_10 : decode cX7_mark 10 = .ok (.aload_n 0, 1) := by decide +kernel
theorem dX7_mark_11 : decode cX7_mark 11 = .ok (.getfield 19, 3) := by decide +kernel
theorem dX7_mark_14 : decode cX7_mark 14 = .ok (.iload_n 1, 1) := by decide +kernel
theorem dX7_mark_15 : decode cX7_mark 15 = .ok (.iaload, 1) := by decide +kernel
theorem dX7_mark_16 : decode cX7_mark 16 = .ok (.ifCond .ge 7, 3) := by decide +kernel
theorem dX7_mark_19 : decode cX7_mark 19 = .ok (.ldc_w 295, 3) := by decide +kernel
theorem dX7_mark_22 : decode cX7_mark 22 = .ok (.ireturn, 1) := by decide +kernel
set_option maxRecDepth 20000 in
theorem ggX7_pour_X7_isSheet : GoodIn wsX7_pour wsX7_isSheet := goodIn_r _ [11, 12, 13, 14, 10, 15] (by decide +kernel) (by decide +kernel)
set_option maxRecDepth 20000 in
theorem gX7_pour_X7_isSheet : GoodIn wsX7_pour (va_wsS RX7 289 yX7_isSheet wsX7_isSheet) := goodIn_app (goodIn_of _ (by decide +kernel)) ggX7_pour_X7_isSheet
theorem dX7_pour_0 : decode cX7_pour 0 = .ok (.iload_n 1, 1) := by decide +kernel
theorem dX7_pour_1 : decode cX7_pour 1 = .ok (.invokestatic 289, 3) := by decide +kernel
theorem dX7_pour_4 : decode cX7_pour 4 = .ok (.ifCond .ne 6, 3) := by decide +kernel
theorem dX7_pour_7 : decode cX7_pour 7 = .ok (.ldc 80, 2) := by decide +kernel
theorem dX7_pour_9 : decode cX7_pour 9 = .ok (.ireturn, 1) := by decide +kernel
theorem dX7_pour_10 : decode cX7_pour 10 = .ok (.aload_n 0, 1) := by decide +kernel
theorem dX7_pour_11 : decode cX7_pour 11 = .ok (.getfield 19, 3) := by decide +kernel
theorem dX7_pour_14 : decode cX7_pour 14 = .ok (.iload_n 1, 1) := by decide +kernel
theorem dX7_pour_15 : decode cX7_pour 15 = .ok (.iaload, 1) := by decide +kernel
theorem dX7_pour_16 : decode cX7_pour 16 = .ok (.ifCond .ge 7, 3) := by decide +kernel
theorem dX7_pour_19 : decode cX7_pour 19 = .ok (.ldc_w 295, 3) := by decide +kernel
theorem dX7_pour_22 : decode cX7_pour 22 = .ok (.ireturn, 1) := by decide +kernel
set_option maxRecDepth 20000 in
theorem ggX7_reads_X7_isSheet : GoodIn wsX7_reads wsX7_isSheet := goodIn_r _ [11, 12, 13, 14, 10, 15] (by decide +kernel) (by decide +kernel)
set_option maxRecDepth 20000 in
theorem gX7_reads_X7_isSheet : GoodIn wsX7_reads (va_wsS RX7 289 yX7_isSheet wsX7_isSheet) := goodIn_app (goodIn_of _ (by decide +kernel)) ggX7_reads_X7_isSheet
theorem dX7_reads_0 : decode cX7_reads 0 = .ok (.iload_n 1, 1) := by decide +kernel
theorem dX7_reads_1 : decode cX7_reads 1 = .ok (.invokestatic 289, 3) := by decide +kernel
theorem dX7_reads_4 : decode cX7_reads 4 = .ok (.ifCond .ne 6, 3) := by decide +kernel
theorem dX7_reads_7 : decode cX7_reads 7 = .ok (.ldc 80, 2) := by decide +kernel
theorem dX7_reads_9 : decode cX7_reads 9 = .ok (.ireturn, 1) := by decide +kernel
theorem dX7_reads_10 : decode cX7_reads 10 = .ok (.aload_n 0, 1) := by decide +kernel
theorem dX7_reads_11 : decode cX7_reads 11 = .ok (.getfield 19, 3) := by decide +kernel
theorem dX7_reads_14 : decode cX7_reads 14 = .ok (.iload_n 1, 1) := by decide +kernel
theorem dX7_reads_15 : decode cX7_reads 15 = .ok (.iaload, 1) := by decide +kernel
theorem dX7_reads_16 : decode cX7_reads 16 = .ok (.ifCond .ge 7, 3) := by decide +kernel
theorem dX7_reads_19 : decode cX7_reads 19 = .ok (.ldc_w 295, 3) := by decide +kernel
theorem dX7_reads_22 : decode cX7_reads 22 = .ok (.ireturn, 1) := by decide +kernel
set_option maxRecDepth 20000 in
theorem ggX7_whose_X7_isSheet : GoodIn wsX7_whose wsX7_isSheet := goodIn_r _ [12, 13, 14, 15, 11, 16] (by decide +kernel) (by decide +kernel)
set_option maxRecDepth 20000 in
theorem gX7_whose_X7_isSheet : GoodIn wsX7_whose (va_wsS RX7 289 yX7_isSheet wsX7_isSheet) := goodIn_app (goodIn_of _ (by decide +kernel)) ggX7_whose_X7_isSheet
set_option maxRecDepth 20000 in
theorem ggX7_whose_X7_isIn : GoodIn wsX7_whose wsX7_isIn := goodIn_r _ [16] (by decide +kernel) (by decide +kernel)
set_option maxRecDepth 20000 in
theorem gX7_whose_X7_isIn : GoodIn wsX7_whose (va_wsS RX7 65 yX7_isIn wsX7_isIn) := goodIn_app (goodIn_of _ (by decide +kernel)) ggX7_whose_X7_isIn
theorem dX7_whose_0 : decode cX7_whose 0 = .ok (.iload_n 1, 1) := by decide +kernel
theorem dX7_whose_1 : decode cX7_whose 1 = .ok (.invokestatic 289, 3) := by decide +kernel
theorem dX7_whose_4 : decode cX7_whose 4 = .ok (.ifCond .eq 25, 3) := by decide +kernel
theorem dX7_whose_7 : decode cX7_whose 7 = .ok (.iload_n 2, 1) := by decide +kernel
theorem dX7_whose_8 : decode cX7_whose 8 = .ok (.i2l, 1) := by decide +kernel
theorem dX7_whose_9 : decode cX7_whose 9 = .ok (.lconst 0, 1) := by decide +kernel
theorem dX7_whose_10 : decode cX7_whose 10 = .ok (.ldc2_w 186, 3) := by decide +kernel
theorem dX7_whose_13 : decode cX7_whose 13 = .ok (.invokestatic 65, 3) := by decide +kernel
theorem dX7_whose_16 : decode cX7_whose 16 = .ok (.ifCond .eq 13, 3) := by decide +kernel
theorem dX7_whose_19 : decode cX7_whose 19 = .ok (.iload_n 3, 1) := by decide +kernel
theorem dX7_whose_20 : decode cX7_whose 20 = .ok (.i2l, 1) := by decide +kernel
theorem dX7_whose_21 : decode cX7_whose 21 = .ok (.lconst 0, 1) := by decide +kernel
theorem dX7_whose_22 : decode cX7_whose 22 = .ok (.lconst 1, 1) := by decide +kernel
theorem dX7_whose_23 : decode cX7_whose 23 = .ok (.invokestatic 65, 3) := by decide +kernel
theorem dX7_whose_26 : decode cX7_whose 26 = .ok (.ifCond .ne 6, 3) := by decide +kernel
theorem dX7_whose_29 : decode cX7_whose 29 = .ok (.ldc 80, 2) := by decide +kernel
theorem dX7_whose_31 : decode cX7_whose 31 = .ok (.ireturn, 1) := by decide +kernel
theorem dX7_whose_32 : decode cX7_whose 32 = .ok (.aload_n 0, 1) := by decide +kernel
theorem dX7_whose_33 : decode cX7_whose 33 = .ok (.getfield 19, 3) := by decide +kernel
theorem dX7_whose_36 : decode cX7_whose 36 = .ok (.iload_n 1, 1) := by decide +kernel
theorem dX7_whose_37 : decode cX7_whose 37 = .ok (.iaload, 1) := by decide +kernel
theorem dX7_whose_38 : decode cX7_whose 38 = .ok (.ifCond .ge 7, 3) := by decide +kernel
theorem dX7_whose_41 : decode cX7_whose 41 = .ok (.ldc_w 295, 3) := by decide +kernel
theorem dX7_whose_44 : decode cX7_whose 44 = .ok (.ireturn, 1) := by decide +kernel
set_option maxRecDepth 20000 in
theorem ggX7_copy_X7_isSheet : GoodIn wsX7_copy wsX7_isSheet := goodIn_r _ [12, 13, 14, 15, 11, 16] (by decide +kernel) (by decide +kernel)
set_option maxRecDepth 20000 in
theorem gX7_copy_X7_isSheet : GoodIn wsX7_copy (va_wsS RX7 289 yX7_isSheet wsX7_isSheet) := goodIn_app (goodIn_of _ (by decide +kernel)) ggX7_copy_X7_isSheet
theorem dX7_copy_0 : decode cX7_copy 0 = .ok (.iload_n 1, 1) := by decide +kernel
theorem dX7_copy_1 : decode cX7_copy 1 = .ok (.invokestatic 289, 3) := by decide +kernel
theorem dX7_copy_4 : decode cX7_copy 4 = .ok (.ifCond .eq 10, 3) := by decide +kernel
theorem dX7_copy_7 : decode cX7_copy 7 = .ok (.iload_n 3, 1) := by decide +kernel
theorem dX7_copy_8 : decode cX7_copy 8 = .ok (.invokestatic 289, 3) := by decide +kernel
theorem dX7_copy_11 : decode cX7_copy 11 = .ok (.ifCond .ne 6, 3) := by decide +kernel
theorem dX7_copy_14 : decode cX7_copy 14 = .ok (.ldc 80, 2) := by decide +kernel
theorem dX7_copy_16 : decode cX7_copy 16 = .ok (.ireturn, 1) := by decide +kernel
theorem dX7_copy_17 : decode cX7_copy 17 = .ok (.aload_n 0, 1) := by decide +kernel
theorem dX7_copy_18 : decode cX7_copy 18 = .ok (.getfield 19, 3) := by decide +kernel
theorem dX7_copy_21 : decode cX7_copy 21 = .ok (.iload_n 1, 1) := by decide +kernel
theorem dX7_copy_22 : decode cX7_copy 22 = .ok (.iaload, 1) := by decide +kernel
theorem dX7_copy_23 : decode cX7_copy 23 = .ok (.ifCond .lt 12, 3) := by decide +kernel
theorem dX7_copy_35 : decode cX7_copy 35 = .ok (.ldc_w 295, 3) := by decide +kernel
theorem dX7_copy_38 : decode cX7_copy 38 = .ok (.ireturn, 1) := by decide +kernel
set_option maxRecDepth 20000 in
theorem ggX7_isSlot_X7_isIn : GoodIn wsX7_isSlot wsX7_isIn := goodIn_r _ [5] (by decide +kernel) (by decide +kernel)
set_option maxRecDepth 20000 in
theorem gX7_isSlot_X7_isIn : GoodIn wsX7_isSlot (va_wsS RX7 65 yX7_isIn wsX7_isIn) := goodIn_app (goodIn_of _ (by decide +kernel)) ggX7_isSlot_X7_isIn
theorem dX7_isSlot_0 : decode cX7_isSlot 0 = .ok (.iload_n 0, 1) := by decide +kernel
theorem dX7_isSlot_1 : decode cX7_isSlot 1 = .ok (.i2l, 1) := by decide +kernel
theorem dX7_isSlot_2 : decode cX7_isSlot 2 = .ok (.lconst 0, 1) := by decide +kernel
theorem dX7_isSlot_3 : decode cX7_isSlot 3 = .ok (.ldc2_w 301, 3) := by decide +kernel
theorem dX7_isSlot_6 : decode cX7_isSlot 6 = .ok (.invokestatic 65, 3) := by decide +kernel
theorem dX7_isSlot_9 : decode cX7_isSlot 9 = .ok (.ireturn, 1) := by decide +kernel
set_option maxRecDepth 20000 in
theorem ggX7_lay_X7_isStall : GoodIn wsX7_lay wsX7_isStall := goodIn_r _ [15, 16, 17, 18, 14, 19, 36, 37, 38, 39, 40, 41, 42, 43, 44, 45, 46, 47, 48, 49, 50, 51, 52, 53, 54, 55, 56, 57, 58, 59, 60, 61, 62, 63, 64, 65, 66] (by decide +kernel) (by decide +kernel)
set_option maxRecDepth 20000 in
theorem gX7_lay_X7_isStall : GoodIn wsX7_lay (wsV RX7 116 RX7 yX7_isStall wsX7_isStall) := goodIn_app (goodIn_of _ (by decide +kernel)) ggX7_lay_X7_isStall
set_option maxRecDepth 20000 in
theorem ggX7_lay_X7_isSheet : GoodIn wsX7_lay wsX7_isSheet := goodIn_r _ [22, 23, 17, 18, 14, 19] (by decide +kernel) (by decide +kernel)
set_option maxRecDepth 20000 in
theorem gX7_lay_X7_isSheet : GoodIn wsX7_lay (va_wsS RX7 289 yX7_isSheet wsX7_isSheet) := goodIn_app (goodIn_of _ (by decide +kernel)) ggX7_lay_X7_isSheet
set_option maxRecDepth 20000 in
theorem ggX7_lay_X7_isSlot : GoodIn wsX7_lay wsX7_isSlot := goodIn_r _ [26, 27, 17, 18, 14, 19] (by decide +kernel) (by decide +kernel)
set_option maxRecDepth 20000 in
theorem gX7_lay_X7_isSlot : GoodIn wsX7_lay (va_wsS RX7 303 yX7_isSlot wsX7_isSlot) := goodIn_app (goodIn_of _ (by decide +kernel)) ggX7_lay_X7_isSlot
theorem dX7_lay_0 : decode cX7_lay 0 = .ok (.iload_n 2, 1) := by decide +kernel
theorem dX7_lay_1 : decode cX7_lay 1 = .ok (.ifCond .eq 33, 3) := by decide +kernel
theorem dX7_lay_4 : decode cX7_lay 4 = .ok (.iload_n 2, 1) := by decide +kernel
theorem dX7_lay_5 : decode cX7_lay 5 = .ok (.iconst 3, 1) := by decide +kernel
theorem dX7_lay_6 : decode cX7_lay 6 = .ok (.if_icmp .eq 28, 3) := by decide +kernel
theorem dX7_lay_9 : decode cX7_lay 9 = .ok (.iload_n 2, 1) := by decide +kernel
theorem dX7_lay_10 : decode cX7_lay 10 = .ok (.iconst 1, 1) := by decide +kernel
theorem dX7_lay_11 : decode cX7_lay 11 = .ok (.if_icmp .ne 11, 3) := by decide +kernel
theorem dX7_lay_14 : decode cX7_lay 14 = .ok (.aload_n 0, 1) := by decide +kernel
theorem dX7_lay_15 : decode cX7_lay 15 = .ok (.iload_n 3, 1) := by decide +kernel
theorem dX7_lay_16 : decode cX7_lay 16 = .ok (.invokevirtual 116, 3) := by decide +kernel
theorem dX7_lay_19 : decode cX7_lay 19 = .ok (.ifCond .ne 15, 3) := by decide +kernel
theorem dX7_lay_22 : decode cX7_lay 22 = .ok (.iload_n 2, 1) := by decide +kernel
theorem dX7_lay_23 : decode cX7_lay 23 = .ok (.iconst 2, 1) := by decide +kernel
theorem dX7_lay_24 : decode cX7_lay 24 = .ok (.if_icmp .ne 14, 3) := by decide +kernel
theorem dX7_lay_27 : decode cX7_lay 27 = .ok (.iload_n 3, 1) := by decide +kernel
theorem dX7_lay_28 : decode cX7_lay 28 = .ok (.invokestatic 289, 3) := by decide +kernel
theorem dX7_lay_31 : decode cX7_lay 31 = .ok (.ifCond .eq 7, 3) := by decide +kernel
theorem dX7_lay_34 : decode cX7_lay 34 = .ok (.iconst 1, 1) := by decide +kernel
theorem dX7_lay_35 : decode cX7_lay 35 = .ok (.goto 4, 3) := by decide +kernel
theorem dX7_lay_38 : decode cX7_lay 38 = .ok (.iconst 0, 1) := by decide +kernel
theorem dX7_lay_39 : decode cX7_lay 39 = .ok (.istore 4, 2) := by decide +kernel
theorem dX7_lay_41 : decode cX7_lay 41 = .ok (.iload_n 1, 1) := by decide +kernel
theorem dX7_lay_42 : decode cX7_lay 42 = .ok (.invokestatic 303, 3) := by decide +kernel
theorem dX7_lay_45 : decode cX7_lay 45 = .ok (.ifCond .eq 8, 3) := by decide +kernel
theorem dX7_lay_48 : decode cX7_lay 48 = .ok (.iload 4, 2) := by decide +kernel
theorem dX7_lay_50 : decode cX7_lay 50 = .ok (.ifCond .ne 6, 3) := by decide +kernel
theorem dX7_lay_53 : decode cX7_lay 53 = .ok (.ldc 80, 2) := by decide +kernel
theorem dX7_lay_55 : decode cX7_lay 55 = .ok (.ireturn, 1) := by decide +kernel
theorem dX7_lay_56 : decode cX7_lay 56 = .ok (.iload_n 2, 1) := by decide +kernel
theorem dX7_lay_57 : decode cX7_lay 57 = .ok (.iconst 2, 1) := by decide +kernel
theorem dX7_lay_58 : decode cX7_lay 58 = .ok (.if_icmp .ne 16, 3) := by decide +kernel
theorem dX7_lay_61 : decode cX7_lay 61 = .ok (.aload_n 0, 1) := by decide +kernel
theorem dX7_lay_62 : decode cX7_lay 62 = .ok (.getfield 19, 3) := by decide +kernel
theorem dX7_lay_65 : decode cX7_lay 65 = .ok (.iload_n 3, 1) := by decide +kernel
theorem dX7_lay_66 : decode cX7_lay 66 = .ok (.iaload, 1) := by decide +kernel
theorem dX7_lay_67 : decode cX7_lay 67 = .ok (.ifCond .ge 7, 3) := by decide +kernel
theorem dX7_lay_70 : decode cX7_lay 70 = .ok (.ldc_w 295, 3) := by decide +kernel
theorem dX7_lay_73 : decode cX7_lay 73 = .ok (.ireturn, 1) := by decide +kernel
theorem dX7_lay_74 : decode cX7_lay 74 = .ok (.aload_n 0, 1) := by decide +kernel
theorem dX7_lay_75 : decode cX7_lay 75 = .ok (.getfield 28, 3) := by decide +kernel
theorem dX7_lay_78 : decode cX7_lay 78 = .ok (.iload_n 1, 1) := by decide +kernel
theorem dX7_lay_79 : decode cX7_lay 79 = .ok (.iaload, 1) := by decide +kernel
theorem dX7_lay_80 : decode cX7_lay 80 = .ok (.istore 5, 2) := by decide +kernel
theorem dX7_lay_82 : decode cX7_lay 82 = .ok (.aload_n 0, 1) := by decide +kernel
theorem dX7_lay_83 : decode cX7_lay 83 = .ok (.getfield 28, 3) := by decide +kernel
theorem dX7_lay_86 : decode cX7_lay 86 = .ok (.iload_n 1, 1) := by decide +kernel
theorem dX7_lay_87 : decode cX7_lay 87 = .ok (.iload_n 2, 1) := by decide +kernel
theorem dX7_lay_88 : decode cX7_lay 88 = .ok (.iastore, 1) := by decide +kernel
theorem dX7_lay_89 : decode cX7_lay 89 = .ok (.aload_n 0, 1) := by decide +kernel
theorem dX7_lay_90 : decode cX7_lay 90 = .ok (.getfield 31, 3) := by decide +kernel
theorem dX7_lay_93 : decode cX7_lay 93 = .ok (.iload_n 1, 1) := by decide +kernel
theorem dX7_lay_94 : decode cX7_lay 94 = .ok (.iload_n 2, 1) := by decide +kernel
theorem dX7_lay_95 : decode cX7_lay 95 = .ok (.iconst 1, 1) := by decide +kernel
theorem dX7_lay_96 : decode cX7_lay 96 = .ok (.if_icmp .ne 12, 3) := by decide +kernel
theorem dX7_lay_108 : decode cX7_lay 108 = .ok (.iload_n 3, 1) := by decide +kernel
theorem dX7_lay_109 : decode cX7_lay 109 = .ok (.iastore, 1) := by decide +kernel
theorem dX7_lay_110 : decode cX7_lay 110 = .ok (.aload_n 0, 1) := by decide +kernel
theorem dX7_lay_111 : decode cX7_lay 111 = .ok (.getfield 34, 3) := by decide +kernel
theorem dX7_lay_114 : decode cX7_lay 114 = .ok (.iload_n 1, 1) := by decide +kernel
theorem dX7_lay_115 : decode cX7_lay 115 = .ok (.iload_n 2, 1) := by decide +kernel
theorem dX7_lay_116 : decode cX7_lay 116 = .ok (.iconst 1, 1) := by decide +kernel
theorem dX7_lay_117 : decode cX7_lay 117 = .ok (.if_icmp .ne 11, 3) := by decide +kernel
theorem dX7_lay_128 : decode cX7_lay 128 = .ok (.iconst 0, 1) := by decide +kernel
theorem dX7_lay_129 : decode cX7_lay 129 = .ok (.iastore, 1) := by decide +kernel
theorem dX7_lay_130 : decode cX7_lay 130 = .ok (.iload_n 2, 1) := by decide +kernel
theorem dX7_lay_131 : decode cX7_lay 131 = .ok (.iconst 2, 1) := by decide +kernel
theorem dX7_lay_132 : decode cX7_lay 132 = .ok (.if_icmp .ne 55, 3) := by decide +kernel
theorem dX7_lay_187 : decode cX7_lay 187 = .ok (.iload 5, 2) := by decide +kernel
theorem dX7_lay_189 : decode cX7_lay 189 = .ok (.ireturn, 1) := by decide +kernel
set_option maxRecDepth 20000 in
theorem ggX7_ask_X7_isSlot : GoodIn wsX7_ask wsX7_isSlot := goodIn_r _ [11, 12, 13, 14, 10, 15] (by decide +kernel) (by decide +kernel)
set_option maxRecDepth 20000 in
theorem gX7_ask_X7_isSlot : GoodIn wsX7_ask (va_wsS RX7 303 yX7_isSlot wsX7_isSlot) := goodIn_app (goodIn_of _ (by decide +kernel)) ggX7_ask_X7_isSlot
set_option maxRecDepth 20000 in
theorem ggX7_ask_X7_isIn : GoodIn wsX7_ask wsX7_isIn := goodIn_r _ [15] (by decide +kernel) (by decide +kernel)
set_option maxRecDepth 20000 in
theorem gX7_ask_X7_isIn : GoodIn wsX7_ask (va_wsS RX7 65 yX7_isIn wsX7_isIn) := goodIn_app (goodIn_of _ (by decide +kernel)) ggX7_ask_X7_isIn
theorem dX7_ask_0 : decode cX7_ask 0 = .ok (.iload_n 1, 1) := by decide +kernel
theorem dX7_ask_1 : decode cX7_ask 1 = .ok (.invokestatic 303, 3) := by decide +kernel
theorem dX7_ask_4 : decode cX7_ask 4 = .ok (.ifCond .eq 15, 3) := by decide +kernel
theorem dX7_ask_7 : decode cX7_ask 7 = .ok (.iload_n 2, 1) := by decide +kernel
theorem dX7_ask_8 : decode cX7_ask 8 = .ok (.i2l, 1) := by decide +kernel
theorem dX7_ask_9 : decode cX7_ask 9 = .ok (.lconst 0, 1) := by decide +kernel
theorem dX7_ask_10 : decode cX7_ask 10 = .ok (.ldc2_w 74, 3) := by decide +kernel
theorem dX7_ask_13 : decode cX7_ask 13 = .ok (.invokestatic 65, 3) := by decide +kernel
theorem dX7_ask_16 : decode cX7_ask 16 = .ok (.ifCond .ne 6, 3) := by decide +kernel
theorem dX7_ask_19 : decode cX7_ask 19 = .ok (.ldc 80, 2) := by decide +kernel
theorem dX7_ask_21 : decode cX7_ask 21 = .ok (.ireturn, 1) := by decide +kernel
theorem dX7_ask_22 : decode cX7_ask 22 = .ok (.aload_n 0, 1) := by decide +kernel
theorem dX7_ask_23 : decode cX7_ask 23 = .ok (.getfield 28, 3) := by decide +kernel
theorem dX7_ask_26 : decode cX7_ask 26 = .ok (.iload_n 1, 1) := by decide +kernel
theorem dX7_ask_27 : decode cX7_ask 27 = .ok (.iaload, 1) := by decide +kernel
theorem dX7_ask_28 : decode cX7_ask 28 = .ok (.ifCond .ne 7, 3) := by decide +kernel
theorem dX7_ask_31 : decode cX7_ask 31 = .ok (.ldc_w 295, 3) := by decide +kernel
theorem dX7_ask_34 : decode cX7_ask 34 = .ok (.ireturn, 1) := by decide +kernel
set_option maxRecDepth 20000 in
theorem ggX7_item_X7_isSlot : GoodIn wsX7_item wsX7_isSlot := goodIn_r _ [12, 13, 14, 15, 11, 16] (by decide +kernel) (by decide +kernel)
set_option maxRecDepth 20000 in
theorem gX7_item_X7_isSlot : GoodIn wsX7_item (va_wsS RX7 303 yX7_isSlot wsX7_isSlot) := goodIn_app (goodIn_of _ (by decide +kernel)) ggX7_item_X7_isSlot
theorem dX7_item_0 : decode cX7_item 0 = .ok (.iload_n 1, 1) := by decide +kernel
theorem dX7_item_1 : decode cX7_item 1 = .ok (.invokestatic 303, 3) := by decide +kernel
theorem dX7_item_4 : decode cX7_item 4 = .ok (.ifCond .ne 6, 3) := by decide +kernel
theorem dX7_item_7 : decode cX7_item 7 = .ok (.ldc 80, 2) := by decide +kernel
theorem dX7_item_9 : decode cX7_item 9 = .ok (.ireturn, 1) := by decide +kernel
theorem dX7_item_10 : decode cX7_item 10 = .ok (.aload_n 0, 1) := by decide +kernel
theorem dX7_item_11 : decode cX7_item 11 = .ok (.getfield 28, 3) := by decide +kernel
theorem dX7_item_14 : decode cX7_item 14 = .ok (.iload_n 1, 1) := by decide +kernel
theorem dX7_item_15 : decode cX7_item 15 = .ok (.iaload, 1) := by decide +kernel
theorem dX7_item_16 : decode cX7_item 16 = .ok (.iconst 2, 1) := by decide +kernel
theorem dX7_item_17 : decode cX7_item 17 = .ok (.if_icmp .eq 21, 3) := by decide +kernel
theorem dX7_item_20 : decode cX7_item 20 = .ok (.aload_n 0, 1) := by decide +kernel
theorem dX7_item_21 : decode cX7_item 21 = .ok (.getfield 28, 3) := by decide +kernel
theorem dX7_item_24 : decode cX7_item 24 = .ok (.iload_n 1, 1) := by decide +kernel
theorem dX7_item_25 : decode cX7_item 25 = .ok (.iaload, 1) := by decide +kernel
theorem dX7_item_26 : decode cX7_item 26 = .ok (.ifCond .ne 9, 3) := by decide +kernel
theorem dX7_item_29 : decode cX7_item 29 = .ok (.ldc_w 295, 3) := by decide +kernel
theorem dX7_item_32 : decode cX7_item 32 = .ok (.goto 5, 3) := by decide +kernel
theorem dX7_item_37 : decode cX7_item 37 = .ok (.ireturn, 1) := by decide +kernel
set_option maxRecDepth 20000 in
theorem ggX7_rest_X7_isSlot : GoodIn wsX7_rest wsX7_isSlot := goodIn_r _ [10, 11, 12, 13, 9, 14] (by decide +kernel) (by decide +kernel)
set_option maxRecDepth 20000 in
theorem gX7_rest_X7_isSlot : GoodIn wsX7_rest (va_wsS RX7 303 yX7_isSlot wsX7_isSlot) := goodIn_app (goodIn_of _ (by decide +kernel)) ggX7_rest_X7_isSlot
theorem dX7_rest_0 : decode cX7_rest 0 = .ok (.iload_n 1, 1) := by decide +kernel
theorem dX7_rest_1 : decode cX7_rest 1 = .ok (.invokestatic 303, 3) := by decide +kernel
theorem dX7_rest_4 : decode cX7_rest 4 = .ok (.ifCond .ne 6, 3) := by decide +kernel
theorem dX7_rest_7 : decode cX7_rest 7 = .ok (.ldc 80, 2) := by decide +kernel
theorem dX7_rest_9 : decode cX7_rest 9 = .ok (.ireturn, 1) := by decide +kernel
theorem dX7_rest_10 : decode cX7_rest 10 = .ok (.aload_n 0, 1) := by decide +kernel
theorem dX7_rest_11 : decode cX7_rest 11 = .ok (.getfield 28, 3) := by decide +kernel
theorem dX7_rest_14 : decode cX7_rest 14 = .ok (.iload_n 1, 1) := by decide +kernel
theorem dX7_rest_15 : decode cX7_rest 15 = .ok (.iaload, 1) := by decide +kernel
theorem dX7_rest_16 : decode cX7_rest 16 = .ok (.iconst 3, 1) := by decide +kernel
theorem dX7_rest_17 : decode cX7_rest 17 = .ok (.if_icmp .eq 21, 3) := by decide +kernel
theorem dX7_rest_20 : decode cX7_rest 20 = .ok (.aload_n 0, 1) := by decide +kernel
theorem dX7_rest_21 : decode cX7_rest 21 = .ok (.getfield 28, 3) := by decide +kernel
theorem dX7_rest_24 : decode cX7_rest 24 = .ok (.iload_n 1, 1) := by decide +kernel
theorem dX7_rest_25 : decode cX7_rest 25 = .ok (.iaload, 1) := by decide +kernel
theorem dX7_rest_26 : decode cX7_rest 26 = .ok (.ifCond .ne 9, 3) := by decide +kernel
theorem dX7_rest_29 : decode cX7_rest 29 = .ok (.ldc_w 295, 3) := by decide +kernel
theorem dX7_rest_32 : decode cX7_rest 32 = .ok (.goto 5, 3) := by decide +kernel
theorem dX7_rest_37 : decode cX7_rest 37 = .ok (.ireturn, 1) := by decide +kernel
theorem dX7_tell_0 : decode cX7_tell 0 = .ok (.aload_n 0, 1) := by decide +kernel
theorem dX7_tell_1 : decode cX7_tell 1 = .ok (.getfield 307, 3) := by decide +kernel
theorem dX7_tell_4 : decode cX7_tell 4 = .ok (.bipush 60, 2) := by decide +kernel
theorem dX7_tell_6 : decode cX7_tell 6 = .ok (.if_icmp .ne 6, 3) := by decide +kernel
theorem dX7_tell_12 : decode cX7_tell 12 = .ok (.aload_n 0, 1) := by decide +kernel
theorem dX7_tell_13 : decode cX7_tell 13 = .ok (.getfield 58, 3) := by decide +kernel
theorem dX7_tell_16 : decode cX7_tell 16 = .ok (.aload_n 0, 1) := by decide +kernel
theorem dX7_tell_17 : decode cX7_tell 17 = .ok (.getfield 307, 3) := by decide +kernel
theorem dX7_tell_20 : decode cX7_tell 20 = .ok (.iload_n 1, 1) := by decide +kernel
theorem dX7_tell_21 : decode cX7_tell 21 = .ok (.iastore, 1) := by decide +kernel
theorem dX7_tell_22 : decode cX7_tell 22 = .ok (.aload_n 0, 1) := by decide +kernel
theorem dX7_tell_23 : decode cX7_tell 23 = .ok (.dup, 1) := by decide +kernel
theorem dX7_tell_24 : decode cX7_tell 24 = .ok (.getfield 307, 3) := by decide +kernel
theorem dX7_tell_27 : decode cX7_tell 27 = .ok (.iconst 1, 1) := by decide +kernel
theorem dX7_tell_28 : decode cX7_tell 28 = .ok (.iadd, 1) := by decide +kernel
theorem dX7_tell_29 : decode cX7_tell 29 = .ok (.putfield 307, 3) := by decide +kernel
theorem dX7_tell_32 : decode cX7_tell 32 = .ok (.aload_n 0, 1) := by decide +kernel
theorem dX7_tell_33 : decode cX7_tell 33 = .ok (.getfield 307, 3) := by decide +kernel
theorem dX7_tell_36 : decode cX7_tell 36 = .ok (.ireturn, 1) := by decide +kernel
theorem dX7_setAside_0 : decode cX7_setAside 0 = .ok (.iconst 0, 1) := by decide +kernel
theorem dX7_setAside_1 : decode cX7_setAside 1 = .ok (.istore_n 3, 1) := by decide +kernel
theorem dX7_setAside_2 : decode cX7_setAside 2 = .ok (.iload_n 3, 1) := by decide +kernel
theorem dX7_setAside_3 : decode cX7_setAside 3 = .ok (.sipush 2847, 3) := by decide +kernel
theorem dX7_setAside_6 : decode cX7_setAside 6 = .ok (.if_icmp .ge 15, 3) := by decide +kernel
theorem dX7_setAside_9 : decode cX7_setAside 9 = .ok (.aload_n 2, 1) := by decide +kernel
theorem dX7_setAside_10 : decode cX7_setAside 10 = .ok (.iload_n 3, 1) := by decide +kernel
theorem dX7_setAside_11 : decode cX7_setAside 11 = .ok (.aload_n 1, 1) := by decide +kernel
theorem dX7_setAside_12 : decode cX7_setAside 12 = .ok (.iload_n 3, 1) := by decide +kernel
theorem dX7_setAside_13 : decode cX7_setAside 13 = .ok (.iaload, 1) := by decide +kernel
theorem dX7_setAside_14 : decode cX7_setAside 14 = .ok (.iastore, 1) := by decide +kernel
theorem dX7_setAside_15 : decode cX7_setAside 15 = .ok (.iinc 3 1, 3) := by decide +kernel
theorem dX7_setAside_18 : decode cX7_setAside 18 = .ok (.goto (-16), 3) := by decide +kernel
theorem dX7_setAside_21 : decode cX7_setAside 21 = .ok (.return_, 1) := by decide +kernel
set_option maxRecDepth 20000 in
theorem ggX7_check_X7_isIn : GoodIn wsX7_check wsX7_isIn := goodIn_r _ [14] (by decide +kernel) (by decide +kernel)
set_option maxRecDepth 20000 in
theorem gX7_check_X7_isIn : GoodIn wsX7_check (va_wsS RX7 65 yX7_isIn wsX7_isIn) := goodIn_app (goodIn_of _ (by decide +kernel)) ggX7_check_X7_isIn
theorem dX7_check_0 : decode cX7_check 0 = .ok (.aload_n 0, 1) := by decide +kernel
theorem dX7_check_1 : decode cX7_check 1 = .ok (.getfield 307, 3) := by decide +kernel
theorem dX7_check_4 : decode cX7_check 4 = .ok (.istore_n 2, 1) := by decide +kernel
theorem dX7_check_5 : decode cX7_check 5 = .ok (.aload_n 0, 1) := by decide +kernel
theorem dX7_check_6 : decode cX7_check 6 = .ok (.iconst 0, 1) := by decide +kernel
theorem dX7_check_7 : decode cX7_check 7 = .ok (.putfield 307, 3) := by decide +kernel
theorem dX7_check_10 : decode cX7_check 10 = .ok (.iload_n 1, 1) := by decide +kernel
theorem dX7_check_11 : decode cX7_check 11 = .ok (.i2l, 1) := by decide +kernel
theorem dX7_check_12 : decode cX7_check 12 = .ok (.lconst 1, 1) := by decide +kernel
theorem dX7_check_13 : decode cX7_check 13 = .ok (.ldc2_w 310, 3) := by decide +kernel
theorem dX7_check_16 : decode cX7_check 16 = .ok (.invokestatic 65, 3) := by decide +kernel
theorem dX7_check_19 : decode cX7_check 19 = .ok (.ifCond .ne 6, 3) := by decide +kernel
theorem dX7_check_22 : decode cX7_check 22 = .ok (.ldc 80, 2) := by decide +kernel
theorem dX7_check_24 : decode cX7_check 24 = .ok (.ireturn, 1) := by decide +kernel
theorem dX7_check_25 : decode cX7_check 25 = .ok (.aload_n 0, 1) := by decide +kernel
theorem dX7_check_26 : decode cX7_check 26 = .ok (.getfield 312, 3) := by decide +kernel
theorem dX7_check_29 : decode cX7_check 29 = .ok (.ifCond .ne 7, 3) := by decide +kernel
theorem dX7_check_32 : decode cX7_check 32 = .ok (.ldc_w 306, 3) := by decide +kernel
theorem dX7_check_35 : decode cX7_check 35 = .ok (.ireturn, 1) := by decide +kernel
set_option maxRecDepth 20000 in
theorem ggX7_keep_X7_setAside : GoodIn wsX7_keep wsX7_setAside := goodIn_r _ [8] (by decide +kernel) (by decide +kernel)
set_option maxRecDepth 20000 in
theorem gX7_keep_X7_setAside : GoodIn wsX7_keep (wsV RX7 316 RX7 yX7_setAside wsX7_setAside) := goodIn_app (goodIn_of _ (by decide +kernel)) ggX7_keep_X7_setAside
theorem dX7_keep_0 : decode cX7_keep 0 = .ok (.aload_n 0, 1) := by decide +kernel
theorem dX7_keep_1 : decode cX7_keep 1 = .ok (.iconst 1, 1) := by decide +kernel
theorem dX7_keep_2 : decode cX7_keep 2 = .ok (.putfield 312, 3) := by decide +kernel
theorem dX7_keep_5 : decode cX7_keep 5 = .ok (.aload_n 0, 1) := by decide +kernel
theorem dX7_keep_6 : decode cX7_keep 6 = .ok (.aload_n 0, 1) := by decide +kernel
theorem dX7_keep_7 : decode cX7_keep 7 = .ok (.getfield 7, 3) := by decide +kernel
theorem dX7_keep_10 : decode cX7_keep 10 = .ok (.aload_n 0, 1) := by decide +kernel
theorem dX7_keep_11 : decode cX7_keep 11 = .ok (.getfield 13, 3) := by decide +kernel
theorem dX7_keep_14 : decode cX7_keep 14 = .ok (.invokevirtual 316, 3) := by decide +kernel
theorem dX7_keep_17 : decode cX7_keep 17 = .ok (.aload_n 0, 1) := by decide +kernel
theorem dX7_keep_18 : decode cX7_keep 18 = .ok (.getfield 7, 3) := by decide +kernel
theorem dX7_keep_21 : decode cX7_keep 21 = .ok (.iconst 0, 1) := by decide +kernel
theorem dX7_keep_22 : decode cX7_keep 22 = .ok (.iaload, 1) := by decide +kernel
theorem dX7_keep_23 : decode cX7_keep 23 = .ok (.ireturn, 1) := by decide +kernel
theorem dX7_back_0 : decode cX7_back 0 = .ok (.aload_n 0, 1) := by decide +kernel
theorem dX7_back_1 : decode cX7_back 1 = .ok (.getfield 312, 3) := by decide +kernel
theorem dX7_back_4 : decode cX7_back 4 = .ok (.ifCond .ne 7, 3) := by decide +kernel
theorem dX7_back_7 : decode cX7_back 7 = .ok (.ldc_w 306, 3) := by decide +kernel
theorem dX7_back_10 : decode cX7_back 10 = .ok (.ireturn, 1) := by decide +kernel
set_option maxRecDepth 20000 in
theorem ggX7_manyShaded_X7_shadedSet : GoodIn wsX7_manyShaded wsX7_shadedSet := goodIn_r _ [5, 6, 7, 8, 9, 4, 10, 11, 12, 13, 14, 15, 16, 17, 18, 19, 20, 21, 22, 23, 24, 25, 26, 27, 28, 29, 30, 31, 32, 33, 34, 35, 36, 37, 38, 39, 40, 41, 42, 43, 44, 45, 46, 47, 48, 49, 50, 51, 52] (by decide +kernel) (by decide +kernel)
set_option maxRecDepth 20000 in
theorem gX7_manyShaded_X7_shadedSet : GoodIn wsX7_manyShaded (wsV RX7 143 RX7 yX7_shadedSet wsX7_shadedSet) := goodIn_app (goodIn_of _ (by decide +kernel)) ggX7_manyShaded_X7_shadedSet
theorem dX7_manyShaded_0 : decode cX7_manyShaded 0 = .ok (.iconst 0, 1) := by decide +kernel
theorem dX7_manyShaded_1 : decode cX7_manyShaded 1 = .ok (.istore_n 1, 1) := by decide +kernel
theorem dX7_manyShaded_2 : decode cX7_manyShaded 2 = .ok (.aload_n 0, 1) := by decide +kernel
theorem dX7_manyShaded_3 : decode cX7_manyShaded 3 = .ok (.invokevirtual 143, 3) := by decide +kernel
theorem dX7_manyShaded_6 : decode cX7_manyShaded 6 = .ok (.istore_n 2, 1) := by decide +kernel
theorem dX7_manyShaded_7 : decode cX7_manyShaded 7 = .ok (.iload_n 2, 1) := by decide +kernel
theorem dX7_manyShaded_8 : decode cX7_manyShaded 8 = .ok (.ifCond .eq 15, 3) := by decide +kernel
theorem dX7_manyShaded_23 : decode cX7_manyShaded 23 = .ok (.iload_n 1, 1) := by decide +kernel
theorem dX7_manyShaded_24 : decode cX7_manyShaded 24 = .ok (.ireturn, 1) := by decide +kernel
set_option maxRecDepth 20000 in
theorem ggX7_count_X7_manyShaded : GoodIn wsX7_count wsX7_manyShaded := goodIn_r _ [9, 10, 11, 12, 8, 13, 1, 14, 15, 16, 17, 18, 19, 20, 21, 22, 23, 24, 25, 26, 27, 28, 29, 30, 31, 32, 33, 34, 35, 36, 37, 38, 39, 40, 41, 42, 43, 44, 45, 46, 47, 48, 49, 50, 51, 52, 53, 54, 55, 56, 57, 58, 59] (by decide +kernel) (by decide +kernel)
set_option maxRecDepth 20000 in
theorem gX7_count_X7_manyShaded : GoodIn wsX7_count (wsV RX7 320 RX7 yX7_manyShaded wsX7_manyShaded) := goodIn_app (goodIn_of _ (by decide +kernel)) ggX7_count_X7_manyShaded
theorem dX7_count_0 : decode cX7_count 0 = .ok (.iload_n 1, 1) := by decide +kernel
theorem dX7_count_1 : decode cX7_count 1 = .ok (.tableswitch 87 0 6 #[43, 50, 57, 62, 69, 74, 79], 43) := by decide +kernel
theorem dX7_count_44 : decode cX7_count 44 = .ok (.aload_n 0, 1) := by decide +kernel
theorem dX7_count_45 : decode cX7_count 45 = .ok (.getfield 7, 3) := by decide +kernel
theorem dX7_count_48 : decode cX7_count 48 = .ok (.iconst 0, 1) := by decide +kernel
theorem dX7_count_49 : decode cX7_count 49 = .ok (.iaload, 1) := by decide +kernel
theorem dX7_count_50 : decode cX7_count 50 = .ok (.ireturn, 1) := by decide +kernel
theorem dX7_count_51 : decode cX7_count 51 = .ok (.aload_n 0, 1) := by decide +kernel
theorem dX7_count_52 : decode cX7_count 52 = .ok (.getfield 7, 3) := by decide +kernel
theorem dX7_count_55 : decode cX7_count 55 = .ok (.iconst 2, 1) := by decide +kernel
theorem dX7_count_56 : decode cX7_count 56 = .ok (.iaload, 1) := by decide +kernel
theorem dX7_count_57 : decode cX7_count 57 = .ok (.ireturn, 1) := by decide +kernel
theorem dX7_count_58 : decode cX7_count 58 = .ok (.aload_n 0, 1) := by decide +kernel
theorem dX7_count_59 : decode cX7_count 59 = .ok (.invokevirtual 320, 3) := by decide +kernel
theorem dX7_count_62 : decode cX7_count 62 = .ok (.ireturn, 1) := by decide +kernel
theorem dX7_count_63 : decode cX7_count 63 = .ok (.aload_n 0, 1) := by decide +kernel
theorem dX7_count_64 : decode cX7_count 64 = .ok (.getfield 7, 3) := by decide +kernel
theorem dX7_count_67 : decode cX7_count 67 = .ok (.iconst 1, 1) := by decide +kernel
theorem dX7_count_68 : decode cX7_count 68 = .ok (.iaload, 1) := by decide +kernel
theorem dX7_count_69 : decode cX7_count 69 = .ok (.ireturn, 1) := by decide +kernel
theorem dX7_count_70 : decode cX7_count 70 = .ok (.aload_n 0, 1) := by decide +kernel
theorem dX7_count_71 : decode cX7_count 71 = .ok (.getfield 307, 3) := by decide +kernel
theorem dX7_count_74 : decode cX7_count 74 = .ok (.ireturn, 1) := by decide +kernel
theorem dX7_count_75 : decode cX7_count 75 = .ok (.aload_n 0, 1) := by decide +kernel
theorem dX7_count_76 : decode cX7_count 76 = .ok (.getfield 188, 3) := by decide +kernel
theorem dX7_count_79 : decode cX7_count 79 = .ok (.ireturn, 1) := by decide +kernel
theorem dX7_count_80 : decode cX7_count 80 = .ok (.aload_n 0, 1) := by decide +kernel
theorem dX7_count_81 : decode cX7_count 81 = .ok (.getfield 7, 3) := by decide +kernel
theorem dX7_count_84 : decode cX7_count 84 = .ok (.bipush 6, 2) := by decide +kernel
theorem dX7_count_86 : decode cX7_count 86 = .ok (.iaload, 1) := by decide +kernel
theorem dX7_count_87 : decode cX7_count 87 = .ok (.ireturn, 1) := by decide +kernel
theorem dX7_count_88 : decode cX7_count 88 = .ok (.ldc 80, 2) := by decide +kernel
theorem dX7_count_90 : decode cX7_count 90 = .ok (.ireturn, 1) := by decide +kernel
