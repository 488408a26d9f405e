def bs_wsX7_without : List (List Cond) := [[.code yX7_without cX7_without 7 (some .int)], wsX7_without_r1, wsX7_without_r2, wsX7_without_r3, wsX7_without_r4, wsX7_without_r5, wsX70]
theorem bse_wsX7_without : wsX7_without = bs_wsX7_without.flatten := by
  unfold wsX7_without bs_wsX7_without
  simp only [List.flatten_cons, List.flatten_nil, List.append_nil, List.append_assoc, List.cons_append, List.nil_append]
set_option maxRecDepth 20000 in
theorem ggX7_without_X7_isIn : GoodIn wsX7_without wsX7_isIn := goodIn_pc bs_wsX7_without bse_wsX7_without _ [(1, [7])] rfl gw_wsX7_isIn
set_option maxRecDepth 20000 in
theorem gX7_without_X7_isIn : GoodIn wsX7_without (va_wsS RX7 65 yX7_isIn wsX7_isIn) := goodIn_app (goodIn_pc bs_wsX7_without bse_wsX7_without _ [(1, [4, 5, 6])] rfl (by decide +kernel)) ggX7_without_X7_isIn
set_option maxRecDepth 20000 in
theorem ggX7_without_X7_laysBy : GoodIn wsX7_without wsX7_laysBy := goodIn_pc bs_wsX7_without bse_wsX7_without _ [(1, [11, 12, 2]), (6, [0, 1, 2, 3, 4, 5, 6, 7, 8, 9, 10, 11, 12, 13, 14, 15, 16, 17, 18, 19, 20, 21, 22, 23, 24, 25, 26, 27, 28, 29, 30])] rfl gw_wsX7_laysBy
set_option maxRecDepth 20000 in
theorem gX7_without_X7_laysBy : GoodIn wsX7_without (wsV RX7 175 RX7 yX7_laysBy wsX7_laysBy) := goodIn_app (goodIn_pc bs_wsX7_without bse_wsX7_without _ [(1, [8, 9, 10, 6])] rfl (by decide +kernel)) ggX7_without_X7_laysBy
set_option maxRecDepth 20000 in
theorem ggX7_without_X7_sets : GoodIn wsX7_without wsX7_sets := goodIn_pc bs_wsX7_without bse_wsX7_without _ [(1, [16, 2]), (6, [0, 1, 2, 3, 4, 5, 6, 7, 8, 9, 10, 11, 12, 13, 14, 15, 16, 17, 18, 19, 20, 21, 22, 23, 24, 25, 26, 27, 28, 29, 30])] rfl gw_wsX7_sets
set_option maxRecDepth 20000 in
theorem gX7_without_X7_sets : GoodIn wsX7_without (wsV RX7 70 RX7 yX7_sets wsX7_sets) := goodIn_app (goodIn_pc bs_wsX7_without bse_wsX7_without _ [(1, [13, 14, 15, 6])] rfl (by decide +kernel)) ggX7_without_X7_sets
set_option maxRecDepth 20000 in
theorem ggX7_without_X7_goesOnMany : GoodIn wsX7_without wsX7_goesOnMany := goodIn_pc bs_wsX7_without bse_wsX7_without _ [(1, [20, 21, 22, 23, 6]), (2, [0, 1, 2, 3, 4]), (1, [2]), (2, [5, 6, 7, 8, 9, 10, 11, 12, 13, 14, 15, 16, 17, 18, 19, 20, 21, 22, 23]), (3, [0, 1, 2, 3, 4, 5, 6, 7]), (1, [4, 5, 7]), (3, [8, 9, 10, 11, 12, 13, 14, 15, 16, 17, 18, 19, 20, 21, 22, 23]), (4, [0, 1, 2, 3, 4, 5, 6, 7, 8, 9, 10, 11, 12, 13, 14, 15, 16, 17, 18, 19]), (1, [13, 14, 15, 16]), (4, [20, 21, 22, 23]), (5, [0]), (6, [0, 1, 2, 3, 4, 5, 6, 7, 8, 9, 10, 11, 12, 13, 14, 15, 16, 17, 18, 19, 20, 21, 22, 23, 24, 25, 26, 27, 28, 29, 30])] rfl gw_wsX7_goesOnMany
set_option maxRecDepth 20000 in
theorem gX7_without_X7_goesOnMany : GoodIn wsX7_without (wsV RX7 178 RX7 yX7_goesOnMany wsX7_goesOnMany) := goodIn_app (goodIn_pc bs_wsX7_without bse_wsX7_without _ [(1, [17, 18, 19, 6])] rfl (by decide +kernel)) ggX7_without_X7_goesOnMany
set_option maxRecDepth 20000 in
theorem ggX7_without_X7_laysBack : GoodIn wsX7_without wsX7_laysBack := goodIn_pc bs_wsX7_without bse_wsX7_without _ [(5, [4]), (1, [2, 12]), (6, [0, 1, 2, 3, 4, 5, 6, 7, 8, 9, 10, 11, 12, 13, 14, 15, 16, 17, 18, 19, 20, 21, 22, 23, 24, 25, 26, 27, 28, 29, 30])] rfl gw_wsX7_laysBack
set_option maxRecDepth 20000 in
theorem gX7_without_X7_laysBack : GoodIn wsX7_without (wsV RX7 181 RX7 yX7_laysBack wsX7_laysBack) := goodIn_app (goodIn_pc bs_wsX7_without bse_wsX7_without _ [(5, [1, 2, 3]), (1, [6])] rfl (by decide +kernel)) ggX7_without_X7_laysBack
theorem dX7_without_0 : decode cX7_without 0 = .ok (.iload_n 1, 1) := zk27 (by decide +kernel)
theorem dX7_without_1 : decode cX7_without 1 = .ok (.i2l, 1) := zk133 (by decide +kernel)
theorem dX7_without_2 : decode cX7_without 2 = .ok (.lconst 1, 1) := zk10 (by decide +kernel)
theorem dX7_without_3 : decode cX7_without 3 = .ok (.ldc2_w 186, 3) := zk20 0 186 (by decide +kernel)
theorem dX7_without_6 : decode cX7_without 6 = .ok (.invokestatic 65, 3) := zk184 0 65 (by decide +kernel)
theorem dX7_without_9 : decode cX7_without 9 = .ok (.ifCond .eq 13, 3) := zk153 0 13 rfl (by decide +kernel)
theorem dX7_without_12 : decode cX7_without 12 = .ok (.iload_n 2, 1) := zk28 (by decide +kernel)
theorem dX7_without_13 : decode cX7_without 13 = .ok (.i2l, 1) := zk133 (by decide +kernel)
theorem dX7_without_14 : decode cX7_without 14 = .ok (.lconst 0, 1) := zk9 (by decide +kernel)
theorem dX7_without_15 : decode cX7_without 15 = .ok (.lconst 1, 1) := zk10 (by decide +kernel)
theorem dX7_without_16 : decode cX7_without 16 = .ok (.invokestatic 65, 3) := zk184 0 65 (by decide +kernel)
theorem dX7_without_19 : decode cX7_without 19 = .ok (.ifCond .ne 6, 3) := zk154 0 6 rfl (by decide +kernel)
theorem dX7_without_22 : decode cX7_without 22 = .ok (.ldc 80, 2) := zk18 80 (by decide +kernel)
theorem dX7_without_24 : decode cX7_without 24 = .ok (.ireturn, 1) := zk172 (by decide +kernel)
theorem dX7_without_25 : decode cX7_without 25 = .ok (.aload_n 0, 1) := zk42 (by decide +kernel)
theorem dX7_without_26 : decode cX7_without 26 = .ok (.invokevirtual 175, 3) := zk182 0 175 (by decide +kernel)
theorem dX7_without_29 : decode cX7_without 29 = .ok (.iconst (-1), 1) := zk2 (by decide +kernel)
theorem dX7_without_30 : decode cX7_without 30 = .ok (.istore_n 3, 1) := zk62 (by decide +kernel)
theorem dX7_without_31 : decode cX7_without 31 = .ok (.iconst 0, 1) := zk3 (by decide +kernel)
theorem dX7_without_32 : decode cX7_without 32 = .ok (.istore 4, 2) := zk54 4 (by decide +kernel)
theorem dX7_without_34 : decode cX7_without 34 = .ok (.iconst 0, 1) := zk3 (by decide +kernel)
theorem dX7_without_35 : decode cX7_without 35 = .ok (.istore 5, 2) := zk54 5 (by decide +kernel)
theorem dX7_without_37 : decode cX7_without 37 = .ok (.iload 5, 2) := zk21 5 (by decide +kernel)
theorem dX7_without_39 : decode cX7_without 39 = .ok (.aload_n 0, 1) := zk42 (by decide +kernel)
theorem dX7_without_40 : decode cX7_without 40 = .ok (.getfield 7, 3) := zk180 0 7 (by decide +kernel)
theorem dX7_without_43 : decode cX7_without 43 = .ok (.iconst 0, 1) := zk3 (by decide +kernel)
theorem dX7_without_44 : decode cX7_without 44 = .ok (.iaload, 1) := zk46 (by decide +kernel)
theorem dX7_without_45 : decode cX7_without 45 = .ok (.if_icmp .ge 52, 3) := zk162 0 52 rfl (by decide +kernel)
theorem dX7_without_48 : decode cX7_without 48 = .ok (.aload_n 0, 1) := zk42 (by decide +kernel)
theorem dX7_without_49 : decode cX7_without 49 = .ok (.iload 5, 2) := zk21 5 (by decide +kernel)
theorem dX7_without_51 : decode cX7_without 51 = .ok (.iconst 3, 1) := zk6 (by decide +kernel)
theorem dX7_without_52 : decode cX7_without 52 = .ok (.iconst 0, 1) := zk3 (by decide +kernel)
theorem dX7_without_53 : decode cX7_without 53 = .ok (.invokevirtual 70, 3) := zk182 0 70 (by decide +kernel)
theorem dX7_without_56 : decode cX7_without 56 = .ok (.aload_n 0, 1) := zk42 (by decide +kernel)
theorem dX7_without_57 : decode cX7_without 57 = .ok (.iload_n 1, 1) := zk27 (by decide +kernel)
theorem dX7_without_58 : decode cX7_without 58 = .ok (.invokevirtual 178, 3) := zk182 0 178 (by decide +kernel)
theorem dX7_without_61 : decode cX7_without 61 = .ok (.aload_n 0, 1) := zk42 (by decide +kernel)
theorem dX7_without_62 : decode cX7_without 62 = .ok (.getfield 7, 3) := zk180 0 7 (by decide +kernel)
theorem dX7_without_65 : decode cX7_without 65 = .ok (.iconst 3, 1) := zk6 (by decide +kernel)
theorem dX7_without_66 : decode cX7_without 66 = .ok (.iaload, 1) := zk46 (by decide +kernel)
theorem dX7_without_67 : decode cX7_without 67 = .ok (.istore 6, 2) := zk54 6 (by decide +kernel)
theorem dX7_without_69 : decode cX7_without 69 = .ok (.aload_n 0, 1) := zk42 (by decide +kernel)
theorem dX7_without_70 : decode cX7_without 70 = .ok (.invokevirtual 181, 3) := zk182 0 181 (by decide +kernel)
theorem dX7_without_73 : decode cX7_without 73 = .ok (.iload_n 3, 1) := zk29 (by decide +kernel)
theorem dX7_without_74 : decode cX7_without 74 = .ok (.ifCond .lt 10, 3) := zk155 0 10 rfl (by decide +kernel)
theorem dX7_without_77 : decode cX7_without 77 = .ok (.iload 6, 2) := zk21 6 (by decide +kernel)
theorem dX7_without_79 : decode cX7_without 79 = .ok (.iload 4, 2) := zk21 4 (by decide +kernel)
theorem dX7_without_81 : decode cX7_without 81 = .ok (.if_icmp .le 10, 3) := zk164 0 10 rfl (by decide +kernel)
theorem dX7_without_84 : decode cX7_without 84 = .ok (.iload 5, 2) := zk21 5 (by decide +kernel)
theorem dX7_without_86 : decode cX7_without 86 = .ok (.istore_n 3, 1) := zk62 (by decide +kernel)
theorem dX7_without_87 : decode cX7_without 87 = .ok (.iload 6, 2) := zk21 6 (by decide +kernel)
theorem dX7_without_89 : decode cX7_without 89 = .ok (.istore 4, 2) := zk54 4 (by decide +kernel)
theorem dX7_without_91 : decode cX7_without 91 = .ok (.iinc 5 1, 3) := by decide +kernel
theorem dX7_without_94 : decode cX7_without 94 = .ok (.goto (-57), 3) := zk167 255 199 rfl (by decide +kernel)
theorem dX7_without_97 : decode cX7_without 97 = .ok (.iload_n 3, 1) := zk29 (by decide +kernel)
theorem dX7_without_98 : decode cX7_without 98 = .ok (.ifCond .ge 8, 3) := zk156 0 8 rfl (by decide +kernel)
theorem dX7_without_101 : decode cX7_without 101 = .ok (.ldc 64, 2) := zk18 64 (by decide +kernel)
theorem dX7_without_103 : decode cX7_without 103 = .ok (.goto 13, 3) := zk167 0 13 rfl (by decide +kernel)
theorem dX7_without_106 : decode cX7_without 106 = .ok (.iload_n 2, 1) := zk28 (by decide +kernel)
theorem dX7_without_107 : decode cX7_without 107 = .ok (.ifCond .ne 7, 3) := zk154 0 7 rfl (by decide +kernel)
theorem dX7_without_110 : decode cX7_without 110 = .ok (.iload_n 3, 1) := zk29 (by decide +kernel)
theorem dX7_without_111 : decode cX7_without 111 = .ok (.goto 5, 3) := zk167 0 5 rfl (by decide +kernel)
theorem dX7_without_114 : decode cX7_without 114 = .ok (.iload 4, 2) := zk21 4 (by decide +kernel)
theorem dX7_without_116 : decode cX7_without 116 = .ok (.ireturn, 1) := zk172 (by decide +kernel)
