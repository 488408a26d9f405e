def bs_wsX6_without : List (List Cond) := [[.code yX6_without cX6_without 6 (some .int)], wsX6_without_r1, wsX6_without_r2, wsX6_without_r3, wsX6_without_r4, wsX6_without_r5, wsX6_without_r6, wsX60, wsX00, wsX40, wsX50]
theorem bse_wsX6_without : wsX6_without = bs_wsX6_without.flatten := by
  unfold wsX6_without bs_wsX6_without
  simp only [List.flatten_cons, List.flatten_nil, List.append_nil, List.append_assoc, List.cons_append, List.nil_append]
set_option maxRecDepth 20000 in
theorem ggX6_without_X6_within : GoodIn wsX6_without wsX6_within := goodIn_pc bs_wsX6_without bse_wsX6_without _ [(1, [11])] rfl gw_wsX6_within
set_option maxRecDepth 20000 in
theorem gX6_without_X6_within : GoodIn wsX6_without (va_wsS RX6 65 yX6_within wsX6_within) := goodIn_app (goodIn_pc bs_wsX6_without bse_wsX6_without _ [(1, [8, 9, 10])] rfl (by decide +kernel)) ggX6_without_X6_within
set_option maxRecDepth 20000 in
theorem ggX6_without_X0_takeOver : GoodIn wsX6_without wsX0_takeOver := goodIn_pc bs_wsX6_without bse_wsX6_without _ [(1, [16, 17, 18, 19, 20, 21, 22, 23]), (2, [0, 1, 2, 3, 4, 5, 6, 7, 8, 9, 10, 11, 12, 13, 14]), (8, [0, 1, 2, 3, 4, 5, 6, 7, 8, 9, 10, 11, 12, 13]), (9, [0, 1, 2, 3])] rfl gw_wsX0_takeOver
set_option maxRecDepth 20000 in
theorem gX6_without_X0_takeOver : GoodIn wsX6_without (wsV RX6 200 RX0 yX0_takeOver wsX0_takeOver) := goodIn_app (goodIn_pc bs_wsX6_without bse_wsX6_without _ [(1, [12, 13, 14, 15])] rfl (by decide +kernel)) ggX6_without_X0_takeOver
set_option maxRecDepth 20000 in
theorem ggX6_without_X6_thinkOn : GoodIn wsX6_without wsX6_thinkOn := goodIn_pc bs_wsX6_without bse_wsX6_without _ [(2, [18]), (1, [4]), (2, [19, 20, 21]), (1, [15]), (2, [22, 1, 23]), (3, [0, 1, 2]), (1, [17, 18]), (3, [3]), (1, [22]), (3, [4, 5, 6, 7, 8, 9, 10, 11]), (1, [21]), (3, [12, 13, 14, 15]), (1, [23]), (3, [16, 17, 18, 19, 20, 21, 22, 23]), (4, [0, 1, 2, 3]), (2, [9]), (4, [4]), (2, [11]), (4, [5, 6, 7, 8]), (1, [20]), (4, [9, 10]), (1, [9, 10, 11]), (4, [11, 12, 13, 14, 15, 16, 17, 18, 19, 20, 21, 22, 23]), (5, [0, 1, 2, 3, 4, 5, 6, 7, 8, 9, 10, 11, 12, 13, 14, 15, 16, 17, 18, 19, 20, 21, 22, 23]), (6, [0, 1, 2, 3, 4, 5, 6, 7, 8, 9, 10, 11]), (2, [3, 2]), (6, [12, 13, 14, 15]), (2, [0, 4]), (6, [16, 17, 18, 19]), (2, [5]), (6, [20]), (7, [0, 1, 2, 3, 4, 5, 6, 7, 8, 9, 10, 11, 12, 13, 14]), (8, [0, 1, 2, 3, 4, 5, 6, 7, 8, 9, 10, 11, 12, 13]), (9, [0, 1, 2, 3]), (10, [0, 1, 2, 3, 4])] rfl gw_wsX6_thinkOn
set_option maxRecDepth 20000 in
theorem gX6_without_X6_thinkOn : GoodIn wsX6_without (wsV RX6 204 RX6 yX6_thinkOn wsX6_thinkOn) := goodIn_app (goodIn_pc bs_wsX6_without bse_wsX6_without _ [(2, [15, 16, 17]), (1, [10])] rfl (by decide +kernel)) ggX6_without_X6_thinkOn
theorem dX6_without_0 : decode cX6_without 0 = .ok (.iload_n 1, 1) := zk27 (by decide +kernel)
theorem dX6_without_1 : decode cX6_without 1 = .ok (.iconst 1, 1) := zk4 (by decide +kernel)
theorem dX6_without_2 : decode cX6_without 2 = .ok (.bipush 60, 2) := zk16 60 rfl (by decide +kernel)
theorem dX6_without_4 : decode cX6_without 4 = .ok (.invokestatic 65, 3) := zk184 0 65 (by decide +kernel)
theorem dX6_without_7 : decode cX6_without 7 = .ok (.ifCond .eq 12, 3) := zk153 0 12 rfl (by decide +kernel)
theorem dX6_without_10 : decode cX6_without 10 = .ok (.iload_n 2, 1) := zk28 (by decide +kernel)
theorem dX6_without_11 : decode cX6_without 11 = .ok (.iconst 0, 1) := zk3 (by decide +kernel)
theorem dX6_without_12 : decode cX6_without 12 = .ok (.iconst 1, 1) := zk4 (by decide +kernel)
theorem dX6_without_13 : decode cX6_without 13 = .ok (.invokestatic 65, 3) := zk184 0 65 (by decide +kernel)
theorem dX6_without_16 : decode cX6_without 16 = .ok (.ifCond .ne 6, 3) := zk154 0 6 rfl (by decide +kernel)
theorem dX6_without_19 : decode cX6_without 19 = .ok (.ldc 69, 2) := zk18 69 (by decide +kernel)
theorem dX6_without_21 : decode cX6_without 21 = .ok (.ireturn, 1) := zk172 (by decide +kernel)
theorem dX6_without_22 : decode cX6_without 22 = .ok (.aload_n 0, 1) := zk42 (by decide +kernel)
theorem dX6_without_23 : decode cX6_without 23 = .ok (.getfield 39, 3) := zk180 0 39 (by decide +kernel)
theorem dX6_without_26 : decode cX6_without 26 = .ok (.getfield 70, 3) := zk180 0 70 (by decide +kernel)
theorem dX6_without_29 : decode cX6_without 29 = .ok (.ifCond .ne 6, 3) := zk154 0 6 rfl (by decide +kernel)
theorem dX6_without_32 : decode cX6_without 32 = .ok (.ldc 218, 2) := zk18 218 (by decide +kernel)
theorem dX6_without_34 : decode cX6_without 34 = .ok (.ireturn, 1) := zk172 (by decide +kernel)
theorem dX6_without_35 : decode cX6_without 35 = .ok (.iconst 0, 1) := zk3 (by decide +kernel)
theorem dX6_without_36 : decode cX6_without 36 = .ok (.istore_n 3, 1) := zk62 (by decide +kernel)
theorem dX6_without_37 : decode cX6_without 37 = .ok (.iconst (-1), 1) := zk2 (by decide +kernel)
theorem dX6_without_38 : decode cX6_without 38 = .ok (.istore 4, 2) := zk54 4 (by decide +kernel)
theorem dX6_without_40 : decode cX6_without 40 = .ok (.iconst 0, 1) := zk3 (by decide +kernel)
theorem dX6_without_41 : decode cX6_without 41 = .ok (.istore 5, 2) := zk54 5 (by decide +kernel)
theorem dX6_without_43 : decode cX6_without 43 = .ok (.iload 5, 2) := zk21 5 (by decide +kernel)
theorem dX6_without_45 : decode cX6_without 45 = .ok (.aload_n 0, 1) := zk42 (by decide +kernel)
theorem dX6_without_46 : decode cX6_without 46 = .ok (.getfield 39, 3) := zk180 0 39 (by decide +kernel)
theorem dX6_without_49 : decode cX6_without 49 = .ok (.getfield 70, 3) := zk180 0 70 (by decide +kernel)
theorem dX6_without_52 : decode cX6_without 52 = .ok (.if_icmp .ge 63, 3) := zk162 0 63 rfl (by decide +kernel)
theorem dX6_without_55 : decode cX6_without 55 = .ok (.aload_n 0, 1) := zk42 (by decide +kernel)
theorem dX6_without_56 : decode cX6_without 56 = .ok (.getfield 43, 3) := zk180 0 43 (by decide +kernel)
theorem dX6_without_59 : decode cX6_without 59 = .ok (.aload_n 0, 1) := zk42 (by decide +kernel)
theorem dX6_without_60 : decode cX6_without 60 = .ok (.getfield 39, 3) := zk180 0 39 (by decide +kernel)
theorem dX6_without_63 : decode cX6_without 63 = .ok (.invokevirtual 200, 3) := zk182 0 200 (by decide +kernel)
theorem dX6_without_66 : decode cX6_without 66 = .ok (.aload_n 0, 1) := zk42 (by decide +kernel)
theorem dX6_without_67 : decode cX6_without 67 = .ok (.getfield 43, 3) := zk180 0 43 (by decide +kernel)
theorem dX6_without_70 : decode cX6_without 70 = .ok (.getfield 83, 3) := zk180 0 83 (by decide +kernel)
theorem dX6_without_73 : decode cX6_without 73 = .ok (.iload 5, 2) := zk21 5 (by decide +kernel)
theorem dX6_without_75 : decode cX6_without 75 = .ok (.aaload, 1) := zk50 (by decide +kernel)
theorem dX6_without_76 : decode cX6_without 76 = .ok (.iconst 0, 1) := zk3 (by decide +kernel)
theorem dX6_without_77 : decode cX6_without 77 = .ok (.putfield 98, 3) := zk181 0 98 (by decide +kernel)
theorem dX6_without_80 : decode cX6_without 80 = .ok (.aload_n 0, 1) := zk42 (by decide +kernel)
theorem dX6_without_81 : decode cX6_without 81 = .ok (.iload_n 1, 1) := zk27 (by decide +kernel)
theorem dX6_without_82 : decode cX6_without 82 = .ok (.invokevirtual 204, 3) := zk182 0 204 (by decide +kernel)
theorem dX6_without_85 : decode cX6_without 85 = .ok (.aload_n 0, 1) := zk42 (by decide +kernel)
theorem dX6_without_86 : decode cX6_without 86 = .ok (.getfield 43, 3) := zk180 0 43 (by decide +kernel)
theorem dX6_without_89 : decode cX6_without 89 = .ok (.getfield 191, 3) := zk180 0 191 (by decide +kernel)
theorem dX6_without_92 : decode cX6_without 92 = .ok (.iload 4, 2) := zk21 4 (by decide +kernel)
theorem dX6_without_94 : decode cX6_without 94 = .ok (.if_icmp .le 15, 3) := zk164 0 15 rfl (by decide +kernel)
theorem dX6_without_97 : decode cX6_without 97 = .ok (.iload 5, 2) := zk21 5 (by decide +kernel)
theorem dX6_without_99 : decode cX6_without 99 = .ok (.istore_n 3, 1) := zk62 (by decide +kernel)
theorem dX6_without_100 : decode cX6_without 100 = .ok (.aload_n 0, 1) := zk42 (by decide +kernel)
theorem dX6_without_101 : decode cX6_without 101 = .ok (.getfield 43, 3) := zk180 0 43 (by decide +kernel)
theorem dX6_without_104 : decode cX6_without 104 = .ok (.getfield 191, 3) := zk180 0 191 (by decide +kernel)
theorem dX6_without_107 : decode cX6_without 107 = .ok (.istore 4, 2) := zk54 4 (by decide +kernel)
theorem dX6_without_109 : decode cX6_without 109 = .ok (.iinc 5 1, 3) := by decide +kernel
theorem dX6_without_112 : decode cX6_without 112 = .ok (.goto (-69), 3) := zk167 255 187 rfl (by decide +kernel)
theorem dX6_without_115 : decode cX6_without 115 = .ok (.iload_n 2, 1) := zk28 (by decide +kernel)
theorem dX6_without_116 : decode cX6_without 116 = .ok (.ifCond .ne 7, 3) := zk154 0 7 rfl (by decide +kernel)
theorem dX6_without_119 : decode cX6_without 119 = .ok (.iload_n 3, 1) := zk29 (by decide +kernel)
theorem dX6_without_120 : decode cX6_without 120 = .ok (.goto 5, 3) := zk167 0 5 rfl (by decide +kernel)
theorem dX6_without_123 : decode cX6_without 123 = .ok (.iload 4, 2) := zk21 4 (by decide +kernel)
theorem dX6_without_125 : decode cX6_without 125 = .ok (.ireturn, 1) := zk172 (by decide +kernel)
