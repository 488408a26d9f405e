set_option maxRecDepth 20000 in
theorem ggX6_stall_X6_within : GoodIn wsX6_stall wsX6_within := goodIn_r _ [8] rfl gw_wsX6_within
set_option maxRecDepth 20000 in
theorem gX6_stall_X6_within : GoodIn wsX6_stall (va_wsS RX6 65 yX6_within wsX6_within) := goodIn_app (goodIn_r _ [5, 6, 7] rfl (by decide +kernel)) ggX6_stall_X6_within
set_option maxRecDepth 20000 in
theorem ggX6_stall_X0_open : GoodIn wsX6_stall wsX0_open := goodIn_r _ [13, 14, 15, 16, 17, 18, 19, 20, 36, 37, 38, 39, 40, 41, 42, 43, 44, 45, 46, 47, 48, 49, 50, 51, 52, 53] rfl gw_wsX0_open
set_option maxRecDepth 20000 in
theorem gX6_stall_X0_open : GoodIn wsX6_stall (wsV RX6 75 RX0 yX0_open wsX0_open) := goodIn_app (goodIn_r _ [9, 10, 11, 12] rfl (by decide +kernel)) ggX6_stall_X0_open
theorem dX6_stall_0 : decode cX6_stall 0 = .ok (.iload_n 1, 1) := zk27 (by decide +kernel)
theorem dX6_stall_1 : decode cX6_stall 1 = .ok (.iconst 0, 1) := zk3 (by decide +kernel)
theorem dX6_stall_2 : decode cX6_stall 2 = .ok (.iconst 5, 1) := zk8 (by decide +kernel)
theorem dX6_stall_3 : decode cX6_stall 3 = .ok (.invokestatic 65, 3) := zk184 0 65 (by decide +kernel)
theorem dX6_stall_6 : decode cX6_stall 6 = .ok (.ifCond .eq 23, 3) := zk153 0 23 rfl (by decide +kernel)
theorem dX6_stall_9 : decode cX6_stall 9 = .ok (.iload_n 2, 1) := zk28 (by decide +kernel)
theorem dX6_stall_10 : decode cX6_stall 10 = .ok (.iconst 0, 1) := zk3 (by decide +kernel)
theorem dX6_stall_11 : decode cX6_stall 11 = .ok (.bipush 11, 2) := zk16 11 rfl (by decide +kernel)
theorem dX6_stall_13 : decode cX6_stall 13 = .ok (.invokestatic 65, 3) := zk184 0 65 (by decide +kernel)
theorem dX6_stall_16 : decode cX6_stall 16 = .ok (.ifCond .eq 13, 3) := zk153 0 13 rfl (by decide +kernel)
theorem dX6_stall_19 : decode cX6_stall 19 = .ok (.iload_n 3, 1) := zk29 (by decide +kernel)
theorem dX6_stall_20 : decode cX6_stall 20 = .ok (.iconst 0, 1) := zk3 (by decide +kernel)
theorem dX6_stall_21 : decode cX6_stall 21 = .ok (.bipush 99, 2) := zk16 99 rfl (by decide +kernel)
theorem dX6_stall_23 : decode cX6_stall 23 = .ok (.invokestatic 65, 3) := zk184 0 65 (by decide +kernel)
theorem dX6_stall_26 : decode cX6_stall 26 = .ok (.ifCond .ne 6, 3) := zk154 0 6 rfl (by decide +kernel)
theorem dX6_stall_29 : decode cX6_stall 29 = .ok (.ldc 69, 2) := zk18 69 (by decide +kernel)
theorem dX6_stall_31 : decode cX6_stall 31 = .ok (.ireturn, 1) := zk172 (by decide +kernel)
theorem dX6_stall_32 : decode cX6_stall 32 = .ok (.aload_n 0, 1) := zk42 (by decide +kernel)
theorem dX6_stall_33 : decode cX6_stall 33 = .ok (.getfield 39, 3) := zk180 0 39 (by decide +kernel)
theorem dX6_stall_36 : decode cX6_stall 36 = .ok (.getfield 70, 3) := zk180 0 70 (by decide +kernel)
theorem dX6_stall_39 : decode cX6_stall 39 = .ok (.bipush 9, 2) := zk16 9 rfl (by decide +kernel)
theorem dX6_stall_41 : decode cX6_stall 41 = .ok (.if_icmp .lt 6, 3) := zk161 0 6 rfl (by decide +kernel)
theorem dX6_stall_44 : decode cX6_stall 44 = .ok (.ldc 74, 2) := zk18 74 (by decide +kernel)
theorem dX6_stall_46 : decode cX6_stall 46 = .ok (.ireturn, 1) := zk172 (by decide +kernel)
theorem dX6_stall_47 : decode cX6_stall 47 = .ok (.aload_n 0, 1) := zk42 (by decide +kernel)
theorem dX6_stall_48 : decode cX6_stall 48 = .ok (.getfield 39, 3) := zk180 0 39 (by decide +kernel)
theorem dX6_stall_51 : decode cX6_stall 51 = .ok (.iload_n 1, 1) := zk27 (by decide +kernel)
theorem dX6_stall_52 : decode cX6_stall 52 = .ok (.iload_n 2, 1) := zk28 (by decide +kernel)
theorem dX6_stall_53 : decode cX6_stall 53 = .ok (.iload_n 3, 1) := zk29 (by decide +kernel)
theorem dX6_stall_54 : decode cX6_stall 54 = .ok (.invokevirtual 75, 3) := zk182 0 75 (by decide +kernel)
theorem dX6_stall_57 : decode cX6_stall 57 = .ok (.ireturn, 1) := zk172 (by decide +kernel)
def bs_wsX6_told : List (List Cond) := [[.code yX6_told cX6_told 4 (some .int)], wsX6_told_r1, wsX6_told_r2, wsX6_told_r3, wsX6_told_r4, wsX60, wsX00, wsX40, wsX50]
theorem bse_wsX6_told : wsX6_told = bs_wsX6_told.flatten := by
  unfold wsX6_told bs_wsX6_told
  simp only [List.flatten_cons, List.flatten_nil, List.append_nil, List.append_assoc, List.cons_append, List.nil_append]
set_option maxRecDepth 20000 in
theorem ggX6_told_X6_isStall : GoodIn wsX6_told wsX6_isStall := goodIn_pc bs_wsX6_told bse_wsX6_told _ [(1, [11, 1, 12, 13, 14, 10, 15]), (5, [0, 1, 2, 3, 4, 5, 6, 7, 8, 9, 10, 11, 12, 13, 14]), (6, [0, 1, 2, 3, 4, 5, 6, 7, 8, 9, 10, 11, 12, 13])] rfl gw_wsX6_isStall
set_option maxRecDepth 20000 in
theorem gX6_told_X6_isStall : GoodIn wsX6_told (wsV RX6 79 RX6 yX6_isStall wsX6_isStall) := goodIn_app (goodIn_pc bs_wsX6_told bse_wsX6_told _ [(1, [7, 8, 9, 10])] rfl (by decide +kernel)) ggX6_told_X6_isStall
set_option maxRecDepth 20000 in
theorem ggX6_told_X0_lossOf : GoodIn wsX6_told wsX0_lossOf := goodIn_pc bs_wsX6_told bse_wsX6_told _ [(1, [20, 21, 22, 23]), (2, [0, 1, 2, 3, 4, 5]), (1, [19]), (2, [6, 7, 8, 9, 10, 11, 12, 13, 14, 15, 16, 17, 18, 19, 20, 21, 22, 23]), (3, [0, 1, 2, 3, 4, 5, 6]), (1, [14, 10, 15]), (3, [7, 8, 9, 10, 11, 12, 13, 14, 15, 16, 17, 18, 19, 20, 21, 22, 23]), (4, [0, 1, 2, 3, 4, 5, 6, 7, 8, 9, 10]), (7, [0, 1, 2, 3]), (6, [0, 1, 2, 3, 4, 5, 6, 7, 8, 9, 10, 11, 12, 13]), (8, [0, 1, 2, 3, 4])] rfl gw_wsX0_lossOf
set_option maxRecDepth 20000 in
theorem gX6_told_X0_lossOf : GoodIn wsX6_told (wsV RX6 101 RX0 yX0_lossOf wsX0_lossOf) := goodIn_app (goodIn_pc bs_wsX6_told bse_wsX6_told _ [(1, [16, 17, 18, 19])] rfl (by decide +kernel)) ggX6_told_X0_lossOf
set_option maxRecDepth 20000 in
theorem ggX6_told_X0_shades : GoodIn wsX6_told wsX0_shades := goodIn_pc bs_wsX6_told bse_wsX6_told _ [(2, [6, 7, 8, 9, 10]), (1, [19]), (2, [11, 12, 13, 14, 15, 16, 17]), (6, [0, 1, 2, 3, 4, 5, 6, 7, 8, 9, 10, 11, 12, 13])] rfl gw_wsX0_shades
set_option maxRecDepth 20000 in
theorem gX6_told_X0_shades : GoodIn wsX6_told (wsV RX6 105 RX0 yX0_shades wsX0_shades) := goodIn_app (goodIn_pc bs_wsX6_told bse_wsX6_told _ [(4, [11]), (2, [4, 5]), (1, [19])] rfl (by decide +kernel)) ggX6_told_X0_shades
set_option maxRecDepth 20000 in
theorem ggX6_told_X4_worth : GoodIn wsX6_told wsX4_worth := goodIn_pc bs_wsX6_told bse_wsX6_told _ [(4, [15]), (2, [23]), (4, [16]), (7, [0, 1, 2, 3])] rfl gw_wsX4_worth
set_option maxRecDepth 20000 in
theorem gX6_told_X4_worth : GoodIn wsX6_told (wsV RX6 108 RX4 yX4_worth wsX4_worth) := goodIn_app (goodIn_pc bs_wsX6_told bse_wsX6_told _ [(4, [12, 13, 14]), (2, [21])] rfl (by decide +kernel)) ggX6_told_X4_worth
theorem dX6_told_0 : decode cX6_told 0 = .ok (.aload_n 0, 1) := zk42 (by decide +kernel)
theorem dX6_told_1 : decode cX6_told 1 = .ok (.iload_n 1, 1) := zk27 (by decide +kernel)
theorem dX6_told_2 : decode cX6_told 2 = .ok (.invokevirtual 79, 3) := zk182 0 79 (by decide +kernel)
theorem dX6_told_5 : decode cX6_told 5 = .ok (.ifCond .ne 6, 3) := zk154 0 6 rfl (by decide +kernel)
theorem dX6_told_8 : decode cX6_told 8 = .ok (.ldc 69, 2) := zk18 69 (by decide +kernel)
theorem dX6_told_10 : decode cX6_told 10 = .ok (.ireturn, 1) := zk172 (by decide +kernel)
theorem dX6_told_11 : decode cX6_told 11 = .ok (.aload_n 0, 1) := zk42 (by decide +kernel)
theorem dX6_told_12 : decode cX6_told 12 = .ok (.getfield 39, 3) := zk180 0 39 (by decide +kernel)
theorem dX6_told_15 : decode cX6_told 15 = .ok (.getfield 83, 3) := zk180 0 83 (by decide +kernel)
theorem dX6_told_18 : decode cX6_told 18 = .ok (.iload_n 1, 1) := zk27 (by decide +kernel)
theorem dX6_told_19 : decode cX6_told 19 = .ok (.aaload, 1) := zk50 (by decide +kernel)
theorem dX6_told_20 : decode cX6_told 20 = .ok (.astore_n 3, 1) := zk78 (by decide +kernel)
theorem dX6_told_21 : decode cX6_told 21 = .ok (.iload_n 2, 1) := zk28 (by decide +kernel)
theorem dX6_told_22 : decode cX6_told 22 = .ok (.tableswitch 96 0 6 #[42, 47, 52, 57, 62, 71, 91], 42) := by decide +kernel
theorem dX6_told_64 : decode cX6_told 64 = .ok (.aload_n 3, 1) := zk45 (by decide +kernel)
theorem dX6_told_65 : decode cX6_told 65 = .ok (.getfield 87, 3) := zk180 0 87 (by decide +kernel)
theorem dX6_told_68 : decode cX6_told 68 = .ok (.ireturn, 1) := zk172 (by decide +kernel)
theorem dX6_told_69 : decode cX6_told 69 = .ok (.aload_n 3, 1) := zk45 (by decide +kernel)
theorem dX6_told_70 : decode cX6_told 70 = .ok (.getfield 92, 3) := zk180 0 92 (by decide +kernel)
theorem dX6_told_73 : decode cX6_told 73 = .ok (.ireturn, 1) := zk172 (by decide +kernel)
theorem dX6_told_74 : decode cX6_told 74 = .ok (.aload_n 3, 1) := zk45 (by decide +kernel)
theorem dX6_told_75 : decode cX6_told 75 = .ok (.getfield 95, 3) := zk180 0 95 (by decide +kernel)
theorem dX6_told_78 : decode cX6_told 78 = .ok (.ireturn, 1) := zk172 (by decide +kernel)
theorem dX6_told_79 : decode cX6_told 79 = .ok (.aload_n 3, 1) := zk45 (by decide +kernel)
theorem dX6_told_80 : decode cX6_told 80 = .ok (.getfield 98, 3) := zk180 0 98 (by decide +kernel)
theorem dX6_told_83 : decode cX6_told 83 = .ok (.ireturn, 1) := zk172 (by decide +kernel)
theorem dX6_told_84 : decode cX6_told 84 = .ok (.aload_n 0, 1) := zk42 (by decide +kernel)
theorem dX6_told_85 : decode cX6_told 85 = .ok (.getfield 39, 3) := zk180 0 39 (by decide +kernel)
theorem dX6_told_88 : decode cX6_told 88 = .ok (.aload_n 3, 1) := zk45 (by decide +kernel)
theorem dX6_told_89 : decode cX6_told 89 = .ok (.invokevirtual 101, 3) := zk182 0 101 (by decide +kernel)
theorem dX6_told_92 : decode cX6_told 92 = .ok (.ireturn, 1) := zk172 (by decide +kernel)
theorem dX6_told_93 : decode cX6_told 93 = .ok (.aload_n 0, 1) := zk42 (by decide +kernel)
theorem dX6_told_94 : decode cX6_told 94 = .ok (.getfield 39, 3) := zk180 0 39 (by decide +kernel)
theorem dX6_told_97 : decode cX6_told 97 = .ok (.aload_n 3, 1) := zk45 (by decide +kernel)
theorem dX6_told_98 : decode cX6_told 98 = .ok (.getfield 92, 3) := zk180 0 92 (by decide +kernel)
theorem dX6_told_101 : decode cX6_told 101 = .ok (.invokevirtual 105, 3) := zk182 0 105 (by decide +kernel)
theorem dX6_told_104 : decode cX6_told 104 = .ok (.ifCond .eq 7, 3) := zk153 0 7 rfl (by decide +kernel)
theorem dX6_told_107 : decode cX6_told 107 = .ok (.iconst 1, 1) := zk4 (by decide +kernel)
theorem dX6_told_108 : decode cX6_told 108 = .ok (.goto 4, 3) := zk167 0 4 rfl (by decide +kernel)
theorem dX6_told_111 : decode cX6_told 111 = .ok (.iconst 0, 1) := zk3 (by decide +kernel)
theorem dX6_told_112 : decode cX6_told 112 = .ok (.ireturn, 1) := zk172 (by decide +kernel)
theorem dX6_told_113 : decode cX6_told 113 = .ok (.aload_n 3, 1) := zk45 (by decide +kernel)
theorem dX6_told_114 : decode cX6_told 114 = .ok (.invokevirtual 108, 3) := zk182 0 108 (by decide +kernel)
theorem dX6_told_117 : decode cX6_told 117 = .ok (.ireturn, 1) := zk172 (by decide +kernel)
theorem dX6_told_118 : decode cX6_told 118 = .ok (.ldc 69, 2) := zk18 69 (by decide +kernel)
theorem dX6_told_120 : decode cX6_told 120 = .ok (.ireturn, 1) := zk172 (by decide +kernel)
set_option maxRecDepth 20000 in
theorem ggX6_turns_X6_isStall : GoodIn wsX6_turns wsX6_isStall := goodIn_r _ [9, 2, 10, 11, 12, 8, 13, 14, 15, 16, 17, 18, 19, 20, 21, 22, 23, 24, 25, 26, 27, 28, 29, 30, 31, 32, 33, 34, 35, 36, 37, 38, 39, 40, 41, 42] rfl gw_wsX6_isStall
set_option maxRecDepth 20000 in
theorem gX6_turns_X6_isStall : GoodIn wsX6_turns (wsV RX6 79 RX6 yX6_isStall wsX6_isStall) := goodIn_app (goodIn_r _ [5, 6, 7, 8] rfl (by decide +kernel)) ggX6_turns_X6_isStall
set_option maxRecDepth 20000 in
theorem ggX6_turns_X6_within : GoodIn wsX6_turns wsX6_within := goodIn_r _ [13] rfl gw_wsX6_within
set_option maxRecDepth 20000 in
theorem gX6_turns_X6_within : GoodIn wsX6_turns (va_wsS RX6 65 yX6_within wsX6_within) := goodIn_app (goodIn_r _ [11, 12, 8] rfl (by decide +kernel)) ggX6_turns_X6_within
theorem dX6_turns_0 : decode cX6_turns 0 = .ok (.aload_n 0, 1) := zk42 (by decide +kernel)
theorem dX6_turns_1 : decode cX6_turns 1 = .ok (.iload_n 1, 1) := zk27 (by decide +kernel)
theorem dX6_turns_2 : decode cX6_turns 2 = .ok (.invokevirtual 79, 3) := zk182 0 79 (by decide +kernel)
theorem dX6_turns_5 : decode cX6_turns 5 = .ok (.ifCond .eq 12, 3) := zk153 0 12 rfl (by decide +kernel)
theorem dX6_turns_8 : decode cX6_turns 8 = .ok (.iload_n 2, 1) := zk28 (by decide +kernel)
theorem dX6_turns_9 : decode cX6_turns 9 = .ok (.iconst 0, 1) := zk3 (by decide +kernel)
theorem dX6_turns_10 : decode cX6_turns 10 = .ok (.iconst 5, 1) := zk8 (by decide +kernel)
theorem dX6_turns_11 : decode cX6_turns 11 = .ok (.invokestatic 65, 3) := zk184 0 65 (by decide +kernel)
theorem dX6_turns_14 : decode cX6_turns 14 = .ok (.ifCond .ne 6, 3) := zk154 0 6 rfl (by decide +kernel)
theorem dX6_turns_17 : decode cX6_turns 17 = .ok (.ldc 69, 2) := zk18 69 (by decide +kernel)
theorem dX6_turns_19 : decode cX6_turns 19 = .ok (.ireturn, 1) := zk172 (by decide +kernel)
theorem dX6_turns_20 : decode cX6_turns 20 = .ok (.aload_n 0, 1) := zk42 (by decide +kernel)
theorem dX6_turns_21 : decode cX6_turns 21 = .ok (.getfield 39, 3) := zk180 0 39 (by decide +kernel)
theorem dX6_turns_24 : decode cX6_turns 24 = .ok (.getfield 83, 3) := zk180 0 83 (by decide +kernel)
theorem dX6_turns_27 : decode cX6_turns 27 = .ok (.iload_n 1, 1) := zk27 (by decide +kernel)
theorem dX6_turns_28 : decode cX6_turns 28 = .ok (.aaload, 1) := zk50 (by decide +kernel)
theorem dX6_turns_29 : decode cX6_turns 29 = .ok (.astore_n 3, 1) := zk78 (by decide +kernel)
theorem dX6_turns_30 : decode cX6_turns 30 = .ok (.aload_n 3, 1) := zk45 (by decide +kernel)
theorem dX6_turns_31 : decode cX6_turns 31 = .ok (.getfield 87, 3) := zk180 0 87 (by decide +kernel)
theorem dX6_turns_34 : decode cX6_turns 34 = .ok (.istore 4, 2) := zk54 4 (by decide +kernel)
theorem dX6_turns_36 : decode cX6_turns 36 = .ok (.aload_n 3, 1) := zk45 (by decide +kernel)
theorem dX6_turns_37 : decode cX6_turns 37 = .ok (.iload_n 2, 1) := zk28 (by decide +kernel)
theorem dX6_turns_38 : decode cX6_turns 38 = .ok (.putfield 87, 3) := zk181 0 87 (by decide +kernel)
theorem dX6_turns_41 : decode cX6_turns 41 = .ok (.iload 4, 2) := zk21 4 (by decide +kernel)
theorem dX6_turns_43 : decode cX6_turns 43 = .ok (.ireturn, 1) := zk172 (by decide +kernel)
set_option maxRecDepth 20000 in
theorem ggX6_set_X6_isStall : GoodIn wsX6_set wsX6_isStall := goodIn_r _ [8, 2, 9, 10, 11, 7, 12, 25, 26, 27, 28, 29, 30, 31, 32, 33, 34, 35, 36, 37, 38, 39, 40, 41, 42, 43, 44, 45, 46, 47, 48, 49, 50, 51, 52, 53] rfl gw_wsX6_isStall
set_option maxRecDepth 20000 in
theorem gX6_set_X6_isStall : GoodIn wsX6_set (wsV RX6 79 RX6 yX6_isStall wsX6_isStall) := goodIn_app (goodIn_r _ [4, 5, 6, 7] rfl (by decide +kernel)) ggX6_set_X6_isStall
set_option maxRecDepth 20000 in
theorem gw_wsX6_setPlace : wsX6_setPlace.all goodWord = true := by decide +kernel
set_option maxRecDepth 20000 in
theorem ggX6_set_X6_setPlace : GoodIn wsX6_set wsX6_setPlace := goodIn_r _ [15, 1, 16, 10, 11, 7, 12, 54, 55, 56, 57] rfl gw_wsX6_setPlace
set_option maxRecDepth 20000 in
theorem gX6_set_X6_setPlace : GoodIn wsX6_set (va_wsS RX6 116 yX6_setPlace wsX6_setPlace) := goodIn_app (goodIn_r _ [13, 14, 7] rfl (by decide +kernel)) ggX6_set_X6_setPlace
set_option maxRecDepth 20000 in
theorem gw_wsX6_setGoods : wsX6_setGoods.all goodWord = true := by decide +kernel
set_option maxRecDepth 20000 in
theorem ggX6_set_X6_setGoods : GoodIn wsX6_set wsX6_setGoods := goodIn_r _ [19, 1, 20, 10, 11, 7, 12, 54, 55, 56, 57] rfl gw_wsX6_setGoods
set_option maxRecDepth 20000 in
theorem gX6_set_X6_setGoods : GoodIn wsX6_set (va_wsS RX6 120 yX6_setGoods wsX6_setGoods) := goodIn_app (goodIn_r _ [17, 18, 7] rfl (by decide +kernel)) ggX6_set_X6_setGoods
set_option maxRecDepth 20000 in
theorem gw_wsX6_setPay : wsX6_setPay.all goodWord = true := by decide +kernel
set_option maxRecDepth 20000 in
theorem ggX6_set_X6_setPay : GoodIn wsX6_set wsX6_setPay := goodIn_r _ [23, 1, 24, 10, 11, 7, 12, 54, 55, 56, 57] rfl gw_wsX6_setPay
set_option maxRecDepth 20000 in
theorem gX6_set_X6_setPay : GoodIn wsX6_set (va_wsS RX6 123 yX6_setPay wsX6_setPay) := goodIn_app (goodIn_r _ [21, 22, 7] rfl (by decide +kernel)) ggX6_set_X6_setPay
theorem dX6_set_0 : decode cX6_set 0 = .ok (.aload_n 0, 1) := zk42 (by decide +kernel)
theorem dX6_set_1 : decode cX6_set 1 = .ok (.iload_n 1, 1) := zk27 (by decide +kernel)
theorem dX6_set_2 : decode cX6_set 2 = .ok (.invokevirtual 79, 3) := zk182 0 79 (by decide +kernel)
theorem dX6_set_5 : decode cX6_set 5 = .ok (.ifCond .ne 6, 3) := zk154 0 6 rfl (by decide +kernel)
theorem dX6_set_8 : decode cX6_set 8 = .ok (.ldc 69, 2) := zk18 69 (by decide +kernel)
theorem dX6_set_10 : decode cX6_set 10 = .ok (.ireturn, 1) := zk172 (by decide +kernel)
theorem dX6_set_11 : decode cX6_set 11 = .ok (.iload_n 2, 1) := zk28 (by decide +kernel)
theorem dX6_set_12 : decode cX6_set 12 = .ok (.tableswitch 70 1 3 #[28, 42, 56], 28) := by decide +kernel
theorem dX6_set_40 : decode cX6_set 40 = .ok (.aload_n 0, 1) := zk42 (by decide +kernel)
theorem dX6_set_41 : decode cX6_set 41 = .ok (.getfield 39, 3) := zk180 0 39 (by decide +kernel)
theorem dX6_set_44 : decode cX6_set 44 = .ok (.getfield 83, 3) := zk180 0 83 (by decide +kernel)
theorem dX6_set_47 : decode cX6_set 47 = .ok (.iload_n 1, 1) := zk27 (by decide +kernel)
theorem dX6_set_48 : decode cX6_set 48 = .ok (.aaload, 1) := zk50 (by decide +kernel)
theorem dX6_set_49 : decode cX6_set 49 = .ok (.iload_n 3, 1) := zk29 (by decide +kernel)
theorem dX6_set_50 : decode cX6_set 50 = .ok (.invokestatic 116, 3) := zk184 0 116 (by decide +kernel)
theorem dX6_set_53 : decode cX6_set 53 = .ok (.ireturn, 1) := zk172 (by decide +kernel)
theorem dX6_set_54 : decode cX6_set 54 = .ok (.aload_n 0, 1) := zk42 (by decide +kernel)
theorem dX6_set_55 : decode cX6_set 55 = .ok (.getfield 39, 3) := zk180 0 39 (by decide +kernel)
theorem dX6_set_58 : decode cX6_set 58 = .ok (.getfield 83, 3) := zk180 0 83 (by decide +kernel)
theorem dX6_set_61 : decode cX6_set 61 = .ok (.iload_n 1, 1) := zk27 (by decide +kernel)
theorem dX6_set_62 : decode cX6_set 62 = .ok (.aaload, 1) := zk50 (by decide +kernel)
theorem dX6_set_63 : decode cX6_set 63 = .ok (.iload_n 3, 1) := zk29 (by decide +kernel)
theorem dX6_set_64 : decode cX6_set 64 = .ok (.invokestatic 120, 3) := zk184 0 120 (by decide +kernel)
theorem dX6_set_67 : decode cX6_set 67 = .ok (.ireturn, 1) := zk172 (by decide +kernel)
theorem dX6_set_68 : decode cX6_set 68 = .ok (.aload_n 0, 1) := zk42 (by decide +kernel)
theorem dX6_set_69 : decode cX6_set 69 = .ok (.getfield 39, 3) := zk180 0 39 (by decide +kernel)
theorem dX6_set_72 : decode cX6_set 72 = .ok (.getfield 83, 3) := zk180 0 83 (by decide +kernel)
theorem dX6_set_75 : decode cX6_set 75 = .ok (.iload_n 1, 1) := zk27 (by decide +kernel)
theorem dX6_set_76 : decode cX6_set 76 = .ok (.aaload, 1) := zk50 (by decide +kernel)
theorem dX6_set_77 : decode cX6_set 77 = .ok (.iload_n 3, 1) := zk29 (by decide +kernel)
theorem dX6_set_78 : decode cX6_set 78 = .ok (.invokestatic 123, 3) := zk184 0 123 (by decide +kernel)
theorem dX6_set_81 : decode cX6_set 81 = .ok (.ireturn, 1) := zk172 (by decide +kernel)
theorem dX6_set_82 : decode cX6_set 82 = .ok (.ldc 69, 2) := zk18 69 (by decide +kernel)
theorem dX6_set_84 : decode cX6_set 84 = .ok (.ireturn, 1) := zk172 (by decide +kernel)
set_option maxRecDepth 20000 in
theorem ggX6_setPlace_X6_within : GoodIn wsX6_setPlace wsX6_within := goodIn_r _ [6] rfl gw_wsX6_within
set_option maxRecDepth 20000 in
theorem gX6_setPlace_X6_within : GoodIn wsX6_setPlace (va_wsS RX6 65 yX6_within wsX6_within) := goodIn_app (goodIn_r _ [3, 4, 5] rfl (by decide +kernel)) ggX6_setPlace_X6_within
theorem dX6_setPlace_0 : decode cX6_setPlace 0 = .ok (.iload_n 1, 1) := zk27 (by decide +kernel)
theorem dX6_setPlace_1 : decode cX6_setPlace 1 = .ok (.iconst 0, 1) := zk3 (by decide +kernel)
theorem dX6_setPlace_2 : decode cX6_setPlace 2 = .ok (.bipush 11, 2) := zk16 11 rfl (by decide +kernel)
theorem dX6_setPlace_4 : decode cX6_setPlace 4 = .ok (.invokestatic 65, 3) := zk184 0 65 (by decide +kernel)
theorem dX6_setPlace_7 : decode cX6_setPlace 7 = .ok (.ifCond .ne 6, 3) := zk154 0 6 rfl (by decide +kernel)
theorem dX6_setPlace_10 : decode cX6_setPlace 10 = .ok (.ldc 69, 2) := zk18 69 (by decide +kernel)
theorem dX6_setPlace_12 : decode cX6_setPlace 12 = .ok (.ireturn, 1) := zk172 (by decide +kernel)
theorem dX6_setPlace_13 : decode cX6_setPlace 13 = .ok (.aload_n 0, 1) := zk42 (by decide +kernel)
theorem dX6_setPlace_14 : decode cX6_setPlace 14 = .ok (.getfield 92, 3) := zk180 0 92 (by decide +kernel)
theorem dX6_setPlace_17 : decode cX6_setPlace 17 = .ok (.istore_n 2, 1) := zk61 (by decide +kernel)
theorem dX6_setPlace_18 : decode cX6_setPlace 18 = .ok (.aload_n 0, 1) := zk42 (by decide +kernel)
theorem dX6_setPlace_19 : decode cX6_setPlace 19 = .ok (.iload_n 1, 1) := zk27 (by decide +kernel)
theorem dX6_setPlace_20 : decode cX6_setPlace 20 = .ok (.putfield 92, 3) := zk181 0 92 (by decide +kernel)
theorem dX6_setPlace_23 : decode cX6_setPlace 23 = .ok (.iload_n 2, 1) := zk28 (by decide +kernel)
theorem dX6_setPlace_24 : decode cX6_setPlace 24 = .ok (.ireturn, 1) := zk172 (by decide +kernel)
set_option maxRecDepth 20000 in
theorem ggX6_setGoods_X6_within : GoodIn wsX6_setGoods wsX6_within := goodIn_r _ [6] rfl gw_wsX6_within
set_option maxRecDepth 20000 in
theorem gX6_setGoods_X6_within : GoodIn wsX6_setGoods (va_wsS RX6 65 yX6_within wsX6_within) := goodIn_app (goodIn_r _ [3, 4, 5] rfl (by decide +kernel)) ggX6_setGoods_X6_within
theorem dX6_setGoods_0 : decode cX6_setGoods 0 = .ok (.iload_n 1, 1) := zk27 (by decide +kernel)
theorem dX6_setGoods_1 : decode cX6_setGoods 1 = .ok (.iconst 0, 1) := zk3 (by decide +kernel)
theorem dX6_setGoods_2 : decode cX6_setGoods 2 = .ok (.sipush 999, 3) := zk17 3 231 rfl (by decide +kernel)
theorem dX6_setGoods_5 : decode cX6_setGoods 5 = .ok (.invokestatic 65, 3) := zk184 0 65 (by decide +kernel)
theorem dX6_setGoods_8 : decode cX6_setGoods 8 = .ok (.ifCond .ne 6, 3) := zk154 0 6 rfl (by decide +kernel)
theorem dX6_setGoods_11 : decode cX6_setGoods 11 = .ok (.ldc 69, 2) := zk18 69 (by decide +kernel)
theorem dX6_setGoods_13 : decode cX6_setGoods 13 = .ok (.ireturn, 1) := zk172 (by decide +kernel)
theorem dX6_setGoods_14 : decode cX6_setGoods 14 = .ok (.aload_n 0, 1) := zk42 (by decide +kernel)
theorem dX6_setGoods_15 : decode cX6_setGoods 15 = .ok (.getfield 95, 3) := zk180 0 95 (by decide +kernel)
theorem dX6_setGoods_18 : decode cX6_setGoods 18 = .ok (.istore_n 2, 1) := zk61 (by decide +kernel)
theorem dX6_setGoods_19 : decode cX6_setGoods 19 = .ok (.aload_n 0, 1) := zk42 (by decide +kernel)
theorem dX6_setGoods_20 : decode cX6_setGoods 20 = .ok (.iload_n 1, 1) := zk27 (by decide +kernel)
theorem dX6_setGoods_21 : decode cX6_setGoods 21 = .ok (.putfield 95, 3) := zk181 0 95 (by decide +kernel)
theorem dX6_setGoods_24 : decode cX6_setGoods 24 = .ok (.iload_n 2, 1) := zk28 (by decide +kernel)
theorem dX6_setGoods_25 : decode cX6_setGoods 25 = .ok (.ireturn, 1) := zk172 (by decide +kernel)
set_option maxRecDepth 20000 in
theorem ggX6_setPay_X6_within : GoodIn wsX6_setPay wsX6_within := goodIn_r _ [6] rfl gw_wsX6_within
set_option maxRecDepth 20000 in
theorem gX6_setPay_X6_within : GoodIn wsX6_setPay (va_wsS RX6 65 yX6_within wsX6_within) := goodIn_app (goodIn_r _ [3, 4, 5] rfl (by decide +kernel)) ggX6_setPay_X6_within
theorem dX6_setPay_0 : decode cX6_setPay 0 = .ok (.iload_n 1, 1) := zk27 (by decide +kernel)
theorem dX6_setPay_1 : decode cX6_setPay 1 = .ok (.iconst 0, 1) := zk3 (by decide +kernel)
theorem dX6_setPay_2 : decode cX6_setPay 2 = .ok (.bipush 99, 2) := zk16 99 rfl (by decide +kernel)
theorem dX6_setPay_4 : decode cX6_setPay 4 = .ok (.invokestatic 65, 3) := zk184 0 65 (by decide +kernel)
theorem dX6_setPay_7 : decode cX6_setPay 7 = .ok (.ifCond .ne 6, 3) := zk154 0 6 rfl (by decide +kernel)
theorem dX6_setPay_10 : decode cX6_setPay 10 = .ok (.ldc 69, 2) := zk18 69 (by decide +kernel)
theorem dX6_setPay_12 : decode cX6_setPay 12 = .ok (.ireturn, 1) := zk172 (by decide +kernel)
theorem dX6_setPay_13 : decode cX6_setPay 13 = .ok (.aload_n 0, 1) := zk42 (by decide +kernel)
theorem dX6_setPay_14 : decode cX6_setPay 14 = .ok (.getfield 98, 3) := zk180 0 98 (by decide +kernel)
theorem dX6_setPay_17 : decode cX6_setPay 17 = .ok (.istore_n 2, 1) := zk61 (by decide +kernel)
theorem dX6_setPay_18 : decode cX6_setPay 18 = .ok (.aload_n 0, 1) := zk42 (by decide +kernel)
theorem dX6_setPay_19 : decode cX6_setPay 19 = .ok (.iload_n 1, 1) := zk27 (by decide +kernel)
theorem dX6_setPay_20 : decode cX6_setPay 20 = .ok (.putfield 98, 3) := zk181 0 98 (by decide +kernel)
theorem dX6_setPay_23 : decode cX6_setPay 23 = .ok (.iload_n 2, 1) := zk28 (by decide +kernel)
theorem dX6_setPay_24 : decode cX6_setPay 24 = .ok (.ireturn, 1) := zk172 (by decide +kernel)
set_option maxRecDepth 20000 in
theorem gw_wsX6_ruleFirst : wsX6_ruleFirst.all goodWord = true := by decide +kernel
def bs_wsX6_rule : List (List Cond) := [[.code yX6_rule cX6_rule 3 (some .int)], wsX6_rule_r1, wsX6_rule_r2, wsX60, wsX00]
theorem bse_wsX6_rule : wsX6_rule = bs_wsX6_rule.flatten := by
  unfold wsX6_rule bs_wsX6_rule
  simp only [List.flatten_cons, List.flatten_nil, List.append_nil, List.append_assoc, List.cons_append, List.nil_append]
set_option maxRecDepth 20000 in
theorem ggX6_rule_X6_ruleFirst : GoodIn wsX6_rule wsX6_ruleFirst := goodIn_pc bs_wsX6_rule bse_wsX6_rule _ [(1, [5, 6, 0, 7, 8, 9, 10, 11, 12, 13, 14, 15, 4, 16]), (3, [0, 1, 2, 3, 4, 5, 6, 7, 8, 9, 10, 11, 12, 13, 14]), (4, [0, 1, 2, 3, 4, 5, 6, 7, 8, 9, 10, 11, 12, 13])] rfl gw_wsX6_ruleFirst
set_option maxRecDepth 20000 in
theorem gX6_rule_X6_ruleFirst : GoodIn wsX6_rule (wsV RX6 147 RX6 yX6_ruleFirst wsX6_ruleFirst) := goodIn_app (goodIn_pc bs_wsX6_rule bse_wsX6_rule _ [(1, [1, 2, 3, 4])] rfl (by decide +kernel)) ggX6_rule_X6_ruleFirst
set_option maxRecDepth 20000 in
theorem gw_wsX6_ruleWidth : wsX6_ruleWidth.all goodWord = true := by decide +kernel
set_option maxRecDepth 20000 in
theorem ggX6_rule_X6_ruleWidth : GoodIn wsX6_rule wsX6_ruleWidth := goodIn_pc bs_wsX6_rule bse_wsX6_rule _ [(1, [20, 0, 6, 21, 14, 15, 4, 16, 22, 23]), (2, [0]), (1, [11]), (2, [1]), (1, [13]), (2, [2, 3]), (1, [9, 10, 12]), (2, [4, 5, 6, 7, 8, 9, 10, 11, 12]), (3, [0, 1, 2, 3, 4, 5, 6, 7, 8, 9, 10, 11, 12, 13, 14]), (4, [0, 1, 2, 3, 4, 5, 6, 7, 8, 9, 10, 11, 12, 13])] rfl gw_wsX6_ruleWidth
set_option maxRecDepth 20000 in
theorem gX6_rule_X6_ruleWidth : GoodIn wsX6_rule (wsV RX6 151 RX6 yX6_ruleWidth wsX6_ruleWidth) := goodIn_app (goodIn_pc bs_wsX6_rule bse_wsX6_rule _ [(1, [17, 18, 19, 4])] rfl (by decide +kernel)) ggX6_rule_X6_ruleWidth
set_option maxRecDepth 20000 in
theorem gw_wsX6_ruleGust : wsX6_ruleGust.all goodWord = true := by decide +kernel
set_option maxRecDepth 20000 in
theorem ggX6_rule_X6_ruleGust : GoodIn wsX6_rule wsX6_ruleGust := goodIn_pc bs_wsX6_rule bse_wsX6_rule _ [(2, [16]), (1, [0, 6]), (2, [17]), (1, [14, 15, 4, 16]), (3, [0, 1, 2, 3, 4, 5, 6, 7, 8, 9, 10, 11, 12, 13, 14]), (4, [0, 1, 2, 3, 4, 5, 6, 7, 8, 9, 10, 11, 12, 13])] rfl gw_wsX6_ruleGust
set_option maxRecDepth 20000 in
theorem gX6_rule_X6_ruleGust : GoodIn wsX6_rule (wsV RX6 154 RX6 yX6_ruleGust wsX6_ruleGust) := goodIn_app (goodIn_pc bs_wsX6_rule bse_wsX6_rule _ [(2, [13, 14, 15]), (1, [4])] rfl (by decide +kernel)) ggX6_rule_X6_ruleGust
set_option maxRecDepth 20000 in
theorem gw_wsX6_ruleMode : wsX6_ruleMode.all goodWord = true := by decide +kernel
set_option maxRecDepth 20000 in
theorem ggX6_rule_X6_ruleMode : GoodIn wsX6_rule wsX6_ruleMode := goodIn_pc bs_wsX6_rule bse_wsX6_rule _ [(2, [21]), (1, [0, 6]), (2, [22]), (1, [14, 15, 4, 16]), (3, [0, 1, 2, 3, 4, 5, 6, 7, 8, 9, 10, 11, 12, 13, 14]), (4, [0, 1, 2, 3, 4, 5, 6, 7, 8, 9, 10, 11, 12, 13])] rfl gw_wsX6_ruleMode
set_option maxRecDepth 20000 in
theorem gX6_rule_X6_ruleMode : GoodIn wsX6_rule (wsV RX6 157 RX6 yX6_ruleMode wsX6_ruleMode) := goodIn_app (goodIn_pc bs_wsX6_rule bse_wsX6_rule _ [(2, [18, 19, 20]), (1, [4])] rfl (by decide +kernel)) ggX6_rule_X6_ruleMode
theorem dX6_rule_0 : decode cX6_rule 0 = .ok (.iload_n 1, 1) := zk27 (by decide +kernel)
theorem dX6_rule_1 : decode cX6_rule 1 = .ok (.tableswitch 55 0 3 #[31, 37, 43, 49], 31) := by decide +kernel
theorem dX6_rule_32 : decode cX6_rule 32 = .ok (.aload_n 0, 1) := zk42 (by decide +kernel)
theorem dX6_rule_33 : decode cX6_rule 33 = .ok (.iload_n 2, 1) := zk28 (by decide +kernel)
theorem dX6_rule_34 : decode cX6_rule 34 = .ok (.invokevirtual 147, 3) := zk182 0 147 (by decide +kernel)
theorem dX6_rule_37 : decode cX6_rule 37 = .ok (.ireturn, 1) := zk172 (by decide +kernel)
theorem dX6_rule_38 : decode cX6_rule 38 = .ok (.aload_n 0, 1) := zk42 (by decide +kernel)
theorem dX6_rule_39 : decode cX6_rule 39 = .ok (.iload_n 2, 1) := zk28 (by decide +kernel)
theorem dX6_rule_40 : decode cX6_rule 40 = .ok (.invokevirtual 151, 3) := zk182 0 151 (by decide +kernel)
theorem dX6_rule_43 : decode cX6_rule 43 = .ok (.ireturn, 1) := zk172 (by decide +kernel)
theorem dX6_rule_44 : decode cX6_rule 44 = .ok (.aload_n 0, 1) := zk42 (by decide +kernel)
theorem dX6_rule_45 : decode cX6_rule 45 = .ok (.iload_n 2, 1) := zk28 (by decide +kernel)
theorem dX6_rule_46 : decode cX6_rule 46 = .ok (.invokevirtual 154, 3) := zk182 0 154 (by decide +kernel)
theorem dX6_rule_49 : decode cX6_rule 49 = .ok (.ireturn, 1) := zk172 (by decide +kernel)
theorem dX6_rule_50 : decode cX6_rule 50 = .ok (.aload_n 0, 1) := zk42 (by decide +kernel)
theorem dX6_rule_51 : decode cX6_rule 51 = .ok (.iload_n 2, 1) := zk28 (by decide +kernel)
theorem dX6_rule_52 : decode cX6_rule 52 = .ok (.invokevirtual 157, 3) := zk182 0 157 (by decide +kernel)
theorem dX6_rule_55 : decode cX6_rule 55 = .ok (.ireturn, 1) := zk172 (by decide +kernel)
theorem dX6_rule_56 : decode cX6_rule 56 = .ok (.ldc 69, 2) := zk18 69 (by decide +kernel)
theorem dX6_rule_58 : decode cX6_rule 58 = .ok (.ireturn, 1) := zk172 (by decide +kernel)
set_option maxRecDepth 20000 in
theorem ggX6_ruleFirst_X0_lastFirst : GoodIn wsX6_ruleFirst wsX0_lastFirst := goodIn_r _ [8, 9, 29, 30, 31, 32, 33, 34, 35, 36, 37, 38, 39, 40, 41, 42] rfl gw_wsX0_lastFirst
set_option maxRecDepth 20000 in
theorem gX6_ruleFirst_X0_lastFirst : GoodIn wsX6_ruleFirst (wsV RX6 160 RX0 yX0_lastFirst wsX0_lastFirst) := goodIn_app (goodIn_r _ [4, 5, 6, 7] rfl (by decide +kernel)) ggX6_ruleFirst_X0_lastFirst
set_option maxRecDepth 20000 in
theorem ggX6_ruleFirst_X6_within : GoodIn wsX6_ruleFirst wsX6_within := goodIn_r _ [13] rfl gw_wsX6_within
set_option maxRecDepth 20000 in
theorem gX6_ruleFirst_X6_within : GoodIn wsX6_ruleFirst (va_wsS RX6 65 yX6_within wsX6_within) := goodIn_app (goodIn_r _ [10, 11, 12] rfl (by decide +kernel)) ggX6_ruleFirst_X6_within
theorem dX6_ruleFirst_0 : decode cX6_ruleFirst 0 = .ok (.iload_n 1, 1) := zk27 (by decide +kernel)
theorem dX6_ruleFirst_1 : decode cX6_ruleFirst 1 = .ok (.iconst 0, 1) := zk3 (by decide +kernel)
theorem dX6_ruleFirst_2 : decode cX6_ruleFirst 2 = .ok (.aload_n 0, 1) := zk42 (by decide +kernel)
theorem dX6_ruleFirst_3 : decode cX6_ruleFirst 3 = .ok (.getfield 39, 3) := zk180 0 39 (by decide +kernel)
theorem dX6_ruleFirst_6 : decode cX6_ruleFirst 6 = .ok (.invokevirtual 160, 3) := zk182 0 160 (by decide +kernel)
theorem dX6_ruleFirst_9 : decode cX6_ruleFirst 9 = .ok (.invokestatic 65, 3) := zk184 0 65 (by decide +kernel)
theorem dX6_ruleFirst_12 : decode cX6_ruleFirst 12 = .ok (.ifCond .ne 6, 3) := zk154 0 6 rfl (by decide +kernel)
theorem dX6_ruleFirst_15 : decode cX6_ruleFirst 15 = .ok (.ldc 69, 2) := zk18 69 (by decide +kernel)
theorem dX6_ruleFirst_17 : decode cX6_ruleFirst 17 = .ok (.ireturn, 1) := zk172 (by decide +kernel)
theorem dX6_ruleFirst_18 : decode cX6_ruleFirst 18 = .ok (.aload_n 0, 1) := zk42 (by decide +kernel)
theorem dX6_ruleFirst_19 : decode cX6_ruleFirst 19 = .ok (.getfield 39, 3) := zk180 0 39 (by decide +kernel)
theorem dX6_ruleFirst_22 : decode cX6_ruleFirst 22 = .ok (.getfield 126, 3) := zk180 0 126 (by decide +kernel)
theorem dX6_ruleFirst_25 : decode cX6_ruleFirst 25 = .ok (.istore_n 2, 1) := zk61 (by decide +kernel)
theorem dX6_ruleFirst_26 : decode cX6_ruleFirst 26 = .ok (.aload_n 0, 1) := zk42 (by decide +kernel)
theorem dX6_ruleFirst_27 : decode cX6_ruleFirst 27 = .ok (.getfield 39, 3) := zk180 0 39 (by decide +kernel)
theorem dX6_ruleFirst_30 : decode cX6_ruleFirst 30 = .ok (.iload_n 1, 1) := zk27 (by decide +kernel)
theorem dX6_ruleFirst_31 : decode cX6_ruleFirst 31 = .ok (.putfield 126, 3) := zk181 0 126 (by decide +kernel)
theorem dX6_ruleFirst_34 : decode cX6_ruleFirst 34 = .ok (.iload_n 2, 1) := zk28 (by decide +kernel)
theorem dX6_ruleFirst_35 : decode cX6_ruleFirst 35 = .ok (.ireturn, 1) := zk172 (by decide +kernel)
def bs_wsX6_ruleWidth : List (List Cond) := [[.code yX6_ruleWidth cX6_ruleWidth 3 (some .int)], wsX6_ruleWidth_r1, wsX6_ruleWidth_r2, wsX60, wsX00]
theorem bse_wsX6_ruleWidth : wsX6_ruleWidth = bs_wsX6_ruleWidth.flatten := by
  unfold wsX6_ruleWidth bs_wsX6_ruleWidth
  simp only [List.flatten_cons, List.flatten_nil, List.append_nil, List.append_assoc, List.cons_append, List.nil_append]
set_option maxRecDepth 20000 in
theorem ggX6_ruleWidth_X6_within : GoodIn wsX6_ruleWidth wsX6_within := goodIn_pc bs_wsX6_ruleWidth bse_wsX6_ruleWidth _ [(1, [6])] rfl gw_wsX6_within
set_option maxRecDepth 20000 in
theorem gX6_ruleWidth_X6_within : GoodIn wsX6_ruleWidth (va_wsS RX6 65 yX6_within wsX6_within) := goodIn_app (goodIn_pc bs_wsX6_ruleWidth bse_wsX6_ruleWidth _ [(1, [3, 4, 5])] rfl (by decide +kernel)) ggX6_ruleWidth_X6_within
set_option maxRecDepth 20000 in
theorem gw_wsX0_widen : wsX0_widen.all goodWord = true := by decide +kernel
set_option maxRecDepth 20000 in
theorem ggX6_ruleWidth_X0_widen : GoodIn wsX6_ruleWidth wsX0_widen := goodIn_pc bs_wsX6_ruleWidth bse_wsX6_ruleWidth _ [(1, [11, 12, 13, 14, 15, 16, 10, 17, 18, 5, 19, 20, 21, 22, 23]), (2, [0, 1, 2]), (4, [0, 1, 2, 3, 4, 5, 6, 7, 8, 9, 10, 11, 12, 13])] rfl gw_wsX0_widen
set_option maxRecDepth 20000 in
theorem gX6_ruleWidth_X0_widen : GoodIn wsX6_ruleWidth (wsV RX6 163 RX0 yX0_widen wsX0_widen) := goodIn_app (goodIn_pc bs_wsX6_ruleWidth bse_wsX6_ruleWidth _ [(1, [7, 8, 9, 10])] rfl (by decide +kernel)) ggX6_ruleWidth_X0_widen
theorem dX6_ruleWidth_0 : decode cX6_ruleWidth 0 = .ok (.iload_n 1, 1) := zk27 (by decide +kernel)
theorem dX6_ruleWidth_1 : decode cX6_ruleWidth 1 = .ok (.iconst 1, 1) := zk4 (by decide +kernel)
theorem dX6_ruleWidth_2 : decode cX6_ruleWidth 2 = .ok (.bipush 6, 2) := zk16 6 rfl (by decide +kernel)
theorem dX6_ruleWidth_4 : decode cX6_ruleWidth 4 = .ok (.invokestatic 65, 3) := zk184 0 65 (by decide +kernel)
theorem dX6_ruleWidth_7 : decode cX6_ruleWidth 7 = .ok (.ifCond .ne 6, 3) := zk154 0 6 rfl (by decide +kernel)
theorem dX6_ruleWidth_10 : decode cX6_ruleWidth 10 = .ok (.ldc 69, 2) := zk18 69 (by decide +kernel)
theorem dX6_ruleWidth_12 : decode cX6_ruleWidth 12 = .ok (.ireturn, 1) := zk172 (by decide +kernel)
theorem dX6_ruleWidth_13 : decode cX6_ruleWidth 13 = .ok (.aload_n 0, 1) := zk42 (by decide +kernel)
theorem dX6_ruleWidth_14 : decode cX6_ruleWidth 14 = .ok (.getfield 39, 3) := zk180 0 39 (by decide +kernel)
theorem dX6_ruleWidth_17 : decode cX6_ruleWidth 17 = .ok (.getfield 129, 3) := zk180 0 129 (by decide +kernel)
theorem dX6_ruleWidth_20 : decode cX6_ruleWidth 20 = .ok (.istore_n 2, 1) := zk61 (by decide +kernel)
theorem dX6_ruleWidth_21 : decode cX6_ruleWidth 21 = .ok (.aload_n 0, 1) := zk42 (by decide +kernel)
theorem dX6_ruleWidth_22 : decode cX6_ruleWidth 22 = .ok (.getfield 39, 3) := zk180 0 39 (by decide +kernel)
theorem dX6_ruleWidth_25 : decode cX6_ruleWidth 25 = .ok (.iload_n 1, 1) := zk27 (by decide +kernel)
theorem dX6_ruleWidth_26 : decode cX6_ruleWidth 26 = .ok (.invokevirtual 163, 3) := zk182 0 163 (by decide +kernel)
theorem dX6_ruleWidth_29 : decode cX6_ruleWidth 29 = .ok (.iload_n 2, 1) := zk28 (by decide +kernel)
theorem dX6_ruleWidth_30 : decode cX6_ruleWidth 30 = .ok (.ireturn, 1) := zk172 (by decide +kernel)
set_option maxRecDepth 20000 in
theorem ggX6_ruleGust_X6_within : GoodIn wsX6_ruleGust wsX6_within := goodIn_r _ [7] rfl gw_wsX6_within
set_option maxRecDepth 20000 in
theorem gX6_ruleGust_X6_within : GoodIn wsX6_ruleGust (va_wsS RX6 65 yX6_within wsX6_within) := goodIn_app (goodIn_r _ [4, 5, 6] rfl (by decide +kernel)) ggX6_ruleGust_X6_within
theorem dX6_ruleGust_0 : decode cX6_ruleGust 0 = .ok (.iload_n 1, 1) := zk27 (by decide +kernel)
theorem dX6_ruleGust_1 : decode cX6_ruleGust 1 = .ok (.iconst 0, 1) := zk3 (by decide +kernel)
theorem dX6_ruleGust_2 : decode cX6_ruleGust 2 = .ok (.bipush 100, 2) := zk16 100 rfl (by decide +kernel)
theorem dX6_ruleGust_4 : decode cX6_ruleGust 4 = .ok (.invokestatic 65, 3) := zk184 0 65 (by decide +kernel)
theorem dX6_ruleGust_7 : decode cX6_ruleGust 7 = .ok (.ifCond .ne 6, 3) := zk154 0 6 rfl (by decide +kernel)
theorem dX6_ruleGust_10 : decode cX6_ruleGust 10 = .ok (.ldc 69, 2) := zk18 69 (by decide +kernel)
theorem dX6_ruleGust_12 : decode cX6_ruleGust 12 = .ok (.ireturn, 1) := zk172 (by decide +kernel)
theorem dX6_ruleGust_13 : decode cX6_ruleGust 13 = .ok (.aload_n 0, 1) := zk42 (by decide +kernel)
theorem dX6_ruleGust_14 : decode cX6_ruleGust 14 = .ok (.getfield 39, 3) := zk180 0 39 (by decide +kernel)
theorem dX6_ruleGust_17 : decode cX6_ruleGust 17 = .ok (.getfield 132, 3) := zk180 0 132 (by decide +kernel)
theorem dX6_ruleGust_20 : decode cX6_ruleGust 20 = .ok (.istore_n 2, 1) := zk61 (by decide +kernel)
theorem dX6_ruleGust_21 : decode cX6_ruleGust 21 = .ok (.aload_n 0, 1) := zk42 (by decide +kernel)
theorem dX6_ruleGust_22 : decode cX6_ruleGust 22 = .ok (.getfield 39, 3) := zk180 0 39 (by decide +kernel)
theorem dX6_ruleGust_25 : decode cX6_ruleGust 25 = .ok (.iload_n 1, 1) := zk27 (by decide +kernel)
theorem dX6_ruleGust_26 : decode cX6_ruleGust 26 = .ok (.putfield 132, 3) := zk181 0 132 (by decide +kernel)
theorem dX6_ruleGust_29 : decode cX6_ruleGust 29 = .ok (.iload_n 2, 1) := zk28 (by decide +kernel)
theorem dX6_ruleGust_30 : decode cX6_ruleGust 30 = .ok (.ireturn, 1) := zk172 (by decide +kernel)
set_option maxRecDepth 20000 in
theorem ggX6_ruleMode_X6_within : GoodIn wsX6_ruleMode wsX6_within := goodIn_r _ [7] rfl gw_wsX6_within
set_option maxRecDepth 20000 in
theorem gX6_ruleMode_X6_within : GoodIn wsX6_ruleMode (va_wsS RX6 65 yX6_within wsX6_within) := goodIn_app (goodIn_r _ [4, 5, 6] rfl (by decide +kernel)) ggX6_ruleMode_X6_within
theorem dX6_ruleMode_0 : decode cX6_ruleMode 0 = .ok (.iload_n 1, 1) := zk27 (by decide +kernel)
theorem dX6_ruleMode_1 : decode cX6_ruleMode 1 = .ok (.iconst 0, 1) := zk3 (by decide +kernel)
theorem dX6_ruleMode_2 : decode cX6_ruleMode 2 = .ok (.iconst 2, 1) := zk5 (by decide +kernel)
theorem dX6_ruleMode_3 : decode cX6_ruleMode 3 = .ok (.invokestatic 65, 3) := zk184 0 65 (by decide +kernel)
theorem dX6_ruleMode_6 : decode cX6_ruleMode 6 = .ok (.ifCond .ne 6, 3) := zk154 0 6 rfl (by decide +kernel)
theorem dX6_ruleMode_9 : decode cX6_ruleMode 9 = .ok (.ldc 69, 2) := zk18 69 (by decide +kernel)
theorem dX6_ruleMode_11 : decode cX6_ruleMode 11 = .ok (.ireturn, 1) := zk172 (by decide +kernel)
theorem dX6_ruleMode_12 : decode cX6_ruleMode 12 = .ok (.aload_n 0, 1) := zk42 (by decide +kernel)
theorem dX6_ruleMode_13 : decode cX6_ruleMode 13 = .ok (.getfield 39, 3) := zk180 0 39 (by decide +kernel)
theorem dX6_ruleMode_16 : decode cX6_ruleMode 16 = .ok (.getfield 135, 3) := zk180 0 135 (by decide +kernel)
theorem dX6_ruleMode_19 : decode cX6_ruleMode 19 = .ok (.istore_n 2, 1) := zk61 (by decide +kernel)
theorem dX6_ruleMode_20 : decode cX6_ruleMode 20 = .ok (.aload_n 0, 1) := zk42 (by decide +kernel)
theorem dX6_ruleMode_21 : decode cX6_ruleMode 21 = .ok (.getfield 39, 3) := zk180 0 39 (by decide +kernel)
theorem dX6_ruleMode_24 : decode cX6_ruleMode 24 = .ok (.iload_n 1, 1) := zk27 (by decide +kernel)
theorem dX6_ruleMode_25 : decode cX6_ruleMode 25 = .ok (.putfield 135, 3) := zk181 0 135 (by decide +kernel)
theorem dX6_ruleMode_28 : decode cX6_ruleMode 28 = .ok (.iload_n 2, 1) := zk28 (by decide +kernel)
theorem dX6_ruleMode_29 : decode cX6_ruleMode 29 = .ok (.ireturn, 1) := zk172 (by decide +kernel)
theorem dX6_seed_0 : decode cX6_seed 0 = .ok (.aload_n 0, 1) := zk42 (by decide +kernel)
theorem dX6_seed_1 : decode cX6_seed 1 = .ok (.getfield 39, 3) := zk180 0 39 (by decide +kernel)
theorem dX6_seed_4 : decode cX6_seed 4 = .ok (.getfield 176, 3) := zk180 0 176 (by decide +kernel)
theorem dX6_seed_7 : decode cX6_seed 7 = .ok (.istore_n 2, 1) := zk61 (by decide +kernel)
theorem dX6_seed_8 : decode cX6_seed 8 = .ok (.aload_n 0, 1) := zk42 (by decide +kernel)
theorem dX6_seed_9 : decode cX6_seed 9 = .ok (.getfield 39, 3) := zk180 0 39 (by decide +kernel)
theorem dX6_seed_12 : decode cX6_seed 12 = .ok (.iload_n 1, 1) := zk27 (by decide +kernel)
theorem dX6_seed_13 : decode cX6_seed 13 = .ok (.putfield 176, 3) := zk181 0 176 (by decide +kernel)
theorem dX6_seed_16 : decode cX6_seed 16 = .ok (.iload_n 2, 1) := zk28 (by decide +kernel)
theorem dX6_seed_17 : decode cX6_seed 17 = .ok (.ireturn, 1) := zk172 (by decide +kernel)
def bs_wsX6_wider : List (List Cond) := [[.code yX6_wider cX6_wider 4 (some .int)], wsX6_wider_r1, wsX6_wider_r2, wsX6_wider_r3, wsX6_wider_r4, wsX6_wider_r5, wsX6_wider_r6, wsX60, wsX00, wsX40, wsX50]
theorem bse_wsX6_wider : wsX6_wider = bs_wsX6_wider.flatten := by
  unfold wsX6_wider bs_wsX6_wider
  simp only [List.flatten_cons, List.flatten_nil, List.append_nil, List.append_assoc, List.cons_append, List.nil_append]
set_option maxRecDepth 20000 in
theorem ggX6_wider_X6_within : GoodIn wsX6_wider wsX6_within := goodIn_pc bs_wsX6_wider bse_wsX6_wider _ [(1, [8])] rfl gw_wsX6_within
set_option maxRecDepth 20000 in
theorem gX6_wider_X6_within : GoodIn wsX6_wider (va_wsS RX6 65 yX6_within wsX6_within) := goodIn_app (goodIn_pc bs_wsX6_wider bse_wsX6_wider _ [(1, [5, 6, 7])] rfl (by decide +kernel)) ggX6_wider_X6_within
set_option maxRecDepth 20000 in
theorem ggX6_wider_X0_takeOver : GoodIn wsX6_wider wsX0_takeOver := goodIn_pc bs_wsX6_wider bse_wsX6_wider _ [(1, [13, 14, 15, 16, 17, 18, 19, 20, 21, 22, 23]), (2, [0, 1, 2, 3, 4, 5, 6, 7, 8, 9, 10, 11]), (8, [0, 1, 2, 3, 4, 5, 6, 7, 8, 9, 10, 11, 12, 13]), (9, [0, 1, 2, 3])] rfl gw_wsX0_takeOver
set_option maxRecDepth 20000 in
theorem gX6_wider_X0_takeOver : GoodIn wsX6_wider (wsV RX6 200 RX0 yX0_takeOver wsX0_takeOver) := goodIn_app (goodIn_pc bs_wsX6_wider bse_wsX6_wider _ [(1, [9, 10, 11, 12])] rfl (by decide +kernel)) ggX6_wider_X0_takeOver
set_option maxRecDepth 20000 in
theorem ggX6_wider_X0_widen : GoodIn wsX6_wider wsX0_widen := goodIn_pc bs_wsX6_wider bse_wsX6_wider _ [(2, [15]), (1, [18, 19]), (2, [16, 17, 18]), (1, [12]), (2, [19, 20]), (1, [7]), (2, [21, 22, 23]), (3, [0, 1, 2, 3, 4]), (8, [0, 1, 2, 3, 4, 5, 6, 7, 8, 9, 10, 11, 12, 13])] rfl gw_wsX0_widen
set_option maxRecDepth 20000 in
theorem gX6_wider_X0_widen : GoodIn wsX6_wider (wsV RX6 163 RX0 yX0_widen wsX0_widen) := goodIn_app (goodIn_pc bs_wsX6_wider bse_wsX6_wider _ [(2, [12, 13, 14]), (1, [12])] rfl (by decide +kernel)) ggX6_wider_X0_widen
set_option maxRecDepth 20000 in
theorem ggX6_wider_X6_thinkOn : GoodIn wsX6_wider wsX6_thinkOn := goodIn_pc bs_wsX6_wider bse_wsX6_wider _ [(3, [8]), (1, [1]), (3, [9, 10, 11]), (1, [12]), (3, [12]), (1, [22]), (3, [13, 14, 15, 16]), (1, [14, 15]), (3, [17]), (1, [19]), (3, [18, 19, 20, 21, 22, 23]), (4, [0, 1]), (1, [18]), (4, [2, 3, 4, 5]), (1, [20]), (4, [6, 7, 8, 9, 10, 11]), (2, [23]), (3, [0, 1]), (4, [12, 13, 14]), (2, [6]), (4, [15]), (2, [8]), (4, [16, 17, 18, 19]), (1, [17]), (4, [20, 21]), (1, [6, 7, 8]), (4, [22, 23]), (5, [0, 1, 2, 3, 4, 5, 6, 7, 8, 9, 10, 11, 12, 13, 14, 15]), (2, [20, 21, 22]), (3, [2, 3, 4]), (5, [16, 17, 18, 19, 20, 21, 22, 23]), (6, [0, 1, 2, 3, 4]), (2, [16, 17, 18, 19]), (6, [5, 6, 7, 8, 9, 10, 11, 12]), (2, [0]), (1, [23]), (6, [13, 14, 15, 16]), (1, [21]), (2, [1]), (6, [17, 18, 19, 20]), (2, [2]), (6, [21]), (7, [0, 1, 2, 3, 4, 5, 6, 7, 8, 9, 10, 11, 12, 13, 14]), (8, [0, 1, 2, 3, 4, 5, 6, 7, 8, 9, 10, 11, 12, 13]), (9, [0, 1, 2, 3]), (10, [0, 1, 2, 3, 4])] rfl gw_wsX6_thinkOn
set_option maxRecDepth 20000 in
theorem gX6_wider_X6_thinkOn : GoodIn wsX6_wider (wsV RX6 204 RX6 yX6_thinkOn wsX6_thinkOn) := goodIn_app (goodIn_pc bs_wsX6_wider bse_wsX6_wider _ [(3, [5, 6, 7]), (1, [7])] rfl (by decide +kernel)) ggX6_wider_X6_thinkOn
theorem dX6_wider_0 : decode cX6_wider 0 = .ok (.iload_n 1, 1) := zk27 (by decide +kernel)
theorem dX6_wider_1 : decode cX6_wider 1 = .ok (.iconst 0, 1) := zk3 (by decide +kernel)
theorem dX6_wider_2 : decode cX6_wider 2 = .ok (.sipush 9999, 3) := zk17 39 15 rfl (by decide +kernel)
theorem dX6_wider_5 : decode cX6_wider 5 = .ok (.invokestatic 65, 3) := zk184 0 65 (by decide +kernel)
theorem dX6_wider_8 : decode cX6_wider 8 = .ok (.ifCond .eq 13, 3) := zk153 0 13 rfl (by decide +kernel)
theorem dX6_wider_11 : decode cX6_wider 11 = .ok (.iload_n 2, 1) := zk28 (by decide +kernel)
theorem dX6_wider_12 : decode cX6_wider 12 = .ok (.iconst 1, 1) := zk4 (by decide +kernel)
theorem dX6_wider_13 : decode cX6_wider 13 = .ok (.bipush 60, 2) := zk16 60 rfl (by decide +kernel)
theorem dX6_wider_15 : decode cX6_wider 15 = .ok (.invokestatic 65, 3) := zk184 0 65 (by decide +kernel)
theorem dX6_wider_18 : decode cX6_wider 18 = .ok (.ifCond .ne 6, 3) := zk154 0 6 rfl (by decide +kernel)
theorem dX6_wider_21 : decode cX6_wider 21 = .ok (.ldc 69, 2) := zk18 69 (by decide +kernel)
theorem dX6_wider_23 : decode cX6_wider 23 = .ok (.ireturn, 1) := zk172 (by decide +kernel)
theorem dX6_wider_24 : decode cX6_wider 24 = .ok (.iconst 1, 1) := zk4 (by decide +kernel)
theorem dX6_wider_25 : decode cX6_wider 25 = .ok (.istore_n 3, 1) := zk62 (by decide +kernel)
theorem dX6_wider_26 : decode cX6_wider 26 = .ok (.iload_n 3, 1) := zk29 (by decide +kernel)
theorem dX6_wider_27 : decode cX6_wider 27 = .ok (.bipush 6, 2) := zk16 6 rfl (by decide +kernel)
theorem dX6_wider_29 : decode cX6_wider 29 = .ok (.if_icmp .gt 46, 3) := zk163 0 46 rfl (by decide +kernel)
theorem dX6_wider_32 : decode cX6_wider 32 = .ok (.aload_n 0, 1) := zk42 (by decide +kernel)
theorem dX6_wider_33 : decode cX6_wider 33 = .ok (.getfield 43, 3) := zk180 0 43 (by decide +kernel)
theorem dX6_wider_36 : decode cX6_wider 36 = .ok (.aload_n 0, 1) := zk42 (by decide +kernel)
theorem dX6_wider_37 : decode cX6_wider 37 = .ok (.getfield 39, 3) := zk180 0 39 (by decide +kernel)
theorem dX6_wider_40 : decode cX6_wider 40 = .ok (.invokevirtual 200, 3) := zk182 0 200 (by decide +kernel)
theorem dX6_wider_43 : decode cX6_wider 43 = .ok (.aload_n 0, 1) := zk42 (by decide +kernel)
theorem dX6_wider_44 : decode cX6_wider 44 = .ok (.getfield 43, 3) := zk180 0 43 (by decide +kernel)
theorem dX6_wider_47 : decode cX6_wider 47 = .ok (.iload_n 3, 1) := zk29 (by decide +kernel)
theorem dX6_wider_48 : decode cX6_wider 48 = .ok (.invokevirtual 163, 3) := zk182 0 163 (by decide +kernel)
theorem dX6_wider_51 : decode cX6_wider 51 = .ok (.aload_n 0, 1) := zk42 (by decide +kernel)
theorem dX6_wider_52 : decode cX6_wider 52 = .ok (.iload_n 2, 1) := zk28 (by decide +kernel)
theorem dX6_wider_53 : decode cX6_wider 53 = .ok (.invokevirtual 204, 3) := zk182 0 204 (by decide +kernel)
theorem dX6_wider_56 : decode cX6_wider 56 = .ok (.aload_n 0, 1) := zk42 (by decide +kernel)
theorem dX6_wider_57 : decode cX6_wider 57 = .ok (.getfield 43, 3) := zk180 0 43 (by decide +kernel)
theorem dX6_wider_60 : decode cX6_wider 60 = .ok (.getfield 179, 3) := zk180 0 179 (by decide +kernel)
theorem dX6_wider_63 : decode cX6_wider 63 = .ok (.iload_n 1, 1) := zk27 (by decide +kernel)
theorem dX6_wider_64 : decode cX6_wider 64 = .ok (.if_icmp .gt 5, 3) := zk163 0 5 rfl (by decide +kernel)
theorem dX6_wider_67 : decode cX6_wider 67 = .ok (.iload_n 3, 1) := zk29 (by decide +kernel)
theorem dX6_wider_68 : decode cX6_wider 68 = .ok (.ireturn, 1) := zk172 (by decide +kernel)
theorem dX6_wider_69 : decode cX6_wider 69 = .ok (.iinc 3 1, 3) := by decide +kernel
theorem dX6_wider_72 : decode cX6_wider 72 = .ok (.goto (-46), 3) := zk167 255 210 rfl (by decide +kernel)
theorem dX6_wider_75 : decode cX6_wider 75 = .ok (.ldc 218, 2) := zk18 218 (by decide +kernel)
theorem dX6_wider_77 : decode cX6_wider 77 = .ok (.ireturn, 1) := zk172 (by decide +kernel)
def bs_wsX6_shaded : List (List Cond) := [[.code yX6_shaded cX6_shaded 7 (some .int)], wsX6_shaded_r1, wsX6_shaded_r2, wsX6_shaded_r3, wsX6_shaded_r4, wsX6_shaded_r5, wsX6_shaded_r6, wsX60, wsX00, wsX40, wsX50]
theorem bse_wsX6_shaded : wsX6_shaded = bs_wsX6_shaded.flatten := by
  unfold wsX6_shaded bs_wsX6_shaded
  simp only [List.flatten_cons, List.flatten_nil, List.append_nil, List.append_assoc, List.cons_append, List.nil_append]
set_option maxRecDepth 20000 in
theorem ggX6_shaded_X6_isStall : GoodIn wsX6_shaded wsX6_isStall := goodIn_pc bs_wsX6_shaded bse_wsX6_shaded _ [(1, [9, 2, 10, 11, 12, 8, 13]), (7, [0, 1, 2, 3, 4, 5, 6, 7, 8, 9, 10, 11, 12, 13, 14]), (8, [0, 1, 2, 3, 4, 5, 6, 7, 8, 9, 10, 11, 12, 13])] rfl gw_wsX6_isStall
set_option maxRecDepth 20000 in
theorem gX6_shaded_X6_isStall : GoodIn wsX6_shaded (wsV RX6 79 RX6 yX6_isStall wsX6_isStall) := goodIn_app (goodIn_pc bs_wsX6_shaded bse_wsX6_shaded _ [(1, [5, 6, 7, 8])] rfl (by decide +kernel)) ggX6_shaded_X6_isStall
set_option maxRecDepth 20000 in
theorem ggX6_shaded_X6_within : GoodIn wsX6_shaded wsX6_within := goodIn_pc bs_wsX6_shaded bse_wsX6_shaded _ [(1, [13])] rfl gw_wsX6_within
set_option maxRecDepth 20000 in
theorem gX6_shaded_X6_within : GoodIn wsX6_shaded (va_wsS RX6 65 yX6_within wsX6_within) := goodIn_app (goodIn_pc bs_wsX6_shaded bse_wsX6_shaded _ [(1, [11, 12, 8])] rfl (by decide +kernel)) ggX6_shaded_X6_within
set_option maxRecDepth 20000 in
theorem ggX6_shaded_X0_takeOver : GoodIn wsX6_shaded wsX0_takeOver := goodIn_pc bs_wsX6_shaded bse_wsX6_shaded _ [(1, [18, 19, 20, 21, 22, 23]), (2, [0, 1, 2, 3, 4, 5, 6, 7, 8, 9, 10, 11, 12, 13, 14, 15, 16]), (8, [0, 1, 2, 3, 4, 5, 6, 7, 8, 9, 10, 11, 12, 13]), (9, [0, 1, 2, 3])] rfl gw_wsX0_takeOver
set_option maxRecDepth 20000 in
theorem gX6_shaded_X0_takeOver : GoodIn wsX6_shaded (wsV RX6 200 RX0 yX0_takeOver wsX0_takeOver) := goodIn_app (goodIn_pc bs_wsX6_shaded bse_wsX6_shaded _ [(1, [14, 15, 16, 17])] rfl (by decide +kernel)) ggX6_shaded_X0_takeOver
set_option maxRecDepth 20000 in
theorem ggX6_shaded_X0_hauling : GoodIn wsX6_shaded wsX0_hauling := goodIn_pc bs_wsX6_shaded bse_wsX6_shaded _ [(2, [20, 3, 21, 22, 23]), (1, [17]), (3, [0]), (1, [19, 20]), (3, [1]), (2, [0]), (3, [2, 3, 4, 5, 6, 7, 8, 9]), (1, [23]), (3, [10, 11, 12, 13]), (2, [1]), (3, [14, 15, 16, 17, 18, 19, 20, 21, 22, 23]), (4, [0, 1]), (2, [11]), (4, [2]), (2, [13]), (4, [3, 4, 5, 6]), (1, [22]), (4, [7, 8]), (1, [12, 8, 13]), (4, [9, 10, 11, 12, 13, 14, 15, 16, 17, 18, 19, 20, 21, 22, 23]), (5, [0, 1, 2, 3, 4, 5, 6, 7, 8, 9, 10, 11, 12, 13, 14, 15, 16, 17, 18, 19, 20, 21, 22, 23]), (6, [0, 1, 2, 3, 4, 5]), (8, [0, 1, 2, 3, 4, 5, 6, 7, 8, 9, 10, 11, 12, 13]), (9, [0, 1, 2, 3]), (10, [0, 1, 2, 3, 4])] rfl gw_wsX0_hauling
set_option maxRecDepth 20000 in
theorem gX6_shaded_X0_hauling : GoodIn wsX6_shaded (wsV RX6 185 RX0 yX0_hauling wsX0_hauling) := goodIn_app (goodIn_pc bs_wsX6_shaded bse_wsX6_shaded _ [(2, [17, 18, 19]), (1, [17])] rfl (by decide +kernel)) ggX6_shaded_X0_hauling
set_option maxRecDepth 20000 in
theorem ggX6_shaded_X0_hauledTo : GoodIn wsX6_shaded wsX0_hauledTo := goodIn_pc bs_wsX6_shaded bse_wsX6_shaded _ [(5, [20]), (2, [0]), (5, [21, 7]), (3, [21]), (5, [8]), (3, [19, 20, 22]), (5, [22, 23]), (6, [0]), (1, [17]), (6, [1]), (1, [23]), (8, [0, 1, 2, 3, 4, 5, 6, 7, 8, 9, 10, 11, 12, 13])] rfl gw_wsX0_hauledTo
set_option maxRecDepth 20000 in
theorem gX6_shaded_X0_hauledTo : GoodIn wsX6_shaded (wsV RX6 219 RX0 yX0_hauledTo wsX0_hauledTo) := goodIn_app (goodIn_pc bs_wsX6_shaded bse_wsX6_shaded _ [(6, [6]), (5, [18, 19]), (1, [17])] rfl (by decide +kernel)) ggX6_shaded_X0_hauledTo
set_option maxRecDepth 20000 in
theorem ggX6_shaded_X0_wouldShade : GoodIn wsX6_shaded wsX0_wouldShade := goodIn_pc bs_wsX6_shaded bse_wsX6_shaded _ [(3, [9]), (1, [23]), (3, [10, 11, 12]), (1, [17]), (3, [13]), (2, [1]), (8, [0, 1, 2, 3, 4, 5, 6, 7, 8, 9, 10, 11, 12, 13])] rfl gw_wsX0_wouldShade
set_option maxRecDepth 20000 in
theorem gX6_shaded_X0_wouldShade : GoodIn wsX6_shaded (wsV RX6 222 RX0 yX0_wouldShade wsX0_wouldShade) := goodIn_app (goodIn_pc bs_wsX6_shaded bse_wsX6_shaded _ [(6, [7]), (3, [7, 8]), (1, [17])] rfl (by decide +kernel)) ggX6_shaded_X0_wouldShade
set_option maxRecDepth 20000 in
theorem ggX6_shaded_X0_passHour : GoodIn wsX6_shaded wsX0_passHour := goodIn_pc bs_wsX6_shaded bse_wsX6_shaded _ [(6, [11]), (2, [0]), (1, [19, 20]), (3, [18]), (2, [5]), (3, [1]), (2, [4]), (4, [8]), (2, [1]), (5, [17, 18, 19]), (1, [17]), (5, [20, 21, 7]), (3, [21]), (5, [8]), (3, [19, 20, 22]), (5, [22, 23]), (6, [0, 1]), (1, [23]), (3, [14, 15, 16, 17, 2, 3, 4, 5, 6, 7, 8, 9, 10, 11, 12, 13, 23]), (4, [0, 1]), (2, [11]), (4, [2]), (2, [13]), (4, [3, 4, 5, 6]), (1, [22]), (4, [7]), (1, [12, 8, 13]), (4, [9, 10, 11, 12, 13, 14, 15, 16, 17, 18, 19, 20, 21, 22, 23]), (5, [0, 1, 2, 3, 4, 5, 6, 9, 10, 11, 12]), (6, [12, 13, 14, 15]), (2, [2, 6]), (6, [16, 17, 18, 19]), (2, [7]), (6, [20]), (8, [0, 1, 2, 3, 4, 5, 6, 7, 8, 9, 10, 11, 12, 13]), (9, [0, 1, 2, 3]), (10, [0, 1, 2, 3, 4])] rfl gw_wsX0_passHour
set_option maxRecDepth 20000 in
theorem gX6_shaded_X0_passHour : GoodIn wsX6_shaded (wsV RX6 188 RX0 yX0_passHour wsX0_passHour) := goodIn_app (goodIn_pc bs_wsX6_shaded bse_wsX6_shaded _ [(6, [8, 9, 10]), (1, [17])] rfl (by decide +kernel)) ggX6_shaded_X0_passHour
theorem dX6_shaded_0 : decode cX6_shaded 0 = .ok (.aload_n 0, 1) := zk42 (by decide +kernel)
theorem dX6_shaded_1 : decode cX6_shaded 1 = .ok (.iload_n 1, 1) := zk27 (by decide +kernel)
theorem dX6_shaded_2 : decode cX6_shaded 2 = .ok (.invokevirtual 79, 3) := zk182 0 79 (by decide +kernel)
theorem dX6_shaded_5 : decode cX6_shaded 5 = .ok (.ifCond .eq 13, 3) := zk153 0 13 rfl (by decide +kernel)
theorem dX6_shaded_8 : decode cX6_shaded 8 = .ok (.iload_n 2, 1) := zk28 (by decide +kernel)
theorem dX6_shaded_9 : decode cX6_shaded 9 = .ok (.iconst 1, 1) := zk4 (by decide +kernel)
theorem dX6_shaded_10 : decode cX6_shaded 10 = .ok (.bipush 60, 2) := zk16 60 rfl (by decide +kernel)
theorem dX6_shaded_12 : decode cX6_shaded 12 = .ok (.invokestatic 65, 3) := zk184 0 65 (by decide +kernel)
theorem dX6_shaded_15 : decode cX6_shaded 15 = .ok (.ifCond .ne 6, 3) := zk154 0 6 rfl (by decide +kernel)
theorem dX6_shaded_18 : decode cX6_shaded 18 = .ok (.ldc 69, 2) := zk18 69 (by decide +kernel)
theorem dX6_shaded_20 : decode cX6_shaded 20 = .ok (.ireturn, 1) := zk172 (by decide +kernel)
theorem dX6_shaded_21 : decode cX6_shaded 21 = .ok (.aload_n 0, 1) := zk42 (by decide +kernel)
theorem dX6_shaded_22 : decode cX6_shaded 22 = .ok (.getfield 43, 3) := zk180 0 43 (by decide +kernel)
theorem dX6_shaded_25 : decode cX6_shaded 25 = .ok (.aload_n 0, 1) := zk42 (by decide +kernel)
theorem dX6_shaded_26 : decode cX6_shaded 26 = .ok (.getfield 39, 3) := zk180 0 39 (by decide +kernel)
theorem dX6_shaded_29 : decode cX6_shaded 29 = .ok (.invokevirtual 200, 3) := zk182 0 200 (by decide +kernel)
theorem dX6_shaded_32 : decode cX6_shaded 32 = .ok (.aload_n 0, 1) := zk42 (by decide +kernel)
theorem dX6_shaded_33 : decode cX6_shaded 33 = .ok (.getfield 43, 3) := zk180 0 43 (by decide +kernel)
theorem dX6_shaded_36 : decode cX6_shaded 36 = .ok (.getfield 83, 3) := zk180 0 83 (by decide +kernel)
theorem dX6_shaded_39 : decode cX6_shaded 39 = .ok (.iload_n 1, 1) := zk27 (by decide +kernel)
theorem dX6_shaded_40 : decode cX6_shaded 40 = .ok (.aaload, 1) := zk50 (by decide +kernel)
theorem dX6_shaded_41 : decode cX6_shaded 41 = .ok (.getfield 92, 3) := zk180 0 92 (by decide +kernel)
theorem dX6_shaded_44 : decode cX6_shaded 44 = .ok (.istore_n 3, 1) := zk62 (by decide +kernel)
theorem dX6_shaded_45 : decode cX6_shaded 45 = .ok (.iconst 0, 1) := zk3 (by decide +kernel)
theorem dX6_shaded_46 : decode cX6_shaded 46 = .ok (.istore 4, 2) := zk54 4 (by decide +kernel)
theorem dX6_shaded_48 : decode cX6_shaded 48 = .ok (.iconst 0, 1) := zk3 (by decide +kernel)
theorem dX6_shaded_49 : decode cX6_shaded 49 = .ok (.istore 5, 2) := zk54 5 (by decide +kernel)
theorem dX6_shaded_51 : decode cX6_shaded 51 = .ok (.iload 5, 2) := zk21 5 (by decide +kernel)
theorem dX6_shaded_53 : decode cX6_shaded 53 = .ok (.iload_n 2, 1) := zk28 (by decide +kernel)
theorem dX6_shaded_54 : decode cX6_shaded 54 = .ok (.if_icmp .ge 50, 3) := zk162 0 50 rfl (by decide +kernel)
theorem dX6_shaded_57 : decode cX6_shaded 57 = .ok (.aload_n 0, 1) := zk42 (by decide +kernel)
theorem dX6_shaded_58 : decode cX6_shaded 58 = .ok (.getfield 43, 3) := zk180 0 43 (by decide +kernel)
theorem dX6_shaded_61 : decode cX6_shaded 61 = .ok (.invokevirtual 185, 3) := zk182 0 185 (by decide +kernel)
theorem dX6_shaded_64 : decode cX6_shaded 64 = .ok (.istore 6, 2) := zk54 6 (by decide +kernel)
theorem dX6_shaded_66 : decode cX6_shaded 66 = .ok (.aload_n 0, 1) := zk42 (by decide +kernel)
theorem dX6_shaded_67 : decode cX6_shaded 67 = .ok (.getfield 43, 3) := zk180 0 43 (by decide +kernel)
theorem dX6_shaded_70 : decode cX6_shaded 70 = .ok (.aload_n 0, 1) := zk42 (by decide +kernel)
theorem dX6_shaded_71 : decode cX6_shaded 71 = .ok (.getfield 43, 3) := zk180 0 43 (by decide +kernel)
theorem dX6_shaded_74 : decode cX6_shaded 74 = .ok (.iload 6, 2) := zk21 6 (by decide +kernel)
theorem dX6_shaded_76 : decode cX6_shaded 76 = .ok (.invokevirtual 219, 3) := zk182 0 219 (by decide +kernel)
theorem dX6_shaded_79 : decode cX6_shaded 79 = .ok (.iload_n 3, 1) := zk29 (by decide +kernel)
theorem dX6_shaded_80 : decode cX6_shaded 80 = .ok (.invokevirtual 222, 3) := zk182 0 222 (by decide +kernel)
theorem dX6_shaded_83 : decode cX6_shaded 83 = .ok (.ifCond .eq 6, 3) := zk153 0 6 rfl (by decide +kernel)
theorem dX6_shaded_86 : decode cX6_shaded 86 = .ok (.iinc 4 1, 3) := by decide +kernel
theorem dX6_shaded_89 : decode cX6_shaded 89 = .ok (.aload_n 0, 1) := zk42 (by decide +kernel)
theorem dX6_shaded_90 : decode cX6_shaded 90 = .ok (.getfield 43, 3) := zk180 0 43 (by decide +kernel)
theorem dX6_shaded_93 : decode cX6_shaded 93 = .ok (.iload 6, 2) := zk21 6 (by decide +kernel)
theorem dX6_shaded_95 : decode cX6_shaded 95 = .ok (.invokevirtual 188, 3) := zk182 0 188 (by decide +kernel)
theorem dX6_shaded_98 : decode cX6_shaded 98 = .ok (.iinc 5 1, 3) := by decide +kernel
theorem dX6_shaded_101 : decode cX6_shaded 101 = .ok (.goto (-50), 3) := zk167 255 206 rfl (by decide +kernel)
theorem dX6_shaded_104 : decode cX6_shaded 104 = .ok (.iload 4, 2) := zk21 4 (by decide +kernel)
theorem dX6_shaded_106 : decode cX6_shaded 106 = .ok (.ireturn, 1) := zk172 (by decide +kernel)
def bs_wsX6_whose : List (List Cond) := [[.code yX6_whose cX6_whose 8 (some .int)], wsX6_whose_r1, wsX6_whose_r2, wsX6_whose_r3, wsX6_whose_r4, wsX6_whose_r5, wsX6_whose_r6, wsX6_whose_r7, wsX60, wsX00, wsX20, wsX40, wsX50]
theorem bse_wsX6_whose : wsX6_whose = bs_wsX6_whose.flatten := by
  unfold wsX6_whose bs_wsX6_whose
  simp only [List.flatten_cons, List.flatten_nil, List.append_nil, List.append_assoc, List.cons_append, List.nil_append]
set_option maxRecDepth 20000 in
theorem ggX6_whose_X6_isSheet : GoodIn wsX6_whose wsX6_isSheet := goodIn_pc bs_wsX6_whose bse_wsX6_whose _ [(1, [10, 11, 12, 9, 13])] rfl gw_wsX6_isSheet
set_option maxRecDepth 20000 in
theorem gX6_whose_X6_isSheet : GoodIn wsX6_whose (va_wsS RX6 226 yX6_isSheet wsX6_isSheet) := goodIn_app (goodIn_pc bs_wsX6_whose bse_wsX6_whose _ [(1, [7, 8, 9])] rfl (by decide +kernel)) ggX6_whose_X6_isSheet
set_option maxRecDepth 20000 in
theorem ggX6_whose_X6_within : GoodIn wsX6_whose wsX6_within := goodIn_pc bs_wsX6_whose bse_wsX6_whose _ [(1, [13])] rfl gw_wsX6_within
set_option maxRecDepth 20000 in
theorem gX6_whose_X6_within : GoodIn wsX6_whose (va_wsS RX6 65 yX6_within wsX6_within) := goodIn_app (goodIn_pc bs_wsX6_whose bse_wsX6_whose _ [(1, [11, 12, 9])] rfl (by decide +kernel)) ggX6_whose_X6_within
set_option maxRecDepth 20000 in
theorem ggX6_whose_X2_isMissing : GoodIn wsX6_whose wsX2_isMissing := goodIn_pc bs_wsX6_whose bse_wsX6_whose _ [(1, [18, 19]), (10, [0, 1, 2])] rfl gw_wsX2_isMissing
set_option maxRecDepth 20000 in
theorem gX6_whose_X2_isMissing : GoodIn wsX6_whose (wsV RX6 229 RX2 yX2_isMissing wsX2_isMissing) := goodIn_app (goodIn_pc bs_wsX6_whose bse_wsX6_whose _ [(1, [14, 15, 16, 17])] rfl (by decide +kernel)) ggX6_whose_X2_isMissing
set_option maxRecDepth 20000 in
theorem ggX6_whose_X0_takeOver : GoodIn wsX6_whose wsX0_takeOver := goodIn_pc bs_wsX6_whose bse_wsX6_whose _ [(2, [0, 1, 2, 3, 4, 5, 6, 7, 8, 9, 10, 11, 12, 13, 14, 15, 16, 17, 18, 19, 20, 21, 22]), (9, [0, 1, 2, 3, 4, 5, 6, 7, 8, 9, 10, 11, 12, 13]), (11, [0, 1, 2, 3])] rfl gw_wsX0_takeOver
set_option maxRecDepth 20000 in
theorem gX6_whose_X0_takeOver : GoodIn wsX6_whose (wsV RX6 200 RX0 yX0_takeOver wsX0_takeOver) := goodIn_app (goodIn_pc bs_wsX6_whose bse_wsX6_whose _ [(1, [20, 21, 22, 23])] rfl (by decide +kernel)) ggX6_whose_X0_takeOver
set_option maxRecDepth 20000 in
theorem ggX6_whose_X6_thinkOn : GoodIn wsX6_whose wsX6_thinkOn := goodIn_pc bs_wsX6_whose bse_wsX6_whose _ [(3, [2]), (1, [4]), (3, [3, 4, 5]), (1, [23]), (3, [6]), (2, [9]), (3, [7, 8, 9, 10]), (2, [1, 2]), (3, [11]), (2, [6]), (3, [12, 13, 14, 15, 16, 17, 18, 19]), (2, [5]), (3, [20, 21, 22, 23]), (2, [7]), (4, [0, 1, 2, 3, 4, 5, 6, 7, 8, 9, 10, 11]), (2, [17]), (4, [12]), (2, [19]), (4, [13, 14, 15, 16]), (2, [4]), (4, [17, 18]), (1, [12, 9, 13]), (4, [19, 20, 21, 22, 23]), (5, [0, 1, 2, 3, 4, 5, 6, 7, 8, 9, 10, 11, 12, 13, 14, 15, 16, 17, 18, 19, 20, 21, 22, 23]), (6, [0, 1, 2, 3, 4, 5, 6, 7, 8, 9, 10, 11, 12, 13, 14, 15, 16, 17, 18, 19]), (2, [11, 10]), (6, [20, 21, 22, 23]), (2, [8, 12]), (7, [0, 1, 2, 3]), (2, [13]), (7, [4]), (8, [0, 1, 2, 3, 4, 5, 6, 7, 8, 9, 10, 11, 12, 13, 14]), (9, [0, 1, 2, 3, 4, 5, 6, 7, 8, 9, 10, 11, 12, 13]), (11, [0, 1, 2, 3]), (12, [0, 1, 2, 3, 4])] rfl gw_wsX6_thinkOn
set_option maxRecDepth 20000 in
theorem gX6_whose_X6_thinkOn : GoodIn wsX6_whose (wsV RX6 204 RX6 yX6_thinkOn wsX6_thinkOn) := goodIn_app (goodIn_pc bs_wsX6_whose bse_wsX6_whose _ [(2, [23]), (3, [0, 1]), (1, [9])] rfl (by decide +kernel)) ggX6_whose_X6_thinkOn
set_option maxRecDepth 20000 in
theorem gw_wsX0_differencesFrom : wsX0_differencesFrom.all goodWord = true := by decide +kernel
set_option maxRecDepth 20000 in
theorem ggX6_whose_X0_differencesFrom : GoodIn wsX6_whose wsX0_differencesFrom := goodIn_pc bs_wsX6_whose bse_wsX6_whose _ [(7, [8]), (2, [1, 2]), (4, [4]), (7, [9]), (4, [23]), (5, [0]), (4, [7]), (5, [1]), (7, [10, 11, 12]), (1, [17]), (7, [13, 14, 15, 16, 17, 18, 19, 20]), (1, [12, 9, 13]), (9, [0, 1, 2, 3, 4, 5, 6, 7, 8, 9, 10, 11, 12, 13]), (11, [0, 1, 2, 3]), (10, [0, 1, 2])] rfl gw_wsX0_differencesFrom
set_option maxRecDepth 20000 in
theorem gX6_whose_X0_differencesFrom : GoodIn wsX6_whose (wsV RX6 234 RX0 yX0_differencesFrom wsX0_differencesFrom) := goodIn_app (goodIn_pc bs_wsX6_whose bse_wsX6_whose _ [(7, [5, 6, 7]), (1, [23])] rfl (by decide +kernel)) ggX6_whose_X0_differencesFrom
theorem dX6_whose_0 : decode cX6_whose 0 = .ok (.iload_n 1, 1) := zk27 (by decide +kernel)
theorem dX6_whose_1 : decode cX6_whose 1 = .ok (.invokestatic 226, 3) := zk184 0 226 (by decide +kernel)
theorem dX6_whose_4 : decode cX6_whose 4 = .ok (.ifCond .eq 22, 3) := zk153 0 22 rfl (by decide +kernel)
theorem dX6_whose_7 : decode cX6_whose 7 = .ok (.iload_n 2, 1) := zk28 (by decide +kernel)
theorem dX6_whose_8 : decode cX6_whose 8 = .ok (.iconst 0, 1) := zk3 (by decide +kernel)
theorem dX6_whose_9 : decode cX6_whose 9 = .ok (.bipush 60, 2) := zk16 60 rfl (by decide +kernel)
theorem dX6_whose_11 : decode cX6_whose 11 = .ok (.invokestatic 65, 3) := zk184 0 65 (by decide +kernel)
theorem dX6_whose_14 : decode cX6_whose 14 = .ok (.ifCond .eq 12, 3) := zk153 0 12 rfl (by decide +kernel)
theorem dX6_whose_17 : decode cX6_whose 17 = .ok (.iload_n 3, 1) := zk29 (by decide +kernel)
theorem dX6_whose_18 : decode cX6_whose 18 = .ok (.iconst 0, 1) := zk3 (by decide +kernel)
theorem dX6_whose_19 : decode cX6_whose 19 = .ok (.iconst 1, 1) := zk4 (by decide +kernel)
theorem dX6_whose_20 : decode cX6_whose 20 = .ok (.invokestatic 65, 3) := zk184 0 65 (by decide +kernel)
theorem dX6_whose_23 : decode cX6_whose 23 = .ok (.ifCond .ne 6, 3) := zk154 0 6 rfl (by decide +kernel)
theorem dX6_whose_26 : decode cX6_whose 26 = .ok (.ldc 69, 2) := zk18 69 (by decide +kernel)
theorem dX6_whose_28 : decode cX6_whose 28 = .ok (.ireturn, 1) := zk172 (by decide +kernel)
theorem dX6_whose_29 : decode cX6_whose 29 = .ok (.aload_n 0, 1) := zk42 (by decide +kernel)
theorem dX6_whose_30 : decode cX6_whose 30 = .ok (.getfield 17, 3) := zk180 0 17 (by decide +kernel)
theorem dX6_whose_33 : decode cX6_whose 33 = .ok (.iload_n 1, 1) := zk27 (by decide +kernel)
theorem dX6_whose_34 : decode cX6_whose 34 = .ok (.aaload, 1) := zk50 (by decide +kernel)
theorem dX6_whose_35 : decode cX6_whose 35 = .ok (.invokevirtual 229, 3) := zk182 0 229 (by decide +kernel)
theorem dX6_whose_38 : decode cX6_whose 38 = .ok (.ifCond .eq 6, 3) := zk153 0 6 rfl (by decide +kernel)
theorem dX6_whose_41 : decode cX6_whose 41 = .ok (.ldc 233, 2) := zk18 233 (by decide +kernel)
theorem dX6_whose_43 : decode cX6_whose 43 = .ok (.ireturn, 1) := zk172 (by decide +kernel)
theorem dX6_whose_44 : decode cX6_whose 44 = .ok (.iconst 0, 1) := zk3 (by decide +kernel)
theorem dX6_whose_45 : decode cX6_whose 45 = .ok (.istore 4, 2) := zk54 4 (by decide +kernel)
theorem dX6_whose_47 : decode cX6_whose 47 = .ok (.ldc 207, 2) := zk18 207 (by decide +kernel)
theorem dX6_whose_49 : decode cX6_whose 49 = .ok (.istore 5, 2) := zk54 5 (by decide +kernel)
theorem dX6_whose_51 : decode cX6_whose 51 = .ok (.iconst 0, 1) := zk3 (by decide +kernel)
theorem dX6_whose_52 : decode cX6_whose 52 = .ok (.istore 6, 2) := zk54 6 (by decide +kernel)
theorem dX6_whose_54 : decode cX6_whose 54 = .ok (.iload 6, 2) := zk21 6 (by decide +kernel)
theorem dX6_whose_56 : decode cX6_whose 56 = .ok (.iconst 3, 1) := zk6 (by decide +kernel)
theorem dX6_whose_57 : decode cX6_whose 57 = .ok (.if_icmp .ge 64, 3) := zk162 0 64 rfl (by decide +kernel)
theorem dX6_whose_60 : decode cX6_whose 60 = .ok (.aload_n 0, 1) := zk42 (by decide +kernel)
theorem dX6_whose_61 : decode cX6_whose 61 = .ok (.getfield 43, 3) := zk180 0 43 (by decide +kernel)
theorem dX6_whose_64 : decode cX6_whose 64 = .ok (.aload_n 0, 1) := zk42 (by decide +kernel)
theorem dX6_whose_65 : decode cX6_whose 65 = .ok (.getfield 39, 3) := zk180 0 39 (by decide +kernel)
theorem dX6_whose_68 : decode cX6_whose 68 = .ok (.invokevirtual 200, 3) := zk182 0 200 (by decide +kernel)
theorem dX6_whose_71 : decode cX6_whose 71 = .ok (.aload_n 0, 1) := zk42 (by decide +kernel)
theorem dX6_whose_72 : decode cX6_whose 72 = .ok (.getfield 43, 3) := zk180 0 43 (by decide +kernel)
theorem dX6_whose_75 : decode cX6_whose 75 = .ok (.iload 6, 2) := zk21 6 (by decide +kernel)
theorem dX6_whose_77 : decode cX6_whose 77 = .ok (.putfield 135, 3) := zk181 0 135 (by decide +kernel)
theorem dX6_whose_80 : decode cX6_whose 80 = .ok (.aload_n 0, 1) := zk42 (by decide +kernel)
theorem dX6_whose_81 : decode cX6_whose 81 = .ok (.iload_n 2, 1) := zk28 (by decide +kernel)
theorem dX6_whose_82 : decode cX6_whose 82 = .ok (.invokevirtual 204, 3) := zk182 0 204 (by decide +kernel)
theorem dX6_whose_85 : decode cX6_whose 85 = .ok (.aload_n 0, 1) := zk42 (by decide +kernel)
theorem dX6_whose_86 : decode cX6_whose 86 = .ok (.getfield 43, 3) := zk180 0 43 (by decide +kernel)
theorem dX6_whose_89 : decode cX6_whose 89 = .ok (.aload_n 0, 1) := zk42 (by decide +kernel)
theorem dX6_whose_90 : decode cX6_whose 90 = .ok (.getfield 17, 3) := zk180 0 17 (by decide +kernel)
theorem dX6_whose_93 : decode cX6_whose 93 = .ok (.iload_n 1, 1) := zk27 (by decide +kernel)
theorem dX6_whose_94 : decode cX6_whose 94 = .ok (.aaload, 1) := zk50 (by decide +kernel)
theorem dX6_whose_95 : decode cX6_whose 95 = .ok (.invokevirtual 234, 3) := zk182 0 234 (by decide +kernel)
theorem dX6_whose_98 : decode cX6_whose 98 = .ok (.istore 7, 2) := zk54 7 (by decide +kernel)
theorem dX6_whose_100 : decode cX6_whose 100 = .ok (.iload 7, 2) := zk21 7 (by decide +kernel)
theorem dX6_whose_102 : decode cX6_whose 102 = .ok (.iload 5, 2) := zk21 5 (by decide +kernel)
theorem dX6_whose_104 : decode cX6_whose 104 = .ok (.if_icmp .ge 11, 3) := zk162 0 11 rfl (by decide +kernel)
theorem dX6_whose_107 : decode cX6_whose 107 = .ok (.iload 6, 2) := zk21 6 (by decide +kernel)
theorem dX6_whose_109 : decode cX6_whose 109 = .ok (.istore 4, 2) := zk54 4 (by decide +kernel)
theorem dX6_whose_111 : decode cX6_whose 111 = .ok (.iload 7, 2) := zk21 7 (by decide +kernel)
theorem dX6_whose_113 : decode cX6_whose 113 = .ok (.istore 5, 2) := zk54 5 (by decide +kernel)
theorem dX6_whose_115 : decode cX6_whose 115 = .ok (.iinc 6 1, 3) := by decide +kernel
theorem dX6_whose_118 : decode cX6_whose 118 = .ok (.goto (-64), 3) := zk167 255 192 rfl (by decide +kernel)
theorem dX6_whose_121 : decode cX6_whose 121 = .ok (.iload_n 3, 1) := zk29 (by decide +kernel)
theorem dX6_whose_122 : decode cX6_whose 122 = .ok (.ifCond .ne 8, 3) := zk154 0 8 rfl (by decide +kernel)
theorem dX6_whose_125 : decode cX6_whose 125 = .ok (.iload 4, 2) := zk21 4 (by decide +kernel)
theorem dX6_whose_127 : decode cX6_whose 127 = .ok (.goto 5, 3) := zk167 0 5 rfl (by decide +kernel)
theorem dX6_whose_130 : decode cX6_whose 130 = .ok (.iload 5, 2) := zk21 5 (by decide +kernel)
theorem dX6_whose_132 : decode cX6_whose 132 = .ok (.ireturn, 1) := zk172 (by decide +kernel)
set_option maxRecDepth 20000 in
theorem ggX6_trim_X6_within : GoodIn wsX6_trim wsX6_within := goodIn_r _ [6] rfl gw_wsX6_within
set_option maxRecDepth 20000 in
theorem gX6_trim_X6_within : GoodIn wsX6_trim (va_wsS RX6 65 yX6_within wsX6_within) := goodIn_app (goodIn_r _ [3, 4, 5] rfl (by decide +kernel)) ggX6_trim_X6_within
theorem dX6_trim_0 : decode cX6_trim 0 = .ok (.iload_n 1, 1) := zk27 (by decide +kernel)
theorem dX6_trim_1 : decode cX6_trim 1 = .ok (.iconst 0, 1) := zk3 (by decide +kernel)
theorem dX6_trim_2 : decode cX6_trim 2 = .ok (.aload_n 0, 1) := zk42 (by decide +kernel)
theorem dX6_trim_3 : decode cX6_trim 3 = .ok (.getfield 244, 3) := zk180 0 244 (by decide +kernel)
theorem dX6_trim_6 : decode cX6_trim 6 = .ok (.invokestatic 65, 3) := zk184 0 65 (by decide +kernel)
theorem dX6_trim_9 : decode cX6_trim 9 = .ok (.ifCond .ne 6, 3) := zk154 0 6 rfl (by decide +kernel)
theorem dX6_trim_12 : decode cX6_trim 12 = .ok (.ldc 69, 2) := zk18 69 (by decide +kernel)
theorem dX6_trim_14 : decode cX6_trim 14 = .ok (.ireturn, 1) := zk172 (by decide +kernel)
theorem dX6_trim_15 : decode cX6_trim 15 = .ok (.aload_n 0, 1) := zk42 (by decide +kernel)
theorem dX6_trim_16 : decode cX6_trim 16 = .ok (.iload_n 1, 1) := zk27 (by decide +kernel)
theorem dX6_trim_17 : decode cX6_trim 17 = .ok (.putfield 244, 3) := zk181 0 244 (by decide +kernel)
theorem dX6_trim_20 : decode cX6_trim 20 = .ok (.iload_n 1, 1) := zk27 (by decide +kernel)
theorem dX6_trim_21 : decode cX6_trim 21 = .ok (.ireturn, 1) := zk172 (by decide +kernel)
set_option maxRecDepth 20000 in
theorem gw_wsX1_readText : wsX1_readText.all goodWord = true := by decide +kernel
def bs_wsX6_text : List (List Cond) := [[.code yX6_text cX6_text 2 (some .int)], wsX6_text_r1, wsX6_text_r2, wsX6_text_r3, wsX6_text_r4, wsX6_text_r5, wsX6_text_r6, wsX6_text_r7, wsX6_text_r8, wsX6_text_r9, wsX6_text_r10, wsX60, wsX00, wsX10, wsX50]
theorem bse_wsX6_text : wsX6_text = bs_wsX6_text.flatten := by
  unfold wsX6_text bs_wsX6_text
  simp only [List.flatten_cons, List.flatten_nil, List.append_nil, List.append_assoc, List.cons_append, List.nil_append]
set_option maxRecDepth 20000 in
theorem ggX6_text_X1_readText : GoodIn wsX6_text wsX1_readText := goodIn_pc bs_wsX6_text bse_wsX6_text _ [(1, [11, 12, 13, 14, 15, 16, 17, 18, 19, 20, 21, 22, 23]), (2, [0, 1, 2, 3, 4, 5, 6, 7, 8]), (1, [10]), (2, [9, 10, 11, 12, 13, 14, 15, 16, 17, 18, 19, 20, 21, 22, 23]), (3, [0, 1, 2, 3, 4, 5, 6, 7, 8, 9, 10, 11, 12, 13, 14, 15, 16, 17, 18, 19, 20, 21, 22, 23]), (4, [0, 1, 2, 3, 4, 5, 6, 7, 8, 9, 10, 11, 12, 13, 14, 15, 16, 17, 18, 19, 20, 21, 22, 23]), (5, [0, 1, 2, 3, 4, 5, 6, 7, 8, 9, 10, 11, 12, 13, 14, 15, 16, 17, 18, 19, 20, 21, 22, 23]), (6, [0, 1, 2, 3, 4, 5, 6, 7, 8, 9, 10, 11, 12, 13, 14, 15, 16, 17, 18, 19, 20, 21, 22, 23]), (7, [0, 1, 2, 3, 4, 5, 6, 7, 8, 9, 10, 11, 12, 13, 14, 15, 16, 17, 18, 19, 20, 21, 22, 23]), (8, [0, 1, 2, 3, 4, 5, 6, 7, 8, 9, 10, 11, 12, 13, 14, 15, 16, 17, 18, 19, 20, 21, 22, 23]), (9, [0, 1, 2, 3, 4, 5, 6, 7, 8, 9, 10, 11, 12, 13, 14]), (13, [0, 1, 2, 3, 4, 5, 6, 7]), (14, [0, 1, 2, 3, 4])] rfl gw_wsX1_readText
set_option maxRecDepth 20000 in
theorem gX6_text_X1_readText : GoodIn wsX6_text (wsV RX6 250 RX1 yX1_readText wsX1_readText) := goodIn_app (goodIn_pc bs_wsX6_text bse_wsX6_text _ [(1, [7, 8, 9, 10])] rfl (by decide +kernel)) ggX6_text_X1_readText
set_option maxRecDepth 20000 in
theorem gw_wsX0_enact : wsX0_enact.all goodWord = true := by decide +kernel
set_option maxRecDepth 20000 in
theorem ggX6_text_X0_enact : GoodIn wsX6_text wsX0_enact := goodIn_pc bs_wsX6_text bse_wsX6_text _ [(9, [19, 20, 21, 22, 23]), (10, [0]), (5, [19]), (1, [21]), (5, [20]), (10, [1, 2, 3]), (5, [3]), (10, [4]), (5, [5, 6, 7]), (6, [4]), (10, [5, 6, 7, 8]), (12, [0, 1, 2, 3, 4, 5, 6, 7, 8, 9, 10, 11, 12, 13]), (14, [0, 1, 2, 3, 4])] rfl gw_wsX0_enact
set_option maxRecDepth 20000 in
theorem gX6_text_X0_enact : GoodIn wsX6_text (wsV RX6 260 RX0 yX0_enact wsX0_enact) := goodIn_app (goodIn_pc bs_wsX6_text bse_wsX6_text _ [(9, [15, 16, 17, 18])] rfl (by decide +kernel)) ggX6_text_X0_enact
theorem dX6_text_0 : decode cX6_text 0 = .ok (.aload_n 0, 1) := zk42 (by decide +kernel)
theorem dX6_text_1 : decode cX6_text 1 = .ok (.getfield 54, 3) := zk180 0 54 (by decide +kernel)
theorem dX6_text_4 : decode cX6_text 4 = .ok (.aload_n 0, 1) := zk42 (by decide +kernel)
theorem dX6_text_5 : decode cX6_text 5 = .ok (.getfield 244, 3) := zk180 0 244 (by decide +kernel)
theorem dX6_text_8 : decode cX6_text 8 = .ok (.invokevirtual 250, 3) := zk182 0 250 (by decide +kernel)
theorem dX6_text_11 : decode cX6_text 11 = .ok (.istore_n 1, 1) := zk60 (by decide +kernel)
theorem dX6_text_12 : decode cX6_text 12 = .ok (.aload_n 0, 1) := zk42 (by decide +kernel)
theorem dX6_text_13 : decode cX6_text 13 = .ok (.iconst 0, 1) := zk3 (by decide +kernel)
theorem dX6_text_14 : decode cX6_text 14 = .ok (.putfield 244, 3) := zk181 0 244 (by decide +kernel)
theorem dX6_text_17 : decode cX6_text 17 = .ok (.iload_n 1, 1) := zk27 (by decide +kernel)
theorem dX6_text_18 : decode cX6_text 18 = .ok (.ldc 218, 2) := zk18 218 (by decide +kernel)
theorem dX6_text_20 : decode cX6_text 20 = .ok (.if_icmp .eq 8, 3) := zk159 0 8 rfl (by decide +kernel)
theorem dX6_text_23 : decode cX6_text 23 = .ok (.bipush (-100), 2) := zk16 156 rfl (by decide +kernel)
theorem dX6_text_25 : decode cX6_text 25 = .ok (.iload_n 1, 1) := zk27 (by decide +kernel)
theorem dX6_text_26 : decode cX6_text 26 = .ok (.isub, 1) := zk100 (by decide +kernel)
theorem dX6_text_27 : decode cX6_text 27 = .ok (.ireturn, 1) := zk172 (by decide +kernel)
theorem dX6_text_28 : decode cX6_text 28 = .ok (.aload_n 0, 1) := zk42 (by decide +kernel)
theorem dX6_text_29 : decode cX6_text 29 = .ok (.getfield 39, 3) := zk180 0 39 (by decide +kernel)
theorem dX6_text_32 : decode cX6_text 32 = .ok (.getfield 253, 3) := zk180 0 253 (by decide +kernel)
theorem dX6_text_35 : decode cX6_text 35 = .ok (.bipush 14, 2) := zk16 14 rfl (by decide +kernel)
theorem dX6_text_37 : decode cX6_text 37 = .ok (.if_icmp .lt 6, 3) := zk161 0 6 rfl (by decide +kernel)
theorem dX6_text_40 : decode cX6_text 40 = .ok (.ldc 74, 2) := zk18 74 (by decide +kernel)
theorem dX6_text_42 : decode cX6_text 42 = .ok (.ireturn, 1) := zk172 (by decide +kernel)
theorem dX6_text_43 : decode cX6_text 43 = .ok (.aload_n 0, 1) := zk42 (by decide +kernel)
theorem dX6_text_44 : decode cX6_text 44 = .ok (.getfield 39, 3) := zk180 0 39 (by decide +kernel)
theorem dX6_text_47 : decode cX6_text 47 = .ok (.aload_n 0, 1) := zk42 (by decide +kernel)
theorem dX6_text_48 : decode cX6_text 48 = .ok (.getfield 54, 3) := zk180 0 54 (by decide +kernel)
theorem dX6_text_51 : decode cX6_text 51 = .ok (.getfield 256, 3) := zk180 1 0 (by decide +kernel)
theorem dX6_text_54 : decode cX6_text 54 = .ok (.invokevirtual 260, 3) := zk182 1 4 (by decide +kernel)
theorem dX6_text_57 : decode cX6_text 57 = .ok (.ireturn, 1) := zk172 (by decide +kernel)
set_option maxRecDepth 20000 in
theorem ggX6_textTold_X6_within : GoodIn wsX6_textTold wsX6_within := goodIn_r _ [10] rfl gw_wsX6_within
set_option maxRecDepth 20000 in
theorem gX6_textTold_X6_within : GoodIn wsX6_textTold (va_wsS RX6 65 yX6_within wsX6_within) := goodIn_app (goodIn_r _ [7, 8, 9] rfl (by decide +kernel)) ggX6_textTold_X6_within
theorem dX6_textTold_0 : decode cX6_textTold 0 = .ok (.iload_n 1, 1) := zk27 (by decide +kernel)
theorem dX6_textTold_1 : decode cX6_textTold 1 = .ok (.iconst 0, 1) := zk3 (by decide +kernel)
theorem dX6_textTold_2 : decode cX6_textTold 2 = .ok (.aload_n 0, 1) := zk42 (by decide +kernel)
theorem dX6_textTold_3 : decode cX6_textTold 3 = .ok (.getfield 39, 3) := zk180 0 39 (by decide +kernel)
theorem dX6_textTold_6 : decode cX6_textTold 6 = .ok (.getfield 253, 3) := zk180 0 253 (by decide +kernel)
theorem dX6_textTold_9 : decode cX6_textTold 9 = .ok (.iconst 1, 1) := zk4 (by decide +kernel)
theorem dX6_textTold_10 : decode cX6_textTold 10 = .ok (.isub, 1) := zk100 (by decide +kernel)
theorem dX6_textTold_11 : decode cX6_textTold 11 = .ok (.invokestatic 65, 3) := zk184 0 65 (by decide +kernel)
theorem dX6_textTold_14 : decode cX6_textTold 14 = .ok (.ifCond .ne 6, 3) := zk154 0 6 rfl (by decide +kernel)
theorem dX6_textTold_17 : decode cX6_textTold 17 = .ok (.ldc 69, 2) := zk18 69 (by decide +kernel)
theorem dX6_textTold_19 : decode cX6_textTold 19 = .ok (.ireturn, 1) := zk172 (by decide +kernel)
theorem dX6_textTold_20 : decode cX6_textTold 20 = .ok (.iload_n 2, 1) := zk28 (by decide +kernel)
theorem dX6_textTold_21 : decode cX6_textTold 21 = .ok (.lookupswitch 47 #[(0, 27), (1, 37)], 27) := by decide +kernel
theorem dX6_textTold_48 : decode cX6_textTold 48 = .ok (.aload_n 0, 1) := zk42 (by decide +kernel)
theorem dX6_textTold_49 : decode cX6_textTold 49 = .ok (.getfield 58, 3) := zk180 0 58 (by decide +kernel)
theorem dX6_textTold_52 : decode cX6_textTold 52 = .ok (.iload_n 1, 1) := zk27 (by decide +kernel)
theorem dX6_textTold_53 : decode cX6_textTold 53 = .ok (.aaload, 1) := zk50 (by decide +kernel)
theorem dX6_textTold_54 : decode cX6_textTold 54 = .ok (.getfield 264, 3) := zk180 1 8 (by decide +kernel)
theorem dX6_textTold_57 : decode cX6_textTold 57 = .ok (.ireturn, 1) := zk172 (by decide +kernel)
theorem dX6_textTold_58 : decode cX6_textTold 58 = .ok (.aload_n 0, 1) := zk42 (by decide +kernel)
theorem dX6_textTold_59 : decode cX6_textTold 59 = .ok (.getfield 58, 3) := zk180 0 58 (by decide +kernel)
theorem dX6_textTold_62 : decode cX6_textTold 62 = .ok (.iload_n 1, 1) := zk27 (by decide +kernel)
theorem dX6_textTold_63 : decode cX6_textTold 63 = .ok (.aaload, 1) := zk50 (by decide +kernel)
theorem dX6_textTold_64 : decode cX6_textTold 64 = .ok (.getfield 267, 3) := zk180 1 11 (by decide +kernel)
theorem dX6_textTold_67 : decode cX6_textTold 67 = .ok (.ireturn, 1) := zk172 (by decide +kernel)
theorem dX6_textTold_68 : decode cX6_textTold 68 = .ok (.ldc 69, 2) := zk18 69 (by decide +kernel)
theorem dX6_textTold_70 : decode cX6_textTold 70 = .ok (.ireturn, 1) := zk172 (by decide +kernel)
set_option maxRecDepth 20000 in
theorem ggX6_why_X6_within : GoodIn wsX6_why wsX6_within := goodIn_r _ [7] rfl gw_wsX6_within
set_option maxRecDepth 20000 in
theorem gX6_why_X6_within : GoodIn wsX6_why (va_wsS RX6 65 yX6_within wsX6_within) := goodIn_app (goodIn_r _ [4, 5, 6] rfl (by decide +kernel)) ggX6_why_X6_within
theorem dX6_why_0 : decode cX6_why 0 = .ok (.iload_n 1, 1) := zk27 (by decide +kernel)
theorem dX6_why_1 : decode cX6_why 1 = .ok (.iconst 0, 1) := zk3 (by decide +kernel)
theorem dX6_why_2 : decode cX6_why 2 = .ok (.iconst 2, 1) := zk5 (by decide +kernel)
theorem dX6_why_3 : decode cX6_why 3 = .ok (.invokestatic 65, 3) := zk184 0 65 (by decide +kernel)
theorem dX6_why_6 : decode cX6_why 6 = .ok (.ifCond .eq 15, 3) := zk153 0 15 rfl (by decide +kernel)
theorem dX6_why_9 : decode cX6_why 9 = .ok (.aload_n 0, 1) := zk42 (by decide +kernel)
theorem dX6_why_10 : decode cX6_why 10 = .ok (.getfield 39, 3) := zk180 0 39 (by decide +kernel)
theorem dX6_why_13 : decode cX6_why 13 = .ok (.getfield 238, 3) := zk180 0 238 (by decide +kernel)
theorem dX6_why_16 : decode cX6_why 16 = .ok (.iload_n 1, 1) := zk27 (by decide +kernel)
theorem dX6_why_17 : decode cX6_why 17 = .ok (.iaload, 1) := zk46 (by decide +kernel)
theorem dX6_why_18 : decode cX6_why 18 = .ok (.goto 5, 3) := zk167 0 5 rfl (by decide +kernel)
theorem dX6_why_21 : decode cX6_why 21 = .ok (.ldc 69, 2) := zk18 69 (by decide +kernel)
theorem dX6_why_23 : decode cX6_why 23 = .ok (.ireturn, 1) := zk172 (by decide +kernel)
def bs_wsX6_sheet : List (List Cond) := [[.code yX6_sheet cX6_sheet 4 (some .int)], wsX6_sheet_r1, wsX6_sheet_r2, wsX60, wsX20]
theorem bse_wsX6_sheet : wsX6_sheet = bs_wsX6_sheet.flatten := by
  unfold wsX6_sheet bs_wsX6_sheet
  simp only [List.flatten_cons, List.flatten_nil, List.append_nil, List.append_assoc, List.cons_append, List.nil_append]
set_option maxRecDepth 20000 in
theorem ggX6_sheet_X6_isSheet : GoodIn wsX6_sheet wsX6_isSheet := goodIn_pc bs_wsX6_sheet bse_wsX6_sheet _ [(1, [6, 7, 8, 5, 9])] rfl gw_wsX6_isSheet
set_option maxRecDepth 20000 in
theorem gX6_sheet_X6_isSheet : GoodIn wsX6_sheet (va_wsS RX6 226 yX6_isSheet wsX6_isSheet) := goodIn_app (goodIn_pc bs_wsX6_sheet bse_wsX6_sheet _ [(1, [3, 4, 5])] rfl (by decide +kernel)) ggX6_sheet_X6_isSheet
set_option maxRecDepth 20000 in
theorem ggX6_sheet_X6_within : GoodIn wsX6_sheet wsX6_within := goodIn_pc bs_wsX6_sheet bse_wsX6_sheet _ [(1, [9])] rfl gw_wsX6_within
set_option maxRecDepth 20000 in
theorem gX6_sheet_X6_within : GoodIn wsX6_sheet (va_wsS RX6 65 yX6_within wsX6_within) := goodIn_app (goodIn_pc bs_wsX6_sheet bse_wsX6_sheet _ [(1, [7, 8, 5])] rfl (by decide +kernel)) ggX6_sheet_X6_within
set_option maxRecDepth 20000 in
theorem gw_wsX2_become : wsX2_become.all goodWord = true := by decide +kernel
set_option maxRecDepth 20000 in
theorem ggX6_sheet_X2_become : GoodIn wsX6_sheet wsX2_become := goodIn_pc bs_wsX6_sheet bse_wsX6_sheet _ [(1, [14, 15, 16, 17, 18, 5, 19, 20, 21, 22, 23]), (2, [0, 1, 2]), (4, [0, 1, 2])] rfl gw_wsX2_become
set_option maxRecDepth 20000 in
theorem gX6_sheet_X2_become : GoodIn wsX6_sheet (wsV RX6 270 RX2 yX2_become wsX2_become) := goodIn_app (goodIn_pc bs_wsX6_sheet bse_wsX6_sheet _ [(1, [10, 11, 12, 13])] rfl (by decide +kernel)) ggX6_sheet_X2_become
theorem dX6_sheet_0 : decode cX6_sheet 0 = .ok (.iload_n 1, 1) := zk27 (by decide +kernel)
theorem dX6_sheet_1 : decode cX6_sheet 1 = .ok (.invokestatic 226, 3) := zk184 0 226 (by decide +kernel)
theorem dX6_sheet_4 : decode cX6_sheet 4 = .ok (.ifCond .eq 12, 3) := zk153 0 12 rfl (by decide +kernel)
theorem dX6_sheet_7 : decode cX6_sheet 7 = .ok (.iload_n 2, 1) := zk28 (by decide +kernel)
theorem dX6_sheet_8 : decode cX6_sheet 8 = .ok (.iconst (-1), 1) := zk2 (by decide +kernel)
theorem dX6_sheet_9 : decode cX6_sheet 9 = .ok (.iconst 1, 1) := zk4 (by decide +kernel)
theorem dX6_sheet_10 : decode cX6_sheet 10 = .ok (.invokestatic 65, 3) := zk184 0 65 (by decide +kernel)
theorem dX6_sheet_13 : decode cX6_sheet 13 = .ok (.ifCond .ne 6, 3) := zk154 0 6 rfl (by decide +kernel)
theorem dX6_sheet_16 : decode cX6_sheet 16 = .ok (.ldc 69, 2) := zk18 69 (by decide +kernel)
theorem dX6_sheet_18 : decode cX6_sheet 18 = .ok (.ireturn, 1) := zk172 (by decide +kernel)
theorem dX6_sheet_19 : decode cX6_sheet 19 = .ok (.iload_n 2, 1) := zk28 (by decide +kernel)
theorem dX6_sheet_20 : decode cX6_sheet 20 = .ok (.iconst (-1), 1) := zk2 (by decide +kernel)
theorem dX6_sheet_21 : decode cX6_sheet 21 = .ok (.if_icmp .ne 16, 3) := zk160 0 16 rfl (by decide +kernel)
theorem dX6_sheet_24 : decode cX6_sheet 24 = .ok (.aload_n 0, 1) := zk42 (by decide +kernel)
theorem dX6_sheet_25 : decode cX6_sheet 25 = .ok (.getfield 17, 3) := zk180 0 17 (by decide +kernel)
theorem dX6_sheet_28 : decode cX6_sheet 28 = .ok (.iload_n 1, 1) := zk27 (by decide +kernel)
theorem dX6_sheet_29 : decode cX6_sheet 29 = .ok (.aaload, 1) := zk50 (by decide +kernel)
theorem dX6_sheet_30 : decode cX6_sheet 30 = .ok (.iconst (-1), 1) := zk2 (by decide +kernel)
theorem dX6_sheet_31 : decode cX6_sheet 31 = .ok (.iconst 0, 1) := zk3 (by decide +kernel)
theorem dX6_sheet_32 : decode cX6_sheet 32 = .ok (.invokevirtual 270, 3) := zk182 1 14 (by decide +kernel)
theorem dX6_sheet_35 : decode cX6_sheet 35 = .ok (.iconst 0, 1) := zk3 (by decide +kernel)
theorem dX6_sheet_36 : decode cX6_sheet 36 = .ok (.ireturn, 1) := zk172 (by decide +kernel)
theorem dX6_sheet_37 : decode cX6_sheet 37 = .ok (.iload_n 3, 1) := zk29 (by decide +kernel)
theorem dX6_sheet_38 : decode cX6_sheet 38 = .ok (.bipush 24, 2) := zk16 24 rfl (by decide +kernel)
theorem dX6_sheet_40 : decode cX6_sheet 40 = .ok (.if_icmp .le 6, 3) := zk164 0 6 rfl (by decide +kernel)
theorem dX6_sheet_43 : decode cX6_sheet 43 = .ok (.ldc 69, 2) := zk18 69 (by decide +kernel)
theorem dX6_sheet_45 : decode cX6_sheet 45 = .ok (.ireturn, 1) := zk172 (by decide +kernel)
theorem dX6_sheet_46 : decode cX6_sheet 46 = .ok (.iload_n 3, 1) := zk29 (by decide +kernel)
theorem dX6_sheet_47 : decode cX6_sheet 47 = .ok (.ifCond .ge 7, 3) := zk156 0 7 rfl (by decide +kernel)
theorem dX6_sheet_50 : decode cX6_sheet 50 = .ok (.ldc_w 274, 3) := zk19 1 18 (by decide +kernel)
theorem dX6_sheet_53 : decode cX6_sheet 53 = .ok (.ireturn, 1) := zk172 (by decide +kernel)
theorem dX6_sheet_54 : decode cX6_sheet 54 = .ok (.aload_n 0, 1) := zk42 (by decide +kernel)
theorem dX6_sheet_55 : decode cX6_sheet 55 = .ok (.getfield 17, 3) := zk180 0 17 (by decide +kernel)
theorem dX6_sheet_58 : decode cX6_sheet 58 = .ok (.iload_n 1, 1) := zk27 (by decide +kernel)
theorem dX6_sheet_59 : decode cX6_sheet 59 = .ok (.aaload, 1) := zk50 (by decide +kernel)
theorem dX6_sheet_60 : decode cX6_sheet 60 = .ok (.iload_n 2, 1) := zk28 (by decide +kernel)
theorem dX6_sheet_61 : decode cX6_sheet 61 = .ok (.iload_n 3, 1) := zk29 (by decide +kernel)
theorem dX6_sheet_62 : decode cX6_sheet 62 = .ok (.invokevirtual 270, 3) := zk182 1 14 (by decide +kernel)
theorem dX6_sheet_65 : decode cX6_sheet 65 = .ok (.iload_n 3, 1) := zk29 (by decide +kernel)
theorem dX6_sheet_66 : decode cX6_sheet 66 = .ok (.ireturn, 1) := zk172 (by decide +kernel)
def bs_wsX6_mark : List (List Cond) := [[.code yX6_mark cX6_mark 5 (some .int)], wsX6_mark_r1, wsX6_mark_r2, wsX60, wsX20]
theorem bse_wsX6_mark : wsX6_mark = bs_wsX6_mark.flatten := by
  unfold wsX6_mark bs_wsX6_mark
  simp only [List.flatten_cons, List.flatten_nil, List.append_nil, List.append_assoc, List.cons_append, List.nil_append]
set_option maxRecDepth 20000 in
theorem ggX6_mark_X6_isSheet : GoodIn wsX6_mark wsX6_isSheet := goodIn_pc bs_wsX6_mark bse_wsX6_mark _ [(1, [13, 14, 15, 12, 16])] rfl gw_wsX6_isSheet
set_option maxRecDepth 20000 in
theorem gX6_mark_X6_isSheet : GoodIn wsX6_mark (va_wsS RX6 226 yX6_isSheet wsX6_isSheet) := goodIn_app (goodIn_pc bs_wsX6_mark bse_wsX6_mark _ [(1, [10, 11, 12])] rfl (by decide +kernel)) ggX6_mark_X6_isSheet
set_option maxRecDepth 20000 in
theorem ggX6_mark_X2_isMissing : GoodIn wsX6_mark wsX2_isMissing := goodIn_pc bs_wsX6_mark bse_wsX6_mark _ [(1, [21, 22]), (4, [0, 1, 2])] rfl gw_wsX2_isMissing
set_option maxRecDepth 20000 in
theorem gX6_mark_X2_isMissing : GoodIn wsX6_mark (wsV RX6 229 RX2 yX2_isMissing wsX2_isMissing) := goodIn_app (goodIn_pc bs_wsX6_mark bse_wsX6_mark _ [(1, [17, 18, 19, 20])] rfl (by decide +kernel)) ggX6_mark_X2_isMissing
set_option maxRecDepth 20000 in
theorem ggX6_mark_X2_hasPlace : GoodIn wsX6_mark wsX2_hasPlace := goodIn_pc bs_wsX6_mark bse_wsX6_mark _ [(2, [2, 3]), (1, [15, 12, 16]), (4, [0, 1, 2])] rfl gw_wsX2_hasPlace
set_option maxRecDepth 20000 in
theorem gX6_mark_X2_hasPlace : GoodIn wsX6_mark (wsV RX6 275 RX2 yX2_hasPlace wsX2_hasPlace) := goodIn_app (goodIn_pc bs_wsX6_mark bse_wsX6_mark _ [(1, [23]), (2, [0, 1]), (1, [20])] rfl (by decide +kernel)) ggX6_mark_X2_hasPlace
set_option maxRecDepth 20000 in
theorem ggX6_mark_X6_within : GoodIn wsX6_mark wsX6_within := goodIn_pc bs_wsX6_mark bse_wsX6_mark _ [(1, [16])] rfl gw_wsX6_within
set_option maxRecDepth 20000 in
theorem gX6_mark_X6_within : GoodIn wsX6_mark (va_wsS RX6 65 yX6_within wsX6_within) := goodIn_app (goodIn_pc bs_wsX6_mark bse_wsX6_mark _ [(1, [14, 15, 12])] rfl (by decide +kernel)) ggX6_mark_X6_within
theorem dX6_mark_0 : decode cX6_mark 0 = .ok (.iload_n 1, 1) := zk27 (by decide +kernel)
theorem dX6_mark_1 : decode cX6_mark 1 = .ok (.invokestatic 226, 3) := zk184 0 226 (by decide +kernel)
theorem dX6_mark_4 : decode cX6_mark 4 = .ok (.ifCond .ne 6, 3) := zk154 0 6 rfl (by decide +kernel)
theorem dX6_mark_7 : decode cX6_mark 7 = .ok (.ldc 69, 2) := zk18 69 (by decide +kernel)
theorem dX6_mark_9 : decode cX6_mark 9 = .ok (.ireturn, 1) := zk172 (by decide +kernel)
theorem dX6_mark_10 : decode cX6_mark 10 = .ok (.aload_n 0, 1) := zk42 (by decide +kernel)
theorem dX6_mark_11 : decode cX6_mark 11 = .ok (.getfield 17, 3) := zk180 0 17 (by decide +kernel)
theorem dX6_mark_14 : decode cX6_mark 14 = .ok (.iload_n 1, 1) := zk27 (by decide +kernel)
theorem dX6_mark_15 : decode cX6_mark 15 = .ok (.aaload, 1) := zk50 (by decide +kernel)
theorem dX6_mark_16 : decode cX6_mark 16 = .ok (.astore 4, 2) := zk58 4 (by decide +kernel)
theorem dX6_mark_18 : decode cX6_mark 18 = .ok (.aload 4, 2) := zk25 4 (by decide +kernel)
theorem dX6_mark_20 : decode cX6_mark 20 = .ok (.invokevirtual 229, 3) := zk182 0 229 (by decide +kernel)
theorem dX6_mark_23 : decode cX6_mark 23 = .ok (.ifCond .eq 6, 3) := zk153 0 6 rfl (by decide +kernel)
theorem dX6_mark_26 : decode cX6_mark 26 = .ok (.ldc 233, 2) := zk18 233 (by decide +kernel)
theorem dX6_mark_28 : decode cX6_mark 28 = .ok (.ireturn, 1) := zk172 (by decide +kernel)
theorem dX6_mark_29 : decode cX6_mark 29 = .ok (.aload 4, 2) := zk25 4 (by decide +kernel)
theorem dX6_mark_31 : decode cX6_mark 31 = .ok (.iload_n 2, 1) := zk28 (by decide +kernel)
theorem dX6_mark_32 : decode cX6_mark 32 = .ok (.invokevirtual 275, 3) := zk182 1 19 (by decide +kernel)
theorem dX6_mark_35 : decode cX6_mark 35 = .ok (.ifCond .ne 7, 3) := zk154 0 7 rfl (by decide +kernel)
theorem dX6_mark_38 : decode cX6_mark 38 = .ok (.ldc_w 278, 3) := zk19 1 22 (by decide +kernel)
theorem dX6_mark_41 : decode cX6_mark 41 = .ok (.ireturn, 1) := zk172 (by decide +kernel)
theorem dX6_mark_42 : decode cX6_mark 42 = .ok (.aload 4, 2) := zk25 4 (by decide +kernel)
theorem dX6_mark_44 : decode cX6_mark 44 = .ok (.getfield 279, 3) := zk180 1 23 (by decide +kernel)
theorem dX6_mark_47 : decode cX6_mark 47 = .ok (.ifCond .ne 23, 3) := zk154 0 23 rfl (by decide +kernel)
theorem dX6_mark_50 : decode cX6_mark 50 = .ok (.iload_n 3, 1) := zk29 (by decide +kernel)
theorem dX6_mark_51 : decode cX6_mark 51 = .ok (.ldc 218, 2) := zk18 218 (by decide +kernel)
theorem dX6_mark_53 : decode cX6_mark 53 = .ok (.if_icmp .ne 6, 3) := zk160 0 6 rfl (by decide +kernel)
theorem dX6_mark_56 : decode cX6_mark 56 = .ok (.ldc 115, 2) := zk18 115 (by decide +kernel)
theorem dX6_mark_58 : decode cX6_mark 58 = .ok (.ireturn, 1) := zk172 (by decide +kernel)
theorem dX6_mark_59 : decode cX6_mark 59 = .ok (.aload 4, 2) := zk25 4 (by decide +kernel)
theorem dX6_mark_61 : decode cX6_mark 61 = .ok (.getfield 282, 3) := zk180 1 26 (by decide +kernel)
theorem dX6_mark_64 : decode cX6_mark 64 = .ok (.iload_n 2, 1) := zk28 (by decide +kernel)
theorem dX6_mark_65 : decode cX6_mark 65 = .ok (.iload_n 3, 1) := zk29 (by decide +kernel)
theorem dX6_mark_66 : decode cX6_mark 66 = .ok (.i2s, 1) := zk147 (by decide +kernel)
theorem dX6_mark_67 : decode cX6_mark 67 = .ok (.iastore, 1) := zk79 (by decide +kernel)
theorem dX6_mark_68 : decode cX6_mark 68 = .ok (.iconst 1, 1) := zk4 (by decide +kernel)
theorem dX6_mark_69 : decode cX6_mark 69 = .ok (.ireturn, 1) := zk172 (by decide +kernel)
theorem dX6_mark_70 : decode cX6_mark 70 = .ok (.iload_n 3, 1) := zk29 (by decide +kernel)
theorem dX6_mark_71 : decode cX6_mark 71 = .ok (.ldc 218, 2) := zk18 218 (by decide +kernel)
theorem dX6_mark_73 : decode cX6_mark 73 = .ok (.if_icmp .eq 19, 3) := zk159 0 19 rfl (by decide +kernel)
theorem dX6_mark_76 : decode cX6_mark 76 = .ok (.iload_n 3, 1) := zk29 (by decide +kernel)
theorem dX6_mark_77 : decode cX6_mark 77 = .ok (.ldc_w 285, 3) := zk19 1 29 (by decide +kernel)
theorem dX6_mark_80 : decode cX6_mark 80 = .ok (.ldc_w 286, 3) := zk19 1 30 (by decide +kernel)
theorem dX6_mark_83 : decode cX6_mark 83 = .ok (.invokestatic 65, 3) := zk184 0 65 (by decide +kernel)
theorem dX6_mark_86 : decode cX6_mark 86 = .ok (.ifCond .ne 6, 3) := zk154 0 6 rfl (by decide +kernel)
theorem dX6_mark_89 : decode cX6_mark 89 = .ok (.ldc 69, 2) := zk18 69 (by decide +kernel)
theorem dX6_mark_91 : decode cX6_mark 91 = .ok (.ireturn, 1) := zk172 (by decide +kernel)
theorem dX6_mark_92 : decode cX6_mark 92 = .ok (.aload 4, 2) := zk25 4 (by decide +kernel)
theorem dX6_mark_94 : decode cX6_mark 94 = .ok (.getfield 282, 3) := zk180 1 26 (by decide +kernel)
theorem dX6_mark_97 : decode cX6_mark 97 = .ok (.iload_n 2, 1) := zk28 (by decide +kernel)
theorem dX6_mark_98 : decode cX6_mark 98 = .ok (.iload_n 3, 1) := zk29 (by decide +kernel)
theorem dX6_mark_99 : decode cX6_mark 99 = .ok (.iastore, 1) := zk79 (by decide +kernel)
theorem dX6_mark_100 : decode cX6_mark 100 = .ok (.iconst 1, 1) := zk4 (by decide +kernel)
theorem dX6_mark_101 : decode cX6_mark 101 = .ok (.ireturn, 1) := zk172 (by decide +kernel)
def bs_wsX6_pour : List (List Cond) := [[.code yX6_pour cX6_pour 6 (some .int)], wsX6_pour_r1, wsX6_pour_r2, wsX60, wsX00, wsX20, wsX40]
theorem bse_wsX6_pour : wsX6_pour = bs_wsX6_pour.flatten := by
  unfold wsX6_pour bs_wsX6_pour
  simp only [List.flatten_cons, List.flatten_nil, List.append_nil, List.append_assoc, List.cons_append, List.nil_append]
set_option maxRecDepth 20000 in
theorem ggX6_pour_X6_isSheet : GoodIn wsX6_pour wsX6_isSheet := goodIn_pc bs_wsX6_pour bse_wsX6_pour _ [(1, [11, 12, 13, 10, 14])] rfl gw_wsX6_isSheet
set_option maxRecDepth 20000 in
theorem gX6_pour_X6_isSheet : GoodIn wsX6_pour (va_wsS RX6 226 yX6_isSheet wsX6_isSheet) := goodIn_app (goodIn_pc bs_wsX6_pour bse_wsX6_pour _ [(1, [8, 9, 10])] rfl (by decide +kernel)) ggX6_pour_X6_isSheet
set_option maxRecDepth 20000 in
theorem ggX6_pour_X2_isMissing : GoodIn wsX6_pour wsX2_isMissing := goodIn_pc bs_wsX6_pour bse_wsX6_pour _ [(1, [19, 20]), (5, [0, 1, 2])] rfl gw_wsX2_isMissing
set_option maxRecDepth 20000 in
theorem gX6_pour_X2_isMissing : GoodIn wsX6_pour (wsV RX6 229 RX2 yX2_isMissing wsX2_isMissing) := goodIn_app (goodIn_pc bs_wsX6_pour bse_wsX6_pour _ [(1, [15, 16, 17, 18])] rfl (by decide +kernel)) ggX6_pour_X2_isMissing
set_option maxRecDepth 20000 in
theorem ggX6_pour_X2_hasNumber : GoodIn wsX6_pour wsX2_hasNumber := goodIn_pc bs_wsX6_pour bse_wsX6_pour _ [(2, [0, 1, 2, 3, 4, 5]), (1, [18]), (2, [6, 7]), (1, [13, 10, 14]), (5, [0, 1, 2])] rfl gw_wsX2_hasNumber
set_option maxRecDepth 20000 in
theorem gX6_pour_X2_hasNumber : GoodIn wsX6_pour (wsV RX6 287 RX2 yX2_hasNumber wsX2_hasNumber) := goodIn_app (goodIn_pc bs_wsX6_pour bse_wsX6_pour _ [(1, [21, 22, 23, 18])] rfl (by decide +kernel)) ggX6_pour_X2_hasNumber
set_option maxRecDepth 20000 in
theorem ggX6_pour_X6_held : GoodIn wsX6_pour wsX6_held := goodIn_pc bs_wsX6_pour bse_wsX6_pour _ [(2, [10, 11, 12, 13, 14, 15, 16, 17])] rfl gw_wsX6_held
set_option maxRecDepth 20000 in
theorem gX6_pour_X6_held : GoodIn wsX6_pour (va_wsS RX6 290 yX6_held wsX6_held) := goodIn_app (goodIn_pc bs_wsX6_pour bse_wsX6_pour _ [(2, [8, 9]), (1, [10])] rfl (by decide +kernel)) ggX6_pour_X6_held
theorem dX6_pour_0 : decode cX6_pour 0 = .ok (.iload_n 1, 1) := zk27 (by decide +kernel)
theorem dX6_pour_1 : decode cX6_pour 1 = .ok (.invokestatic 226, 3) := zk184 0 226 (by decide +kernel)
theorem dX6_pour_4 : decode cX6_pour 4 = .ok (.ifCond .ne 6, 3) := zk154 0 6 rfl (by decide +kernel)
theorem dX6_pour_7 : decode cX6_pour 7 = .ok (.ldc 69, 2) := zk18 69 (by decide +kernel)
theorem dX6_pour_9 : decode cX6_pour 9 = .ok (.ireturn, 1) := zk172 (by decide +kernel)
theorem dX6_pour_10 : decode cX6_pour 10 = .ok (.aload_n 0, 1) := zk42 (by decide +kernel)
theorem dX6_pour_11 : decode cX6_pour 11 = .ok (.getfield 17, 3) := zk180 0 17 (by decide +kernel)
theorem dX6_pour_14 : decode cX6_pour 14 = .ok (.iload_n 1, 1) := zk27 (by decide +kernel)
theorem dX6_pour_15 : decode cX6_pour 15 = .ok (.aaload, 1) := zk50 (by decide +kernel)
theorem dX6_pour_16 : decode cX6_pour 16 = .ok (.astore_n 2, 1) := zk77 (by decide +kernel)
theorem dX6_pour_17 : decode cX6_pour 17 = .ok (.aload_n 2, 1) := zk44 (by decide +kernel)
theorem dX6_pour_18 : decode cX6_pour 18 = .ok (.invokevirtual 229, 3) := zk182 0 229 (by decide +kernel)
theorem dX6_pour_21 : decode cX6_pour 21 = .ok (.ifCond .eq 6, 3) := zk153 0 6 rfl (by decide +kernel)
theorem dX6_pour_24 : decode cX6_pour 24 = .ok (.ldc 233, 2) := zk18 233 (by decide +kernel)
theorem dX6_pour_26 : decode cX6_pour 26 = .ok (.ireturn, 1) := zk172 (by decide +kernel)
theorem dX6_pour_27 : decode cX6_pour 27 = .ok (.iconst 0, 1) := zk3 (by decide +kernel)
theorem dX6_pour_28 : decode cX6_pour 28 = .ok (.istore_n 3, 1) := zk62 (by decide +kernel)
theorem dX6_pour_29 : decode cX6_pour 29 = .ok (.iconst 0, 1) := zk3 (by decide +kernel)
theorem dX6_pour_30 : decode cX6_pour 30 = .ok (.istore 4, 2) := zk54 4 (by decide +kernel)
theorem dX6_pour_32 : decode cX6_pour 32 = .ok (.iload 4, 2) := zk21 4 (by decide +kernel)
theorem dX6_pour_34 : decode cX6_pour 34 = .ok (.aload_n 0, 1) := zk42 (by decide +kernel)
theorem dX6_pour_35 : decode cX6_pour 35 = .ok (.getfield 39, 3) := zk180 0 39 (by decide +kernel)
theorem dX6_pour_38 : decode cX6_pour 38 = .ok (.getfield 70, 3) := zk180 0 70 (by decide +kernel)
theorem dX6_pour_41 : decode cX6_pour 41 = .ok (.if_icmp .ge 75, 3) := zk162 0 75 rfl (by decide +kernel)
theorem dX6_pour_44 : decode cX6_pour 44 = .ok (.aload_n 2, 1) := zk44 (by decide +kernel)
theorem dX6_pour_45 : decode cX6_pour 45 = .ok (.iload 4, 2) := zk21 4 (by decide +kernel)
theorem dX6_pour_47 : decode cX6_pour 47 = .ok (.invokevirtual 287, 3) := zk182 1 31 (by decide +kernel)
theorem dX6_pour_50 : decode cX6_pour 50 = .ok (.ifCond .eq 60, 3) := zk153 0 60 rfl (by decide +kernel)
theorem dX6_pour_53 : decode cX6_pour 53 = .ok (.aload_n 2, 1) := zk44 (by decide +kernel)
theorem dX6_pour_54 : decode cX6_pour 54 = .ok (.getfield 282, 3) := zk180 1 26 (by decide +kernel)
theorem dX6_pour_57 : decode cX6_pour 57 = .ok (.iload 4, 2) := zk21 4 (by decide +kernel)
theorem dX6_pour_59 : decode cX6_pour 59 = .ok (.iaload, 1) := zk46 (by decide +kernel)
theorem dX6_pour_60 : decode cX6_pour 60 = .ok (.iconst 0, 1) := zk3 (by decide +kernel)
theorem dX6_pour_61 : decode cX6_pour 61 = .ok (.sipush 999, 3) := zk17 3 231 rfl (by decide +kernel)
theorem dX6_pour_64 : decode cX6_pour 64 = .ok (.invokestatic 290, 3) := zk184 1 34 (by decide +kernel)
theorem dX6_pour_67 : decode cX6_pour 67 = .ok (.istore 5, 2) := zk54 5 (by decide +kernel)
theorem dX6_pour_69 : decode cX6_pour 69 = .ok (.iload_n 3, 1) := zk29 (by decide +kernel)
theorem dX6_pour_70 : decode cX6_pour 70 = .ok (.iload 5, 2) := zk21 5 (by decide +kernel)
theorem dX6_pour_72 : decode cX6_pour 72 = .ok (.aload_n 0, 1) := zk42 (by decide +kernel)
theorem dX6_pour_73 : decode cX6_pour 73 = .ok (.getfield 39, 3) := zk180 0 39 (by decide +kernel)
theorem dX6_pour_76 : decode cX6_pour 76 = .ok (.getfield 83, 3) := zk180 0 83 (by decide +kernel)
theorem dX6_pour_79 : decode cX6_pour 79 = .ok (.iload 4, 2) := zk21 4 (by decide +kernel)
theorem dX6_pour_81 : decode cX6_pour 81 = .ok (.aaload, 1) := zk50 (by decide +kernel)
theorem dX6_pour_82 : decode cX6_pour 82 = .ok (.getfield 95, 3) := zk180 0 95 (by decide +kernel)
theorem dX6_pour_85 : decode cX6_pour 85 = .ok (.if_icmp .ne 7, 3) := zk160 0 7 rfl (by decide +kernel)
theorem dX6_pour_88 : decode cX6_pour 88 = .ok (.iconst 0, 1) := zk3 (by decide +kernel)
theorem dX6_pour_89 : decode cX6_pour 89 = .ok (.goto 4, 3) := zk167 0 4 rfl (by decide +kernel)
theorem dX6_pour_92 : decode cX6_pour 92 = .ok (.iconst 1, 1) := zk4 (by decide +kernel)
theorem dX6_pour_93 : decode cX6_pour 93 = .ok (.iadd, 1) := zk96 (by decide +kernel)
theorem dX6_pour_94 : decode cX6_pour 94 = .ok (.istore_n 3, 1) := zk62 (by decide +kernel)
theorem dX6_pour_95 : decode cX6_pour 95 = .ok (.aload_n 0, 1) := zk42 (by decide +kernel)
theorem dX6_pour_96 : decode cX6_pour 96 = .ok (.getfield 39, 3) := zk180 0 39 (by decide +kernel)
theorem dX6_pour_99 : decode cX6_pour 99 = .ok (.getfield 83, 3) := zk180 0 83 (by decide +kernel)
theorem dX6_pour_102 : decode cX6_pour 102 = .ok (.iload 4, 2) := zk21 4 (by decide +kernel)
theorem dX6_pour_104 : decode cX6_pour 104 = .ok (.aaload, 1) := zk50 (by decide +kernel)
theorem dX6_pour_105 : decode cX6_pour 105 = .ok (.iload 5, 2) := zk21 5 (by decide +kernel)
theorem dX6_pour_107 : decode cX6_pour 107 = .ok (.putfield 95, 3) := zk181 0 95 (by decide +kernel)
theorem dX6_pour_110 : decode cX6_pour 110 = .ok (.iinc 4 1, 3) := by decide +kernel
theorem dX6_pour_113 : decode cX6_pour 113 = .ok (.goto (-81), 3) := zk167 255 175 rfl (by decide +kernel)
theorem dX6_pour_116 : decode cX6_pour 116 = .ok (.iload_n 3, 1) := zk29 (by decide +kernel)
theorem dX6_pour_117 : decode cX6_pour 117 = .ok (.ireturn, 1) := zk172 (by decide +kernel)
def bs_wsX6_reads : List (List Cond) := [[.code yX6_reads cX6_reads 4 (some .int)], wsX6_reads_r1, wsX6_reads_r2, wsX6_reads_r3, wsX6_reads_r4, wsX6_reads_r5, wsX60, wsX20, wsX00, wsX40, wsX50]
theorem bse_wsX6_reads : wsX6_reads = bs_wsX6_reads.flatten := by
  unfold wsX6_reads bs_wsX6_reads
  simp only [List.flatten_cons, List.flatten_nil, List.append_nil, List.append_assoc, List.cons_append, List.nil_append]
set_option maxRecDepth 20000 in
theorem ggX6_reads_X6_isSheet : GoodIn wsX6_reads wsX6_isSheet := goodIn_pc bs_wsX6_reads bse_wsX6_reads _ [(1, [11, 12, 13, 10, 14])] rfl gw_wsX6_isSheet
set_option maxRecDepth 20000 in
theorem gX6_reads_X6_isSheet : GoodIn wsX6_reads (va_wsS RX6 226 yX6_isSheet wsX6_isSheet) := goodIn_app (goodIn_pc bs_wsX6_reads bse_wsX6_reads _ [(1, [8, 9, 10])] rfl (by decide +kernel)) ggX6_reads_X6_isSheet
set_option maxRecDepth 20000 in
theorem ggX6_reads_X2_isMissing : GoodIn wsX6_reads wsX2_isMissing := goodIn_pc bs_wsX6_reads bse_wsX6_reads _ [(1, [19, 20]), (7, [0, 1, 2])] rfl gw_wsX2_isMissing
set_option maxRecDepth 20000 in
theorem gX6_reads_X2_isMissing : GoodIn wsX6_reads (wsV RX6 229 RX2 yX2_isMissing wsX2_isMissing) := goodIn_app (goodIn_pc bs_wsX6_reads bse_wsX6_reads _ [(1, [15, 16, 17, 18])] rfl (by decide +kernel)) ggX6_reads_X2_isMissing
set_option maxRecDepth 20000 in
theorem ggX6_reads_X2_hasNumber : GoodIn wsX6_reads wsX2_hasNumber := goodIn_pc bs_wsX6_reads bse_wsX6_reads _ [(2, [0, 1, 2, 3, 4, 5]), (1, [18]), (2, [6, 7]), (1, [13, 10, 14]), (7, [0, 1, 2])] rfl gw_wsX2_hasNumber
set_option maxRecDepth 20000 in
theorem gX6_reads_X2_hasNumber : GoodIn wsX6_reads (wsV RX6 287 RX2 yX2_hasNumber wsX2_hasNumber) := goodIn_app (goodIn_pc bs_wsX6_reads bse_wsX6_reads _ [(1, [21, 22, 23, 18])] rfl (by decide +kernel)) ggX6_reads_X2_hasNumber
set_option maxRecDepth 20000 in
theorem ggX6_reads_X6_isStall : GoodIn wsX6_reads wsX6_isStall := goodIn_pc bs_wsX6_reads bse_wsX6_reads _ [(2, [11]), (1, [5]), (2, [12]), (1, [12, 13, 10, 14]), (6, [0, 1, 2, 3, 4, 5, 6, 7, 8, 9, 10, 11, 12, 13, 14]), (8, [0, 1, 2, 3, 4, 5, 6, 7, 8, 9, 10, 11, 12, 13])] rfl gw_wsX6_isStall
set_option maxRecDepth 20000 in
theorem gX6_reads_X6_isStall : GoodIn wsX6_reads (wsV RX6 79 RX6 yX6_isStall wsX6_isStall) := goodIn_app (goodIn_pc bs_wsX6_reads bse_wsX6_reads _ [(2, [8, 9, 10]), (1, [10])] rfl (by decide +kernel)) ggX6_reads_X6_isStall
set_option maxRecDepth 20000 in
theorem ggX6_reads_X0_lossOf : GoodIn wsX6_reads wsX0_lossOf := goodIn_pc bs_wsX6_reads bse_wsX6_reads _ [(2, [17, 18, 19, 20, 21, 22, 23]), (3, [0, 1, 2]), (2, [16]), (3, [3, 4, 5, 6, 7, 8, 9, 10, 11, 12, 13, 14, 15, 16, 17, 18, 19, 20, 21, 22, 23]), (4, [0, 1, 2, 3]), (1, [13, 10, 14]), (4, [4, 5, 6, 7, 8, 9, 10, 11, 12, 13, 14, 15, 16, 17, 18, 19, 20, 21, 22, 23]), (5, [0, 1, 2, 3, 4, 5, 6, 7]), (9, [0, 1, 2, 3]), (8, [0, 1, 2, 3, 4, 5, 6, 7, 8, 9, 10, 11, 12, 13]), (10, [0, 1, 2, 3, 4])] rfl gw_wsX0_lossOf
set_option maxRecDepth 20000 in
theorem gX6_reads_X0_lossOf : GoodIn wsX6_reads (wsV RX6 101 RX0 yX0_lossOf wsX0_lossOf) := goodIn_app (goodIn_pc bs_wsX6_reads bse_wsX6_reads _ [(2, [13, 14, 15, 16])] rfl (by decide +kernel)) ggX6_reads_X0_lossOf
theorem dX6_reads_0 : decode cX6_reads 0 = .ok (.iload_n 1, 1) := zk27 (by decide +kernel)
theorem dX6_reads_1 : decode cX6_reads 1 = .ok (.invokestatic 226, 3) := zk184 0 226 (by decide +kernel)
theorem dX6_reads_4 : decode cX6_reads 4 = .ok (.ifCond .ne 6, 3) := zk154 0 6 rfl (by decide +kernel)
theorem dX6_reads_7 : decode cX6_reads 7 = .ok (.ldc 69, 2) := zk18 69 (by decide +kernel)
theorem dX6_reads_9 : decode cX6_reads 9 = .ok (.ireturn, 1) := zk172 (by decide +kernel)
theorem dX6_reads_10 : decode cX6_reads 10 = .ok (.aload_n 0, 1) := zk42 (by decide +kernel)
theorem dX6_reads_11 : decode cX6_reads 11 = .ok (.getfield 17, 3) := zk180 0 17 (by decide +kernel)
theorem dX6_reads_14 : decode cX6_reads 14 = .ok (.iload_n 1, 1) := zk27 (by decide +kernel)
theorem dX6_reads_15 : decode cX6_reads 15 = .ok (.aaload, 1) := zk50 (by decide +kernel)
theorem dX6_reads_16 : decode cX6_reads 16 = .ok (.astore_n 2, 1) := zk77 (by decide +kernel)
theorem dX6_reads_17 : decode cX6_reads 17 = .ok (.aload_n 2, 1) := zk44 (by decide +kernel)
theorem dX6_reads_18 : decode cX6_reads 18 = .ok (.invokevirtual 229, 3) := zk182 0 229 (by decide +kernel)
theorem dX6_reads_21 : decode cX6_reads 21 = .ok (.ifCond .eq 6, 3) := zk153 0 6 rfl (by decide +kernel)
theorem dX6_reads_24 : decode cX6_reads 24 = .ok (.ldc 233, 2) := zk18 233 (by decide +kernel)
theorem dX6_reads_26 : decode cX6_reads 26 = .ok (.ireturn, 1) := zk172 (by decide +kernel)
theorem dX6_reads_27 : decode cX6_reads 27 = .ok (.iconst 0, 1) := zk3 (by decide +kernel)
theorem dX6_reads_28 : decode cX6_reads 28 = .ok (.istore_n 3, 1) := zk62 (by decide +kernel)
theorem dX6_reads_29 : decode cX6_reads 29 = .ok (.iload_n 3, 1) := zk29 (by decide +kernel)
theorem dX6_reads_30 : decode cX6_reads 30 = .ok (.aload_n 2, 1) := zk44 (by decide +kernel)
theorem dX6_reads_31 : decode cX6_reads 31 = .ok (.getfield 293, 3) := zk180 1 37 (by decide +kernel)
theorem dX6_reads_34 : decode cX6_reads 34 = .ok (.if_icmp .ge 52, 3) := zk162 0 52 rfl (by decide +kernel)
theorem dX6_reads_37 : decode cX6_reads 37 = .ok (.aload_n 2, 1) := zk44 (by decide +kernel)
theorem dX6_reads_38 : decode cX6_reads 38 = .ok (.iload_n 3, 1) := zk29 (by decide +kernel)
theorem dX6_reads_39 : decode cX6_reads 39 = .ok (.invokevirtual 287, 3) := zk182 1 31 (by decide +kernel)
theorem dX6_reads_42 : decode cX6_reads 42 = .ok (.ifCond .eq 38, 3) := zk153 0 38 rfl (by decide +kernel)
theorem dX6_reads_45 : decode cX6_reads 45 = .ok (.aload_n 0, 1) := zk42 (by decide +kernel)
theorem dX6_reads_46 : decode cX6_reads 46 = .ok (.iload_n 3, 1) := zk29 (by decide +kernel)
theorem dX6_reads_47 : decode cX6_reads 47 = .ok (.invokevirtual 79, 3) := zk182 0 79 (by decide +kernel)
theorem dX6_reads_50 : decode cX6_reads 50 = .ok (.ifCond .eq 28, 3) := zk153 0 28 rfl (by decide +kernel)
theorem dX6_reads_53 : decode cX6_reads 53 = .ok (.aload_n 2, 1) := zk44 (by decide +kernel)
theorem dX6_reads_54 : decode cX6_reads 54 = .ok (.getfield 282, 3) := zk180 1 26 (by decide +kernel)
theorem dX6_reads_57 : decode cX6_reads 57 = .ok (.iload_n 3, 1) := zk29 (by decide +kernel)
theorem dX6_reads_58 : decode cX6_reads 58 = .ok (.iaload, 1) := zk46 (by decide +kernel)
theorem dX6_reads_59 : decode cX6_reads 59 = .ok (.aload_n 0, 1) := zk42 (by decide +kernel)
theorem dX6_reads_60 : decode cX6_reads 60 = .ok (.getfield 39, 3) := zk180 0 39 (by decide +kernel)
theorem dX6_reads_63 : decode cX6_reads 63 = .ok (.aload_n 0, 1) := zk42 (by decide +kernel)
theorem dX6_reads_64 : decode cX6_reads 64 = .ok (.getfield 39, 3) := zk180 0 39 (by decide +kernel)
theorem dX6_reads_67 : decode cX6_reads 67 = .ok (.getfield 83, 3) := zk180 0 83 (by decide +kernel)
theorem dX6_reads_70 : decode cX6_reads 70 = .ok (.iload_n 3, 1) := zk29 (by decide +kernel)
theorem dX6_reads_71 : decode cX6_reads 71 = .ok (.aaload, 1) := zk50 (by decide +kernel)
theorem dX6_reads_72 : decode cX6_reads 72 = .ok (.invokevirtual 101, 3) := zk182 0 101 (by decide +kernel)
theorem dX6_reads_75 : decode cX6_reads 75 = .ok (.if_icmp .eq 5, 3) := zk159 0 5 rfl (by decide +kernel)
theorem dX6_reads_78 : decode cX6_reads 78 = .ok (.iload_n 3, 1) := zk29 (by decide +kernel)
theorem dX6_reads_79 : decode cX6_reads 79 = .ok (.ireturn, 1) := zk172 (by decide +kernel)
theorem dX6_reads_80 : decode cX6_reads 80 = .ok (.iinc 3 1, 3) := by decide +kernel
theorem dX6_reads_83 : decode cX6_reads 83 = .ok (.goto (-54), 3) := zk167 255 202 rfl (by decide +kernel)
theorem dX6_reads_86 : decode cX6_reads 86 = .ok (.ldc 218, 2) := zk18 218 (by decide +kernel)
theorem dX6_reads_88 : decode cX6_reads 88 = .ok (.ireturn, 1) := zk172 (by decide +kernel)
def bs_wsX6_lay : List (List Cond) := [[.code yX6_lay cX6_lay 6 (some .int)], wsX6_lay_r1, wsX6_lay_r2, wsX6_lay_r3, wsX60, wsX30, wsX00, wsX40, wsX20]
theorem bse_wsX6_lay : wsX6_lay = bs_wsX6_lay.flatten := by
  unfold wsX6_lay bs_wsX6_lay
  simp only [List.flatten_cons, List.flatten_nil, List.append_nil, List.append_assoc, List.cons_append, List.nil_append]
set_option maxRecDepth 20000 in
theorem ggX6_lay_X6_isSlot : GoodIn wsX6_lay wsX6_isSlot := goodIn_pc bs_wsX6_lay bse_wsX6_lay _ [(1, [13, 14, 15, 12, 16])] rfl gw_wsX6_isSlot
set_option maxRecDepth 20000 in
theorem gX6_lay_X6_isSlot : GoodIn wsX6_lay (va_wsS RX6 305 yX6_isSlot wsX6_isSlot) := goodIn_app (goodIn_pc bs_wsX6_lay bse_wsX6_lay _ [(1, [10, 11, 12])] rfl (by decide +kernel)) ggX6_lay_X6_isSlot
set_option maxRecDepth 20000 in
theorem ggX6_lay_X6_within : GoodIn wsX6_lay wsX6_within := goodIn_pc bs_wsX6_lay bse_wsX6_lay _ [(1, [16])] rfl gw_wsX6_within
set_option maxRecDepth 20000 in
theorem gX6_lay_X6_within : GoodIn wsX6_lay (va_wsS RX6 65 yX6_within wsX6_within) := goodIn_app (goodIn_pc bs_wsX6_lay bse_wsX6_lay _ [(1, [14, 15, 12])] rfl (by decide +kernel)) ggX6_lay_X6_within
set_option maxRecDepth 20000 in
theorem ggX6_lay_X6_isStall : GoodIn wsX6_lay wsX6_isStall := goodIn_pc bs_wsX6_lay bse_wsX6_lay _ [(1, [20, 4, 21, 14, 15, 12, 16]), (4, [0, 1, 2, 3, 4, 5, 6, 7, 8, 9, 10, 11, 12, 13, 14]), (6, [0, 1, 2, 3, 4, 5, 6, 7, 8, 9, 10, 11, 12, 13])] rfl gw_wsX6_isStall
set_option maxRecDepth 20000 in
theorem gX6_lay_X6_isStall : GoodIn wsX6_lay (wsV RX6 79 RX6 yX6_isStall wsX6_isStall) := goodIn_app (goodIn_pc bs_wsX6_lay bse_wsX6_lay _ [(1, [17, 18, 19, 12])] rfl (by decide +kernel)) ggX6_lay_X6_isStall
set_option maxRecDepth 20000 in
theorem ggX6_lay_X4_takeOver : GoodIn wsX6_lay wsX4_takeOver := goodIn_pc bs_wsX6_lay bse_wsX6_lay _ [(2, [2, 3, 4, 5, 6]), (7, [0, 1, 2, 3])] rfl gw_wsX4_takeOver
set_option maxRecDepth 20000 in
theorem gX6_lay_X4_takeOver : GoodIn wsX6_lay (wsV RX6 315 RX4 yX4_takeOver wsX4_takeOver) := goodIn_app (goodIn_pc bs_wsX6_lay bse_wsX6_lay _ [(1, [22, 23]), (2, [0, 1])] rfl (by decide +kernel)) ggX6_lay_X4_takeOver
set_option maxRecDepth 20000 in
theorem ggX6_lay_X6_isSheet : GoodIn wsX6_lay wsX6_isSheet := goodIn_pc bs_wsX6_lay bse_wsX6_lay _ [(2, [9]), (1, [14, 15, 12, 16])] rfl gw_wsX6_isSheet
set_option maxRecDepth 20000 in
theorem gX6_lay_X6_isSheet : GoodIn wsX6_lay (va_wsS RX6 226 yX6_isSheet wsX6_isSheet) := goodIn_app (goodIn_pc bs_wsX6_lay bse_wsX6_lay _ [(2, [7, 8]), (1, [12])] rfl (by decide +kernel)) ggX6_lay_X6_isSheet
set_option maxRecDepth 20000 in
theorem ggX6_lay_X2_isMissing : GoodIn wsX6_lay wsX2_isMissing := goodIn_pc bs_wsX6_lay bse_wsX6_lay _ [(2, [14, 15]), (8, [0, 1, 2])] rfl gw_wsX2_isMissing
set_option maxRecDepth 20000 in
theorem gX6_lay_X2_isMissing : GoodIn wsX6_lay (wsV RX6 229 RX2 yX2_isMissing wsX2_isMissing) := goodIn_app (goodIn_pc bs_wsX6_lay bse_wsX6_lay _ [(2, [10, 11, 12, 13])] rfl (by decide +kernel)) ggX6_lay_X2_isMissing
set_option maxRecDepth 20000 in
theorem gw_wsX2_takeOver : wsX2_takeOver.all goodWord = true := by decide +kernel
set_option maxRecDepth 20000 in
theorem ggX6_lay_X2_takeOver : GoodIn wsX6_lay wsX2_takeOver := goodIn_pc bs_wsX6_lay bse_wsX6_lay _ [(2, [19, 15, 20, 21, 22, 23]), (3, [0, 1]), (8, [0, 1, 2])] rfl gw_wsX2_takeOver
set_option maxRecDepth 20000 in
theorem gX6_lay_X2_takeOver : GoodIn wsX6_lay (wsV RX6 322 RX2 yX2_takeOver wsX2_takeOver) := goodIn_app (goodIn_pc bs_wsX6_lay bse_wsX6_lay _ [(2, [16, 17, 18, 13])] rfl (by decide +kernel)) ggX6_lay_X2_takeOver
theorem dX6_lay_0 : decode cX6_lay 0 = .ok (.iload_n 1, 1) := zk27 (by decide +kernel)
theorem dX6_lay_1 : decode cX6_lay 1 = .ok (.invokestatic 305, 3) := zk184 1 49 (by decide +kernel)
theorem dX6_lay_4 : decode cX6_lay 4 = .ok (.ifCond .eq 12, 3) := zk153 0 12 rfl (by decide +kernel)
theorem dX6_lay_7 : decode cX6_lay 7 = .ok (.iload_n 2, 1) := zk28 (by decide +kernel)
theorem dX6_lay_8 : decode cX6_lay 8 = .ok (.iconst 0, 1) := zk3 (by decide +kernel)
theorem dX6_lay_9 : decode cX6_lay 9 = .ok (.iconst 3, 1) := zk6 (by decide +kernel)
theorem dX6_lay_10 : decode cX6_lay 10 = .ok (.invokestatic 65, 3) := zk184 0 65 (by decide +kernel)
theorem dX6_lay_13 : decode cX6_lay 13 = .ok (.ifCond .ne 6, 3) := zk154 0 6 rfl (by decide +kernel)
theorem dX6_lay_16 : decode cX6_lay 16 = .ok (.ldc 69, 2) := zk18 69 (by decide +kernel)
theorem dX6_lay_18 : decode cX6_lay 18 = .ok (.ireturn, 1) := zk172 (by decide +kernel)
theorem dX6_lay_19 : decode cX6_lay 19 = .ok (.aload_n 0, 1) := zk42 (by decide +kernel)
theorem dX6_lay_20 : decode cX6_lay 20 = .ok (.getfield 23, 3) := zk180 0 23 (by decide +kernel)
theorem dX6_lay_23 : decode cX6_lay 23 = .ok (.iload_n 1, 1) := zk27 (by decide +kernel)
theorem dX6_lay_24 : decode cX6_lay 24 = .ok (.aaload, 1) := zk50 (by decide +kernel)
theorem dX6_lay_25 : decode cX6_lay 25 = .ok (.astore 4, 2) := zk58 4 (by decide +kernel)
theorem dX6_lay_27 : decode cX6_lay 27 = .ok (.aload 4, 2) := zk25 4 (by decide +kernel)
theorem dX6_lay_29 : decode cX6_lay 29 = .ok (.getfield 308, 3) := zk180 1 52 (by decide +kernel)
theorem dX6_lay_32 : decode cX6_lay 32 = .ok (.istore 5, 2) := zk54 5 (by decide +kernel)
theorem dX6_lay_34 : decode cX6_lay 34 = .ok (.iload_n 2, 1) := zk28 (by decide +kernel)
theorem dX6_lay_35 : decode cX6_lay 35 = .ok (.iconst 1, 1) := zk4 (by decide +kernel)
theorem dX6_lay_36 : decode cX6_lay 36 = .ok (.if_icmp .ne 34, 3) := zk160 0 34 rfl (by decide +kernel)
theorem dX6_lay_39 : decode cX6_lay 39 = .ok (.aload_n 0, 1) := zk42 (by decide +kernel)
theorem dX6_lay_40 : decode cX6_lay 40 = .ok (.iload_n 3, 1) := zk29 (by decide +kernel)
theorem dX6_lay_41 : decode cX6_lay 41 = .ok (.invokevirtual 79, 3) := zk182 0 79 (by decide +kernel)
theorem dX6_lay_44 : decode cX6_lay 44 = .ok (.ifCond .ne 6, 3) := zk154 0 6 rfl (by decide +kernel)
theorem dX6_lay_47 : decode cX6_lay 47 = .ok (.ldc 69, 2) := zk18 69 (by decide +kernel)
theorem dX6_lay_49 : decode cX6_lay 49 = .ok (.ireturn, 1) := zk172 (by decide +kernel)
theorem dX6_lay_50 : decode cX6_lay 50 = .ok (.aload 4, 2) := zk25 4 (by decide +kernel)
theorem dX6_lay_52 : decode cX6_lay 52 = .ok (.getfield 311, 3) := zk180 1 55 (by decide +kernel)
theorem dX6_lay_55 : decode cX6_lay 55 = .ok (.aload_n 0, 1) := zk42 (by decide +kernel)
theorem dX6_lay_56 : decode cX6_lay 56 = .ok (.getfield 39, 3) := zk180 0 39 (by decide +kernel)
theorem dX6_lay_59 : decode cX6_lay 59 = .ok (.getfield 83, 3) := zk180 0 83 (by decide +kernel)
theorem dX6_lay_62 : decode cX6_lay 62 = .ok (.iload_n 3, 1) := zk29 (by decide +kernel)
theorem dX6_lay_63 : decode cX6_lay 63 = .ok (.aaload, 1) := zk50 (by decide +kernel)
theorem dX6_lay_64 : decode cX6_lay 64 = .ok (.invokevirtual 315, 3) := zk182 1 59 (by decide +kernel)
theorem dX6_lay_67 : decode cX6_lay 67 = .ok (.goto 61, 3) := zk167 0 61 rfl (by decide +kernel)
theorem dX6_lay_70 : decode cX6_lay 70 = .ok (.iload_n 2, 1) := zk28 (by decide +kernel)
theorem dX6_lay_71 : decode cX6_lay 71 = .ok (.iconst 2, 1) := zk5 (by decide +kernel)
theorem dX6_lay_72 : decode cX6_lay 72 = .ok (.if_icmp .ne 45, 3) := zk160 0 45 rfl (by decide +kernel)
theorem dX6_lay_75 : decode cX6_lay 75 = .ok (.iload_n 3, 1) := zk29 (by decide +kernel)
theorem dX6_lay_76 : decode cX6_lay 76 = .ok (.invokestatic 226, 3) := zk184 0 226 (by decide +kernel)
theorem dX6_lay_79 : decode cX6_lay 79 = .ok (.ifCond .ne 6, 3) := zk154 0 6 rfl (by decide +kernel)
theorem dX6_lay_82 : decode cX6_lay 82 = .ok (.ldc 69, 2) := zk18 69 (by decide +kernel)
theorem dX6_lay_84 : decode cX6_lay 84 = .ok (.ireturn, 1) := zk172 (by decide +kernel)
theorem dX6_lay_85 : decode cX6_lay 85 = .ok (.aload_n 0, 1) := zk42 (by decide +kernel)
theorem dX6_lay_86 : decode cX6_lay 86 = .ok (.getfield 17, 3) := zk180 0 17 (by decide +kernel)
theorem dX6_lay_89 : decode cX6_lay 89 = .ok (.iload_n 3, 1) := zk29 (by decide +kernel)
theorem dX6_lay_90 : decode cX6_lay 90 = .ok (.aaload, 1) := zk50 (by decide +kernel)
theorem dX6_lay_91 : decode cX6_lay 91 = .ok (.invokevirtual 229, 3) := zk182 0 229 (by decide +kernel)
theorem dX6_lay_94 : decode cX6_lay 94 = .ok (.ifCond .eq 6, 3) := zk153 0 6 rfl (by decide +kernel)
theorem dX6_lay_97 : decode cX6_lay 97 = .ok (.ldc 233, 2) := zk18 233 (by decide +kernel)
theorem dX6_lay_99 : decode cX6_lay 99 = .ok (.ireturn, 1) := zk172 (by decide +kernel)
theorem dX6_lay_100 : decode cX6_lay 100 = .ok (.aload 4, 2) := zk25 4 (by decide +kernel)
theorem dX6_lay_102 : decode cX6_lay 102 = .ok (.getfield 318, 3) := zk180 1 62 (by decide +kernel)
theorem dX6_lay_105 : decode cX6_lay 105 = .ok (.aload_n 0, 1) := zk42 (by decide +kernel)
theorem dX6_lay_106 : decode cX6_lay 106 = .ok (.getfield 17, 3) := zk180 0 17 (by decide +kernel)
theorem dX6_lay_109 : decode cX6_lay 109 = .ok (.iload_n 3, 1) := zk29 (by decide +kernel)
theorem dX6_lay_110 : decode cX6_lay 110 = .ok (.aaload, 1) := zk50 (by decide +kernel)
theorem dX6_lay_111 : decode cX6_lay 111 = .ok (.invokevirtual 322, 3) := zk182 1 66 (by decide +kernel)
theorem dX6_lay_114 : decode cX6_lay 114 = .ok (.goto 14, 3) := zk167 0 14 rfl (by decide +kernel)
theorem dX6_lay_117 : decode cX6_lay 117 = .ok (.iload_n 2, 1) := zk28 (by decide +kernel)
theorem dX6_lay_118 : decode cX6_lay 118 = .ok (.iconst 3, 1) := zk6 (by decide +kernel)
theorem dX6_lay_119 : decode cX6_lay 119 = .ok (.if_icmp .ne 9, 3) := zk160 0 9 rfl (by decide +kernel)
theorem dX6_lay_122 : decode cX6_lay 122 = .ok (.aload 4, 2) := zk25 4 (by decide +kernel)
theorem dX6_lay_124 : decode cX6_lay 124 = .ok (.iload_n 3, 1) := zk29 (by decide +kernel)
theorem dX6_lay_125 : decode cX6_lay 125 = .ok (.putfield 325, 3) := zk181 1 69 (by decide +kernel)
theorem dX6_lay_128 : decode cX6_lay 128 = .ok (.aload 4, 2) := zk25 4 (by decide +kernel)
theorem dX6_lay_130 : decode cX6_lay 130 = .ok (.iload_n 2, 1) := zk28 (by decide +kernel)
theorem dX6_lay_131 : decode cX6_lay 131 = .ok (.putfield 308, 3) := zk181 1 52 (by decide +kernel)
theorem dX6_lay_134 : decode cX6_lay 134 = .ok (.iload 5, 2) := zk21 5 (by decide +kernel)
theorem dX6_lay_136 : decode cX6_lay 136 = .ok (.ireturn, 1) := zk172 (by decide +kernel)
set_option maxRecDepth 20000 in
theorem ggX6_rest_X6_isSlot : GoodIn wsX6_rest wsX6_isSlot := goodIn_r _ [8, 9, 10, 7, 11] rfl gw_wsX6_isSlot
set_option maxRecDepth 20000 in
theorem gX6_rest_X6_isSlot : GoodIn wsX6_rest (va_wsS RX6 305 yX6_isSlot wsX6_isSlot) := goodIn_app (goodIn_r _ [5, 6, 7] rfl (by decide +kernel)) ggX6_rest_X6_isSlot
set_option maxRecDepth 20000 in
theorem ggX6_rest_X3_refuses : GoodIn wsX6_rest wsX3_refuses := goodIn_r _ [16, 17, 18, 19, 35, 36, 37, 38] rfl gw_wsX3_refuses
set_option maxRecDepth 20000 in
theorem gX6_rest_X3_refuses : GoodIn wsX6_rest (wsV RX6 328 RX3 yX3_refuses wsX3_refuses) := goodIn_app (goodIn_r _ [12, 13, 14, 15] rfl (by decide +kernel)) ggX6_rest_X3_refuses
theorem dX6_rest_0 : decode cX6_rest 0 = .ok (.iload_n 1, 1) := zk27 (by decide +kernel)
theorem dX6_rest_1 : decode cX6_rest 1 = .ok (.invokestatic 305, 3) := zk184 1 49 (by decide +kernel)
theorem dX6_rest_4 : decode cX6_rest 4 = .ok (.ifCond .ne 6, 3) := zk154 0 6 rfl (by decide +kernel)
theorem dX6_rest_7 : decode cX6_rest 7 = .ok (.ldc 69, 2) := zk18 69 (by decide +kernel)
theorem dX6_rest_9 : decode cX6_rest 9 = .ok (.ireturn, 1) := zk172 (by decide +kernel)
theorem dX6_rest_10 : decode cX6_rest 10 = .ok (.aload_n 0, 1) := zk42 (by decide +kernel)
theorem dX6_rest_11 : decode cX6_rest 11 = .ok (.getfield 23, 3) := zk180 0 23 (by decide +kernel)
theorem dX6_rest_14 : decode cX6_rest 14 = .ok (.iload_n 1, 1) := zk27 (by decide +kernel)
theorem dX6_rest_15 : decode cX6_rest 15 = .ok (.aaload, 1) := zk50 (by decide +kernel)
theorem dX6_rest_16 : decode cX6_rest 16 = .ok (.iconst 3, 1) := zk6 (by decide +kernel)
theorem dX6_rest_17 : decode cX6_rest 17 = .ok (.invokevirtual 328, 3) := zk182 1 72 (by decide +kernel)
theorem dX6_rest_20 : decode cX6_rest 20 = .ok (.istore_n 3, 1) := zk62 (by decide +kernel)
theorem dX6_rest_21 : decode cX6_rest 21 = .ok (.iload_n 3, 1) := zk29 (by decide +kernel)
theorem dX6_rest_22 : decode cX6_rest 22 = .ok (.ifCond .eq 5, 3) := zk153 0 5 rfl (by decide +kernel)
theorem dX6_rest_25 : decode cX6_rest 25 = .ok (.iload_n 3, 1) := zk29 (by decide +kernel)
theorem dX6_rest_26 : decode cX6_rest 26 = .ok (.ireturn, 1) := zk172 (by decide +kernel)
theorem dX6_rest_27 : decode cX6_rest 27 = .ok (.iload_n 2, 1) := zk28 (by decide +kernel)
theorem dX6_rest_28 : decode cX6_rest 28 = .ok (.ifCond .ne 9, 3) := zk154 0 9 rfl (by decide +kernel)
theorem dX6_rest_31 : decode cX6_rest 31 = .ok (.ldc_w 331, 3) := zk19 1 75 (by decide +kernel)
theorem dX6_rest_34 : decode cX6_rest 34 = .ok (.goto 14, 3) := zk167 0 14 rfl (by decide +kernel)
theorem dX6_rest_37 : decode cX6_rest 37 = .ok (.aload_n 0, 1) := zk42 (by decide +kernel)
theorem dX6_rest_38 : decode cX6_rest 38 = .ok (.getfield 23, 3) := zk180 0 23 (by decide +kernel)
theorem dX6_rest_41 : decode cX6_rest 41 = .ok (.iload_n 1, 1) := zk27 (by decide +kernel)
theorem dX6_rest_42 : decode cX6_rest 42 = .ok (.aaload, 1) := zk50 (by decide +kernel)
theorem dX6_rest_43 : decode cX6_rest 43 = .ok (.getfield 325, 3) := zk180 1 69 (by decide +kernel)
theorem dX6_rest_46 : decode cX6_rest 46 = .ok (.iload_n 2, 1) := zk28 (by decide +kernel)
theorem dX6_rest_47 : decode cX6_rest 47 = .ok (.irem, 1) := zk112 (by decide +kernel)
theorem dX6_rest_48 : decode cX6_rest 48 = .ok (.ireturn, 1) := zk172 (by decide +kernel)
theorem dX6_tell_0 : decode cX6_tell 0 = .ok (.aload_n 0, 1) := zk42 (by decide +kernel)
theorem dX6_tell_1 : decode cX6_tell 1 = .ok (.getfield 332, 3) := zk180 1 76 (by decide +kernel)
theorem dX6_tell_4 : decode cX6_tell 4 = .ok (.bipush 60, 2) := zk16 60 rfl (by decide +kernel)
theorem dX6_tell_6 : decode cX6_tell 6 = .ok (.if_icmp .lt 6, 3) := zk161 0 6 rfl (by decide +kernel)
theorem dX6_tell_9 : decode cX6_tell 9 = .ok (.ldc 74, 2) := zk18 74 (by decide +kernel)
theorem dX6_tell_11 : decode cX6_tell 11 = .ok (.ireturn, 1) := zk172 (by decide +kernel)
theorem dX6_tell_12 : decode cX6_tell 12 = .ok (.aload_n 0, 1) := zk42 (by decide +kernel)
theorem dX6_tell_13 : decode cX6_tell 13 = .ok (.getfield 27, 3) := zk180 0 27 (by decide +kernel)
theorem dX6_tell_16 : decode cX6_tell 16 = .ok (.aload_n 0, 1) := zk42 (by decide +kernel)
theorem dX6_tell_17 : decode cX6_tell 17 = .ok (.getfield 332, 3) := zk180 1 76 (by decide +kernel)
theorem dX6_tell_20 : decode cX6_tell 20 = .ok (.iload_n 1, 1) := zk27 (by decide +kernel)
theorem dX6_tell_21 : decode cX6_tell 21 = .ok (.iastore, 1) := zk79 (by decide +kernel)
theorem dX6_tell_22 : decode cX6_tell 22 = .ok (.aload_n 0, 1) := zk42 (by decide +kernel)
theorem dX6_tell_23 : decode cX6_tell 23 = .ok (.dup, 1) := zk89 (by decide +kernel)
theorem dX6_tell_24 : decode cX6_tell 24 = .ok (.getfield 332, 3) := zk180 1 76 (by decide +kernel)
theorem dX6_tell_27 : decode cX6_tell 27 = .ok (.iconst 1, 1) := zk4 (by decide +kernel)
theorem dX6_tell_28 : decode cX6_tell 28 = .ok (.iadd, 1) := zk96 (by decide +kernel)
theorem dX6_tell_29 : decode cX6_tell 29 = .ok (.putfield 332, 3) := zk181 1 76 (by decide +kernel)
theorem dX6_tell_32 : decode cX6_tell 32 = .ok (.aload_n 0, 1) := zk42 (by decide +kernel)
theorem dX6_tell_33 : decode cX6_tell 33 = .ok (.getfield 332, 3) := zk180 1 76 (by decide +kernel)
theorem dX6_tell_36 : decode cX6_tell 36 = .ok (.ireturn, 1) := zk172 (by decide +kernel)
