set_option maxRecDepth 20000 in
theorem ggX7_stall_X7_isIn : GoodIn wsX7_stall wsX7_isIn := goodIn_r _ [10] rfl gw_wsX7_isIn
set_option maxRecDepth 20000 in
theorem gX7_stall_X7_isIn : GoodIn wsX7_stall (va_wsS RX7 65 yX7_isIn wsX7_isIn) := goodIn_app (goodIn_r _ [7, 8, 9] rfl (by decide +kernel)) ggX7_stall_X7_isIn
set_option maxRecDepth 20000 in
theorem ggX7_stall_X7_comes : GoodIn wsX7_stall wsX7_comes := goodIn_r _ [14, 5, 15, 16, 17, 9, 18, 19, 20, 21, 22, 23, 24, 25, 26, 27, 28, 29, 30, 31, 32, 33, 34, 35, 36, 37, 38, 39, 40, 41, 42, 43, 44, 45, 46, 47, 48, 49] rfl gw_wsX7_comes
set_option maxRecDepth 20000 in
theorem gX7_stall_X7_comes : GoodIn wsX7_stall (wsV RX7 82 RX7 yX7_comes wsX7_comes) := goodIn_app (goodIn_r _ [11, 12, 13, 9] rfl (by decide +kernel)) ggX7_stall_X7_comes
theorem dX7_stall_0 : decode cX7_stall 0 = .ok (.iload_n 1, 1) := zk27 (by decide +kernel)
theorem dX7_stall_1 : decode cX7_stall 1 = .ok (.i2l, 1) := zk133 (by decide +kernel)
theorem dX7_stall_2 : decode cX7_stall 2 = .ok (.lconst 0, 1) := zk9 (by decide +kernel)
theorem dX7_stall_3 : decode cX7_stall 3 = .ok (.ldc2_w 74, 3) := zk20 0 74 (by decide +kernel)
theorem dX7_stall_6 : decode cX7_stall 6 = .ok (.invokestatic 65, 3) := zk184 0 65 (by decide +kernel)
theorem dX7_stall_9 : decode cX7_stall 9 = .ok (.ifCond .eq 27, 3) := zk153 0 27 rfl (by decide +kernel)
theorem dX7_stall_12 : decode cX7_stall 12 = .ok (.iload_n 2, 1) := zk28 (by decide +kernel)
theorem dX7_stall_13 : decode cX7_stall 13 = .ok (.i2l, 1) := zk133 (by decide +kernel)
theorem dX7_stall_14 : decode cX7_stall 14 = .ok (.lconst 0, 1) := zk9 (by decide +kernel)
theorem dX7_stall_15 : decode cX7_stall 15 = .ok (.ldc2_w 76, 3) := zk20 0 76 (by decide +kernel)
theorem dX7_stall_18 : decode cX7_stall 18 = .ok (.invokestatic 65, 3) := zk184 0 65 (by decide +kernel)
theorem dX7_stall_21 : decode cX7_stall 21 = .ok (.ifCond .eq 15, 3) := zk153 0 15 rfl (by decide +kernel)
theorem dX7_stall_24 : decode cX7_stall 24 = .ok (.iload_n 3, 1) := zk29 (by decide +kernel)
theorem dX7_stall_25 : decode cX7_stall 25 = .ok (.i2l, 1) := zk133 (by decide +kernel)
theorem dX7_stall_26 : decode cX7_stall 26 = .ok (.lconst 0, 1) := zk9 (by decide +kernel)
theorem dX7_stall_27 : decode cX7_stall 27 = .ok (.ldc2_w 78, 3) := zk20 0 78 (by decide +kernel)
theorem dX7_stall_30 : decode cX7_stall 30 = .ok (.invokestatic 65, 3) := zk184 0 65 (by decide +kernel)
theorem dX7_stall_33 : decode cX7_stall 33 = .ok (.ifCond .ne 6, 3) := zk154 0 6 rfl (by decide +kernel)
theorem dX7_stall_36 : decode cX7_stall 36 = .ok (.ldc 80, 2) := zk18 80 (by decide +kernel)
theorem dX7_stall_38 : decode cX7_stall 38 = .ok (.ireturn, 1) := zk172 (by decide +kernel)
theorem dX7_stall_39 : decode cX7_stall 39 = .ok (.aload_n 0, 1) := zk42 (by decide +kernel)
theorem dX7_stall_40 : decode cX7_stall 40 = .ok (.getfield 7, 3) := zk180 0 7 (by decide +kernel)
theorem dX7_stall_43 : decode cX7_stall 43 = .ok (.iconst 0, 1) := zk3 (by decide +kernel)
theorem dX7_stall_44 : decode cX7_stall 44 = .ok (.iaload, 1) := zk46 (by decide +kernel)
theorem dX7_stall_45 : decode cX7_stall 45 = .ok (.bipush 9, 2) := zk16 9 rfl (by decide +kernel)
theorem dX7_stall_47 : decode cX7_stall 47 = .ok (.if_icmp .ne 6, 3) := zk160 0 6 rfl (by decide +kernel)
theorem dX7_stall_50 : decode cX7_stall 50 = .ok (.ldc 81, 2) := zk18 81 (by decide +kernel)
theorem dX7_stall_52 : decode cX7_stall 52 = .ok (.ireturn, 1) := zk172 (by decide +kernel)
theorem dX7_stall_53 : decode cX7_stall 53 = .ok (.aload_n 0, 1) := zk42 (by decide +kernel)
theorem dX7_stall_54 : decode cX7_stall 54 = .ok (.iload_n 1, 1) := zk27 (by decide +kernel)
theorem dX7_stall_55 : decode cX7_stall 55 = .ok (.iload_n 2, 1) := zk28 (by decide +kernel)
theorem dX7_stall_56 : decode cX7_stall 56 = .ok (.iload_n 3, 1) := zk29 (by decide +kernel)
theorem dX7_stall_57 : decode cX7_stall 57 = .ok (.invokevirtual 82, 3) := zk182 0 82 (by decide +kernel)
theorem dX7_stall_60 : decode cX7_stall 60 = .ok (.aload_n 0, 1) := zk42 (by decide +kernel)
theorem dX7_stall_61 : decode cX7_stall 61 = .ok (.getfield 7, 3) := zk180 0 7 (by decide +kernel)
theorem dX7_stall_64 : decode cX7_stall 64 = .ok (.iconst 0, 1) := zk3 (by decide +kernel)
theorem dX7_stall_65 : decode cX7_stall 65 = .ok (.iaload, 1) := zk46 (by decide +kernel)
theorem dX7_stall_66 : decode cX7_stall 66 = .ok (.iconst 1, 1) := zk4 (by decide +kernel)
theorem dX7_stall_67 : decode cX7_stall 67 = .ok (.isub, 1) := zk100 (by decide +kernel)
theorem dX7_stall_68 : decode cX7_stall 68 = .ok (.ireturn, 1) := zk172 (by decide +kernel)
def bs_wsX7_told : List (List Cond) := [[.code yX7_told cX7_told 3 (some .int)], wsX7_told_r1, wsX7_told_r2, wsX7_told_r3, wsX70]
theorem bse_wsX7_told : wsX7_told = bs_wsX7_told.flatten := by
  unfold wsX7_told bs_wsX7_told
  simp only [List.flatten_cons, List.flatten_nil, List.append_nil, List.append_assoc, List.cons_append, List.nil_append]
set_option maxRecDepth 20000 in
theorem ggX7_told_X7_isStall : GoodIn wsX7_told wsX7_isStall := goodIn_pc bs_wsX7_told bse_wsX7_told _ [(1, [5, 6, 7, 8, 4, 9]), (4, [0, 1, 2, 3, 4, 5, 6, 7, 8, 9, 10, 11, 12, 13, 14, 15, 16, 17, 18, 19, 20, 21, 22, 23, 24, 25, 26, 27, 28, 29, 30])] rfl gw_wsX7_isStall
set_option maxRecDepth 20000 in
theorem gX7_told_X7_isStall : GoodIn wsX7_told (wsV RX7 116 RX7 yX7_isStall wsX7_isStall) := goodIn_app (goodIn_pc bs_wsX7_told bse_wsX7_told _ [(1, [1, 2, 3, 4])] rfl (by decide +kernel)) ggX7_told_X7_isStall
set_option maxRecDepth 20000 in
theorem ggX7_told_X7_of : GoodIn wsX7_told wsX7_of := goodIn_pc bs_wsX7_told bse_wsX7_told _ [(1, [13, 6]), (4, [0, 1, 2, 3, 4, 5, 6, 7, 8, 9, 10, 11, 12, 13, 14, 15, 16, 17, 18, 19, 20, 21, 22, 23, 24, 25, 26, 27, 28, 29, 30])] rfl gw_wsX7_of
set_option maxRecDepth 20000 in
theorem gX7_told_X7_of : GoodIn wsX7_told (wsV RX7 85 RX7 yX7_of wsX7_of) := goodIn_app (goodIn_pc bs_wsX7_told bse_wsX7_told _ [(1, [10, 11, 12, 4])] rfl (by decide +kernel)) ggX7_told_X7_of
set_option maxRecDepth 20000 in
theorem ggX7_told_X7_spoils : GoodIn wsX7_told wsX7_spoils := goodIn_pc bs_wsX7_told bse_wsX7_told _ [(1, [17, 18, 19, 20, 4, 21, 6, 10, 11, 12, 13, 22, 23]), (2, [0, 1]), (1, [7, 8, 9]), (2, [2, 3, 4, 5, 6, 7, 8, 9, 10, 11, 12, 13, 14, 15, 16, 17, 18, 19, 20, 21, 22, 23]), (3, [0, 1, 2, 3, 4, 5, 6, 7, 8]), (4, [0, 1, 2, 3, 4, 5, 6, 7, 8, 9, 10, 11, 12, 13, 14, 15, 16, 17, 18, 19, 20, 21, 22, 23, 24, 25, 26, 27, 28, 29, 30])] rfl gw_wsX7_spoils
set_option maxRecDepth 20000 in
theorem gX7_told_X7_spoils : GoodIn wsX7_told (wsV RX7 119 RX7 yX7_spoils wsX7_spoils) := goodIn_app (goodIn_pc bs_wsX7_told bse_wsX7_told _ [(1, [14, 15, 16, 4])] rfl (by decide +kernel)) ggX7_told_X7_spoils
set_option maxRecDepth 20000 in
theorem ggX7_told_X7_isShaded : GoodIn wsX7_told wsX7_isShaded := goodIn_pc bs_wsX7_told bse_wsX7_told _ [(1, [21, 6, 10, 11, 12, 4, 13, 22, 23]), (2, [0, 1]), (1, [7, 8, 9]), (4, [0, 1, 2, 3, 4, 5, 6, 7, 8, 9, 10, 11, 12, 13, 14, 15, 16, 17, 18, 19, 20, 21, 22, 23, 24, 25, 26, 27, 28, 29, 30])] rfl gw_wsX7_isShaded
set_option maxRecDepth 20000 in
theorem gX7_told_X7_isShaded : GoodIn wsX7_told (wsV RX7 109 RX7 yX7_isShaded wsX7_isShaded) := goodIn_app (goodIn_pc bs_wsX7_told bse_wsX7_told _ [(1, [18, 19, 20, 4])] rfl (by decide +kernel)) ggX7_told_X7_isShaded
set_option maxRecDepth 20000 in
theorem ggX7_told_X7_worth : GoodIn wsX7_told wsX7_worth := goodIn_pc bs_wsX7_told bse_wsX7_told _ [(3, [12]), (1, [10, 11, 12, 4, 13, 6]), (4, [0, 1, 2, 3, 4, 5, 6, 7, 8, 9, 10, 11, 12, 13, 14, 15, 16, 17, 18, 19, 20, 21, 22, 23, 24, 25, 26, 27, 28, 29, 30])] rfl gw_wsX7_worth
set_option maxRecDepth 20000 in
theorem gX7_told_X7_worth : GoodIn wsX7_told (wsV RX7 122 RX7 yX7_worth wsX7_worth) := goodIn_app (goodIn_pc bs_wsX7_told bse_wsX7_told _ [(3, [9, 10, 11]), (1, [4])] rfl (by decide +kernel)) ggX7_told_X7_worth
theorem dX7_told_0 : decode cX7_told 0 = .ok (.aload_n 0, 1) := zk42 (by decide +kernel)
theorem dX7_told_1 : decode cX7_told 1 = .ok (.iload_n 1, 1) := zk27 (by decide +kernel)
theorem dX7_told_2 : decode cX7_told 2 = .ok (.invokevirtual 116, 3) := zk182 0 116 (by decide +kernel)
theorem dX7_told_5 : decode cX7_told 5 = .ok (.ifCond .ne 6, 3) := zk154 0 6 rfl (by decide +kernel)
theorem dX7_told_8 : decode cX7_told 8 = .ok (.ldc 80, 2) := zk18 80 (by decide +kernel)
theorem dX7_told_10 : decode cX7_told 10 = .ok (.ireturn, 1) := zk172 (by decide +kernel)
theorem dX7_told_11 : decode cX7_told 11 = .ok (.iload_n 2, 1) := zk28 (by decide +kernel)
theorem dX7_told_12 : decode cX7_told 12 = .ok (.tableswitch 77 0 6 #[44, 44, 44, 44, 51, 57, 71], 44) := by decide +kernel
theorem dX7_told_56 : decode cX7_told 56 = .ok (.aload_n 0, 1) := zk42 (by decide +kernel)
theorem dX7_told_57 : decode cX7_told 57 = .ok (.iload_n 1, 1) := zk27 (by decide +kernel)
theorem dX7_told_58 : decode cX7_told 58 = .ok (.iload_n 2, 1) := zk28 (by decide +kernel)
theorem dX7_told_59 : decode cX7_told 59 = .ok (.invokevirtual 85, 3) := zk182 0 85 (by decide +kernel)
theorem dX7_told_62 : decode cX7_told 62 = .ok (.ireturn, 1) := zk172 (by decide +kernel)
theorem dX7_told_63 : decode cX7_told 63 = .ok (.aload_n 0, 1) := zk42 (by decide +kernel)
theorem dX7_told_64 : decode cX7_told 64 = .ok (.iload_n 1, 1) := zk27 (by decide +kernel)
theorem dX7_told_65 : decode cX7_told 65 = .ok (.invokevirtual 119, 3) := zk182 0 119 (by decide +kernel)
theorem dX7_told_68 : decode cX7_told 68 = .ok (.ireturn, 1) := zk172 (by decide +kernel)
theorem dX7_told_69 : decode cX7_told 69 = .ok (.aload_n 0, 1) := zk42 (by decide +kernel)
theorem dX7_told_70 : decode cX7_told 70 = .ok (.iload_n 1, 1) := zk27 (by decide +kernel)
theorem dX7_told_71 : decode cX7_told 71 = .ok (.invokevirtual 109, 3) := zk182 0 109 (by decide +kernel)
theorem dX7_told_74 : decode cX7_told 74 = .ok (.ifCond .eq 7, 3) := zk153 0 7 rfl (by decide +kernel)
theorem dX7_told_77 : decode cX7_told 77 = .ok (.iconst 1, 1) := zk4 (by decide +kernel)
theorem dX7_told_78 : decode cX7_told 78 = .ok (.goto 4, 3) := zk167 0 4 rfl (by decide +kernel)
theorem dX7_told_81 : decode cX7_told 81 = .ok (.iconst 0, 1) := zk3 (by decide +kernel)
theorem dX7_told_82 : decode cX7_told 82 = .ok (.ireturn, 1) := zk172 (by decide +kernel)
theorem dX7_told_83 : decode cX7_told 83 = .ok (.aload_n 0, 1) := zk42 (by decide +kernel)
theorem dX7_told_84 : decode cX7_told 84 = .ok (.iload_n 1, 1) := zk27 (by decide +kernel)
theorem dX7_told_85 : decode cX7_told 85 = .ok (.invokevirtual 122, 3) := zk182 0 122 (by decide +kernel)
theorem dX7_told_88 : decode cX7_told 88 = .ok (.ireturn, 1) := zk172 (by decide +kernel)
theorem dX7_told_89 : decode cX7_told 89 = .ok (.ldc 80, 2) := zk18 80 (by decide +kernel)
theorem dX7_told_91 : decode cX7_told 91 = .ok (.ireturn, 1) := zk172 (by decide +kernel)
set_option maxRecDepth 20000 in
theorem ggX7_turns_X7_isStall : GoodIn wsX7_turns wsX7_isStall := goodIn_r _ [7, 8, 9, 10, 6, 11, 16, 17, 18, 19, 20, 21, 22, 23, 24, 25, 26, 27, 28, 29, 30, 31, 32, 33, 34, 35, 36, 37, 38, 39, 40, 41, 42, 43, 44, 45, 46] rfl gw_wsX7_isStall
set_option maxRecDepth 20000 in
theorem gX7_turns_X7_isStall : GoodIn wsX7_turns (wsV RX7 116 RX7 yX7_isStall wsX7_isStall) := goodIn_app (goodIn_r _ [3, 4, 5, 6] rfl (by decide +kernel)) ggX7_turns_X7_isStall
set_option maxRecDepth 20000 in
theorem ggX7_turns_X7_isIn : GoodIn wsX7_turns wsX7_isIn := goodIn_r _ [11] rfl gw_wsX7_isIn
set_option maxRecDepth 20000 in
theorem gX7_turns_X7_isIn : GoodIn wsX7_turns (va_wsS RX7 65 yX7_isIn wsX7_isIn) := goodIn_app (goodIn_r _ [9, 10, 6] rfl (by decide +kernel)) ggX7_turns_X7_isIn
set_option maxRecDepth 20000 in
theorem gw_wsX7_becomes : wsX7_becomes.all goodWord = true := by decide +kernel
set_option maxRecDepth 20000 in
theorem ggX7_turns_X7_becomes : GoodIn wsX7_turns wsX7_becomes := goodIn_r _ [15, 8, 16, 17, 18, 19, 20, 21, 22, 23, 24, 25, 26, 27, 28, 29, 30, 31, 32, 33, 34, 35, 36, 37, 38, 39, 40, 41, 42, 43, 44, 45, 46] rfl gw_wsX7_becomes
set_option maxRecDepth 20000 in
theorem gX7_turns_X7_becomes : GoodIn wsX7_turns (wsV RX7 130 RX7 yX7_becomes wsX7_becomes) := goodIn_app (goodIn_r _ [12, 13, 14, 6] rfl (by decide +kernel)) ggX7_turns_X7_becomes
theorem dX7_turns_0 : decode cX7_turns 0 = .ok (.aload_n 0, 1) := zk42 (by decide +kernel)
theorem dX7_turns_1 : decode cX7_turns 1 = .ok (.iload_n 1, 1) := zk27 (by decide +kernel)
theorem dX7_turns_2 : decode cX7_turns 2 = .ok (.invokevirtual 116, 3) := zk182 0 116 (by decide +kernel)
theorem dX7_turns_5 : decode cX7_turns 5 = .ok (.ifCond .eq 29, 3) := zk153 0 29 rfl (by decide +kernel)
theorem dX7_turns_8 : decode cX7_turns 8 = .ok (.iload_n 2, 1) := zk28 (by decide +kernel)
theorem dX7_turns_9 : decode cX7_turns 9 = .ok (.i2l, 1) := zk133 (by decide +kernel)
theorem dX7_turns_10 : decode cX7_turns 10 = .ok (.lconst 0, 1) := zk9 (by decide +kernel)
theorem dX7_turns_11 : decode cX7_turns 11 = .ok (.ldc2_w 74, 3) := zk20 0 74 (by decide +kernel)
theorem dX7_turns_14 : decode cX7_turns 14 = .ok (.invokestatic 65, 3) := zk184 0 65 (by decide +kernel)
theorem dX7_turns_17 : decode cX7_turns 17 = .ok (.ifCond .eq 17, 3) := zk153 0 17 rfl (by decide +kernel)
theorem dX7_turns_20 : decode cX7_turns 20 = .ok (.aload_n 0, 1) := zk42 (by decide +kernel)
theorem dX7_turns_21 : decode cX7_turns 21 = .ok (.bipush 11, 2) := zk16 11 rfl (by decide +kernel)
theorem dX7_turns_23 : decode cX7_turns 23 = .ok (.iconst 4, 1) := zk7 (by decide +kernel)
theorem dX7_turns_24 : decode cX7_turns 24 = .ok (.iload_n 1, 1) := zk27 (by decide +kernel)
theorem dX7_turns_25 : decode cX7_turns 25 = .ok (.imul, 1) := zk104 (by decide +kernel)
theorem dX7_turns_26 : decode cX7_turns 26 = .ok (.iadd, 1) := zk96 (by decide +kernel)
theorem dX7_turns_27 : decode cX7_turns 27 = .ok (.iload_n 2, 1) := zk28 (by decide +kernel)
theorem dX7_turns_28 : decode cX7_turns 28 = .ok (.invokevirtual 130, 3) := zk182 0 130 (by decide +kernel)
theorem dX7_turns_31 : decode cX7_turns 31 = .ok (.goto 5, 3) := zk167 0 5 rfl (by decide +kernel)
theorem dX7_turns_34 : decode cX7_turns 34 = .ok (.ldc 80, 2) := zk18 80 (by decide +kernel)
theorem dX7_turns_36 : decode cX7_turns 36 = .ok (.ireturn, 1) := zk172 (by decide +kernel)
set_option maxRecDepth 20000 in
theorem ggX7_set_X7_isStall : GoodIn wsX7_set wsX7_isStall := goodIn_r _ [10, 11, 12, 13, 9, 14, 19, 20, 21, 22, 23, 24, 25, 26, 27, 28, 29, 30, 31, 32, 33, 34, 35, 36, 37, 38, 39, 40, 41, 42, 43, 44, 45, 46, 47, 48, 49] rfl gw_wsX7_isStall
set_option maxRecDepth 20000 in
theorem gX7_set_X7_isStall : GoodIn wsX7_set (wsV RX7 116 RX7 yX7_isStall wsX7_isStall) := goodIn_app (goodIn_r _ [6, 7, 8, 9] rfl (by decide +kernel)) ggX7_set_X7_isStall
set_option maxRecDepth 20000 in
theorem ggX7_set_X7_isIn : GoodIn wsX7_set wsX7_isIn := goodIn_r _ [14] rfl gw_wsX7_isIn
set_option maxRecDepth 20000 in
theorem gX7_set_X7_isIn : GoodIn wsX7_set (va_wsS RX7 65 yX7_isIn wsX7_isIn) := goodIn_app (goodIn_r _ [12, 13, 9] rfl (by decide +kernel)) ggX7_set_X7_isIn
set_option maxRecDepth 20000 in
theorem ggX7_set_X7_becomes : GoodIn wsX7_set wsX7_becomes := goodIn_r _ [18, 11, 19, 20, 21, 22, 23, 24, 25, 26, 27, 28, 29, 30, 31, 32, 33, 34, 35, 36, 37, 38, 39, 40, 41, 42, 43, 44, 45, 46, 47, 48, 49] rfl gw_wsX7_becomes
set_option maxRecDepth 20000 in
theorem gX7_set_X7_becomes : GoodIn wsX7_set (wsV RX7 130 RX7 yX7_becomes wsX7_becomes) := goodIn_app (goodIn_r _ [15, 16, 17, 9] rfl (by decide +kernel)) ggX7_set_X7_becomes
theorem dX7_set_0 : decode cX7_set 0 = .ok (.aload_n 0, 1) := zk42 (by decide +kernel)
theorem dX7_set_1 : decode cX7_set 1 = .ok (.iload_n 1, 1) := zk27 (by decide +kernel)
theorem dX7_set_2 : decode cX7_set 2 = .ok (.invokevirtual 116, 3) := zk182 0 116 (by decide +kernel)
theorem dX7_set_5 : decode cX7_set 5 = .ok (.ifCond .eq 49, 3) := zk153 0 49 rfl (by decide +kernel)
theorem dX7_set_8 : decode cX7_set 8 = .ok (.iload_n 2, 1) := zk28 (by decide +kernel)
theorem dX7_set_9 : decode cX7_set 9 = .ok (.i2l, 1) := zk133 (by decide +kernel)
theorem dX7_set_10 : decode cX7_set 10 = .ok (.lconst 1, 1) := zk10 (by decide +kernel)
theorem dX7_set_11 : decode cX7_set 11 = .ok (.ldc2_w 133, 3) := zk20 0 133 (by decide +kernel)
theorem dX7_set_14 : decode cX7_set 14 = .ok (.invokestatic 65, 3) := zk184 0 65 (by decide +kernel)
theorem dX7_set_17 : decode cX7_set 17 = .ok (.ifCond .eq 37, 3) := zk153 0 37 rfl (by decide +kernel)
theorem dX7_set_20 : decode cX7_set 20 = .ok (.iload_n 3, 1) := zk29 (by decide +kernel)
theorem dX7_set_21 : decode cX7_set 21 = .ok (.i2l, 1) := zk133 (by decide +kernel)
theorem dX7_set_22 : decode cX7_set 22 = .ok (.lconst 0, 1) := zk9 (by decide +kernel)
theorem dX7_set_23 : decode cX7_set 23 = .ok (.iload_n 2, 1) := zk28 (by decide +kernel)
theorem dX7_set_24 : decode cX7_set 24 = .ok (.iconst 1, 1) := zk4 (by decide +kernel)
theorem dX7_set_25 : decode cX7_set 25 = .ok (.if_icmp .ne 9, 3) := zk160 0 9 rfl (by decide +kernel)
theorem dX7_set_28 : decode cX7_set 28 = .ok (.ldc2_w 76, 3) := zk20 0 76 (by decide +kernel)
theorem dX7_set_31 : decode cX7_set 31 = .ok (.goto 17, 3) := zk167 0 17 rfl (by decide +kernel)
theorem dX7_set_34 : decode cX7_set 34 = .ok (.iload_n 2, 1) := zk28 (by decide +kernel)
theorem dX7_set_35 : decode cX7_set 35 = .ok (.iconst 2, 1) := zk5 (by decide +kernel)
theorem dX7_set_36 : decode cX7_set 36 = .ok (.if_icmp .ne 9, 3) := zk160 0 9 rfl (by decide +kernel)
theorem dX7_set_39 : decode cX7_set 39 = .ok (.ldc2_w 135, 3) := zk20 0 135 (by decide +kernel)
theorem dX7_set_42 : decode cX7_set 42 = .ok (.goto 6, 3) := zk167 0 6 rfl (by decide +kernel)
theorem dX7_set_45 : decode cX7_set 45 = .ok (.ldc2_w 78, 3) := zk20 0 78 (by decide +kernel)
theorem dX7_set_48 : decode cX7_set 48 = .ok (.invokestatic 65, 3) := zk184 0 65 (by decide +kernel)
theorem dX7_set_51 : decode cX7_set 51 = .ok (.ifCond .ne 6, 3) := zk154 0 6 rfl (by decide +kernel)
theorem dX7_set_54 : decode cX7_set 54 = .ok (.ldc 80, 2) := zk18 80 (by decide +kernel)
theorem dX7_set_56 : decode cX7_set 56 = .ok (.ireturn, 1) := zk172 (by decide +kernel)
theorem dX7_set_57 : decode cX7_set 57 = .ok (.aload_n 0, 1) := zk42 (by decide +kernel)
theorem dX7_set_58 : decode cX7_set 58 = .ok (.bipush 11, 2) := zk16 11 rfl (by decide +kernel)
theorem dX7_set_60 : decode cX7_set 60 = .ok (.iconst 4, 1) := zk7 (by decide +kernel)
theorem dX7_set_61 : decode cX7_set 61 = .ok (.iload_n 1, 1) := zk27 (by decide +kernel)
theorem dX7_set_62 : decode cX7_set 62 = .ok (.imul, 1) := zk104 (by decide +kernel)
theorem dX7_set_63 : decode cX7_set 63 = .ok (.iadd, 1) := zk96 (by decide +kernel)
theorem dX7_set_64 : decode cX7_set 64 = .ok (.iload_n 2, 1) := zk28 (by decide +kernel)
theorem dX7_set_65 : decode cX7_set 65 = .ok (.iadd, 1) := zk96 (by decide +kernel)
theorem dX7_set_66 : decode cX7_set 66 = .ok (.iload_n 3, 1) := zk29 (by decide +kernel)
theorem dX7_set_67 : decode cX7_set 67 = .ok (.invokevirtual 130, 3) := zk182 0 130 (by decide +kernel)
theorem dX7_set_70 : decode cX7_set 70 = .ok (.ireturn, 1) := zk172 (by decide +kernel)
theorem dX7_mostOf_0 : decode cX7_mostOf 0 = .ok (.iload_n 1, 1) := zk27 (by decide +kernel)
theorem dX7_mostOf_1 : decode cX7_mostOf 1 = .ok (.ifCond .ne 16, 3) := zk154 0 16 rfl (by decide +kernel)
theorem dX7_mostOf_4 : decode cX7_mostOf 4 = .ok (.bipush 12, 2) := zk16 12 rfl (by decide +kernel)
theorem dX7_mostOf_6 : decode cX7_mostOf 6 = .ok (.aload_n 0, 1) := zk42 (by decide +kernel)
theorem dX7_mostOf_7 : decode cX7_mostOf 7 = .ok (.getfield 7, 3) := zk180 0 7 (by decide +kernel)
theorem dX7_mostOf_10 : decode cX7_mostOf 10 = .ok (.bipush 8, 2) := zk16 8 rfl (by decide +kernel)
theorem dX7_mostOf_12 : decode cX7_mostOf 12 = .ok (.iaload, 1) := zk46 (by decide +kernel)
theorem dX7_mostOf_13 : decode cX7_mostOf 13 = .ok (.isub, 1) := zk100 (by decide +kernel)
theorem dX7_mostOf_14 : decode cX7_mostOf 14 = .ok (.goto 24, 3) := zk167 0 24 rfl (by decide +kernel)
theorem dX7_mostOf_17 : decode cX7_mostOf 17 = .ok (.iload_n 1, 1) := zk27 (by decide +kernel)
theorem dX7_mostOf_18 : decode cX7_mostOf 18 = .ok (.iconst 1, 1) := zk4 (by decide +kernel)
theorem dX7_mostOf_19 : decode cX7_mostOf 19 = .ok (.if_icmp .ne 8, 3) := zk160 0 8 rfl (by decide +kernel)
theorem dX7_mostOf_22 : decode cX7_mostOf 22 = .ok (.bipush 6, 2) := zk16 6 rfl (by decide +kernel)
theorem dX7_mostOf_24 : decode cX7_mostOf 24 = .ok (.goto 14, 3) := zk167 0 14 rfl (by decide +kernel)
theorem dX7_mostOf_27 : decode cX7_mostOf 27 = .ok (.iload_n 1, 1) := zk27 (by decide +kernel)
theorem dX7_mostOf_28 : decode cX7_mostOf 28 = .ok (.iconst 2, 1) := zk5 (by decide +kernel)
theorem dX7_mostOf_29 : decode cX7_mostOf 29 = .ok (.if_icmp .ne 8, 3) := zk160 0 8 rfl (by decide +kernel)
theorem dX7_mostOf_32 : decode cX7_mostOf 32 = .ok (.bipush 100, 2) := zk16 100 rfl (by decide +kernel)
theorem dX7_mostOf_34 : decode cX7_mostOf 34 = .ok (.goto 4, 3) := zk167 0 4 rfl (by decide +kernel)
theorem dX7_mostOf_37 : decode cX7_mostOf 37 = .ok (.iconst 2, 1) := zk5 (by decide +kernel)
theorem dX7_mostOf_38 : decode cX7_mostOf 38 = .ok (.ireturn, 1) := zk172 (by decide +kernel)
set_option maxRecDepth 20000 in
theorem ggX7_rule_X7_isIn : GoodIn wsX7_rule wsX7_isIn := goodIn_r _ [6] rfl gw_wsX7_isIn
set_option maxRecDepth 20000 in
theorem gX7_rule_X7_isIn : GoodIn wsX7_rule (va_wsS RX7 65 yX7_isIn wsX7_isIn) := goodIn_app (goodIn_r _ [3, 4, 5] rfl (by decide +kernel)) ggX7_rule_X7_isIn
set_option maxRecDepth 20000 in
theorem gw_wsX7_mostOf : wsX7_mostOf.all goodWord = true := by decide +kernel
set_option maxRecDepth 20000 in
theorem ggX7_rule_X7_mostOf : GoodIn wsX7_rule wsX7_mostOf := goodIn_r _ [10, 11, 23, 24, 25, 26, 27, 28, 29, 30, 31, 32, 33, 34, 35, 36, 37, 38, 39, 40, 41, 42, 43, 44, 45, 46, 47, 48, 49, 50, 51, 52, 53] rfl gw_wsX7_mostOf
set_option maxRecDepth 20000 in
theorem gX7_rule_X7_mostOf : GoodIn wsX7_rule (wsV RX7 146 RX7 yX7_mostOf wsX7_mostOf) := goodIn_app (goodIn_r _ [7, 8, 9, 5] rfl (by decide +kernel)) ggX7_rule_X7_mostOf
set_option maxRecDepth 20000 in
theorem ggX7_rule_X7_becomes : GoodIn wsX7_rule wsX7_becomes := goodIn_r _ [15, 11, 23, 24, 25, 26, 27, 28, 29, 30, 31, 32, 33, 34, 35, 36, 37, 38, 39, 40, 41, 42, 43, 44, 45, 46, 47, 48, 49, 50, 51, 52, 53] rfl gw_wsX7_becomes
set_option maxRecDepth 20000 in
theorem gX7_rule_X7_becomes : GoodIn wsX7_rule (wsV RX7 130 RX7 yX7_becomes wsX7_becomes) := goodIn_app (goodIn_r _ [12, 13, 14, 5] rfl (by decide +kernel)) ggX7_rule_X7_becomes
set_option maxRecDepth 20000 in
theorem ggX7_rule_X7_holds : GoodIn wsX7_rule wsX7_holds := goodIn_r _ [19, 11, 20, 21, 5, 22, 23, 24, 25, 26, 27, 28, 29, 30, 31, 32, 33, 34, 35, 36, 37, 38, 39, 40, 41, 42, 43, 44, 45, 46, 47, 48, 49, 50, 51, 52, 53] rfl gw_wsX7_holds
set_option maxRecDepth 20000 in
theorem gX7_rule_X7_holds : GoodIn wsX7_rule (wsV RX7 149 RX7 yX7_holds wsX7_holds) := goodIn_app (goodIn_r _ [16, 17, 18, 5] rfl (by decide +kernel)) ggX7_rule_X7_holds
theorem dX7_rule_0 : decode cX7_rule 0 = .ok (.iload_n 1, 1) := zk27 (by decide +kernel)
theorem dX7_rule_1 : decode cX7_rule 1 = .ok (.i2l, 1) := zk133 (by decide +kernel)
theorem dX7_rule_2 : decode cX7_rule 2 = .ok (.lconst 0, 1) := zk9 (by decide +kernel)
theorem dX7_rule_3 : decode cX7_rule 3 = .ok (.ldc2_w 133, 3) := zk20 0 133 (by decide +kernel)
theorem dX7_rule_6 : decode cX7_rule 6 = .ok (.invokestatic 65, 3) := zk184 0 65 (by decide +kernel)
theorem dX7_rule_9 : decode cX7_rule 9 = .ok (.ifCond .eq 27, 3) := zk153 0 27 rfl (by decide +kernel)
theorem dX7_rule_12 : decode cX7_rule 12 = .ok (.iload_n 2, 1) := zk28 (by decide +kernel)
theorem dX7_rule_13 : decode cX7_rule 13 = .ok (.i2l, 1) := zk133 (by decide +kernel)
theorem dX7_rule_14 : decode cX7_rule 14 = .ok (.iload_n 1, 1) := zk27 (by decide +kernel)
theorem dX7_rule_15 : decode cX7_rule 15 = .ok (.iconst 1, 1) := zk4 (by decide +kernel)
theorem dX7_rule_16 : decode cX7_rule 16 = .ok (.if_icmp .ne 7, 3) := zk160 0 7 rfl (by decide +kernel)
theorem dX7_rule_19 : decode cX7_rule 19 = .ok (.lconst 1, 1) := zk10 (by decide +kernel)
theorem dX7_rule_20 : decode cX7_rule 20 = .ok (.goto 4, 3) := zk167 0 4 rfl (by decide +kernel)
theorem dX7_rule_23 : decode cX7_rule 23 = .ok (.lconst 0, 1) := zk9 (by decide +kernel)
theorem dX7_rule_24 : decode cX7_rule 24 = .ok (.aload_n 0, 1) := zk42 (by decide +kernel)
theorem dX7_rule_25 : decode cX7_rule 25 = .ok (.iload_n 1, 1) := zk27 (by decide +kernel)
theorem dX7_rule_26 : decode cX7_rule 26 = .ok (.invokevirtual 146, 3) := zk182 0 146 (by decide +kernel)
theorem dX7_rule_29 : decode cX7_rule 29 = .ok (.i2l, 1) := zk133 (by decide +kernel)
theorem dX7_rule_30 : decode cX7_rule 30 = .ok (.invokestatic 65, 3) := zk184 0 65 (by decide +kernel)
theorem dX7_rule_33 : decode cX7_rule 33 = .ok (.ifCond .ne 6, 3) := zk154 0 6 rfl (by decide +kernel)
theorem dX7_rule_36 : decode cX7_rule 36 = .ok (.ldc 80, 2) := zk18 80 (by decide +kernel)
theorem dX7_rule_38 : decode cX7_rule 38 = .ok (.ireturn, 1) := zk172 (by decide +kernel)
theorem dX7_rule_39 : decode cX7_rule 39 = .ok (.aload_n 0, 1) := zk42 (by decide +kernel)
theorem dX7_rule_40 : decode cX7_rule 40 = .ok (.bipush 7, 2) := zk16 7 rfl (by decide +kernel)
theorem dX7_rule_42 : decode cX7_rule 42 = .ok (.iload_n 1, 1) := zk27 (by decide +kernel)
theorem dX7_rule_43 : decode cX7_rule 43 = .ok (.iadd, 1) := zk96 (by decide +kernel)
theorem dX7_rule_44 : decode cX7_rule 44 = .ok (.iload_n 2, 1) := zk28 (by decide +kernel)
theorem dX7_rule_45 : decode cX7_rule 45 = .ok (.invokevirtual 130, 3) := zk182 0 130 (by decide +kernel)
theorem dX7_rule_48 : decode cX7_rule 48 = .ok (.istore_n 3, 1) := zk62 (by decide +kernel)
theorem dX7_rule_49 : decode cX7_rule 49 = .ok (.aload_n 0, 1) := zk42 (by decide +kernel)
theorem dX7_rule_50 : decode cX7_rule 50 = .ok (.invokevirtual 149, 3) := zk182 0 149 (by decide +kernel)
theorem dX7_rule_53 : decode cX7_rule 53 = .ok (.iload_n 3, 1) := zk29 (by decide +kernel)
theorem dX7_rule_54 : decode cX7_rule 54 = .ok (.ireturn, 1) := zk172 (by decide +kernel)
set_option maxRecDepth 20000 in
theorem ggX7_seed_X7_becomes : GoodIn wsX7_seed wsX7_becomes := goodIn_r _ [5, 6, 7, 8, 9, 10, 11, 12, 13, 14, 15, 16, 17, 18, 19, 20, 21, 22, 23, 24, 25, 26, 27, 28, 29, 30, 31, 32, 33, 34, 35, 36, 37] rfl gw_wsX7_becomes
set_option maxRecDepth 20000 in
theorem gX7_seed_X7_becomes : GoodIn wsX7_seed (wsV RX7 130 RX7 yX7_becomes wsX7_becomes) := goodIn_app (goodIn_r _ [1, 2, 3, 4] rfl (by decide +kernel)) ggX7_seed_X7_becomes
theorem dX7_seed_0 : decode cX7_seed 0 = .ok (.aload_n 0, 1) := zk42 (by decide +kernel)
theorem dX7_seed_1 : decode cX7_seed 1 = .ok (.bipush 6, 2) := zk16 6 rfl (by decide +kernel)
theorem dX7_seed_3 : decode cX7_seed 3 = .ok (.iload_n 1, 1) := zk27 (by decide +kernel)
theorem dX7_seed_4 : decode cX7_seed 4 = .ok (.invokevirtual 130, 3) := zk182 0 130 (by decide +kernel)
theorem dX7_seed_7 : decode cX7_seed 7 = .ok (.ireturn, 1) := zk172 (by decide +kernel)
def bs_wsX7_wider : List (List Cond) := [[.code yX7_wider cX7_wider 5 (some .int)], wsX7_wider_r1, wsX7_wider_r2, wsX7_wider_r3, wsX7_wider_r4, wsX7_wider_r5, wsX70]
theorem bse_wsX7_wider : wsX7_wider = bs_wsX7_wider.flatten := by
  unfold wsX7_wider bs_wsX7_wider
  simp only [List.flatten_cons, List.flatten_nil, List.append_nil, List.append_assoc, List.cons_append, List.nil_append]
set_option maxRecDepth 20000 in
theorem ggX7_wider_X7_isIn : GoodIn wsX7_wider wsX7_isIn := goodIn_pc bs_wsX7_wider bse_wsX7_wider _ [(1, [7])] rfl gw_wsX7_isIn
set_option maxRecDepth 20000 in
theorem gX7_wider_X7_isIn : GoodIn wsX7_wider (va_wsS RX7 65 yX7_isIn wsX7_isIn) := goodIn_app (goodIn_pc bs_wsX7_wider bse_wsX7_wider _ [(1, [4, 5, 6])] rfl (by decide +kernel)) ggX7_wider_X7_isIn
set_option maxRecDepth 20000 in
theorem ggX7_wider_X7_laysBy : GoodIn wsX7_wider wsX7_laysBy := goodIn_pc bs_wsX7_wider bse_wsX7_wider _ [(1, [11, 12, 3]), (6, [0, 1, 2, 3, 4, 5, 6, 7, 8, 9, 10, 11, 12, 13, 14, 15, 16, 17, 18, 19, 20, 21, 22, 23, 24, 25, 26, 27, 28, 29, 30])] rfl gw_wsX7_laysBy
set_option maxRecDepth 20000 in
theorem gX7_wider_X7_laysBy : GoodIn wsX7_wider (wsV RX7 175 RX7 yX7_laysBy wsX7_laysBy) := goodIn_app (goodIn_pc bs_wsX7_wider bse_wsX7_wider _ [(1, [8, 9, 10, 6])] rfl (by decide +kernel)) ggX7_wider_X7_laysBy
set_option maxRecDepth 20000 in
theorem ggX7_wider_X7_holds : GoodIn wsX7_wider wsX7_holds := goodIn_pc bs_wsX7_wider bse_wsX7_wider _ [(1, [16, 3, 17, 18, 6, 19]), (6, [0, 1, 2, 3, 4, 5, 6, 7, 8, 9, 10, 11, 12, 13, 14, 15, 16, 17, 18, 19, 20, 21, 22, 23, 24, 25, 26, 27, 28, 29, 30])] rfl gw_wsX7_holds
set_option maxRecDepth 20000 in
theorem gX7_wider_X7_holds : GoodIn wsX7_wider (wsV RX7 149 RX7 yX7_holds wsX7_holds) := goodIn_app (goodIn_pc bs_wsX7_wider bse_wsX7_wider _ [(1, [13, 14, 15, 6])] rfl (by decide +kernel)) ggX7_wider_X7_holds
set_option maxRecDepth 20000 in
theorem ggX7_wider_X7_goesOnMany : GoodIn wsX7_wider wsX7_goesOnMany := goodIn_pc bs_wsX7_wider bse_wsX7_wider _ [(1, [23]), (2, [0, 1, 2]), (1, [6]), (2, [3, 4, 5, 6, 7]), (1, [3]), (2, [8, 9, 10, 11]), (1, [13, 14, 15, 16, 17, 18, 19]), (2, [12, 13, 14, 15, 16, 17, 18, 19, 20, 21, 22, 23]), (3, [0, 1, 2, 3]), (1, [4, 5, 7]), (3, [4, 5, 6, 7, 8, 9, 10, 11, 12, 13, 14, 15, 16, 17, 18, 19, 20, 21, 22, 23]), (4, [0, 1, 2, 3, 4, 5, 6, 7, 8, 9, 10, 11, 12, 13, 14, 15, 16, 17, 18, 19, 20, 21, 22, 23]), (5, [0]), (6, [0, 1, 2, 3, 4, 5, 6, 7, 8, 9, 10, 11, 12, 13, 14, 15, 16, 17, 18, 19, 20, 21, 22, 23, 24, 25, 26, 27, 28, 29, 30])] rfl gw_wsX7_goesOnMany
set_option maxRecDepth 20000 in
theorem gX7_wider_X7_goesOnMany : GoodIn wsX7_wider (wsV RX7 178 RX7 yX7_goesOnMany wsX7_goesOnMany) := goodIn_app (goodIn_pc bs_wsX7_wider bse_wsX7_wider _ [(1, [20, 21, 22, 6])] rfl (by decide +kernel)) ggX7_wider_X7_goesOnMany
set_option maxRecDepth 20000 in
theorem ggX7_wider_X7_laysBack : GoodIn wsX7_wider wsX7_laysBack := goodIn_pc bs_wsX7_wider bse_wsX7_wider _ [(5, [4]), (1, [3, 12]), (6, [0, 1, 2, 3, 4, 5, 6, 7, 8, 9, 10, 11, 12, 13, 14, 15, 16, 17, 18, 19, 20, 21, 22, 23, 24, 25, 26, 27, 28, 29, 30])] rfl gw_wsX7_laysBack
set_option maxRecDepth 20000 in
theorem gX7_wider_X7_laysBack : GoodIn wsX7_wider (wsV RX7 181 RX7 yX7_laysBack wsX7_laysBack) := goodIn_app (goodIn_pc bs_wsX7_wider bse_wsX7_wider _ [(5, [1, 2, 3]), (1, [6])] rfl (by decide +kernel)) ggX7_wider_X7_laysBack
set_option maxRecDepth 20000 in
theorem ggX7_wider_X7_orNone : GoodIn wsX7_wider wsX7_orNone := goodIn_pc bs_wsX7_wider bse_wsX7_wider _ [(5, [7, 8])] rfl gw_wsX7_orNone
set_option maxRecDepth 20000 in
theorem gX7_wider_X7_orNone : GoodIn wsX7_wider (va_wsS RX7 140 yX7_orNone wsX7_orNone) := goodIn_app (goodIn_pc bs_wsX7_wider bse_wsX7_wider _ [(5, [5, 6]), (1, [6])] rfl (by decide +kernel)) ggX7_wider_X7_orNone
theorem dX7_wider_0 : decode cX7_wider 0 = .ok (.iload_n 1, 1) := zk27 (by decide +kernel)
theorem dX7_wider_1 : decode cX7_wider 1 = .ok (.i2l, 1) := zk133 (by decide +kernel)
theorem dX7_wider_2 : decode cX7_wider 2 = .ok (.lconst 0, 1) := zk9 (by decide +kernel)
theorem dX7_wider_3 : decode cX7_wider 3 = .ok (.ldc2_w 184, 3) := zk20 0 184 (by decide +kernel)
theorem dX7_wider_6 : decode cX7_wider 6 = .ok (.invokestatic 65, 3) := zk184 0 65 (by decide +kernel)
theorem dX7_wider_9 : decode cX7_wider 9 = .ok (.ifCond .eq 15, 3) := zk153 0 15 rfl (by decide +kernel)
theorem dX7_wider_12 : decode cX7_wider 12 = .ok (.iload_n 2, 1) := zk28 (by decide +kernel)
theorem dX7_wider_13 : decode cX7_wider 13 = .ok (.i2l, 1) := zk133 (by decide +kernel)
theorem dX7_wider_14 : decode cX7_wider 14 = .ok (.lconst 1, 1) := zk10 (by decide +kernel)
theorem dX7_wider_15 : decode cX7_wider 15 = .ok (.ldc2_w 186, 3) := zk20 0 186 (by decide +kernel)
theorem dX7_wider_18 : decode cX7_wider 18 = .ok (.invokestatic 65, 3) := zk184 0 65 (by decide +kernel)
theorem dX7_wider_21 : decode cX7_wider 21 = .ok (.ifCond .ne 6, 3) := zk154 0 6 rfl (by decide +kernel)
theorem dX7_wider_24 : decode cX7_wider 24 = .ok (.ldc 80, 2) := zk18 80 (by decide +kernel)
theorem dX7_wider_26 : decode cX7_wider 26 = .ok (.ireturn, 1) := zk172 (by decide +kernel)
theorem dX7_wider_27 : decode cX7_wider 27 = .ok (.aload_n 0, 1) := zk42 (by decide +kernel)
theorem dX7_wider_28 : decode cX7_wider 28 = .ok (.invokevirtual 175, 3) := zk182 0 175 (by decide +kernel)
theorem dX7_wider_31 : decode cX7_wider 31 = .ok (.iconst (-1), 1) := zk2 (by decide +kernel)
theorem dX7_wider_32 : decode cX7_wider 32 = .ok (.istore_n 3, 1) := zk62 (by decide +kernel)
theorem dX7_wider_33 : decode cX7_wider 33 = .ok (.bipush 6, 2) := zk16 6 rfl (by decide +kernel)
theorem dX7_wider_35 : decode cX7_wider 35 = .ok (.istore 4, 2) := zk54 4 (by decide +kernel)
theorem dX7_wider_37 : decode cX7_wider 37 = .ok (.iload 4, 2) := zk21 4 (by decide +kernel)
theorem dX7_wider_39 : decode cX7_wider 39 = .ok (.iconst 1, 1) := zk4 (by decide +kernel)
theorem dX7_wider_40 : decode cX7_wider 40 = .ok (.if_icmp .lt 48, 3) := zk161 0 48 rfl (by decide +kernel)
theorem dX7_wider_43 : decode cX7_wider 43 = .ok (.aload_n 0, 1) := zk42 (by decide +kernel)
theorem dX7_wider_44 : decode cX7_wider 44 = .ok (.getfield 7, 3) := zk180 0 7 (by decide +kernel)
theorem dX7_wider_47 : decode cX7_wider 47 = .ok (.bipush 8, 2) := zk16 8 rfl (by decide +kernel)
theorem dX7_wider_49 : decode cX7_wider 49 = .ok (.iload 4, 2) := zk21 4 (by decide +kernel)
theorem dX7_wider_51 : decode cX7_wider 51 = .ok (.iastore, 1) := zk79 (by decide +kernel)
theorem dX7_wider_52 : decode cX7_wider 52 = .ok (.aload_n 0, 1) := zk42 (by decide +kernel)
theorem dX7_wider_53 : decode cX7_wider 53 = .ok (.invokevirtual 149, 3) := zk182 0 149 (by decide +kernel)
theorem dX7_wider_56 : decode cX7_wider 56 = .ok (.aload_n 0, 1) := zk42 (by decide +kernel)
theorem dX7_wider_57 : decode cX7_wider 57 = .ok (.iload_n 2, 1) := zk28 (by decide +kernel)
theorem dX7_wider_58 : decode cX7_wider 58 = .ok (.invokevirtual 178, 3) := zk182 0 178 (by decide +kernel)
theorem dX7_wider_61 : decode cX7_wider 61 = .ok (.aload_n 0, 1) := zk42 (by decide +kernel)
theorem dX7_wider_62 : decode cX7_wider 62 = .ok (.getfield 7, 3) := zk180 0 7 (by decide +kernel)
theorem dX7_wider_65 : decode cX7_wider 65 = .ok (.iconst 4, 1) := zk7 (by decide +kernel)
theorem dX7_wider_66 : decode cX7_wider 66 = .ok (.iaload, 1) := zk46 (by decide +kernel)
theorem dX7_wider_67 : decode cX7_wider 67 = .ok (.iload_n 1, 1) := zk27 (by decide +kernel)
theorem dX7_wider_68 : decode cX7_wider 68 = .ok (.if_icmp .gt 8, 3) := zk163 0 8 rfl (by decide +kernel)
theorem dX7_wider_71 : decode cX7_wider 71 = .ok (.iload 4, 2) := zk21 4 (by decide +kernel)
theorem dX7_wider_73 : decode cX7_wider 73 = .ok (.goto 4, 3) := zk167 0 4 rfl (by decide +kernel)
theorem dX7_wider_76 : decode cX7_wider 76 = .ok (.iload_n 3, 1) := zk29 (by decide +kernel)
theorem dX7_wider_77 : decode cX7_wider 77 = .ok (.istore_n 3, 1) := zk62 (by decide +kernel)
theorem dX7_wider_78 : decode cX7_wider 78 = .ok (.aload_n 0, 1) := zk42 (by decide +kernel)
theorem dX7_wider_79 : decode cX7_wider 79 = .ok (.invokevirtual 181, 3) := zk182 0 181 (by decide +kernel)
theorem dX7_wider_82 : decode cX7_wider 82 = .ok (.iinc 4 (-1), 3) := by decide +kernel
theorem dX7_wider_85 : decode cX7_wider 85 = .ok (.goto (-48), 3) := zk167 255 208 rfl (by decide +kernel)
theorem dX7_wider_88 : decode cX7_wider 88 = .ok (.iload_n 3, 1) := zk29 (by decide +kernel)
theorem dX7_wider_89 : decode cX7_wider 89 = .ok (.invokestatic 140, 3) := zk184 0 140 (by decide +kernel)
theorem dX7_wider_92 : decode cX7_wider 92 = .ok (.ireturn, 1) := zk172 (by decide +kernel)
def bs_wsX7_shaded : List (List Cond) := [[.code yX7_shaded cX7_shaded 7 (some .int)], wsX7_shaded_r1, wsX7_shaded_r2, wsX7_shaded_r3, wsX7_shaded_r4, wsX70]
theorem bse_wsX7_shaded : wsX7_shaded = bs_wsX7_shaded.flatten := by
  unfold wsX7_shaded bs_wsX7_shaded
  simp only [List.flatten_cons, List.flatten_nil, List.append_nil, List.append_assoc, List.cons_append, List.nil_append]
set_option maxRecDepth 20000 in
theorem ggX7_shaded_X7_isStall : GoodIn wsX7_shaded wsX7_isStall := goodIn_pc bs_wsX7_shaded bse_wsX7_shaded _ [(1, [7, 2, 8, 9, 6, 10]), (5, [0, 1, 2, 3, 4, 5, 6, 7, 8, 9, 10, 11, 12, 13, 14, 15, 16, 17, 18, 19, 20, 21, 22, 23, 24, 25, 26, 27, 28, 29, 30])] rfl gw_wsX7_isStall
set_option maxRecDepth 20000 in
theorem gX7_shaded_X7_isStall : GoodIn wsX7_shaded (wsV RX7 116 RX7 yX7_isStall wsX7_isStall) := goodIn_app (goodIn_pc bs_wsX7_shaded bse_wsX7_shaded _ [(1, [3, 4, 5, 6])] rfl (by decide +kernel)) ggX7_shaded_X7_isStall
set_option maxRecDepth 20000 in
theorem ggX7_shaded_X7_isIn : GoodIn wsX7_shaded wsX7_isIn := goodIn_pc bs_wsX7_shaded bse_wsX7_shaded _ [(1, [10])] rfl gw_wsX7_isIn
set_option maxRecDepth 20000 in
theorem gX7_shaded_X7_isIn : GoodIn wsX7_shaded (va_wsS RX7 65 yX7_isIn wsX7_isIn) := goodIn_app (goodIn_pc bs_wsX7_shaded bse_wsX7_shaded _ [(1, [8, 9, 6])] rfl (by decide +kernel)) ggX7_shaded_X7_isIn
set_option maxRecDepth 20000 in
theorem ggX7_shaded_X7_laysBy : GoodIn wsX7_shaded wsX7_laysBy := goodIn_pc bs_wsX7_shaded bse_wsX7_shaded _ [(1, [14, 15, 2]), (5, [0, 1, 2, 3, 4, 5, 6, 7, 8, 9, 10, 11, 12, 13, 14, 15, 16, 17, 18, 19, 20, 21, 22, 23, 24, 25, 26, 27, 28, 29, 30])] rfl gw_wsX7_laysBy
set_option maxRecDepth 20000 in
theorem gX7_shaded_X7_laysBy : GoodIn wsX7_shaded (wsV RX7 175 RX7 yX7_laysBy wsX7_laysBy) := goodIn_app (goodIn_pc bs_wsX7_shaded bse_wsX7_shaded _ [(1, [11, 12, 13, 6])] rfl (by decide +kernel)) ggX7_shaded_X7_laysBy
set_option maxRecDepth 20000 in
theorem ggX7_shaded_X7_hauls : GoodIn wsX7_shaded wsX7_hauls := goodIn_pc bs_wsX7_shaded bse_wsX7_shaded _ [(1, [19, 2, 20, 21, 22, 6, 23]), (2, [0, 1, 2, 3, 4, 5, 6, 7, 8, 9, 10, 11, 12, 13, 14, 15, 16, 17, 18, 19, 20, 21, 22]), (1, [8, 9, 10]), (2, [23]), (3, [0, 1, 2, 3, 4, 5, 6, 7, 8, 9, 10, 11, 12, 13, 14, 15, 16, 17, 18, 19, 20, 21, 22, 23]), (4, [0, 1, 2, 3, 4, 5, 6]), (5, [0, 1, 2, 3, 4, 5, 6, 7, 8, 9, 10, 11, 12, 13, 14, 15, 16, 17, 18, 19, 20, 21, 22, 23, 24, 25, 26, 27, 28, 29, 30])] rfl gw_wsX7_hauls
set_option maxRecDepth 20000 in
theorem gX7_shaded_X7_hauls : GoodIn wsX7_shaded (wsV RX7 163 RX7 yX7_hauls wsX7_hauls) := goodIn_app (goodIn_pc bs_wsX7_shaded bse_wsX7_shaded _ [(1, [16, 17, 18, 6])] rfl (by decide +kernel)) ggX7_shaded_X7_hauls
set_option maxRecDepth 20000 in
theorem ggX7_shaded_X7_holds : GoodIn wsX7_shaded wsX7_holds := goodIn_pc bs_wsX7_shaded bse_wsX7_shaded _ [(2, [3]), (1, [2]), (2, [4, 5]), (1, [6]), (2, [6]), (5, [0, 1, 2, 3, 4, 5, 6, 7, 8, 9, 10, 11, 12, 13, 14, 15, 16, 17, 18, 19, 20, 21, 22, 23, 24, 25, 26, 27, 28, 29, 30])] rfl gw_wsX7_holds
set_option maxRecDepth 20000 in
theorem gX7_shaded_X7_holds : GoodIn wsX7_shaded (wsV RX7 149 RX7 yX7_holds wsX7_holds) := goodIn_app (goodIn_pc bs_wsX7_shaded bse_wsX7_shaded _ [(2, [0, 1, 2]), (1, [6])] rfl (by decide +kernel)) ggX7_shaded_X7_holds
set_option maxRecDepth 20000 in
theorem ggX7_shaded_X7_isShaded : GoodIn wsX7_shaded wsX7_isShaded := goodIn_pc bs_wsX7_shaded bse_wsX7_shaded _ [(2, [14]), (1, [2]), (2, [15, 16, 17]), (1, [6]), (2, [18, 19, 20, 21, 22]), (1, [8, 9, 10]), (5, [0, 1, 2, 3, 4, 5, 6, 7, 8, 9, 10, 11, 12, 13, 14, 15, 16, 17, 18, 19, 20, 21, 22, 23, 24, 25, 26, 27, 28, 29, 30])] rfl gw_wsX7_isShaded
set_option maxRecDepth 20000 in
theorem gX7_shaded_X7_isShaded : GoodIn wsX7_shaded (wsV RX7 109 RX7 yX7_isShaded wsX7_isShaded) := goodIn_app (goodIn_pc bs_wsX7_shaded bse_wsX7_shaded _ [(2, [11, 12, 13]), (1, [6])] rfl (by decide +kernel)) ggX7_shaded_X7_isShaded
set_option maxRecDepth 20000 in
theorem ggX7_shaded_X7_goesOnBy : GoodIn wsX7_shaded wsX7_goesOnBy := goodIn_pc bs_wsX7_shaded bse_wsX7_shaded _ [(4, [10]), (1, [2]), (2, [0, 1, 2]), (1, [6]), (2, [3, 4, 5, 6, 23]), (3, [0, 1, 2]), (2, [11, 12, 13, 14, 15, 16, 17, 18, 19, 20, 21, 22]), (1, [8, 9, 10]), (3, [3, 4, 5, 6, 7, 8, 9, 10, 11, 12, 13, 14, 15, 16, 17, 18, 19, 20, 21, 22, 23]), (4, [0, 1, 2, 3, 4, 5, 6, 11, 12, 13, 14, 15, 16, 17, 18, 19]), (5, [0, 1, 2, 3, 4, 5, 6, 7, 8, 9, 10, 11, 12, 13, 14, 15, 16, 17, 18, 19, 20, 21, 22, 23, 24, 25, 26, 27, 28, 29, 30])] rfl gw_wsX7_goesOnBy
set_option maxRecDepth 20000 in
theorem gX7_shaded_X7_goesOnBy : GoodIn wsX7_shaded (wsV RX7 166 RX7 yX7_goesOnBy wsX7_goesOnBy) := goodIn_app (goodIn_pc bs_wsX7_shaded bse_wsX7_shaded _ [(4, [7, 8, 9]), (1, [6])] rfl (by decide +kernel)) ggX7_shaded_X7_goesOnBy
set_option maxRecDepth 20000 in
theorem ggX7_shaded_X7_laysBack : GoodIn wsX7_shaded wsX7_laysBack := goodIn_pc bs_wsX7_shaded bse_wsX7_shaded _ [(4, [23]), (1, [2, 15]), (5, [0, 1, 2, 3, 4, 5, 6, 7, 8, 9, 10, 11, 12, 13, 14, 15, 16, 17, 18, 19, 20, 21, 22, 23, 24, 25, 26, 27, 28, 29, 30])] rfl gw_wsX7_laysBack
set_option maxRecDepth 20000 in
theorem gX7_shaded_X7_laysBack : GoodIn wsX7_shaded (wsV RX7 181 RX7 yX7_laysBack wsX7_laysBack) := goodIn_app (goodIn_pc bs_wsX7_shaded bse_wsX7_shaded _ [(4, [20, 21, 22]), (1, [6])] rfl (by decide +kernel)) ggX7_shaded_X7_laysBack
theorem dX7_shaded_0 : decode cX7_shaded 0 = .ok (.aload_n 0, 1) := zk42 (by decide +kernel)
theorem dX7_shaded_1 : decode cX7_shaded 1 = .ok (.iload_n 1, 1) := zk27 (by decide +kernel)
theorem dX7_shaded_2 : decode cX7_shaded 2 = .ok (.invokevirtual 116, 3) := zk182 0 116 (by decide +kernel)
theorem dX7_shaded_5 : decode cX7_shaded 5 = .ok (.ifCond .eq 15, 3) := zk153 0 15 rfl (by decide +kernel)
theorem dX7_shaded_8 : decode cX7_shaded 8 = .ok (.iload_n 2, 1) := zk28 (by decide +kernel)
theorem dX7_shaded_9 : decode cX7_shaded 9 = .ok (.i2l, 1) := zk133 (by decide +kernel)
theorem dX7_shaded_10 : decode cX7_shaded 10 = .ok (.lconst 1, 1) := zk10 (by decide +kernel)
theorem dX7_shaded_11 : decode cX7_shaded 11 = .ok (.ldc2_w 186, 3) := zk20 0 186 (by decide +kernel)
theorem dX7_shaded_14 : decode cX7_shaded 14 = .ok (.invokestatic 65, 3) := zk184 0 65 (by decide +kernel)
theorem dX7_shaded_17 : decode cX7_shaded 17 = .ok (.ifCond .ne 6, 3) := zk154 0 6 rfl (by decide +kernel)
theorem dX7_shaded_20 : decode cX7_shaded 20 = .ok (.ldc 80, 2) := zk18 80 (by decide +kernel)
theorem dX7_shaded_22 : decode cX7_shaded 22 = .ok (.ireturn, 1) := zk172 (by decide +kernel)
theorem dX7_shaded_23 : decode cX7_shaded 23 = .ok (.aload_n 0, 1) := zk42 (by decide +kernel)
theorem dX7_shaded_24 : decode cX7_shaded 24 = .ok (.invokevirtual 175, 3) := zk182 0 175 (by decide +kernel)
theorem dX7_shaded_27 : decode cX7_shaded 27 = .ok (.iconst 0, 1) := zk3 (by decide +kernel)
theorem dX7_shaded_28 : decode cX7_shaded 28 = .ok (.istore_n 3, 1) := zk62 (by decide +kernel)
theorem dX7_shaded_29 : decode cX7_shaded 29 = .ok (.iconst 0, 1) := zk3 (by decide +kernel)
theorem dX7_shaded_30 : decode cX7_shaded 30 = .ok (.istore 4, 2) := zk54 4 (by decide +kernel)
theorem dX7_shaded_32 : decode cX7_shaded 32 = .ok (.iload 4, 2) := zk21 4 (by decide +kernel)
theorem dX7_shaded_34 : decode cX7_shaded 34 = .ok (.iload_n 2, 1) := zk28 (by decide +kernel)
theorem dX7_shaded_35 : decode cX7_shaded 35 = .ok (.if_icmp .ge 71, 3) := zk162 0 71 rfl (by decide +kernel)
theorem dX7_shaded_38 : decode cX7_shaded 38 = .ok (.aload_n 0, 1) := zk42 (by decide +kernel)
theorem dX7_shaded_39 : decode cX7_shaded 39 = .ok (.getfield 7, 3) := zk180 0 7 (by decide +kernel)
theorem dX7_shaded_42 : decode cX7_shaded 42 = .ok (.bipush 7, 2) := zk16 7 rfl (by decide +kernel)
theorem dX7_shaded_44 : decode cX7_shaded 44 = .ok (.iaload, 1) := zk46 (by decide +kernel)
theorem dX7_shaded_45 : decode cX7_shaded 45 = .ok (.istore 5, 2) := zk54 5 (by decide +kernel)
theorem dX7_shaded_47 : decode cX7_shaded 47 = .ok (.aload_n 0, 1) := zk42 (by decide +kernel)
theorem dX7_shaded_48 : decode cX7_shaded 48 = .ok (.invokevirtual 163, 3) := zk182 0 163 (by decide +kernel)
theorem dX7_shaded_51 : decode cX7_shaded 51 = .ok (.istore 6, 2) := zk54 6 (by decide +kernel)
theorem dX7_shaded_53 : decode cX7_shaded 53 = .ok (.aload_n 0, 1) := zk42 (by decide +kernel)
theorem dX7_shaded_54 : decode cX7_shaded 54 = .ok (.getfield 7, 3) := zk180 0 7 (by decide +kernel)
theorem dX7_shaded_57 : decode cX7_shaded 57 = .ok (.bipush 7, 2) := zk16 7 rfl (by decide +kernel)
theorem dX7_shaded_59 : decode cX7_shaded 59 = .ok (.dup2, 1) := zk92 (by decide +kernel)
theorem dX7_shaded_60 : decode cX7_shaded 60 = .ok (.iaload, 1) := zk46 (by decide +kernel)
theorem dX7_shaded_61 : decode cX7_shaded 61 = .ok (.iload 6, 2) := zk21 6 (by decide +kernel)
theorem dX7_shaded_63 : decode cX7_shaded 63 = .ok (.iadd, 1) := zk96 (by decide +kernel)
theorem dX7_shaded_64 : decode cX7_shaded 64 = .ok (.iastore, 1) := zk79 (by decide +kernel)
theorem dX7_shaded_65 : decode cX7_shaded 65 = .ok (.aload_n 0, 1) := zk42 (by decide +kernel)
theorem dX7_shaded_66 : decode cX7_shaded 66 = .ok (.invokevirtual 149, 3) := zk182 0 149 (by decide +kernel)
theorem dX7_shaded_69 : decode cX7_shaded 69 = .ok (.iload_n 3, 1) := zk29 (by decide +kernel)
theorem dX7_shaded_70 : decode cX7_shaded 70 = .ok (.aload_n 0, 1) := zk42 (by decide +kernel)
theorem dX7_shaded_71 : decode cX7_shaded 71 = .ok (.iload_n 1, 1) := zk27 (by decide +kernel)
theorem dX7_shaded_72 : decode cX7_shaded 72 = .ok (.invokevirtual 109, 3) := zk182 0 109 (by decide +kernel)
theorem dX7_shaded_75 : decode cX7_shaded 75 = .ok (.ifCond .eq 7, 3) := zk153 0 7 rfl (by decide +kernel)
theorem dX7_shaded_78 : decode cX7_shaded 78 = .ok (.iconst 1, 1) := zk4 (by decide +kernel)
theorem dX7_shaded_79 : decode cX7_shaded 79 = .ok (.goto 4, 3) := zk167 0 4 rfl (by decide +kernel)
theorem dX7_shaded_82 : decode cX7_shaded 82 = .ok (.iconst 0, 1) := zk3 (by decide +kernel)
theorem dX7_shaded_83 : decode cX7_shaded 83 = .ok (.iadd, 1) := zk96 (by decide +kernel)
theorem dX7_shaded_84 : decode cX7_shaded 84 = .ok (.istore_n 3, 1) := zk62 (by decide +kernel)
theorem dX7_shaded_85 : decode cX7_shaded 85 = .ok (.aload_n 0, 1) := zk42 (by decide +kernel)
theorem dX7_shaded_86 : decode cX7_shaded 86 = .ok (.getfield 7, 3) := zk180 0 7 (by decide +kernel)
theorem dX7_shaded_89 : decode cX7_shaded 89 = .ok (.bipush 7, 2) := zk16 7 rfl (by decide +kernel)
theorem dX7_shaded_91 : decode cX7_shaded 91 = .ok (.iload 5, 2) := zk21 5 (by decide +kernel)
theorem dX7_shaded_93 : decode cX7_shaded 93 = .ok (.iastore, 1) := zk79 (by decide +kernel)
theorem dX7_shaded_94 : decode cX7_shaded 94 = .ok (.aload_n 0, 1) := zk42 (by decide +kernel)
theorem dX7_shaded_95 : decode cX7_shaded 95 = .ok (.iload 6, 2) := zk21 6 (by decide +kernel)
theorem dX7_shaded_97 : decode cX7_shaded 97 = .ok (.invokevirtual 166, 3) := zk182 0 166 (by decide +kernel)
theorem dX7_shaded_100 : decode cX7_shaded 100 = .ok (.iinc 4 1, 3) := by decide +kernel
theorem dX7_shaded_103 : decode cX7_shaded 103 = .ok (.goto (-71), 3) := zk167 255 185 rfl (by decide +kernel)
theorem dX7_shaded_106 : decode cX7_shaded 106 = .ok (.aload_n 0, 1) := zk42 (by decide +kernel)
theorem dX7_shaded_107 : decode cX7_shaded 107 = .ok (.invokevirtual 181, 3) := zk182 0 181 (by decide +kernel)
theorem dX7_shaded_110 : decode cX7_shaded 110 = .ok (.iload_n 3, 1) := zk29 (by decide +kernel)
theorem dX7_shaded_111 : decode cX7_shaded 111 = .ok (.ireturn, 1) := zk172 (by decide +kernel)
set_option maxRecDepth 20000 in
theorem ggX7_trim_X7_isIn : GoodIn wsX7_trim wsX7_isIn := goodIn_r _ [6] rfl gw_wsX7_isIn
set_option maxRecDepth 20000 in
theorem gX7_trim_X7_isIn : GoodIn wsX7_trim (va_wsS RX7 65 yX7_isIn wsX7_isIn) := goodIn_app (goodIn_r _ [3, 4, 5] rfl (by decide +kernel)) ggX7_trim_X7_isIn
theorem dX7_trim_0 : decode cX7_trim 0 = .ok (.iload_n 1, 1) := zk27 (by decide +kernel)
theorem dX7_trim_1 : decode cX7_trim 1 = .ok (.i2l, 1) := zk133 (by decide +kernel)
theorem dX7_trim_2 : decode cX7_trim 2 = .ok (.lconst 0, 1) := zk9 (by decide +kernel)
theorem dX7_trim_3 : decode cX7_trim 3 = .ok (.aload_n 0, 1) := zk42 (by decide +kernel)
theorem dX7_trim_4 : decode cX7_trim 4 = .ok (.getfield 188, 3) := zk180 0 188 (by decide +kernel)
theorem dX7_trim_7 : decode cX7_trim 7 = .ok (.i2l, 1) := zk133 (by decide +kernel)
theorem dX7_trim_8 : decode cX7_trim 8 = .ok (.invokestatic 65, 3) := zk184 0 65 (by decide +kernel)
theorem dX7_trim_11 : decode cX7_trim 11 = .ok (.ifCond .ne 6, 3) := zk154 0 6 rfl (by decide +kernel)
theorem dX7_trim_14 : decode cX7_trim 14 = .ok (.ldc 80, 2) := zk18 80 (by decide +kernel)
theorem dX7_trim_16 : decode cX7_trim 16 = .ok (.ireturn, 1) := zk172 (by decide +kernel)
theorem dX7_trim_17 : decode cX7_trim 17 = .ok (.aload_n 0, 1) := zk42 (by decide +kernel)
theorem dX7_trim_18 : decode cX7_trim 18 = .ok (.iload_n 1, 1) := zk27 (by decide +kernel)
theorem dX7_trim_19 : decode cX7_trim 19 = .ok (.putfield 188, 3) := zk181 0 188 (by decide +kernel)
theorem dX7_trim_22 : decode cX7_trim 22 = .ok (.iload_n 1, 1) := zk27 (by decide +kernel)
theorem dX7_trim_23 : decode cX7_trim 23 = .ok (.ireturn, 1) := zk172 (by decide +kernel)
def bs_wsX7_parse : List (List Cond) := [[.code yX7_parse cX7_parse 3 (some .int)], wsX7_parse_r1, wsX7_parse_r2, wsX7_parse_r3, wsX7_parse_r4, wsX70]
theorem bse_wsX7_parse : wsX7_parse = bs_wsX7_parse.flatten := by
  unfold wsX7_parse bs_wsX7_parse
  simp only [List.flatten_cons, List.flatten_nil, List.append_nil, List.append_assoc, List.cons_append, List.nil_append]
set_option maxRecDepth 20000 in
theorem ggX7_parse_X7_textAt : GoodIn wsX7_parse wsX7_textAt := goodIn_pc bs_wsX7_parse bse_wsX7_parse _ [(1, [13])] rfl gw_wsX7_textAt
set_option maxRecDepth 20000 in
theorem gX7_parse_X7_textAt : GoodIn wsX7_parse (wsV RX7 271 RX7 yX7_textAt wsX7_textAt) := goodIn_app (goodIn_pc bs_wsX7_parse bse_wsX7_parse _ [(1, [9, 10, 11, 12])] rfl (by decide +kernel)) ggX7_parse_X7_textAt
set_option maxRecDepth 20000 in
theorem ggX7_parse_X7_nextToken : GoodIn wsX7_parse wsX7_nextToken := goodIn_pc bs_wsX7_parse bse_wsX7_parse _ [(1, [17, 0, 1, 8, 18, 19, 20, 21, 22, 23]), (2, [0]), (1, [12]), (2, [1, 2, 3, 4, 5, 6, 7, 8, 9, 10, 11, 12]), (5, [0, 1, 2, 3, 4, 5, 6, 7, 8, 9, 10, 11, 12, 13, 14, 15, 16, 17, 18, 19, 20, 21, 22, 23, 24, 25, 26, 27, 28, 29, 30])] rfl gw_wsX7_nextToken
set_option maxRecDepth 20000 in
theorem gX7_parse_X7_nextToken : GoodIn wsX7_parse (wsV RX7 237 RX7 yX7_nextToken wsX7_nextToken) := goodIn_app (goodIn_pc bs_wsX7_parse bse_wsX7_parse _ [(1, [14, 15, 16, 12])] rfl (by decide +kernel)) ggX7_parse_X7_nextToken
set_option maxRecDepth 20000 in
theorem gw_wsX7_key : wsX7_key.all goodWord = true := by decide +kernel
set_option maxRecDepth 20000 in
theorem ggX7_parse_X7_key : GoodIn wsX7_parse wsX7_key := goodIn_pc bs_wsX7_parse bse_wsX7_parse _ [(2, [16, 17, 18, 19]), (1, [12]), (2, [20]), (1, [1, 0, 19, 18]), (5, [0, 1, 2, 3, 4, 5, 6, 7, 8, 9, 10, 11, 12, 13, 14, 15, 16, 17, 18, 19, 20, 21, 22, 23, 24, 25, 26, 27, 28, 29, 30])] rfl gw_wsX7_key
set_option maxRecDepth 20000 in
theorem gX7_parse_X7_key : GoodIn wsX7_parse (wsV RX7 274 RX7 yX7_key wsX7_key) := goodIn_app (goodIn_pc bs_wsX7_parse bse_wsX7_parse _ [(2, [13, 14, 15]), (1, [12])] rfl (by decide +kernel)) ggX7_parse_X7_key
set_option maxRecDepth 20000 in
theorem ggX7_parse_X7_either : GoodIn wsX7_parse wsX7_either := goodIn_pc bs_wsX7_parse bse_wsX7_parse _ [(3, [0, 1, 2, 3]), (1, [12]), (3, [4, 5, 6, 7]), (1, [1, 20, 14, 15, 16, 17, 0, 8, 18, 19, 21, 22, 23]), (2, [0, 1, 2, 3, 4, 5, 6, 7, 8, 9, 10, 11, 12]), (3, [8, 9, 10, 11]), (1, [6, 7, 4]), (3, [12, 13, 14, 15, 16]), (1, [5, 3, 2]), (3, [17, 18, 19, 20, 21, 22]), (2, [21, 22, 23]), (3, [23]), (4, [0, 1, 2, 3, 4, 5, 6, 7]), (5, [0, 1, 2, 3, 4, 5, 6, 7, 8, 9, 10, 11, 12, 13, 14, 15, 16, 17, 18, 19, 20, 21, 22, 23, 24, 25, 26, 27, 28, 29, 30])] rfl gw_wsX7_either
set_option maxRecDepth 20000 in
theorem gX7_parse_X7_either : GoodIn wsX7_parse (wsV RX7 268 RX7 yX7_either wsX7_either) := goodIn_app (goodIn_pc bs_wsX7_parse bse_wsX7_parse _ [(2, [21, 22, 23]), (1, [12])] rfl (by decide +kernel)) ggX7_parse_X7_either
theorem dX7_parse_0 : decode cX7_parse 0 = .ok (.aload_n 0, 1) := zk42 (by decide +kernel)
theorem dX7_parse_1 : decode cX7_parse 1 = .ok (.iconst 0, 1) := zk3 (by decide +kernel)
theorem dX7_parse_2 : decode cX7_parse 2 = .ok (.putfield 200, 3) := zk181 0 200 (by decide +kernel)
theorem dX7_parse_5 : decode cX7_parse 5 = .ok (.aload_n 0, 1) := zk42 (by decide +kernel)
theorem dX7_parse_6 : decode cX7_parse 6 = .ok (.iconst 3, 1) := zk6 (by decide +kernel)
theorem dX7_parse_7 : decode cX7_parse 7 = .ok (.putfield 203, 3) := zk181 0 203 (by decide +kernel)
theorem dX7_parse_10 : decode cX7_parse 10 = .ok (.aload_n 0, 1) := zk42 (by decide +kernel)
theorem dX7_parse_11 : decode cX7_parse 11 = .ok (.iconst 0, 1) := zk3 (by decide +kernel)
theorem dX7_parse_12 : decode cX7_parse 12 = .ok (.putfield 265, 3) := zk181 1 9 (by decide +kernel)
theorem dX7_parse_15 : decode cX7_parse 15 = .ok (.aload_n 0, 1) := zk42 (by decide +kernel)
theorem dX7_parse_16 : decode cX7_parse 16 = .ok (.iconst 0, 1) := zk3 (by decide +kernel)
theorem dX7_parse_17 : decode cX7_parse 17 = .ok (.putfield 262, 3) := zk181 1 6 (by decide +kernel)
theorem dX7_parse_20 : decode cX7_parse 20 = .ok (.aload_n 0, 1) := zk42 (by decide +kernel)
theorem dX7_parse_21 : decode cX7_parse 21 = .ok (.iconst 0, 1) := zk3 (by decide +kernel)
theorem dX7_parse_22 : decode cX7_parse 22 = .ok (.putfield 228, 3) := zk181 0 228 (by decide +kernel)
theorem dX7_parse_25 : decode cX7_parse 25 = .ok (.aload_n 0, 1) := zk42 (by decide +kernel)
theorem dX7_parse_26 : decode cX7_parse 26 = .ok (.iconst 0, 1) := zk3 (by decide +kernel)
theorem dX7_parse_27 : decode cX7_parse 27 = .ok (.putfield 256, 3) := zk181 1 0 (by decide +kernel)
theorem dX7_parse_30 : decode cX7_parse 30 = .ok (.aload_n 0, 1) := zk42 (by decide +kernel)
theorem dX7_parse_31 : decode cX7_parse 31 = .ok (.aload_n 0, 1) := zk42 (by decide +kernel)
theorem dX7_parse_32 : decode cX7_parse 32 = .ok (.getfield 7, 3) := zk180 0 7 (by decide +kernel)
theorem dX7_parse_35 : decode cX7_parse 35 = .ok (.iconst 1, 1) := zk4 (by decide +kernel)
theorem dX7_parse_36 : decode cX7_parse 36 = .ok (.iaload, 1) := zk46 (by decide +kernel)
theorem dX7_parse_37 : decode cX7_parse 37 = .ok (.bipush 14, 2) := zk16 14 rfl (by decide +kernel)
theorem dX7_parse_39 : decode cX7_parse 39 = .ok (.if_icmp .ge 18, 3) := zk162 0 18 rfl (by decide +kernel)
theorem dX7_parse_42 : decode cX7_parse 42 = .ok (.aload_n 0, 1) := zk42 (by decide +kernel)
theorem dX7_parse_43 : decode cX7_parse 43 = .ok (.aload_n 0, 1) := zk42 (by decide +kernel)
theorem dX7_parse_44 : decode cX7_parse 44 = .ok (.getfield 7, 3) := zk180 0 7 (by decide +kernel)
theorem dX7_parse_47 : decode cX7_parse 47 = .ok (.iconst 1, 1) := zk4 (by decide +kernel)
theorem dX7_parse_48 : decode cX7_parse 48 = .ok (.iaload, 1) := zk46 (by decide +kernel)
theorem dX7_parse_49 : decode cX7_parse 49 = .ok (.invokevirtual 271, 3) := zk182 1 15 (by decide +kernel)
theorem dX7_parse_52 : decode cX7_parse 52 = .ok (.iconst 4, 1) := zk7 (by decide +kernel)
theorem dX7_parse_53 : decode cX7_parse 53 = .ok (.iadd, 1) := zk96 (by decide +kernel)
theorem dX7_parse_54 : decode cX7_parse 54 = .ok (.goto 6, 3) := zk167 0 6 rfl (by decide +kernel)
theorem dX7_parse_57 : decode cX7_parse 57 = .ok (.sipush 2847, 3) := zk17 11 31 rfl (by decide +kernel)
theorem dX7_parse_60 : decode cX7_parse 60 = .ok (.putfield 225, 3) := zk181 0 225 (by decide +kernel)
theorem dX7_parse_63 : decode cX7_parse 63 = .ok (.aload_n 0, 1) := zk42 (by decide +kernel)
theorem dX7_parse_64 : decode cX7_parse 64 = .ok (.invokevirtual 237, 3) := zk182 0 237 (by decide +kernel)
theorem dX7_parse_67 : decode cX7_parse 67 = .ok (.aload_n 0, 1) := zk42 (by decide +kernel)
theorem dX7_parse_68 : decode cX7_parse 68 = .ok (.invokevirtual 274, 3) := zk182 1 18 (by decide +kernel)
theorem dX7_parse_71 : decode cX7_parse 71 = .ok (.istore_n 1, 1) := zk60 (by decide +kernel)
theorem dX7_parse_72 : decode cX7_parse 72 = .ok (.iload_n 1, 1) := zk27 (by decide +kernel)
theorem dX7_parse_73 : decode cX7_parse 73 = .ok (.ifCond .lt 7, 3) := zk155 0 7 rfl (by decide +kernel)
theorem dX7_parse_76 : decode cX7_parse 76 = .ok (.iconst 1, 1) := zk4 (by decide +kernel)
theorem dX7_parse_77 : decode cX7_parse 77 = .ok (.goto 4, 3) := zk167 0 4 rfl (by decide +kernel)
theorem dX7_parse_80 : decode cX7_parse 80 = .ok (.iconst 0, 1) := zk3 (by decide +kernel)
theorem dX7_parse_81 : decode cX7_parse 81 = .ok (.istore_n 2, 1) := zk61 (by decide +kernel)
theorem dX7_parse_82 : decode cX7_parse 82 = .ok (.iload_n 2, 1) := zk28 (by decide +kernel)
theorem dX7_parse_83 : decode cX7_parse 83 = .ok (.ifCond .eq 28, 3) := zk153 0 28 rfl (by decide +kernel)
theorem dX7_parse_86 : decode cX7_parse 86 = .ok (.aload_n 0, 1) := zk42 (by decide +kernel)
theorem dX7_parse_87 : decode cX7_parse 87 = .ok (.invokevirtual 237, 3) := zk182 0 237 (by decide +kernel)
theorem dX7_parse_90 : decode cX7_parse 90 = .ok (.aload_n 0, 1) := zk42 (by decide +kernel)
theorem dX7_parse_91 : decode cX7_parse 91 = .ok (.iload_n 1, 1) := zk27 (by decide +kernel)
theorem dX7_parse_92 : decode cX7_parse 92 = .ok (.invokevirtual 268, 3) := zk182 1 12 (by decide +kernel)
theorem dX7_parse_95 : decode cX7_parse 95 = .ok (.ifCond .eq 14, 3) := zk153 0 14 rfl (by decide +kernel)
theorem dX7_parse_98 : decode cX7_parse 98 = .ok (.aload_n 0, 1) := zk42 (by decide +kernel)
theorem dX7_parse_99 : decode cX7_parse 99 = .ok (.getfield 203, 3) := zk180 0 203 (by decide +kernel)
theorem dX7_parse_102 : decode cX7_parse 102 = .ok (.ifCond .ne 7, 3) := zk154 0 7 rfl (by decide +kernel)
theorem dX7_parse_105 : decode cX7_parse 105 = .ok (.iconst 1, 1) := zk4 (by decide +kernel)
theorem dX7_parse_106 : decode cX7_parse 106 = .ok (.goto 4, 3) := zk167 0 4 rfl (by decide +kernel)
theorem dX7_parse_109 : decode cX7_parse 109 = .ok (.iconst 0, 1) := zk3 (by decide +kernel)
theorem dX7_parse_110 : decode cX7_parse 110 = .ok (.istore_n 2, 1) := zk61 (by decide +kernel)
theorem dX7_parse_111 : decode cX7_parse 111 = .ok (.aload_n 0, 1) := zk42 (by decide +kernel)
theorem dX7_parse_112 : decode cX7_parse 112 = .ok (.iconst 0, 1) := zk3 (by decide +kernel)
theorem dX7_parse_113 : decode cX7_parse 113 = .ok (.putfield 188, 3) := zk181 0 188 (by decide +kernel)
theorem dX7_parse_116 : decode cX7_parse 116 = .ok (.iload_n 2, 1) := zk28 (by decide +kernel)
theorem dX7_parse_117 : decode cX7_parse 117 = .ok (.ifCond .eq 7, 3) := zk153 0 7 rfl (by decide +kernel)
theorem dX7_parse_120 : decode cX7_parse 120 = .ok (.iload_n 1, 1) := zk27 (by decide +kernel)
theorem dX7_parse_121 : decode cX7_parse 121 = .ok (.goto 4, 3) := zk167 0 4 rfl (by decide +kernel)
theorem dX7_parse_124 : decode cX7_parse 124 = .ok (.iconst (-1), 1) := zk2 (by decide +kernel)
theorem dX7_parse_125 : decode cX7_parse 125 = .ok (.ireturn, 1) := zk172 (by decide +kernel)
set_option maxRecDepth 20000 in
theorem gw_wsX7_parse : wsX7_parse.all goodWord = true := by decide +kernel
def bs_wsX7_text : List (List Cond) := [[.code yX7_text cX7_text 3 (some .int)], wsX7_text_r1, wsX7_text_r2, wsX7_text_r3, wsX7_text_r4, wsX70]
theorem bse_wsX7_text : wsX7_text = bs_wsX7_text.flatten := by
  unfold wsX7_text bs_wsX7_text
  simp only [List.flatten_cons, List.flatten_nil, List.append_nil, List.append_assoc, List.cons_append, List.nil_append]
set_option maxRecDepth 20000 in
theorem ggX7_text_X7_parse : GoodIn wsX7_text wsX7_parse := goodIn_pc bs_wsX7_text bse_wsX7_text _ [(1, [9, 10, 11, 12, 13, 4, 3, 1, 14, 15, 16, 17, 18, 8, 19, 20, 21, 22, 23]), (2, [0]), (1, [0]), (2, [1, 2, 3, 4, 5, 6, 7, 8, 9, 10, 11, 12, 13, 14, 15, 16, 17, 18, 19, 20, 21, 22, 23]), (3, [0, 1, 2, 3, 4, 5, 6, 7, 8, 9, 10, 11, 12, 13, 14, 15, 16, 17, 18, 19, 20, 21, 22, 23]), (4, [0, 1, 2, 3, 4, 5, 6, 7, 8, 9, 10, 11, 12]), (5, [0, 1, 2, 3, 4, 5, 6, 7, 8, 9, 10, 11, 12, 13, 14, 15, 16, 17, 18, 19, 20, 21, 22, 23, 24, 25, 26, 27, 28, 29, 30])] rfl gw_wsX7_parse
set_option maxRecDepth 20000 in
theorem gX7_text_X7_parse : GoodIn wsX7_text (wsV RX7 277 RX7 yX7_parse wsX7_parse) := goodIn_app (goodIn_pc bs_wsX7_text bse_wsX7_text _ [(1, [5, 6, 7, 8])] rfl (by decide +kernel)) ggX7_text_X7_parse
set_option maxRecDepth 20000 in
theorem ggX7_text_X7_textAt : GoodIn wsX7_text wsX7_textAt := goodIn_pc bs_wsX7_text bse_wsX7_text _ [(1, [19])] rfl gw_wsX7_textAt
set_option maxRecDepth 20000 in
theorem gX7_text_X7_textAt : GoodIn wsX7_text (wsV RX7 271 RX7 yX7_textAt wsX7_textAt) := goodIn_app (goodIn_pc bs_wsX7_text bse_wsX7_text _ [(1, [16, 17, 18, 8])] rfl (by decide +kernel)) ggX7_text_X7_textAt
theorem dX7_text_0 : decode cX7_text 0 = .ok (.aload_n 0, 1) := zk42 (by decide +kernel)
theorem dX7_text_1 : decode cX7_text 1 = .ok (.invokevirtual 277, 3) := zk182 1 21 (by decide +kernel)
theorem dX7_text_4 : decode cX7_text 4 = .ok (.istore_n 1, 1) := zk60 (by decide +kernel)
theorem dX7_text_5 : decode cX7_text 5 = .ok (.iload_n 1, 1) := zk27 (by decide +kernel)
theorem dX7_text_6 : decode cX7_text 6 = .ok (.ifCond .ge 11, 3) := zk156 0 11 rfl (by decide +kernel)
theorem dX7_text_9 : decode cX7_text 9 = .ok (.bipush (-100), 2) := zk16 156 rfl (by decide +kernel)
theorem dX7_text_11 : decode cX7_text 11 = .ok (.aload_n 0, 1) := zk42 (by decide +kernel)
theorem dX7_text_12 : decode cX7_text 12 = .ok (.getfield 206, 3) := zk180 0 206 (by decide +kernel)
theorem dX7_text_15 : decode cX7_text 15 = .ok (.isub, 1) := zk100 (by decide +kernel)
theorem dX7_text_16 : decode cX7_text 16 = .ok (.ireturn, 1) := zk172 (by decide +kernel)
theorem dX7_text_17 : decode cX7_text 17 = .ok (.aload_n 0, 1) := zk42 (by decide +kernel)
theorem dX7_text_18 : decode cX7_text 18 = .ok (.getfield 7, 3) := zk180 0 7 (by decide +kernel)
theorem dX7_text_21 : decode cX7_text 21 = .ok (.iconst 1, 1) := zk4 (by decide +kernel)
theorem dX7_text_22 : decode cX7_text 22 = .ok (.iaload, 1) := zk46 (by decide +kernel)
theorem dX7_text_23 : decode cX7_text 23 = .ok (.bipush 14, 2) := zk16 14 rfl (by decide +kernel)
theorem dX7_text_25 : decode cX7_text 25 = .ok (.if_icmp .ne 6, 3) := zk160 0 6 rfl (by decide +kernel)
theorem dX7_text_28 : decode cX7_text 28 = .ok (.ldc 81, 2) := zk18 81 (by decide +kernel)
theorem dX7_text_30 : decode cX7_text 30 = .ok (.ireturn, 1) := zk172 (by decide +kernel)
theorem dX7_text_31 : decode cX7_text 31 = .ok (.aload_n 0, 1) := zk42 (by decide +kernel)
theorem dX7_text_32 : decode cX7_text 32 = .ok (.aload_n 0, 1) := zk42 (by decide +kernel)
theorem dX7_text_33 : decode cX7_text 33 = .ok (.getfield 7, 3) := zk180 0 7 (by decide +kernel)
theorem dX7_text_36 : decode cX7_text 36 = .ok (.iconst 1, 1) := zk4 (by decide +kernel)
theorem dX7_text_37 : decode cX7_text 37 = .ok (.iaload, 1) := zk46 (by decide +kernel)
theorem dX7_text_38 : decode cX7_text 38 = .ok (.invokevirtual 271, 3) := zk182 1 15 (by decide +kernel)
theorem dX7_text_41 : decode cX7_text 41 = .ok (.istore_n 2, 1) := zk61 (by decide +kernel)
theorem dX7_text_42 : decode cX7_text 42 = .ok (.aload_n 0, 1) := zk42 (by decide +kernel)
theorem dX7_text_43 : decode cX7_text 43 = .ok (.getfield 7, 3) := zk180 0 7 (by decide +kernel)
theorem dX7_text_46 : decode cX7_text 46 = .ok (.iload_n 2, 1) := zk28 (by decide +kernel)
theorem dX7_text_47 : decode cX7_text 47 = .ok (.iconst 0, 1) := zk3 (by decide +kernel)
theorem dX7_text_48 : decode cX7_text 48 = .ok (.iadd, 1) := zk96 (by decide +kernel)
theorem dX7_text_49 : decode cX7_text 49 = .ok (.iload_n 1, 1) := zk27 (by decide +kernel)
theorem dX7_text_50 : decode cX7_text 50 = .ok (.iastore, 1) := zk79 (by decide +kernel)
theorem dX7_text_51 : decode cX7_text 51 = .ok (.aload_n 0, 1) := zk42 (by decide +kernel)
theorem dX7_text_52 : decode cX7_text 52 = .ok (.getfield 7, 3) := zk180 0 7 (by decide +kernel)
theorem dX7_text_55 : decode cX7_text 55 = .ok (.iload_n 2, 1) := zk28 (by decide +kernel)
theorem dX7_text_56 : decode cX7_text 56 = .ok (.iconst 1, 1) := zk4 (by decide +kernel)
theorem dX7_text_57 : decode cX7_text 57 = .ok (.iadd, 1) := zk96 (by decide +kernel)
theorem dX7_text_58 : decode cX7_text 58 = .ok (.aload_n 0, 1) := zk42 (by decide +kernel)
theorem dX7_text_59 : decode cX7_text 59 = .ok (.getfield 256, 3) := zk180 1 0 (by decide +kernel)
theorem dX7_text_62 : decode cX7_text 62 = .ok (.iastore, 1) := zk79 (by decide +kernel)
theorem dX7_text_63 : decode cX7_text 63 = .ok (.aload_n 0, 1) := zk42 (by decide +kernel)
theorem dX7_text_64 : decode cX7_text 64 = .ok (.getfield 7, 3) := zk180 0 7 (by decide +kernel)
theorem dX7_text_67 : decode cX7_text 67 = .ok (.iload_n 2, 1) := zk28 (by decide +kernel)
theorem dX7_text_68 : decode cX7_text 68 = .ok (.iconst 2, 1) := zk5 (by decide +kernel)
theorem dX7_text_69 : decode cX7_text 69 = .ok (.iadd, 1) := zk96 (by decide +kernel)
theorem dX7_text_70 : decode cX7_text 70 = .ok (.aload_n 0, 1) := zk42 (by decide +kernel)
theorem dX7_text_71 : decode cX7_text 71 = .ok (.getfield 228, 3) := zk180 0 228 (by decide +kernel)
theorem dX7_text_74 : decode cX7_text 74 = .ok (.iastore, 1) := zk79 (by decide +kernel)
theorem dX7_text_75 : decode cX7_text 75 = .ok (.aload_n 0, 1) := zk42 (by decide +kernel)
theorem dX7_text_76 : decode cX7_text 76 = .ok (.getfield 7, 3) := zk180 0 7 (by decide +kernel)
theorem dX7_text_79 : decode cX7_text 79 = .ok (.iconst 1, 1) := zk4 (by decide +kernel)
theorem dX7_text_80 : decode cX7_text 80 = .ok (.dup2, 1) := zk92 (by decide +kernel)
theorem dX7_text_81 : decode cX7_text 81 = .ok (.iaload, 1) := zk46 (by decide +kernel)
theorem dX7_text_82 : decode cX7_text 82 = .ok (.iconst 1, 1) := zk4 (by decide +kernel)
theorem dX7_text_83 : decode cX7_text 83 = .ok (.iadd, 1) := zk96 (by decide +kernel)
theorem dX7_text_84 : decode cX7_text 84 = .ok (.iastore, 1) := zk79 (by decide +kernel)
theorem dX7_text_85 : decode cX7_text 85 = .ok (.aload_n 0, 1) := zk42 (by decide +kernel)
theorem dX7_text_86 : decode cX7_text 86 = .ok (.getfield 7, 3) := zk180 0 7 (by decide +kernel)
theorem dX7_text_89 : decode cX7_text 89 = .ok (.iconst 1, 1) := zk4 (by decide +kernel)
theorem dX7_text_90 : decode cX7_text 90 = .ok (.iaload, 1) := zk46 (by decide +kernel)
theorem dX7_text_91 : decode cX7_text 91 = .ok (.iconst 1, 1) := zk4 (by decide +kernel)
theorem dX7_text_92 : decode cX7_text 92 = .ok (.isub, 1) := zk100 (by decide +kernel)
theorem dX7_text_93 : decode cX7_text 93 = .ok (.ireturn, 1) := zk172 (by decide +kernel)
set_option maxRecDepth 20000 in
theorem gw_wsX7_isText : wsX7_isText.all goodWord = true := by decide +kernel
set_option maxRecDepth 20000 in
theorem ggX7_textTold_X7_isText : GoodIn wsX7_textTold wsX7_isText := goodIn_r _ [7, 2, 8, 9, 6, 10, 15, 16, 17, 18, 19, 20, 21, 22, 23, 24, 25, 26, 27, 28, 29, 30, 31, 32, 33, 34, 35, 36, 37, 38, 39, 40, 41, 42, 43, 44, 45] rfl gw_wsX7_isText
set_option maxRecDepth 20000 in
theorem gX7_textTold_X7_isText : GoodIn wsX7_textTold (wsV RX7 280 RX7 yX7_isText wsX7_isText) := goodIn_app (goodIn_r _ [3, 4, 5, 6] rfl (by decide +kernel)) ggX7_textTold_X7_isText
set_option maxRecDepth 20000 in
theorem ggX7_textTold_X7_isIn : GoodIn wsX7_textTold wsX7_isIn := goodIn_r _ [10] rfl gw_wsX7_isIn
set_option maxRecDepth 20000 in
theorem gX7_textTold_X7_isIn : GoodIn wsX7_textTold (va_wsS RX7 65 yX7_isIn wsX7_isIn) := goodIn_app (goodIn_r _ [8, 9, 6] rfl (by decide +kernel)) ggX7_textTold_X7_isIn
set_option maxRecDepth 20000 in
theorem ggX7_textTold_X7_textAt : GoodIn wsX7_textTold wsX7_textAt := goodIn_r _ [14] rfl gw_wsX7_textAt
set_option maxRecDepth 20000 in
theorem gX7_textTold_X7_textAt : GoodIn wsX7_textTold (wsV RX7 271 RX7 yX7_textAt wsX7_textAt) := goodIn_app (goodIn_r _ [11, 12, 13, 6] rfl (by decide +kernel)) ggX7_textTold_X7_textAt
theorem dX7_textTold_0 : decode cX7_textTold 0 = .ok (.aload_n 0, 1) := zk42 (by decide +kernel)
theorem dX7_textTold_1 : decode cX7_textTold 1 = .ok (.iload_n 1, 1) := zk27 (by decide +kernel)
theorem dX7_textTold_2 : decode cX7_textTold 2 = .ok (.invokevirtual 280, 3) := zk182 1 24 (by decide +kernel)
theorem dX7_textTold_5 : decode cX7_textTold 5 = .ok (.ifCond .eq 13, 3) := zk153 0 13 rfl (by decide +kernel)
theorem dX7_textTold_8 : decode cX7_textTold 8 = .ok (.iload_n 2, 1) := zk28 (by decide +kernel)
theorem dX7_textTold_9 : decode cX7_textTold 9 = .ok (.i2l, 1) := zk133 (by decide +kernel)
theorem dX7_textTold_10 : decode cX7_textTold 10 = .ok (.lconst 0, 1) := zk9 (by decide +kernel)
theorem dX7_textTold_11 : decode cX7_textTold 11 = .ok (.lconst 1, 1) := zk10 (by decide +kernel)
theorem dX7_textTold_12 : decode cX7_textTold 12 = .ok (.invokestatic 65, 3) := zk184 0 65 (by decide +kernel)
theorem dX7_textTold_15 : decode cX7_textTold 15 = .ok (.ifCond .ne 6, 3) := zk154 0 6 rfl (by decide +kernel)
theorem dX7_textTold_18 : decode cX7_textTold 18 = .ok (.ldc 80, 2) := zk18 80 (by decide +kernel)
theorem dX7_textTold_20 : decode cX7_textTold 20 = .ok (.ireturn, 1) := zk172 (by decide +kernel)
theorem dX7_textTold_21 : decode cX7_textTold 21 = .ok (.aload_n 0, 1) := zk42 (by decide +kernel)
theorem dX7_textTold_22 : decode cX7_textTold 22 = .ok (.getfield 7, 3) := zk180 0 7 (by decide +kernel)
theorem dX7_textTold_25 : decode cX7_textTold 25 = .ok (.aload_n 0, 1) := zk42 (by decide +kernel)
theorem dX7_textTold_26 : decode cX7_textTold 26 = .ok (.iload_n 1, 1) := zk27 (by decide +kernel)
theorem dX7_textTold_27 : decode cX7_textTold 27 = .ok (.invokevirtual 271, 3) := zk182 1 15 (by decide +kernel)
theorem dX7_textTold_30 : decode cX7_textTold 30 = .ok (.iload_n 2, 1) := zk28 (by decide +kernel)
theorem dX7_textTold_31 : decode cX7_textTold 31 = .ok (.iadd, 1) := zk96 (by decide +kernel)
theorem dX7_textTold_32 : decode cX7_textTold 32 = .ok (.iaload, 1) := zk46 (by decide +kernel)
theorem dX7_textTold_33 : decode cX7_textTold 33 = .ok (.ireturn, 1) := zk172 (by decide +kernel)
set_option maxRecDepth 20000 in
theorem ggX7_why_X7_isIn : GoodIn wsX7_why wsX7_isIn := goodIn_r _ [6] rfl gw_wsX7_isIn
set_option maxRecDepth 20000 in
theorem gX7_why_X7_isIn : GoodIn wsX7_why (va_wsS RX7 65 yX7_isIn wsX7_isIn) := goodIn_app (goodIn_r _ [3, 4, 5] rfl (by decide +kernel)) ggX7_why_X7_isIn
set_option maxRecDepth 20000 in
theorem ggX7_why_X7_counts : GoodIn wsX7_why wsX7_counts := goodIn_r _ [10, 11, 12, 13, 14, 5, 15, 20, 21, 22, 23, 24, 25, 26, 27, 28, 29, 30, 31, 32, 33, 34, 35, 36, 37, 38, 39, 40, 41, 42, 43, 44, 45, 46, 47, 48, 49, 50] rfl gw_wsX7_counts
set_option maxRecDepth 20000 in
theorem gX7_why_X7_counts : GoodIn wsX7_why (wsV RX7 96 RX7 yX7_counts wsX7_counts) := goodIn_app (goodIn_r _ [7, 8, 9, 5] rfl (by decide +kernel)) ggX7_why_X7_counts
set_option maxRecDepth 20000 in
theorem ggX7_why_X7_orNone : GoodIn wsX7_why wsX7_orNone := goodIn_r _ [18, 19] rfl gw_wsX7_orNone
set_option maxRecDepth 20000 in
theorem gX7_why_X7_orNone : GoodIn wsX7_why (va_wsS RX7 140 yX7_orNone wsX7_orNone) := goodIn_app (goodIn_r _ [16, 17, 5] rfl (by decide +kernel)) ggX7_why_X7_orNone
theorem dX7_why_0 : decode cX7_why 0 = .ok (.iload_n 1, 1) := zk27 (by decide +kernel)
theorem dX7_why_1 : decode cX7_why 1 = .ok (.i2l, 1) := zk133 (by decide +kernel)
theorem dX7_why_2 : decode cX7_why 2 = .ok (.lconst 0, 1) := zk9 (by decide +kernel)
theorem dX7_why_3 : decode cX7_why 3 = .ok (.ldc2_w 283, 3) := zk20 1 27 (by decide +kernel)
theorem dX7_why_6 : decode cX7_why 6 = .ok (.invokestatic 65, 3) := zk184 0 65 (by decide +kernel)
theorem dX7_why_9 : decode cX7_why 9 = .ok (.ifCond .eq 14, 3) := zk153 0 14 rfl (by decide +kernel)
theorem dX7_why_12 : decode cX7_why 12 = .ok (.aload_n 0, 1) := zk42 (by decide +kernel)
theorem dX7_why_13 : decode cX7_why 13 = .ok (.iload_n 1, 1) := zk27 (by decide +kernel)
theorem dX7_why_14 : decode cX7_why 14 = .ok (.invokevirtual 96, 3) := zk182 0 96 (by decide +kernel)
theorem dX7_why_17 : decode cX7_why 17 = .ok (.invokestatic 140, 3) := zk184 0 140 (by decide +kernel)
theorem dX7_why_20 : decode cX7_why 20 = .ok (.goto 5, 3) := zk167 0 5 rfl (by decide +kernel)
theorem dX7_why_23 : decode cX7_why 23 = .ok (.ldc 80, 2) := zk18 80 (by decide +kernel)
theorem dX7_why_25 : decode cX7_why 25 = .ok (.ireturn, 1) := zk172 (by decide +kernel)
set_option maxRecDepth 20000 in
theorem ggX7_sheet_X7_isSheet : GoodIn wsX7_sheet wsX7_isSheet := goodIn_r _ [10, 11, 12, 13, 9, 14] rfl gw_wsX7_isSheet
set_option maxRecDepth 20000 in
theorem gX7_sheet_X7_isSheet : GoodIn wsX7_sheet (va_wsS RX7 289 yX7_isSheet wsX7_isSheet) := goodIn_app (goodIn_r _ [7, 8, 9] rfl (by decide +kernel)) ggX7_sheet_X7_isSheet
set_option maxRecDepth 20000 in
theorem ggX7_sheet_X7_isIn : GoodIn wsX7_sheet wsX7_isIn := goodIn_r _ [14] rfl gw_wsX7_isIn
set_option maxRecDepth 20000 in
theorem gX7_sheet_X7_isIn : GoodIn wsX7_sheet (va_wsS RX7 65 yX7_isIn wsX7_isIn) := goodIn_app (goodIn_r _ [12, 13, 9] rfl (by decide +kernel)) ggX7_sheet_X7_isIn
theorem dX7_sheet_0 : decode cX7_sheet 0 = .ok (.iload_n 1, 1) := zk27 (by decide +kernel)
theorem dX7_sheet_1 : decode cX7_sheet 1 = .ok (.invokestatic 289, 3) := zk184 1 33 (by decide +kernel)
theorem dX7_sheet_4 : decode cX7_sheet 4 = .ok (.ifCond .eq 25, 3) := zk153 0 25 rfl (by decide +kernel)
theorem dX7_sheet_7 : decode cX7_sheet 7 = .ok (.iload_n 2, 1) := zk28 (by decide +kernel)
theorem dX7_sheet_8 : decode cX7_sheet 8 = .ok (.i2l, 1) := zk133 (by decide +kernel)
theorem dX7_sheet_9 : decode cX7_sheet 9 = .ok (.ldc2_w 292, 3) := zk20 1 36 (by decide +kernel)
theorem dX7_sheet_12 : decode cX7_sheet 12 = .ok (.lconst 1, 1) := zk10 (by decide +kernel)
theorem dX7_sheet_13 : decode cX7_sheet 13 = .ok (.invokestatic 65, 3) := zk184 0 65 (by decide +kernel)
theorem dX7_sheet_16 : decode cX7_sheet 16 = .ok (.ifCond .eq 13, 3) := zk153 0 13 rfl (by decide +kernel)
theorem dX7_sheet_19 : decode cX7_sheet 19 = .ok (.iload_n 2, 1) := zk28 (by decide +kernel)
theorem dX7_sheet_20 : decode cX7_sheet 20 = .ok (.ifCond .lt 12, 3) := zk155 0 12 rfl (by decide +kernel)
theorem dX7_sheet_23 : decode cX7_sheet 23 = .ok (.iload_n 3, 1) := zk29 (by decide +kernel)
theorem dX7_sheet_24 : decode cX7_sheet 24 = .ok (.bipush 24, 2) := zk16 24 rfl (by decide +kernel)
theorem dX7_sheet_26 : decode cX7_sheet 26 = .ok (.if_icmp .le 6, 3) := zk164 0 6 rfl (by decide +kernel)
theorem dX7_sheet_29 : decode cX7_sheet 29 = .ok (.ldc 80, 2) := zk18 80 (by decide +kernel)
theorem dX7_sheet_31 : decode cX7_sheet 31 = .ok (.ireturn, 1) := zk172 (by decide +kernel)
theorem dX7_sheet_32 : decode cX7_sheet 32 = .ok (.iload_n 2, 1) := zk28 (by decide +kernel)
theorem dX7_sheet_33 : decode cX7_sheet 33 = .ok (.ifCond .lt 11, 3) := zk155 0 11 rfl (by decide +kernel)
theorem dX7_sheet_36 : decode cX7_sheet 36 = .ok (.iload_n 3, 1) := zk29 (by decide +kernel)
theorem dX7_sheet_37 : decode cX7_sheet 37 = .ok (.ifCond .ge 7, 3) := zk156 0 7 rfl (by decide +kernel)
theorem dX7_sheet_40 : decode cX7_sheet 40 = .ok (.ldc_w 294, 3) := zk19 1 38 (by decide +kernel)
theorem dX7_sheet_43 : decode cX7_sheet 43 = .ok (.ireturn, 1) := zk172 (by decide +kernel)
theorem dX7_sheet_44 : decode cX7_sheet 44 = .ok (.aload_n 0, 1) := zk42 (by decide +kernel)
theorem dX7_sheet_45 : decode cX7_sheet 45 = .ok (.getfield 19, 3) := zk180 0 19 (by decide +kernel)
theorem dX7_sheet_48 : decode cX7_sheet 48 = .ok (.iload_n 1, 1) := zk27 (by decide +kernel)
theorem dX7_sheet_49 : decode cX7_sheet 49 = .ok (.iload_n 2, 1) := zk28 (by decide +kernel)
theorem dX7_sheet_50 : decode cX7_sheet 50 = .ok (.iastore, 1) := zk79 (by decide +kernel)
theorem dX7_sheet_51 : decode cX7_sheet 51 = .ok (.aload_n 0, 1) := zk42 (by decide +kernel)
theorem dX7_sheet_52 : decode cX7_sheet 52 = .ok (.getfield 22, 3) := zk180 0 22 (by decide +kernel)
theorem dX7_sheet_55 : decode cX7_sheet 55 = .ok (.iload_n 1, 1) := zk27 (by decide +kernel)
theorem dX7_sheet_56 : decode cX7_sheet 56 = .ok (.iload_n 2, 1) := zk28 (by decide +kernel)
theorem dX7_sheet_57 : decode cX7_sheet 57 = .ok (.ifCond .ge 7, 3) := zk156 0 7 rfl (by decide +kernel)
theorem dX7_sheet_60 : decode cX7_sheet 60 = .ok (.iconst 0, 1) := zk3 (by decide +kernel)
theorem dX7_sheet_61 : decode cX7_sheet 61 = .ok (.goto 4, 3) := zk167 0 4 rfl (by decide +kernel)
theorem dX7_sheet_64 : decode cX7_sheet 64 = .ok (.iload_n 3, 1) := zk29 (by decide +kernel)
theorem dX7_sheet_65 : decode cX7_sheet 65 = .ok (.iastore, 1) := zk79 (by decide +kernel)
theorem dX7_sheet_66 : decode cX7_sheet 66 = .ok (.iconst 0, 1) := zk3 (by decide +kernel)
theorem dX7_sheet_67 : decode cX7_sheet 67 = .ok (.istore 4, 2) := zk54 4 (by decide +kernel)
theorem dX7_sheet_69 : decode cX7_sheet 69 = .ok (.iload 4, 2) := zk21 4 (by decide +kernel)
theorem dX7_sheet_71 : decode cX7_sheet 71 = .ok (.bipush 24, 2) := zk16 24 rfl (by decide +kernel)
theorem dX7_sheet_73 : decode cX7_sheet 73 = .ok (.if_icmp .ge 22, 3) := zk162 0 22 rfl (by decide +kernel)
theorem dX7_sheet_76 : decode cX7_sheet 76 = .ok (.aload_n 0, 1) := zk42 (by decide +kernel)
theorem dX7_sheet_77 : decode cX7_sheet 77 = .ok (.getfield 25, 3) := zk180 0 25 (by decide +kernel)
theorem dX7_sheet_80 : decode cX7_sheet 80 = .ok (.bipush 24, 2) := zk16 24 rfl (by decide +kernel)
theorem dX7_sheet_82 : decode cX7_sheet 82 = .ok (.iload_n 1, 1) := zk27 (by decide +kernel)
theorem dX7_sheet_83 : decode cX7_sheet 83 = .ok (.imul, 1) := zk104 (by decide +kernel)
theorem dX7_sheet_84 : decode cX7_sheet 84 = .ok (.iload 4, 2) := zk21 4 (by decide +kernel)
theorem dX7_sheet_86 : decode cX7_sheet 86 = .ok (.iadd, 1) := zk96 (by decide +kernel)
theorem dX7_sheet_87 : decode cX7_sheet 87 = .ok (.iconst 0, 1) := zk3 (by decide +kernel)
theorem dX7_sheet_88 : decode cX7_sheet 88 = .ok (.iastore, 1) := zk79 (by decide +kernel)
theorem dX7_sheet_89 : decode cX7_sheet 89 = .ok (.iinc 4 1, 3) := by decide +kernel
theorem dX7_sheet_92 : decode cX7_sheet 92 = .ok (.goto (-23), 3) := zk167 255 233 rfl (by decide +kernel)
theorem dX7_sheet_95 : decode cX7_sheet 95 = .ok (.aload_n 0, 1) := zk42 (by decide +kernel)
theorem dX7_sheet_96 : decode cX7_sheet 96 = .ok (.getfield 22, 3) := zk180 0 22 (by decide +kernel)
theorem dX7_sheet_99 : decode cX7_sheet 99 = .ok (.iload_n 1, 1) := zk27 (by decide +kernel)
theorem dX7_sheet_100 : decode cX7_sheet 100 = .ok (.iaload, 1) := zk46 (by decide +kernel)
theorem dX7_sheet_101 : decode cX7_sheet 101 = .ok (.ireturn, 1) := zk172 (by decide +kernel)
set_option maxRecDepth 20000 in
theorem ggX7_mark_X7_isSheet : GoodIn wsX7_mark wsX7_isSheet := goodIn_r _ [14, 15, 16, 17, 13, 18] rfl gw_wsX7_isSheet
set_option maxRecDepth 20000 in
theorem gX7_mark_X7_isSheet : GoodIn wsX7_mark (va_wsS RX7 289 yX7_isSheet wsX7_isSheet) := goodIn_app (goodIn_r _ [11, 12, 13] rfl (by decide +kernel)) ggX7_mark_X7_isSheet
set_option maxRecDepth 20000 in
theorem ggX7_mark_X7_isIn : GoodIn wsX7_mark wsX7_isIn := goodIn_r _ [18] rfl gw_wsX7_isIn
set_option maxRecDepth 20000 in
theorem gX7_mark_X7_isIn : GoodIn wsX7_mark (va_wsS RX7 65 yX7_isIn wsX7_isIn) := goodIn_app (goodIn_r _ [16, 17, 13] rfl (by decide +kernel)) ggX7_mark_X7_isIn
theorem dX7_mark_0 : decode cX7_mark 0 = .ok (.iload_n 1, 1) := zk27 (by decide +kernel)
theorem dX7_mark_1 : decode cX7_mark 1 = .ok (.invokestatic 289, 3) := zk184 1 33 (by decide +kernel)
theorem dX7_mark_4 : decode cX7_mark 4 = .ok (.ifCond .ne 6, 3) := zk154 0 6 rfl (by decide +kernel)
theorem dX7_mark_7 : decode cX7_mark 7 = .ok (.ldc 80, 2) := zk18 80 (by decide +kernel)
theorem dX7_mark_9 : decode cX7_mark 9 = .ok (.ireturn, 1) := zk172 (by decide +kernel)
theorem dX7_mark_10 : decode cX7_mark 10 = .ok (.aload_n 0, 1) := zk42 (by decide +kernel)
theorem dX7_mark_11 : decode cX7_mark 11 = .ok (.getfield 19, 3) := zk180 0 19 (by decide +kernel)
theorem dX7_mark_14 : decode cX7_mark 14 = .ok (.iload_n 1, 1) := zk27 (by decide +kernel)
theorem dX7_mark_15 : decode cX7_mark 15 = .ok (.iaload, 1) := zk46 (by decide +kernel)
theorem dX7_mark_16 : decode cX7_mark 16 = .ok (.ifCond .ge 7, 3) := zk156 0 7 rfl (by decide +kernel)
theorem dX7_mark_19 : decode cX7_mark 19 = .ok (.ldc_w 295, 3) := zk19 1 39 (by decide +kernel)
theorem dX7_mark_22 : decode cX7_mark 22 = .ok (.ireturn, 1) := zk172 (by decide +kernel)
theorem dX7_mark_23 : decode cX7_mark 23 = .ok (.iload_n 2, 1) := zk28 (by decide +kernel)
theorem dX7_mark_24 : decode cX7_mark 24 = .ok (.i2l, 1) := zk133 (by decide +kernel)
theorem dX7_mark_25 : decode cX7_mark 25 = .ok (.lconst 0, 1) := zk9 (by decide +kernel)
theorem dX7_mark_26 : decode cX7_mark 26 = .ok (.aload_n 0, 1) := zk42 (by decide +kernel)
theorem dX7_mark_27 : decode cX7_mark 27 = .ok (.getfield 22, 3) := zk180 0 22 (by decide +kernel)
theorem dX7_mark_30 : decode cX7_mark 30 = .ok (.iload_n 1, 1) := zk27 (by decide +kernel)
theorem dX7_mark_31 : decode cX7_mark 31 = .ok (.iaload, 1) := zk46 (by decide +kernel)
theorem dX7_mark_32 : decode cX7_mark 32 = .ok (.iconst 1, 1) := zk4 (by decide +kernel)
theorem dX7_mark_33 : decode cX7_mark 33 = .ok (.isub, 1) := zk100 (by decide +kernel)
theorem dX7_mark_34 : decode cX7_mark 34 = .ok (.i2l, 1) := zk133 (by decide +kernel)
theorem dX7_mark_35 : decode cX7_mark 35 = .ok (.invokestatic 65, 3) := zk184 0 65 (by decide +kernel)
theorem dX7_mark_38 : decode cX7_mark 38 = .ok (.ifCond .ne 7, 3) := zk154 0 7 rfl (by decide +kernel)
theorem dX7_mark_41 : decode cX7_mark 41 = .ok (.ldc_w 296, 3) := zk19 1 40 (by decide +kernel)
theorem dX7_mark_44 : decode cX7_mark 44 = .ok (.ireturn, 1) := zk172 (by decide +kernel)
theorem dX7_mark_45 : decode cX7_mark 45 = .ok (.aload_n 0, 1) := zk42 (by decide +kernel)
theorem dX7_mark_46 : decode cX7_mark 46 = .ok (.getfield 19, 3) := zk180 0 19 (by decide +kernel)
theorem dX7_mark_49 : decode cX7_mark 49 = .ok (.iload_n 1, 1) := zk27 (by decide +kernel)
theorem dX7_mark_50 : decode cX7_mark 50 = .ok (.iaload, 1) := zk46 (by decide +kernel)
theorem dX7_mark_51 : decode cX7_mark 51 = .ok (.ifCond .ne 12, 3) := zk154 0 12 rfl (by decide +kernel)
theorem dX7_mark_54 : decode cX7_mark 54 = .ok (.iload_n 3, 1) := zk29 (by decide +kernel)
theorem dX7_mark_55 : decode cX7_mark 55 = .ok (.ldc 64, 2) := zk18 64 (by decide +kernel)
theorem dX7_mark_57 : decode cX7_mark 57 = .ok (.if_icmp .ne 6, 3) := zk160 0 6 rfl (by decide +kernel)
theorem dX7_mark_60 : decode cX7_mark 60 = .ok (.ldc 129, 2) := zk18 129 (by decide +kernel)
theorem dX7_mark_62 : decode cX7_mark 62 = .ok (.ireturn, 1) := zk172 (by decide +kernel)
theorem dX7_mark_63 : decode cX7_mark 63 = .ok (.aload_n 0, 1) := zk42 (by decide +kernel)
theorem dX7_mark_64 : decode cX7_mark 64 = .ok (.getfield 19, 3) := zk180 0 19 (by decide +kernel)
theorem dX7_mark_67 : decode cX7_mark 67 = .ok (.iload_n 1, 1) := zk27 (by decide +kernel)
theorem dX7_mark_68 : decode cX7_mark 68 = .ok (.iaload, 1) := zk46 (by decide +kernel)
theorem dX7_mark_69 : decode cX7_mark 69 = .ok (.iconst 1, 1) := zk4 (by decide +kernel)
theorem dX7_mark_70 : decode cX7_mark 70 = .ok (.if_icmp .ne 26, 3) := zk160 0 26 rfl (by decide +kernel)
theorem dX7_mark_73 : decode cX7_mark 73 = .ok (.iload_n 3, 1) := zk29 (by decide +kernel)
theorem dX7_mark_74 : decode cX7_mark 74 = .ok (.ldc 64, 2) := zk18 64 (by decide +kernel)
theorem dX7_mark_76 : decode cX7_mark 76 = .ok (.if_icmp .eq 20, 3) := zk159 0 20 rfl (by decide +kernel)
theorem dX7_mark_79 : decode cX7_mark 79 = .ok (.iload_n 3, 1) := zk29 (by decide +kernel)
theorem dX7_mark_80 : decode cX7_mark 80 = .ok (.i2l, 1) := zk133 (by decide +kernel)
theorem dX7_mark_81 : decode cX7_mark 81 = .ok (.ldc2_w 297, 3) := zk20 1 41 (by decide +kernel)
theorem dX7_mark_84 : decode cX7_mark 84 = .ok (.ldc2_w 299, 3) := zk20 1 43 (by decide +kernel)
theorem dX7_mark_87 : decode cX7_mark 87 = .ok (.invokestatic 65, 3) := zk184 0 65 (by decide +kernel)
theorem dX7_mark_90 : decode cX7_mark 90 = .ok (.ifCond .ne 6, 3) := zk154 0 6 rfl (by decide +kernel)
theorem dX7_mark_93 : decode cX7_mark 93 = .ok (.ldc 80, 2) := zk18 80 (by decide +kernel)
theorem dX7_mark_95 : decode cX7_mark 95 = .ok (.ireturn, 1) := zk172 (by decide +kernel)
theorem dX7_mark_96 : decode cX7_mark 96 = .ok (.aload_n 0, 1) := zk42 (by decide +kernel)
theorem dX7_mark_97 : decode cX7_mark 97 = .ok (.getfield 25, 3) := zk180 0 25 (by decide +kernel)
theorem dX7_mark_100 : decode cX7_mark 100 = .ok (.bipush 24, 2) := zk16 24 rfl (by decide +kernel)
theorem dX7_mark_102 : decode cX7_mark 102 = .ok (.iload_n 1, 1) := zk27 (by decide +kernel)
theorem dX7_mark_103 : decode cX7_mark 103 = .ok (.imul, 1) := zk104 (by decide +kernel)
theorem dX7_mark_104 : decode cX7_mark 104 = .ok (.iload_n 2, 1) := zk28 (by decide +kernel)
theorem dX7_mark_105 : decode cX7_mark 105 = .ok (.iadd, 1) := zk96 (by decide +kernel)
theorem dX7_mark_106 : decode cX7_mark 106 = .ok (.aload_n 0, 1) := zk42 (by decide +kernel)
theorem dX7_mark_107 : decode cX7_mark 107 = .ok (.getfield 19, 3) := zk180 0 19 (by decide +kernel)
theorem dX7_mark_110 : decode cX7_mark 110 = .ok (.iload_n 1, 1) := zk27 (by decide +kernel)
theorem dX7_mark_111 : decode cX7_mark 111 = .ok (.iaload, 1) := zk46 (by decide +kernel)
theorem dX7_mark_112 : decode cX7_mark 112 = .ok (.ifCond .ne 13, 3) := zk154 0 13 rfl (by decide +kernel)
theorem dX7_mark_115 : decode cX7_mark 115 = .ok (.iload_n 3, 1) := zk29 (by decide +kernel)
theorem dX7_mark_116 : decode cX7_mark 116 = .ok (.bipush 16, 2) := zk16 16 rfl (by decide +kernel)
theorem dX7_mark_118 : decode cX7_mark 118 = .ok (.ishl, 1) := zk120 (by decide +kernel)
theorem dX7_mark_119 : decode cX7_mark 119 = .ok (.bipush 16, 2) := zk16 16 rfl (by decide +kernel)
theorem dX7_mark_121 : decode cX7_mark 121 = .ok (.ishr, 1) := zk122 (by decide +kernel)
theorem dX7_mark_122 : decode cX7_mark 122 = .ok (.goto 4, 3) := zk167 0 4 rfl (by decide +kernel)
theorem dX7_mark_125 : decode cX7_mark 125 = .ok (.iload_n 3, 1) := zk29 (by decide +kernel)
theorem dX7_mark_126 : decode cX7_mark 126 = .ok (.iastore, 1) := zk79 (by decide +kernel)
theorem dX7_mark_127 : decode cX7_mark 127 = .ok (.iconst 1, 1) := zk4 (by decide +kernel)
theorem dX7_mark_128 : decode cX7_mark 128 = .ok (.ireturn, 1) := zk172 (by decide +kernel)
set_option maxRecDepth 20000 in
theorem ggX7_pour_X7_isSheet : GoodIn wsX7_pour wsX7_isSheet := goodIn_r _ [11, 12, 13, 14, 10, 15] rfl gw_wsX7_isSheet
set_option maxRecDepth 20000 in
theorem gX7_pour_X7_isSheet : GoodIn wsX7_pour (va_wsS RX7 289 yX7_isSheet wsX7_isSheet) := goodIn_app (goodIn_r _ [8, 9, 10] rfl (by decide +kernel)) ggX7_pour_X7_isSheet
set_option maxRecDepth 20000 in
theorem ggX7_pour_X7_within : GoodIn wsX7_pour wsX7_within := goodIn_r _ [18] rfl gw_wsX7_within
set_option maxRecDepth 20000 in
theorem gX7_pour_X7_within : GoodIn wsX7_pour (va_wsS RX7 106 yX7_within wsX7_within) := goodIn_app (goodIn_r _ [16, 17, 10] rfl (by decide +kernel)) ggX7_pour_X7_within
set_option maxRecDepth 20000 in
theorem ggX7_pour_X7_becomes : GoodIn wsX7_pour wsX7_becomes := goodIn_r _ [22, 5, 23, 24, 25, 26, 27, 28, 29, 30, 31, 32, 33, 34, 35, 36, 37, 38, 39, 40, 41, 42, 43, 44, 45, 46, 47, 48, 49, 50, 51, 52, 53] rfl gw_wsX7_becomes
set_option maxRecDepth 20000 in
theorem gX7_pour_X7_becomes : GoodIn wsX7_pour (wsV RX7 130 RX7 yX7_becomes wsX7_becomes) := goodIn_app (goodIn_r _ [19, 20, 21, 10] rfl (by decide +kernel)) ggX7_pour_X7_becomes
theorem dX7_pour_0 : decode cX7_pour 0 = .ok (.iload_n 1, 1) := zk27 (by decide +kernel)
theorem dX7_pour_1 : decode cX7_pour 1 = .ok (.invokestatic 289, 3) := zk184 1 33 (by decide +kernel)
theorem dX7_pour_4 : decode cX7_pour 4 = .ok (.ifCond .ne 6, 3) := zk154 0 6 rfl (by decide +kernel)
theorem dX7_pour_7 : decode cX7_pour 7 = .ok (.ldc 80, 2) := zk18 80 (by decide +kernel)
theorem dX7_pour_9 : decode cX7_pour 9 = .ok (.ireturn, 1) := zk172 (by decide +kernel)
theorem dX7_pour_10 : decode cX7_pour 10 = .ok (.aload_n 0, 1) := zk42 (by decide +kernel)
theorem dX7_pour_11 : decode cX7_pour 11 = .ok (.getfield 19, 3) := zk180 0 19 (by decide +kernel)
theorem dX7_pour_14 : decode cX7_pour 14 = .ok (.iload_n 1, 1) := zk27 (by decide +kernel)
theorem dX7_pour_15 : decode cX7_pour 15 = .ok (.iaload, 1) := zk46 (by decide +kernel)
theorem dX7_pour_16 : decode cX7_pour 16 = .ok (.ifCond .ge 7, 3) := zk156 0 7 rfl (by decide +kernel)
theorem dX7_pour_19 : decode cX7_pour 19 = .ok (.ldc_w 295, 3) := zk19 1 39 (by decide +kernel)
theorem dX7_pour_22 : decode cX7_pour 22 = .ok (.ireturn, 1) := zk172 (by decide +kernel)
theorem dX7_pour_23 : decode cX7_pour 23 = .ok (.iconst 0, 1) := zk3 (by decide +kernel)
theorem dX7_pour_24 : decode cX7_pour 24 = .ok (.istore_n 2, 1) := zk61 (by decide +kernel)
theorem dX7_pour_25 : decode cX7_pour 25 = .ok (.iconst 0, 1) := zk3 (by decide +kernel)
theorem dX7_pour_26 : decode cX7_pour 26 = .ok (.istore_n 3, 1) := zk62 (by decide +kernel)
theorem dX7_pour_27 : decode cX7_pour 27 = .ok (.iload_n 3, 1) := zk29 (by decide +kernel)
theorem dX7_pour_28 : decode cX7_pour 28 = .ok (.aload_n 0, 1) := zk42 (by decide +kernel)
theorem dX7_pour_29 : decode cX7_pour 29 = .ok (.getfield 22, 3) := zk180 0 22 (by decide +kernel)
theorem dX7_pour_32 : decode cX7_pour 32 = .ok (.iload_n 1, 1) := zk27 (by decide +kernel)
theorem dX7_pour_33 : decode cX7_pour 33 = .ok (.iaload, 1) := zk46 (by decide +kernel)
theorem dX7_pour_34 : decode cX7_pour 34 = .ok (.if_icmp .ge 92, 3) := zk162 0 92 rfl (by decide +kernel)
theorem dX7_pour_37 : decode cX7_pour 37 = .ok (.iload_n 3, 1) := zk29 (by decide +kernel)
theorem dX7_pour_38 : decode cX7_pour 38 = .ok (.aload_n 0, 1) := zk42 (by decide +kernel)
theorem dX7_pour_39 : decode cX7_pour 39 = .ok (.getfield 7, 3) := zk180 0 7 (by decide +kernel)
theorem dX7_pour_42 : decode cX7_pour 42 = .ok (.iconst 0, 1) := zk3 (by decide +kernel)
theorem dX7_pour_43 : decode cX7_pour 43 = .ok (.iaload, 1) := zk46 (by decide +kernel)
theorem dX7_pour_44 : decode cX7_pour 44 = .ok (.if_icmp .ge 82, 3) := zk162 0 82 rfl (by decide +kernel)
theorem dX7_pour_47 : decode cX7_pour 47 = .ok (.aload_n 0, 1) := zk42 (by decide +kernel)
theorem dX7_pour_48 : decode cX7_pour 48 = .ok (.getfield 25, 3) := zk180 0 25 (by decide +kernel)
theorem dX7_pour_51 : decode cX7_pour 51 = .ok (.bipush 24, 2) := zk16 24 rfl (by decide +kernel)
theorem dX7_pour_53 : decode cX7_pour 53 = .ok (.iload_n 1, 1) := zk27 (by decide +kernel)
theorem dX7_pour_54 : decode cX7_pour 54 = .ok (.imul, 1) := zk104 (by decide +kernel)
theorem dX7_pour_55 : decode cX7_pour 55 = .ok (.iload_n 3, 1) := zk29 (by decide +kernel)
theorem dX7_pour_56 : decode cX7_pour 56 = .ok (.iadd, 1) := zk96 (by decide +kernel)
theorem dX7_pour_57 : decode cX7_pour 57 = .ok (.iaload, 1) := zk46 (by decide +kernel)
theorem dX7_pour_58 : decode cX7_pour 58 = .ok (.istore 4, 2) := zk54 4 (by decide +kernel)
theorem dX7_pour_60 : decode cX7_pour 60 = .ok (.iload 4, 2) := zk21 4 (by decide +kernel)
theorem dX7_pour_62 : decode cX7_pour 62 = .ok (.ldc 64, 2) := zk18 64 (by decide +kernel)
theorem dX7_pour_64 : decode cX7_pour 64 = .ok (.if_icmp .ne 19, 3) := zk160 0 19 rfl (by decide +kernel)
theorem dX7_pour_67 : decode cX7_pour 67 = .ok (.aload_n 0, 1) := zk42 (by decide +kernel)
theorem dX7_pour_68 : decode cX7_pour 68 = .ok (.getfield 7, 3) := zk180 0 7 (by decide +kernel)
theorem dX7_pour_71 : decode cX7_pour 71 = .ok (.bipush 11, 2) := zk16 11 rfl (by decide +kernel)
theorem dX7_pour_73 : decode cX7_pour 73 = .ok (.iconst 4, 1) := zk7 (by decide +kernel)
theorem dX7_pour_74 : decode cX7_pour 74 = .ok (.iload_n 3, 1) := zk29 (by decide +kernel)
theorem dX7_pour_75 : decode cX7_pour 75 = .ok (.imul, 1) := zk104 (by decide +kernel)
theorem dX7_pour_76 : decode cX7_pour 76 = .ok (.iadd, 1) := zk96 (by decide +kernel)
theorem dX7_pour_77 : decode cX7_pour 77 = .ok (.iconst 2, 1) := zk5 (by decide +kernel)
theorem dX7_pour_78 : decode cX7_pour 78 = .ok (.iadd, 1) := zk96 (by decide +kernel)
theorem dX7_pour_79 : decode cX7_pour 79 = .ok (.iaload, 1) := zk46 (by decide +kernel)
theorem dX7_pour_80 : decode cX7_pour 80 = .ok (.goto 11, 3) := zk167 0 11 rfl (by decide +kernel)
theorem dX7_pour_83 : decode cX7_pour 83 = .ok (.iload 4, 2) := zk21 4 (by decide +kernel)
theorem dX7_pour_85 : decode cX7_pour 85 = .ok (.sipush 999, 3) := zk17 3 231 rfl (by decide +kernel)
theorem dX7_pour_88 : decode cX7_pour 88 = .ok (.invokestatic 106, 3) := zk184 0 106 (by decide +kernel)
theorem dX7_pour_91 : decode cX7_pour 91 = .ok (.istore 5, 2) := zk54 5 (by decide +kernel)
theorem dX7_pour_93 : decode cX7_pour 93 = .ok (.iload_n 2, 1) := zk28 (by decide +kernel)
theorem dX7_pour_94 : decode cX7_pour 94 = .ok (.iload 5, 2) := zk21 5 (by decide +kernel)
theorem dX7_pour_96 : decode cX7_pour 96 = .ok (.aload_n 0, 1) := zk42 (by decide +kernel)
theorem dX7_pour_97 : decode cX7_pour 97 = .ok (.bipush 11, 2) := zk16 11 rfl (by decide +kernel)
theorem dX7_pour_99 : decode cX7_pour 99 = .ok (.iconst 4, 1) := zk7 (by decide +kernel)
theorem dX7_pour_100 : decode cX7_pour 100 = .ok (.iload_n 3, 1) := zk29 (by decide +kernel)
theorem dX7_pour_101 : decode cX7_pour 101 = .ok (.imul, 1) := zk104 (by decide +kernel)
theorem dX7_pour_102 : decode cX7_pour 102 = .ok (.iadd, 1) := zk96 (by decide +kernel)
theorem dX7_pour_103 : decode cX7_pour 103 = .ok (.iconst 2, 1) := zk5 (by decide +kernel)
theorem dX7_pour_104 : decode cX7_pour 104 = .ok (.iadd, 1) := zk96 (by decide +kernel)
theorem dX7_pour_105 : decode cX7_pour 105 = .ok (.iload 5, 2) := zk21 5 (by decide +kernel)
theorem dX7_pour_107 : decode cX7_pour 107 = .ok (.invokevirtual 130, 3) := zk182 0 130 (by decide +kernel)
theorem dX7_pour_110 : decode cX7_pour 110 = .ok (.if_icmp .ne 7, 3) := zk160 0 7 rfl (by decide +kernel)
theorem dX7_pour_113 : decode cX7_pour 113 = .ok (.iconst 0, 1) := zk3 (by decide +kernel)
theorem dX7_pour_114 : decode cX7_pour 114 = .ok (.goto 4, 3) := zk167 0 4 rfl (by decide +kernel)
theorem dX7_pour_117 : decode cX7_pour 117 = .ok (.iconst 1, 1) := zk4 (by decide +kernel)
theorem dX7_pour_118 : decode cX7_pour 118 = .ok (.iadd, 1) := zk96 (by decide +kernel)
theorem dX7_pour_119 : decode cX7_pour 119 = .ok (.istore_n 2, 1) := zk61 (by decide +kernel)
theorem dX7_pour_120 : decode cX7_pour 120 = .ok (.iinc 3 1, 3) := by decide +kernel
theorem dX7_pour_123 : decode cX7_pour 123 = .ok (.goto (-96), 3) := zk167 255 160 rfl (by decide +kernel)
theorem dX7_pour_126 : decode cX7_pour 126 = .ok (.iload_n 2, 1) := zk28 (by decide +kernel)
theorem dX7_pour_127 : decode cX7_pour 127 = .ok (.ireturn, 1) := zk172 (by decide +kernel)
def bs_wsX7_reads : List (List Cond) := [[.code yX7_reads cX7_reads 4 (some .int)], wsX7_reads_r1, wsX7_reads_r2, wsX7_reads_r3, wsX70]
theorem bse_wsX7_reads : wsX7_reads = bs_wsX7_reads.flatten := by
  unfold wsX7_reads bs_wsX7_reads
  simp only [List.flatten_cons, List.flatten_nil, List.append_nil, List.append_assoc, List.cons_append, List.nil_append]
set_option maxRecDepth 20000 in
theorem ggX7_reads_X7_isSheet : GoodIn wsX7_reads wsX7_isSheet := goodIn_pc bs_wsX7_reads bse_wsX7_reads _ [(1, [10, 11, 12, 13, 9, 14])] rfl gw_wsX7_isSheet
set_option maxRecDepth 20000 in
theorem gX7_reads_X7_isSheet : GoodIn wsX7_reads (va_wsS RX7 289 yX7_isSheet wsX7_isSheet) := goodIn_app (goodIn_pc bs_wsX7_reads bse_wsX7_reads _ [(1, [7, 8, 9])] rfl (by decide +kernel)) ggX7_reads_X7_isSheet
set_option maxRecDepth 20000 in
theorem ggX7_reads_X7_spoils : GoodIn wsX7_reads wsX7_spoils := goodIn_pc bs_wsX7_reads bse_wsX7_reads _ [(1, [18, 19, 20, 21, 9, 22, 6, 23]), (2, [0, 1, 2, 3, 4, 5, 6]), (1, [12, 13, 14]), (2, [7, 8, 9, 10, 11, 12, 13, 14, 15, 16, 17, 18, 19, 20, 21, 22, 23]), (3, [0, 1, 2, 3, 4, 5, 6, 7, 8, 9, 10, 11, 12, 13]), (4, [0, 1, 2, 3, 4, 5, 6, 7, 8, 9, 10, 11, 12, 13, 14, 15, 16, 17, 18, 19, 20, 21, 22, 23, 24, 25, 26, 27, 28, 29, 30])] rfl gw_wsX7_spoils
set_option maxRecDepth 20000 in
theorem gX7_reads_X7_spoils : GoodIn wsX7_reads (wsV RX7 119 RX7 yX7_spoils wsX7_spoils) := goodIn_app (goodIn_pc bs_wsX7_reads bse_wsX7_reads _ [(1, [15, 16, 17, 9])] rfl (by decide +kernel)) ggX7_reads_X7_spoils
theorem dX7_reads_0 : decode cX7_reads 0 = .ok (.iload_n 1, 1) := zk27 (by decide +kernel)
theorem dX7_reads_1 : decode cX7_reads 1 = .ok (.invokestatic 289, 3) := zk184 1 33 (by decide +kernel)
theorem dX7_reads_4 : decode cX7_reads 4 = .ok (.ifCond .ne 6, 3) := zk154 0 6 rfl (by decide +kernel)
theorem dX7_reads_7 : decode cX7_reads 7 = .ok (.ldc 80, 2) := zk18 80 (by decide +kernel)
theorem dX7_reads_9 : decode cX7_reads 9 = .ok (.ireturn, 1) := zk172 (by decide +kernel)
theorem dX7_reads_10 : decode cX7_reads 10 = .ok (.aload_n 0, 1) := zk42 (by decide +kernel)
theorem dX7_reads_11 : decode cX7_reads 11 = .ok (.getfield 19, 3) := zk180 0 19 (by decide +kernel)
theorem dX7_reads_14 : decode cX7_reads 14 = .ok (.iload_n 1, 1) := zk27 (by decide +kernel)
theorem dX7_reads_15 : decode cX7_reads 15 = .ok (.iaload, 1) := zk46 (by decide +kernel)
theorem dX7_reads_16 : decode cX7_reads 16 = .ok (.ifCond .ge 7, 3) := zk156 0 7 rfl (by decide +kernel)
theorem dX7_reads_19 : decode cX7_reads 19 = .ok (.ldc_w 295, 3) := zk19 1 39 (by decide +kernel)
theorem dX7_reads_22 : decode cX7_reads 22 = .ok (.ireturn, 1) := zk172 (by decide +kernel)
theorem dX7_reads_23 : decode cX7_reads 23 = .ok (.iconst 0, 1) := zk3 (by decide +kernel)
theorem dX7_reads_24 : decode cX7_reads 24 = .ok (.istore_n 2, 1) := zk61 (by decide +kernel)
theorem dX7_reads_25 : decode cX7_reads 25 = .ok (.iload_n 2, 1) := zk28 (by decide +kernel)
theorem dX7_reads_26 : decode cX7_reads 26 = .ok (.aload_n 0, 1) := zk42 (by decide +kernel)
theorem dX7_reads_27 : decode cX7_reads 27 = .ok (.getfield 22, 3) := zk180 0 22 (by decide +kernel)
theorem dX7_reads_30 : decode cX7_reads 30 = .ok (.iload_n 1, 1) := zk27 (by decide +kernel)
theorem dX7_reads_31 : decode cX7_reads 31 = .ok (.iaload, 1) := zk46 (by decide +kernel)
theorem dX7_reads_32 : decode cX7_reads 32 = .ok (.if_icmp .ge 48, 3) := zk162 0 48 rfl (by decide +kernel)
theorem dX7_reads_35 : decode cX7_reads 35 = .ok (.aload_n 0, 1) := zk42 (by decide +kernel)
theorem dX7_reads_36 : decode cX7_reads 36 = .ok (.getfield 25, 3) := zk180 0 25 (by decide +kernel)
theorem dX7_reads_39 : decode cX7_reads 39 = .ok (.bipush 24, 2) := zk16 24 rfl (by decide +kernel)
theorem dX7_reads_41 : decode cX7_reads 41 = .ok (.iload_n 1, 1) := zk27 (by decide +kernel)
theorem dX7_reads_42 : decode cX7_reads 42 = .ok (.imul, 1) := zk104 (by decide +kernel)
theorem dX7_reads_43 : decode cX7_reads 43 = .ok (.iload_n 2, 1) := zk28 (by decide +kernel)
theorem dX7_reads_44 : decode cX7_reads 44 = .ok (.iadd, 1) := zk96 (by decide +kernel)
theorem dX7_reads_45 : decode cX7_reads 45 = .ok (.iaload, 1) := zk46 (by decide +kernel)
theorem dX7_reads_46 : decode cX7_reads 46 = .ok (.istore_n 3, 1) := zk62 (by decide +kernel)
theorem dX7_reads_47 : decode cX7_reads 47 = .ok (.iload_n 3, 1) := zk29 (by decide +kernel)
theorem dX7_reads_48 : decode cX7_reads 48 = .ok (.ldc 64, 2) := zk18 64 (by decide +kernel)
theorem dX7_reads_50 : decode cX7_reads 50 = .ok (.if_icmp .eq 24, 3) := zk159 0 24 rfl (by decide +kernel)
theorem dX7_reads_53 : decode cX7_reads 53 = .ok (.iload_n 2, 1) := zk28 (by decide +kernel)
theorem dX7_reads_54 : decode cX7_reads 54 = .ok (.aload_n 0, 1) := zk42 (by decide +kernel)
theorem dX7_reads_55 : decode cX7_reads 55 = .ok (.getfield 7, 3) := zk180 0 7 (by decide +kernel)
theorem dX7_reads_58 : decode cX7_reads 58 = .ok (.iconst 0, 1) := zk3 (by decide +kernel)
theorem dX7_reads_59 : decode cX7_reads 59 = .ok (.iaload, 1) := zk46 (by decide +kernel)
theorem dX7_reads_60 : decode cX7_reads 60 = .ok (.if_icmp .ge 12, 3) := zk162 0 12 rfl (by decide +kernel)
theorem dX7_reads_63 : decode cX7_reads 63 = .ok (.iload_n 3, 1) := zk29 (by decide +kernel)
theorem dX7_reads_64 : decode cX7_reads 64 = .ok (.aload_n 0, 1) := zk42 (by decide +kernel)
theorem dX7_reads_65 : decode cX7_reads 65 = .ok (.iload_n 2, 1) := zk28 (by decide +kernel)
theorem dX7_reads_66 : decode cX7_reads 66 = .ok (.invokevirtual 119, 3) := zk182 0 119 (by decide +kernel)
theorem dX7_reads_69 : decode cX7_reads 69 = .ok (.if_icmp .eq 5, 3) := zk159 0 5 rfl (by decide +kernel)
theorem dX7_reads_72 : decode cX7_reads 72 = .ok (.iload_n 2, 1) := zk28 (by decide +kernel)
theorem dX7_reads_73 : decode cX7_reads 73 = .ok (.ireturn, 1) := zk172 (by decide +kernel)
theorem dX7_reads_74 : decode cX7_reads 74 = .ok (.iinc 2 1, 3) := by decide +kernel
theorem dX7_reads_77 : decode cX7_reads 77 = .ok (.goto (-52), 3) := zk167 255 204 rfl (by decide +kernel)
theorem dX7_reads_80 : decode cX7_reads 80 = .ok (.ldc 64, 2) := zk18 64 (by decide +kernel)
theorem dX7_reads_82 : decode cX7_reads 82 = .ok (.ireturn, 1) := zk172 (by decide +kernel)
def bs_wsX7_whose : List (List Cond) := [[.code yX7_whose cX7_whose 10 (some .int)], wsX7_whose_r1, wsX7_whose_r2, wsX7_whose_r3, wsX7_whose_r4, wsX7_whose_r5, wsX70]
theorem bse_wsX7_whose : wsX7_whose = bs_wsX7_whose.flatten := by
  unfold wsX7_whose bs_wsX7_whose
  simp only [List.flatten_cons, List.flatten_nil, List.append_nil, List.append_assoc, List.cons_append, List.nil_append]
set_option maxRecDepth 20000 in
theorem ggX7_whose_X7_isSheet : GoodIn wsX7_whose wsX7_isSheet := goodIn_pc bs_wsX7_whose bse_wsX7_whose _ [(1, [11, 12, 13, 14, 10, 15])] rfl gw_wsX7_isSheet
set_option maxRecDepth 20000 in
theorem gX7_whose_X7_isSheet : GoodIn wsX7_whose (va_wsS RX7 289 yX7_isSheet wsX7_isSheet) := goodIn_app (goodIn_pc bs_wsX7_whose bse_wsX7_whose _ [(1, [8, 9, 10])] rfl (by decide +kernel)) ggX7_whose_X7_isSheet
set_option maxRecDepth 20000 in
theorem ggX7_whose_X7_isIn : GoodIn wsX7_whose wsX7_isIn := goodIn_pc bs_wsX7_whose bse_wsX7_whose _ [(1, [15])] rfl gw_wsX7_isIn
set_option maxRecDepth 20000 in
theorem gX7_whose_X7_isIn : GoodIn wsX7_whose (va_wsS RX7 65 yX7_isIn wsX7_isIn) := goodIn_app (goodIn_pc bs_wsX7_whose bse_wsX7_whose _ [(1, [13, 14, 10])] rfl (by decide +kernel)) ggX7_whose_X7_isIn
set_option maxRecDepth 20000 in
theorem ggX7_whose_X7_laysBy : GoodIn wsX7_whose wsX7_laysBy := goodIn_pc bs_wsX7_whose bse_wsX7_whose _ [(1, [19, 20, 4]), (6, [0, 1, 2, 3, 4, 5, 6, 7, 8, 9, 10, 11, 12, 13, 14, 15, 16, 17, 18, 19, 20, 21, 22, 23, 24, 25, 26, 27, 28, 29, 30])] rfl gw_wsX7_laysBy
set_option maxRecDepth 20000 in
theorem gX7_whose_X7_laysBy : GoodIn wsX7_whose (wsV RX7 175 RX7 yX7_laysBy wsX7_laysBy) := goodIn_app (goodIn_pc bs_wsX7_whose bse_wsX7_whose _ [(1, [16, 17, 18, 10])] rfl (by decide +kernel)) ggX7_whose_X7_laysBy
set_option maxRecDepth 20000 in
theorem ggX7_whose_X7_goesOnMany : GoodIn wsX7_whose wsX7_goesOnMany := goodIn_pc bs_wsX7_whose bse_wsX7_whose _ [(2, [0, 1, 2, 3]), (1, [10]), (2, [4, 5, 6, 7, 8]), (1, [4]), (2, [9, 10, 11, 12, 13, 14, 15, 16, 17, 18, 19, 20, 21, 22, 23]), (3, [0, 1, 2, 3, 4, 5, 6, 7, 8, 9, 10, 11]), (1, [13, 14, 15]), (3, [12, 13, 14, 15, 16, 17, 18, 19, 20, 21, 22, 23]), (4, [0, 1, 2, 3, 4, 5, 6, 7, 8, 9, 10, 11, 12, 13, 14, 15, 16, 17, 18, 19, 20, 21, 22, 23]), (5, [0, 1, 2, 3, 4, 5, 6, 7, 8]), (6, [0, 1, 2, 3, 4, 5, 6, 7, 8, 9, 10, 11, 12, 13, 14, 15, 16, 17, 18, 19, 20, 21, 22, 23, 24, 25, 26, 27, 28, 29, 30])] rfl gw_wsX7_goesOnMany
set_option maxRecDepth 20000 in
theorem gX7_whose_X7_goesOnMany : GoodIn wsX7_whose (wsV RX7 178 RX7 yX7_goesOnMany wsX7_goesOnMany) := goodIn_app (goodIn_pc bs_wsX7_whose bse_wsX7_whose _ [(1, [21, 22, 23, 10])] rfl (by decide +kernel)) ggX7_whose_X7_goesOnMany
set_option maxRecDepth 20000 in
theorem ggX7_whose_X7_of : GoodIn wsX7_whose wsX7_of := goodIn_pc bs_wsX7_whose bse_wsX7_whose _ [(3, [7]), (1, [4]), (6, [0, 1, 2, 3, 4, 5, 6, 7, 8, 9, 10, 11, 12, 13, 14, 15, 16, 17, 18, 19, 20, 21, 22, 23, 24, 25, 26, 27, 28, 29, 30])] rfl gw_wsX7_of
set_option maxRecDepth 20000 in
theorem gX7_whose_X7_of : GoodIn wsX7_whose (wsV RX7 85 RX7 yX7_of wsX7_of) := goodIn_app (goodIn_pc bs_wsX7_whose bse_wsX7_whose _ [(3, [4, 5, 6]), (1, [10])] rfl (by decide +kernel)) ggX7_whose_X7_of
set_option maxRecDepth 20000 in
theorem ggX7_whose_X7_off : GoodIn wsX7_whose wsX7_off := goodIn_pc bs_wsX7_whose bse_wsX7_whose _ [(4, [11])] rfl gw_wsX7_off
set_option maxRecDepth 20000 in
theorem gX7_whose_X7_off : GoodIn wsX7_whose (va_wsS RX7 93 yX7_off wsX7_off) := goodIn_app (goodIn_pc bs_wsX7_whose bse_wsX7_whose _ [(4, [9, 10]), (1, [10])] rfl (by decide +kernel)) ggX7_whose_X7_off
set_option maxRecDepth 20000 in
theorem ggX7_whose_X7_laysBack : GoodIn wsX7_whose wsX7_laysBack := goodIn_pc bs_wsX7_whose bse_wsX7_whose _ [(5, [12]), (1, [4, 20]), (6, [0, 1, 2, 3, 4, 5, 6, 7, 8, 9, 10, 11, 12, 13, 14, 15, 16, 17, 18, 19, 20, 21, 22, 23, 24, 25, 26, 27, 28, 29, 30])] rfl gw_wsX7_laysBack
set_option maxRecDepth 20000 in
theorem gX7_whose_X7_laysBack : GoodIn wsX7_whose (wsV RX7 181 RX7 yX7_laysBack wsX7_laysBack) := goodIn_app (goodIn_pc bs_wsX7_whose bse_wsX7_whose _ [(5, [9, 10, 11]), (1, [10])] rfl (by decide +kernel)) ggX7_whose_X7_laysBack
theorem dX7_whose_0 : decode cX7_whose 0 = .ok (.iload_n 1, 1) := zk27 (by decide +kernel)
theorem dX7_whose_1 : decode cX7_whose 1 = .ok (.invokestatic 289, 3) := zk184 1 33 (by decide +kernel)
theorem dX7_whose_4 : decode cX7_whose 4 = .ok (.ifCond .eq 25, 3) := zk153 0 25 rfl (by decide +kernel)
theorem dX7_whose_7 : decode cX7_whose 7 = .ok (.iload_n 2, 1) := zk28 (by decide +kernel)
theorem dX7_whose_8 : decode cX7_whose 8 = .ok (.i2l, 1) := zk133 (by decide +kernel)
theorem dX7_whose_9 : decode cX7_whose 9 = .ok (.lconst 0, 1) := zk9 (by decide +kernel)
theorem dX7_whose_10 : decode cX7_whose 10 = .ok (.ldc2_w 186, 3) := zk20 0 186 (by decide +kernel)
theorem dX7_whose_13 : decode cX7_whose 13 = .ok (.invokestatic 65, 3) := zk184 0 65 (by decide +kernel)
theorem dX7_whose_16 : decode cX7_whose 16 = .ok (.ifCond .eq 13, 3) := zk153 0 13 rfl (by decide +kernel)
theorem dX7_whose_19 : decode cX7_whose 19 = .ok (.iload_n 3, 1) := zk29 (by decide +kernel)
theorem dX7_whose_20 : decode cX7_whose 20 = .ok (.i2l, 1) := zk133 (by decide +kernel)
theorem dX7_whose_21 : decode cX7_whose 21 = .ok (.lconst 0, 1) := zk9 (by decide +kernel)
theorem dX7_whose_22 : decode cX7_whose 22 = .ok (.lconst 1, 1) := zk10 (by decide +kernel)
theorem dX7_whose_23 : decode cX7_whose 23 = .ok (.invokestatic 65, 3) := zk184 0 65 (by decide +kernel)
theorem dX7_whose_26 : decode cX7_whose 26 = .ok (.ifCond .ne 6, 3) := zk154 0 6 rfl (by decide +kernel)
theorem dX7_whose_29 : decode cX7_whose 29 = .ok (.ldc 80, 2) := zk18 80 (by decide +kernel)
theorem dX7_whose_31 : decode cX7_whose 31 = .ok (.ireturn, 1) := zk172 (by decide +kernel)
theorem dX7_whose_32 : decode cX7_whose 32 = .ok (.aload_n 0, 1) := zk42 (by decide +kernel)
theorem dX7_whose_33 : decode cX7_whose 33 = .ok (.getfield 19, 3) := zk180 0 19 (by decide +kernel)
theorem dX7_whose_36 : decode cX7_whose 36 = .ok (.iload_n 1, 1) := zk27 (by decide +kernel)
theorem dX7_whose_37 : decode cX7_whose 37 = .ok (.iaload, 1) := zk46 (by decide +kernel)
theorem dX7_whose_38 : decode cX7_whose 38 = .ok (.ifCond .ge 7, 3) := zk156 0 7 rfl (by decide +kernel)
theorem dX7_whose_41 : decode cX7_whose 41 = .ok (.ldc_w 295, 3) := zk19 1 39 (by decide +kernel)
theorem dX7_whose_44 : decode cX7_whose 44 = .ok (.ireturn, 1) := zk172 (by decide +kernel)
theorem dX7_whose_45 : decode cX7_whose 45 = .ok (.aload_n 0, 1) := zk42 (by decide +kernel)
theorem dX7_whose_46 : decode cX7_whose 46 = .ok (.invokevirtual 175, 3) := zk182 0 175 (by decide +kernel)
theorem dX7_whose_49 : decode cX7_whose 49 = .ok (.iconst (-1), 1) := zk2 (by decide +kernel)
theorem dX7_whose_50 : decode cX7_whose 50 = .ok (.istore 4, 2) := zk54 4 (by decide +kernel)
theorem dX7_whose_52 : decode cX7_whose 52 = .ok (.iconst 0, 1) := zk3 (by decide +kernel)
theorem dX7_whose_53 : decode cX7_whose 53 = .ok (.istore 5, 2) := zk54 5 (by decide +kernel)
theorem dX7_whose_55 : decode cX7_whose 55 = .ok (.iconst 0, 1) := zk3 (by decide +kernel)
theorem dX7_whose_56 : decode cX7_whose 56 = .ok (.istore 6, 2) := zk54 6 (by decide +kernel)
theorem dX7_whose_58 : decode cX7_whose 58 = .ok (.iload 6, 2) := zk21 6 (by decide +kernel)
theorem dX7_whose_60 : decode cX7_whose 60 = .ok (.iconst 3, 1) := zk6 (by decide +kernel)
theorem dX7_whose_61 : decode cX7_whose 61 = .ok (.if_icmp .ge 127, 3) := zk162 0 127 rfl (by decide +kernel)
theorem dX7_whose_64 : decode cX7_whose 64 = .ok (.aload_n 0, 1) := zk42 (by decide +kernel)
theorem dX7_whose_65 : decode cX7_whose 65 = .ok (.getfield 7, 3) := zk180 0 7 (by decide +kernel)
theorem dX7_whose_68 : decode cX7_whose 68 = .ok (.bipush 10, 2) := zk16 10 rfl (by decide +kernel)
theorem dX7_whose_70 : decode cX7_whose 70 = .ok (.iload 6, 2) := zk21 6 (by decide +kernel)
theorem dX7_whose_72 : decode cX7_whose 72 = .ok (.iastore, 1) := zk79 (by decide +kernel)
theorem dX7_whose_73 : decode cX7_whose 73 = .ok (.aload_n 0, 1) := zk42 (by decide +kernel)
theorem dX7_whose_74 : decode cX7_whose 74 = .ok (.iload_n 2, 1) := zk28 (by decide +kernel)
theorem dX7_whose_75 : decode cX7_whose 75 = .ok (.invokevirtual 178, 3) := zk182 0 178 (by decide +kernel)
theorem dX7_whose_78 : decode cX7_whose 78 = .ok (.iconst 0, 1) := zk3 (by decide +kernel)
theorem dX7_whose_79 : decode cX7_whose 79 = .ok (.istore 7, 2) := zk54 7 (by decide +kernel)
theorem dX7_whose_81 : decode cX7_whose 81 = .ok (.iconst 0, 1) := zk3 (by decide +kernel)
theorem dX7_whose_82 : decode cX7_whose 82 = .ok (.istore 8, 2) := zk54 8 (by decide +kernel)
theorem dX7_whose_84 : decode cX7_whose 84 = .ok (.iload 8, 2) := zk21 8 (by decide +kernel)
theorem dX7_whose_86 : decode cX7_whose 86 = .ok (.aload_n 0, 1) := zk42 (by decide +kernel)
theorem dX7_whose_87 : decode cX7_whose 87 = .ok (.getfield 22, 3) := zk180 0 22 (by decide +kernel)
theorem dX7_whose_90 : decode cX7_whose 90 = .ok (.iload_n 1, 1) := zk27 (by decide +kernel)
theorem dX7_whose_91 : decode cX7_whose 91 = .ok (.iaload, 1) := zk46 (by decide +kernel)
theorem dX7_whose_92 : decode cX7_whose 92 = .ok (.if_icmp .ge 66, 3) := zk162 0 66 rfl (by decide +kernel)
theorem dX7_whose_95 : decode cX7_whose 95 = .ok (.aload_n 0, 1) := zk42 (by decide +kernel)
theorem dX7_whose_96 : decode cX7_whose 96 = .ok (.getfield 25, 3) := zk180 0 25 (by decide +kernel)
theorem dX7_whose_99 : decode cX7_whose 99 = .ok (.bipush 24, 2) := zk16 24 rfl (by decide +kernel)
theorem dX7_whose_101 : decode cX7_whose 101 = .ok (.iload_n 1, 1) := zk27 (by decide +kernel)
theorem dX7_whose_102 : decode cX7_whose 102 = .ok (.imul, 1) := zk104 (by decide +kernel)
theorem dX7_whose_103 : decode cX7_whose 103 = .ok (.iload 8, 2) := zk21 8 (by decide +kernel)
theorem dX7_whose_105 : decode cX7_whose 105 = .ok (.iadd, 1) := zk96 (by decide +kernel)
theorem dX7_whose_106 : decode cX7_whose 106 = .ok (.iaload, 1) := zk46 (by decide +kernel)
theorem dX7_whose_107 : decode cX7_whose 107 = .ok (.istore 9, 2) := zk54 9 (by decide +kernel)
theorem dX7_whose_109 : decode cX7_whose 109 = .ok (.iload 7, 2) := zk21 7 (by decide +kernel)
theorem dX7_whose_111 : decode cX7_whose 111 = .ok (.iload 9, 2) := zk21 9 (by decide +kernel)
theorem dX7_whose_113 : decode cX7_whose 113 = .ok (.ldc 64, 2) := zk18 64 (by decide +kernel)
theorem dX7_whose_115 : decode cX7_whose 115 = .ok (.if_icmp .ne 7, 3) := zk160 0 7 rfl (by decide +kernel)
theorem dX7_whose_118 : decode cX7_whose 118 = .ok (.iconst 0, 1) := zk3 (by decide +kernel)
theorem dX7_whose_119 : decode cX7_whose 119 = .ok (.goto 30, 3) := zk167 0 30 rfl (by decide +kernel)
theorem dX7_whose_122 : decode cX7_whose 122 = .ok (.iload 9, 2) := zk21 9 (by decide +kernel)
theorem dX7_whose_124 : decode cX7_whose 124 = .ok (.iload 8, 2) := zk21 8 (by decide +kernel)
theorem dX7_whose_126 : decode cX7_whose 126 = .ok (.aload_n 0, 1) := zk42 (by decide +kernel)
theorem dX7_whose_127 : decode cX7_whose 127 = .ok (.getfield 7, 3) := zk180 0 7 (by decide +kernel)
theorem dX7_whose_130 : decode cX7_whose 130 = .ok (.iconst 0, 1) := zk3 (by decide +kernel)
theorem dX7_whose_131 : decode cX7_whose 131 = .ok (.iaload, 1) := zk46 (by decide +kernel)
theorem dX7_whose_132 : decode cX7_whose 132 = .ok (.if_icmp .ge 13, 3) := zk162 0 13 rfl (by decide +kernel)
theorem dX7_whose_135 : decode cX7_whose 135 = .ok (.aload_n 0, 1) := zk42 (by decide +kernel)
theorem dX7_whose_136 : decode cX7_whose 136 = .ok (.iload 8, 2) := zk21 8 (by decide +kernel)
theorem dX7_whose_138 : decode cX7_whose 138 = .ok (.iconst 2, 1) := zk5 (by decide +kernel)
theorem dX7_whose_139 : decode cX7_whose 139 = .ok (.invokevirtual 85, 3) := zk182 0 85 (by decide +kernel)
theorem dX7_whose_142 : decode cX7_whose 142 = .ok (.goto 4, 3) := zk167 0 4 rfl (by decide +kernel)
theorem dX7_whose_145 : decode cX7_whose 145 = .ok (.iconst 0, 1) := zk3 (by decide +kernel)
theorem dX7_whose_146 : decode cX7_whose 146 = .ok (.invokestatic 93, 3) := zk184 0 93 (by decide +kernel)
theorem dX7_whose_149 : decode cX7_whose 149 = .ok (.iadd, 1) := zk96 (by decide +kernel)
theorem dX7_whose_150 : decode cX7_whose 150 = .ok (.istore 7, 2) := zk54 7 (by decide +kernel)
theorem dX7_whose_152 : decode cX7_whose 152 = .ok (.iinc 8 1, 3) := by decide +kernel
theorem dX7_whose_155 : decode cX7_whose 155 = .ok (.goto (-71), 3) := zk167 255 185 rfl (by decide +kernel)
theorem dX7_whose_158 : decode cX7_whose 158 = .ok (.aload_n 0, 1) := zk42 (by decide +kernel)
theorem dX7_whose_159 : decode cX7_whose 159 = .ok (.invokevirtual 181, 3) := zk182 0 181 (by decide +kernel)
theorem dX7_whose_162 : decode cX7_whose 162 = .ok (.iload 4, 2) := zk21 4 (by decide +kernel)
theorem dX7_whose_164 : decode cX7_whose 164 = .ok (.ifCond .lt 10, 3) := zk155 0 10 rfl (by decide +kernel)
theorem dX7_whose_167 : decode cX7_whose 167 = .ok (.iload 7, 2) := zk21 7 (by decide +kernel)
theorem dX7_whose_169 : decode cX7_whose 169 = .ok (.iload 5, 2) := zk21 5 (by decide +kernel)
theorem dX7_whose_171 : decode cX7_whose 171 = .ok (.if_icmp .ge 11, 3) := zk162 0 11 rfl (by decide +kernel)
theorem dX7_whose_174 : decode cX7_whose 174 = .ok (.iload 6, 2) := zk21 6 (by decide +kernel)
theorem dX7_whose_176 : decode cX7_whose 176 = .ok (.istore 4, 2) := zk54 4 (by decide +kernel)
theorem dX7_whose_178 : decode cX7_whose 178 = .ok (.iload 7, 2) := zk21 7 (by decide +kernel)
theorem dX7_whose_180 : decode cX7_whose 180 = .ok (.istore 5, 2) := zk54 5 (by decide +kernel)
theorem dX7_whose_182 : decode cX7_whose 182 = .ok (.iinc 6 1, 3) := by decide +kernel
theorem dX7_whose_185 : decode cX7_whose 185 = .ok (.goto (-127), 3) := zk167 255 129 rfl (by decide +kernel)
theorem dX7_whose_188 : decode cX7_whose 188 = .ok (.iload_n 3, 1) := zk29 (by decide +kernel)
theorem dX7_whose_189 : decode cX7_whose 189 = .ok (.ifCond .ne 8, 3) := zk154 0 8 rfl (by decide +kernel)
theorem dX7_whose_192 : decode cX7_whose 192 = .ok (.iload 4, 2) := zk21 4 (by decide +kernel)
theorem dX7_whose_194 : decode cX7_whose 194 = .ok (.goto 5, 3) := zk167 0 5 rfl (by decide +kernel)
theorem dX7_whose_197 : decode cX7_whose 197 = .ok (.iload 5, 2) := zk21 5 (by decide +kernel)
theorem dX7_whose_199 : decode cX7_whose 199 = .ok (.ireturn, 1) := zk172 (by decide +kernel)
set_option maxRecDepth 20000 in
theorem ggX7_rest_X7_isSlot : GoodIn wsX7_rest wsX7_isSlot := goodIn_r _ [10, 11, 12, 13, 9, 14] rfl gw_wsX7_isSlot
set_option maxRecDepth 20000 in
theorem gX7_rest_X7_isSlot : GoodIn wsX7_rest (va_wsS RX7 303 yX7_isSlot wsX7_isSlot) := goodIn_app (goodIn_r _ [7, 8, 9] rfl (by decide +kernel)) ggX7_rest_X7_isSlot
theorem dX7_rest_0 : decode cX7_rest 0 = .ok (.iload_n 1, 1) := zk27 (by decide +kernel)
theorem dX7_rest_1 : decode cX7_rest 1 = .ok (.invokestatic 303, 3) := zk184 1 47 (by decide +kernel)
theorem dX7_rest_4 : decode cX7_rest 4 = .ok (.ifCond .ne 6, 3) := zk154 0 6 rfl (by decide +kernel)
theorem dX7_rest_7 : decode cX7_rest 7 = .ok (.ldc 80, 2) := zk18 80 (by decide +kernel)
theorem dX7_rest_9 : decode cX7_rest 9 = .ok (.ireturn, 1) := zk172 (by decide +kernel)
theorem dX7_rest_10 : decode cX7_rest 10 = .ok (.aload_n 0, 1) := zk42 (by decide +kernel)
theorem dX7_rest_11 : decode cX7_rest 11 = .ok (.getfield 28, 3) := zk180 0 28 (by decide +kernel)
theorem dX7_rest_14 : decode cX7_rest 14 = .ok (.iload_n 1, 1) := zk27 (by decide +kernel)
theorem dX7_rest_15 : decode cX7_rest 15 = .ok (.iaload, 1) := zk46 (by decide +kernel)
theorem dX7_rest_16 : decode cX7_rest 16 = .ok (.iconst 3, 1) := zk6 (by decide +kernel)
theorem dX7_rest_17 : decode cX7_rest 17 = .ok (.if_icmp .eq 21, 3) := zk159 0 21 rfl (by decide +kernel)
theorem dX7_rest_20 : decode cX7_rest 20 = .ok (.aload_n 0, 1) := zk42 (by decide +kernel)
theorem dX7_rest_21 : decode cX7_rest 21 = .ok (.getfield 28, 3) := zk180 0 28 (by decide +kernel)
theorem dX7_rest_24 : decode cX7_rest 24 = .ok (.iload_n 1, 1) := zk27 (by decide +kernel)
theorem dX7_rest_25 : decode cX7_rest 25 = .ok (.iaload, 1) := zk46 (by decide +kernel)
theorem dX7_rest_26 : decode cX7_rest 26 = .ok (.ifCond .ne 9, 3) := zk154 0 9 rfl (by decide +kernel)
theorem dX7_rest_29 : decode cX7_rest 29 = .ok (.ldc_w 295, 3) := zk19 1 39 (by decide +kernel)
theorem dX7_rest_32 : decode cX7_rest 32 = .ok (.goto 5, 3) := zk167 0 5 rfl (by decide +kernel)
theorem dX7_rest_35 : decode cX7_rest 35 = .ok (.ldc 129, 2) := zk18 129 (by decide +kernel)
theorem dX7_rest_37 : decode cX7_rest 37 = .ok (.ireturn, 1) := zk172 (by decide +kernel)
theorem dX7_rest_38 : decode cX7_rest 38 = .ok (.iload_n 2, 1) := zk28 (by decide +kernel)
theorem dX7_rest_39 : decode cX7_rest 39 = .ok (.ifCond .ne 9, 3) := zk154 0 9 rfl (by decide +kernel)
theorem dX7_rest_42 : decode cX7_rest 42 = .ok (.ldc_w 306, 3) := zk19 1 50 (by decide +kernel)
theorem dX7_rest_45 : decode cX7_rest 45 = .ok (.goto 11, 3) := zk167 0 11 rfl (by decide +kernel)
theorem dX7_rest_48 : decode cX7_rest 48 = .ok (.aload_n 0, 1) := zk42 (by decide +kernel)
theorem dX7_rest_49 : decode cX7_rest 49 = .ok (.getfield 31, 3) := zk180 0 31 (by decide +kernel)
theorem dX7_rest_52 : decode cX7_rest 52 = .ok (.iload_n 1, 1) := zk27 (by decide +kernel)
theorem dX7_rest_53 : decode cX7_rest 53 = .ok (.iaload, 1) := zk46 (by decide +kernel)
theorem dX7_rest_54 : decode cX7_rest 54 = .ok (.iload_n 2, 1) := zk28 (by decide +kernel)
theorem dX7_rest_55 : decode cX7_rest 55 = .ok (.irem, 1) := zk112 (by decide +kernel)
theorem dX7_rest_56 : decode cX7_rest 56 = .ok (.ireturn, 1) := zk172 (by decide +kernel)
theorem dX7_tell_0 : decode cX7_tell 0 = .ok (.aload_n 0, 1) := zk42 (by decide +kernel)
theorem dX7_tell_1 : decode cX7_tell 1 = .ok (.getfield 307, 3) := zk180 1 51 (by decide +kernel)
theorem dX7_tell_4 : decode cX7_tell 4 = .ok (.bipush 60, 2) := zk16 60 rfl (by decide +kernel)
theorem dX7_tell_6 : decode cX7_tell 6 = .ok (.if_icmp .ne 6, 3) := zk160 0 6 rfl (by decide +kernel)
theorem dX7_tell_9 : decode cX7_tell 9 = .ok (.ldc 81, 2) := zk18 81 (by decide +kernel)
theorem dX7_tell_11 : decode cX7_tell 11 = .ok (.ireturn, 1) := zk172 (by decide +kernel)
theorem dX7_tell_12 : decode cX7_tell 12 = .ok (.aload_n 0, 1) := zk42 (by decide +kernel)
theorem dX7_tell_13 : decode cX7_tell 13 = .ok (.getfield 58, 3) := zk180 0 58 (by decide +kernel)
theorem dX7_tell_16 : decode cX7_tell 16 = .ok (.aload_n 0, 1) := zk42 (by decide +kernel)
theorem dX7_tell_17 : decode cX7_tell 17 = .ok (.getfield 307, 3) := zk180 1 51 (by decide +kernel)
theorem dX7_tell_20 : decode cX7_tell 20 = .ok (.iload_n 1, 1) := zk27 (by decide +kernel)
theorem dX7_tell_21 : decode cX7_tell 21 = .ok (.iastore, 1) := zk79 (by decide +kernel)
theorem dX7_tell_22 : decode cX7_tell 22 = .ok (.aload_n 0, 1) := zk42 (by decide +kernel)
theorem dX7_tell_23 : decode cX7_tell 23 = .ok (.dup, 1) := zk89 (by decide +kernel)
theorem dX7_tell_24 : decode cX7_tell 24 = .ok (.getfield 307, 3) := zk180 1 51 (by decide +kernel)
theorem dX7_tell_27 : decode cX7_tell 27 = .ok (.iconst 1, 1) := zk4 (by decide +kernel)
theorem dX7_tell_28 : decode cX7_tell 28 = .ok (.iadd, 1) := zk96 (by decide +kernel)
theorem dX7_tell_29 : decode cX7_tell 29 = .ok (.putfield 307, 3) := zk181 1 51 (by decide +kernel)
theorem dX7_tell_32 : decode cX7_tell 32 = .ok (.aload_n 0, 1) := zk42 (by decide +kernel)
theorem dX7_tell_33 : decode cX7_tell 33 = .ok (.getfield 307, 3) := zk180 1 51 (by decide +kernel)
theorem dX7_tell_36 : decode cX7_tell 36 = .ok (.ireturn, 1) := zk172 (by decide +kernel)
