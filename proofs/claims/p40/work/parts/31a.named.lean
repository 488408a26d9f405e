set_option maxRecDepth 20000 in
theorem ggX7_book_X7_of : GoodIn wsX7_book wsX7_of := goodIn_r _ [7, 1, 8, 9, 10, 11, 12, 13, 14, 15, 16, 17, 18, 19, 20, 21, 22, 23, 24, 25, 26, 27, 28, 29, 30, 31, 32, 33, 34, 35, 36, 37, 38] rfl gw_wsX7_of
set_option maxRecDepth 20000 in
theorem gX7_book_X7_of : GoodIn wsX7_book (wsV RX7 85 RX7 yX7_of wsX7_of) := goodIn_app (goodIn_r _ [3, 4, 5, 6] rfl (by decide +kernel)) ggX7_book_X7_of
theorem dX7_book_0 : decode cX7_book 0 = .ok (.iload_n 1, 1) := zk27 (by decide +kernel)
theorem dX7_book_1 : decode cX7_book 1 = .ok (.tableswitch 55 0 3 #[31, 38, 45, 52], 31) := by decide +kernel
theorem dX7_book_32 : decode cX7_book 32 = .ok (.aload_n 0, 1) := zk42 (by decide +kernel)
theorem dX7_book_33 : decode cX7_book 33 = .ok (.getfield 7, 3) := zk180 0 7 (by decide +kernel)
theorem dX7_book_36 : decode cX7_book 36 = .ok (.iconst 4, 1) := zk7 (by decide +kernel)
theorem dX7_book_37 : decode cX7_book 37 = .ok (.iaload, 1) := zk46 (by decide +kernel)
theorem dX7_book_38 : decode cX7_book 38 = .ok (.ireturn, 1) := zk172 (by decide +kernel)
theorem dX7_book_39 : decode cX7_book 39 = .ok (.aload_n 0, 1) := zk42 (by decide +kernel)
theorem dX7_book_40 : decode cX7_book 40 = .ok (.getfield 7, 3) := zk180 0 7 (by decide +kernel)
theorem dX7_book_43 : decode cX7_book 43 = .ok (.iconst 3, 1) := zk6 (by decide +kernel)
theorem dX7_book_44 : decode cX7_book 44 = .ok (.iaload, 1) := zk46 (by decide +kernel)
theorem dX7_book_45 : decode cX7_book 45 = .ok (.ireturn, 1) := zk172 (by decide +kernel)
theorem dX7_book_46 : decode cX7_book 46 = .ok (.aload_n 0, 1) := zk42 (by decide +kernel)
theorem dX7_book_47 : decode cX7_book 47 = .ok (.getfield 7, 3) := zk180 0 7 (by decide +kernel)
theorem dX7_book_50 : decode cX7_book 50 = .ok (.iconst 5, 1) := zk8 (by decide +kernel)
theorem dX7_book_51 : decode cX7_book 51 = .ok (.iaload, 1) := zk46 (by decide +kernel)
theorem dX7_book_52 : decode cX7_book 52 = .ok (.ireturn, 1) := zk172 (by decide +kernel)
theorem dX7_book_53 : decode cX7_book 53 = .ok (.goto 6, 3) := zk167 0 6 rfl (by decide +kernel)
theorem dX7_book_56 : decode cX7_book 56 = .ok (.ldc 80, 2) := zk18 80 (by decide +kernel)
theorem dX7_book_58 : decode cX7_book 58 = .ok (.ireturn, 1) := zk172 (by decide +kernel)
theorem dX7_book_59 : decode cX7_book 59 = .ok (.iconst 0, 1) := zk3 (by decide +kernel)
theorem dX7_book_60 : decode cX7_book 60 = .ok (.istore_n 2, 1) := zk61 (by decide +kernel)
theorem dX7_book_61 : decode cX7_book 61 = .ok (.iconst 0, 1) := zk3 (by decide +kernel)
theorem dX7_book_62 : decode cX7_book 62 = .ok (.istore_n 3, 1) := zk62 (by decide +kernel)
theorem dX7_book_63 : decode cX7_book 63 = .ok (.iload_n 3, 1) := zk29 (by decide +kernel)
theorem dX7_book_64 : decode cX7_book 64 = .ok (.aload_n 0, 1) := zk42 (by decide +kernel)
theorem dX7_book_65 : decode cX7_book 65 = .ok (.getfield 7, 3) := zk180 0 7 (by decide +kernel)
theorem dX7_book_68 : decode cX7_book 68 = .ok (.iconst 0, 1) := zk3 (by decide +kernel)
theorem dX7_book_69 : decode cX7_book 69 = .ok (.iaload, 1) := zk46 (by decide +kernel)
theorem dX7_book_70 : decode cX7_book 70 = .ok (.if_icmp .ge 18, 3) := zk162 0 18 rfl (by decide +kernel)
theorem dX7_book_73 : decode cX7_book 73 = .ok (.iload_n 2, 1) := zk28 (by decide +kernel)
theorem dX7_book_74 : decode cX7_book 74 = .ok (.aload_n 0, 1) := zk42 (by decide +kernel)
theorem dX7_book_75 : decode cX7_book 75 = .ok (.iload_n 3, 1) := zk29 (by decide +kernel)
theorem dX7_book_76 : decode cX7_book 76 = .ok (.iconst 2, 1) := zk5 (by decide +kernel)
theorem dX7_book_77 : decode cX7_book 77 = .ok (.invokevirtual 85, 3) := zk182 0 85 (by decide +kernel)
theorem dX7_book_80 : decode cX7_book 80 = .ok (.iadd, 1) := zk96 (by decide +kernel)
theorem dX7_book_81 : decode cX7_book 81 = .ok (.istore_n 2, 1) := zk61 (by decide +kernel)
theorem dX7_book_82 : decode cX7_book 82 = .ok (.iinc 3 1, 3) := by decide +kernel
theorem dX7_book_85 : decode cX7_book 85 = .ok (.goto (-22), 3) := zk167 255 234 rfl (by decide +kernel)
theorem dX7_book_88 : decode cX7_book 88 = .ok (.iload_n 2, 1) := zk28 (by decide +kernel)
theorem dX7_book_89 : decode cX7_book 89 = .ok (.ireturn, 1) := zk172 (by decide +kernel)
theorem dX7_laysBack_0 : decode cX7_laysBack 0 = .ok (.iconst 0, 1) := zk3 (by decide +kernel)
theorem dX7_laysBack_1 : decode cX7_laysBack 1 = .ok (.istore_n 1, 1) := zk60 (by decide +kernel)
theorem dX7_laysBack_2 : decode cX7_laysBack 2 = .ok (.iload_n 1, 1) := zk27 (by decide +kernel)
theorem dX7_laysBack_3 : decode cX7_laysBack 3 = .ok (.bipush 47, 2) := zk16 47 rfl (by decide +kernel)
theorem dX7_laysBack_5 : decode cX7_laysBack 5 = .ok (.if_icmp .ge 21, 3) := zk162 0 21 rfl (by decide +kernel)
theorem dX7_laysBack_8 : decode cX7_laysBack 8 = .ok (.aload_n 0, 1) := zk42 (by decide +kernel)
theorem dX7_laysBack_9 : decode cX7_laysBack 9 = .ok (.getfield 7, 3) := zk180 0 7 (by decide +kernel)
theorem dX7_laysBack_12 : decode cX7_laysBack 12 = .ok (.iload_n 1, 1) := zk27 (by decide +kernel)
theorem dX7_laysBack_13 : decode cX7_laysBack 13 = .ok (.aload_n 0, 1) := zk42 (by decide +kernel)
theorem dX7_laysBack_14 : decode cX7_laysBack 14 = .ok (.getfield 43, 3) := zk180 0 43 (by decide +kernel)
theorem dX7_laysBack_17 : decode cX7_laysBack 17 = .ok (.iload_n 1, 1) := zk27 (by decide +kernel)
theorem dX7_laysBack_18 : decode cX7_laysBack 18 = .ok (.iaload, 1) := zk46 (by decide +kernel)
theorem dX7_laysBack_19 : decode cX7_laysBack 19 = .ok (.iastore, 1) := zk79 (by decide +kernel)
theorem dX7_laysBack_20 : decode cX7_laysBack 20 = .ok (.iinc 1 1, 3) := by decide +kernel
theorem dX7_laysBack_23 : decode cX7_laysBack 23 = .ok (.goto (-21), 3) := zk167 255 235 rfl (by decide +kernel)
theorem dX7_laysBack_26 : decode cX7_laysBack 26 = .ok (.return_, 1) := zk177 (by decide +kernel)
set_option maxRecDepth 20000 in
theorem gw_wsX7_goesOn : wsX7_goesOn.all goodWord = true := by decide +kernel
def bs_wsX7_goesOnMany : List (List Cond) := [[.code yX7_goesOnMany cX7_goesOnMany 3 none], wsX7_goesOnMany_r1, wsX7_goesOnMany_r2, wsX7_goesOnMany_r3, wsX7_goesOnMany_r4, wsX70]
theorem bse_wsX7_goesOnMany : wsX7_goesOnMany = bs_wsX7_goesOnMany.flatten := by
  unfold wsX7_goesOnMany bs_wsX7_goesOnMany
  simp only [List.flatten_cons, List.flatten_nil, List.append_nil, List.append_assoc, List.cons_append, List.nil_append]
set_option maxRecDepth 20000 in
theorem ggX7_goesOnMany_X7_goesOn : GoodIn wsX7_goesOnMany wsX7_goesOn := goodIn_pc bs_wsX7_goesOnMany bse_wsX7_goesOnMany _ [(1, [4, 5, 6, 7, 3, 8, 9, 10, 11, 12, 13, 14, 15, 16, 17, 18, 19, 20, 21, 22, 23]), (2, [0, 1, 2, 3, 4, 5, 6, 7, 8, 9, 10, 11, 12, 13, 14, 15, 16, 17, 18, 19, 20, 21, 22, 23]), (3, [0, 1, 2, 3, 4, 5, 6, 7, 8, 9, 10, 11, 12, 13, 14, 15, 16, 17, 18, 19, 20, 21, 22, 23]), (4, [0, 1, 2, 3, 4, 5, 6, 7, 8, 9, 10, 11, 12]), (5, [0, 1, 2, 3, 4, 5, 6, 7, 8, 9, 10, 11, 12, 13, 14, 15, 16, 17, 18, 19, 20, 21, 22, 23, 24, 25, 26, 27, 28, 29, 30])] rfl gw_wsX7_goesOn
set_option maxRecDepth 20000 in
theorem gX7_goesOnMany_X7_goesOn : GoodIn wsX7_goesOnMany (wsV RX7 172 RX7 yX7_goesOn wsX7_goesOn) := goodIn_app (goodIn_pc bs_wsX7_goesOnMany bse_wsX7_goesOnMany _ [(1, [0, 1, 2, 3])] rfl (by decide +kernel)) ggX7_goesOnMany_X7_goesOn
theorem dX7_goesOnMany_0 : decode cX7_goesOnMany 0 = .ok (.iconst 0, 1) := zk3 (by decide +kernel)
theorem dX7_goesOnMany_1 : decode cX7_goesOnMany 1 = .ok (.istore_n 2, 1) := zk61 (by decide +kernel)
theorem dX7_goesOnMany_2 : decode cX7_goesOnMany 2 = .ok (.iload_n 2, 1) := zk28 (by decide +kernel)
theorem dX7_goesOnMany_3 : decode cX7_goesOnMany 3 = .ok (.iload_n 1, 1) := zk27 (by decide +kernel)
theorem dX7_goesOnMany_4 : decode cX7_goesOnMany 4 = .ok (.if_icmp .ge 13, 3) := zk162 0 13 rfl (by decide +kernel)
theorem dX7_goesOnMany_7 : decode cX7_goesOnMany 7 = .ok (.aload_n 0, 1) := zk42 (by decide +kernel)
theorem dX7_goesOnMany_8 : decode cX7_goesOnMany 8 = .ok (.invokevirtual 172, 3) := zk182 0 172 (by decide +kernel)
theorem dX7_goesOnMany_11 : decode cX7_goesOnMany 11 = .ok (.iinc 2 1, 3) := by decide +kernel
theorem dX7_goesOnMany_14 : decode cX7_goesOnMany 14 = .ok (.goto (-12), 3) := zk167 255 244 rfl (by decide +kernel)
theorem dX7_goesOnMany_17 : decode cX7_goesOnMany 17 = .ok (.return_, 1) := zk177 (by decide +kernel)
def bs_wsX7_behind : List (List Cond) := [[.code yX7_behind cX7_behind 4 (some .int)], wsX7_behind_r1, wsX7_behind_r2, wsX7_behind_r3, wsX7_behind_r4, wsX7_behind_r5, wsX70]
theorem bse_wsX7_behind : wsX7_behind = bs_wsX7_behind.flatten := by
  unfold wsX7_behind bs_wsX7_behind
  simp only [List.flatten_cons, List.flatten_nil, List.append_nil, List.append_assoc, List.cons_append, List.nil_append]
set_option maxRecDepth 20000 in
theorem ggX7_behind_X7_isIn : GoodIn wsX7_behind wsX7_isIn := goodIn_pc bs_wsX7_behind bse_wsX7_behind _ [(1, [7])] rfl gw_wsX7_isIn
set_option maxRecDepth 20000 in
theorem gX7_behind_X7_isIn : GoodIn wsX7_behind (va_wsS RX7 65 yX7_isIn wsX7_isIn) := goodIn_app (goodIn_pc bs_wsX7_behind bse_wsX7_behind _ [(1, [4, 5, 6])] rfl (by decide +kernel)) ggX7_behind_X7_isIn
set_option maxRecDepth 20000 in
theorem gw_wsX7_laysBy : wsX7_laysBy.all goodWord = true := by decide +kernel
set_option maxRecDepth 20000 in
theorem ggX7_behind_X7_laysBy : GoodIn wsX7_behind wsX7_laysBy := goodIn_pc bs_wsX7_behind bse_wsX7_behind _ [(1, [11, 12, 3]), (6, [0, 1, 2, 3, 4, 5, 6, 7, 8, 9, 10, 11, 12, 13, 14, 15, 16, 17, 18, 19, 20, 21, 22, 23, 24, 25, 26, 27, 28, 29, 30])] rfl gw_wsX7_laysBy
set_option maxRecDepth 20000 in
theorem gX7_behind_X7_laysBy : GoodIn wsX7_behind (wsV RX7 175 RX7 yX7_laysBy wsX7_laysBy) := goodIn_app (goodIn_pc bs_wsX7_behind bse_wsX7_behind _ [(1, [8, 9, 10, 6])] rfl (by decide +kernel)) ggX7_behind_X7_laysBy
set_option maxRecDepth 20000 in
theorem gw_wsX7_goesOnMany : wsX7_goesOnMany.all goodWord = true := by decide +kernel
set_option maxRecDepth 20000 in
theorem ggX7_behind_X7_goesOnMany : GoodIn wsX7_behind wsX7_goesOnMany := goodIn_pc bs_wsX7_behind bse_wsX7_behind _ [(1, [16, 17, 18, 19, 6, 20, 21, 22, 23]), (2, [0]), (1, [3]), (2, [1, 2, 3, 4, 5, 6, 7, 8, 9, 10, 11, 12, 13, 14, 15, 16, 17, 18, 19, 20, 21, 22, 23]), (3, [0, 1, 2, 3]), (1, [4, 5, 7]), (3, [4, 5, 6, 7, 8, 9, 10, 11, 12, 13, 14, 15, 16, 17, 18, 19, 20, 21, 22, 23]), (4, [0, 1, 2, 3, 4, 5, 6, 7, 8, 9, 10, 11, 12, 13, 14, 15, 16, 17, 18, 19, 20, 21, 22, 23]), (5, [0]), (6, [0, 1, 2, 3, 4, 5, 6, 7, 8, 9, 10, 11, 12, 13, 14, 15, 16, 17, 18, 19, 20, 21, 22, 23, 24, 25, 26, 27, 28, 29, 30])] rfl gw_wsX7_goesOnMany
set_option maxRecDepth 20000 in
theorem gX7_behind_X7_goesOnMany : GoodIn wsX7_behind (wsV RX7 178 RX7 yX7_goesOnMany wsX7_goesOnMany) := goodIn_app (goodIn_pc bs_wsX7_behind bse_wsX7_behind _ [(1, [13, 14, 15, 6])] rfl (by decide +kernel)) ggX7_behind_X7_goesOnMany
set_option maxRecDepth 20000 in
theorem gw_wsX7_laysBack : wsX7_laysBack.all goodWord = true := by decide +kernel
set_option maxRecDepth 20000 in
theorem ggX7_behind_X7_laysBack : GoodIn wsX7_behind wsX7_laysBack := goodIn_pc bs_wsX7_behind bse_wsX7_behind _ [(5, [4]), (1, [3, 12]), (6, [0, 1, 2, 3, 4, 5, 6, 7, 8, 9, 10, 11, 12, 13, 14, 15, 16, 17, 18, 19, 20, 21, 22, 23, 24, 25, 26, 27, 28, 29, 30])] rfl gw_wsX7_laysBack
set_option maxRecDepth 20000 in
theorem gX7_behind_X7_laysBack : GoodIn wsX7_behind (wsV RX7 181 RX7 yX7_laysBack wsX7_laysBack) := goodIn_app (goodIn_pc bs_wsX7_behind bse_wsX7_behind _ [(5, [1, 2, 3]), (1, [6])] rfl (by decide +kernel)) ggX7_behind_X7_laysBack
theorem dX7_behind_0 : decode cX7_behind 0 = .ok (.iload_n 1, 1) := zk27 (by decide +kernel)
theorem dX7_behind_1 : decode cX7_behind 1 = .ok (.i2l, 1) := zk133 (by decide +kernel)
theorem dX7_behind_2 : decode cX7_behind 2 = .ok (.lconst 0, 1) := zk9 (by decide +kernel)
theorem dX7_behind_3 : decode cX7_behind 3 = .ok (.ldc2_w 170, 3) := zk20 0 170 (by decide +kernel)
theorem dX7_behind_6 : decode cX7_behind 6 = .ok (.invokestatic 65, 3) := zk184 0 65 (by decide +kernel)
theorem dX7_behind_9 : decode cX7_behind 9 = .ok (.ifCond .eq 15, 3) := zk153 0 15 rfl (by decide +kernel)
theorem dX7_behind_12 : decode cX7_behind 12 = .ok (.iload_n 2, 1) := zk28 (by decide +kernel)
theorem dX7_behind_13 : decode cX7_behind 13 = .ok (.i2l, 1) := zk133 (by decide +kernel)
theorem dX7_behind_14 : decode cX7_behind 14 = .ok (.lconst 0, 1) := zk9 (by decide +kernel)
theorem dX7_behind_15 : decode cX7_behind 15 = .ok (.ldc2_w 133, 3) := zk20 0 133 (by decide +kernel)
theorem dX7_behind_18 : decode cX7_behind 18 = .ok (.invokestatic 65, 3) := zk184 0 65 (by decide +kernel)
theorem dX7_behind_21 : decode cX7_behind 21 = .ok (.ifCond .ne 6, 3) := zk154 0 6 rfl (by decide +kernel)
theorem dX7_behind_24 : decode cX7_behind 24 = .ok (.ldc 80, 2) := zk18 80 (by decide +kernel)
theorem dX7_behind_26 : decode cX7_behind 26 = .ok (.ireturn, 1) := zk172 (by decide +kernel)
theorem dX7_behind_27 : decode cX7_behind 27 = .ok (.aload_n 0, 1) := zk42 (by decide +kernel)
theorem dX7_behind_28 : decode cX7_behind 28 = .ok (.invokevirtual 175, 3) := zk182 0 175 (by decide +kernel)
theorem dX7_behind_31 : decode cX7_behind 31 = .ok (.aload_n 0, 1) := zk42 (by decide +kernel)
theorem dX7_behind_32 : decode cX7_behind 32 = .ok (.iload_n 1, 1) := zk27 (by decide +kernel)
theorem dX7_behind_33 : decode cX7_behind 33 = .ok (.invokevirtual 178, 3) := zk182 0 178 (by decide +kernel)
theorem dX7_behind_36 : decode cX7_behind 36 = .ok (.iload_n 2, 1) := zk28 (by decide +kernel)
theorem dX7_behind_37 : decode cX7_behind 37 = .ok (.ifCond .ne 12, 3) := zk154 0 12 rfl (by decide +kernel)
theorem dX7_behind_40 : decode cX7_behind 40 = .ok (.aload_n 0, 1) := zk42 (by decide +kernel)
theorem dX7_behind_41 : decode cX7_behind 41 = .ok (.getfield 7, 3) := zk180 0 7 (by decide +kernel)
theorem dX7_behind_44 : decode cX7_behind 44 = .ok (.iconst 4, 1) := zk7 (by decide +kernel)
theorem dX7_behind_45 : decode cX7_behind 45 = .ok (.iaload, 1) := zk46 (by decide +kernel)
theorem dX7_behind_46 : decode cX7_behind 46 = .ok (.goto 38, 3) := zk167 0 38 rfl (by decide +kernel)
theorem dX7_behind_49 : decode cX7_behind 49 = .ok (.iload_n 2, 1) := zk28 (by decide +kernel)
theorem dX7_behind_50 : decode cX7_behind 50 = .ok (.iconst 1, 1) := zk4 (by decide +kernel)
theorem dX7_behind_51 : decode cX7_behind 51 = .ok (.if_icmp .ne 12, 3) := zk160 0 12 rfl (by decide +kernel)
theorem dX7_behind_54 : decode cX7_behind 54 = .ok (.aload_n 0, 1) := zk42 (by decide +kernel)
theorem dX7_behind_55 : decode cX7_behind 55 = .ok (.getfield 7, 3) := zk180 0 7 (by decide +kernel)
theorem dX7_behind_58 : decode cX7_behind 58 = .ok (.iconst 3, 1) := zk6 (by decide +kernel)
theorem dX7_behind_59 : decode cX7_behind 59 = .ok (.iaload, 1) := zk46 (by decide +kernel)
theorem dX7_behind_60 : decode cX7_behind 60 = .ok (.goto 24, 3) := zk167 0 24 rfl (by decide +kernel)
theorem dX7_behind_63 : decode cX7_behind 63 = .ok (.iload_n 2, 1) := zk28 (by decide +kernel)
theorem dX7_behind_64 : decode cX7_behind 64 = .ok (.iconst 2, 1) := zk5 (by decide +kernel)
theorem dX7_behind_65 : decode cX7_behind 65 = .ok (.if_icmp .ne 13, 3) := zk160 0 13 rfl (by decide +kernel)
theorem dX7_behind_68 : decode cX7_behind 68 = .ok (.aload_n 0, 1) := zk42 (by decide +kernel)
theorem dX7_behind_69 : decode cX7_behind 69 = .ok (.getfield 7, 3) := zk180 0 7 (by decide +kernel)
theorem dX7_behind_72 : decode cX7_behind 72 = .ok (.bipush 7, 2) := zk16 7 rfl (by decide +kernel)
theorem dX7_behind_74 : decode cX7_behind 74 = .ok (.iaload, 1) := zk46 (by decide +kernel)
theorem dX7_behind_75 : decode cX7_behind 75 = .ok (.goto 9, 3) := zk167 0 9 rfl (by decide +kernel)
theorem dX7_behind_78 : decode cX7_behind 78 = .ok (.aload_n 0, 1) := zk42 (by decide +kernel)
theorem dX7_behind_79 : decode cX7_behind 79 = .ok (.getfield 7, 3) := zk180 0 7 (by decide +kernel)
theorem dX7_behind_82 : decode cX7_behind 82 = .ok (.iconst 5, 1) := zk8 (by decide +kernel)
theorem dX7_behind_83 : decode cX7_behind 83 = .ok (.iaload, 1) := zk46 (by decide +kernel)
theorem dX7_behind_84 : decode cX7_behind 84 = .ok (.istore_n 3, 1) := zk62 (by decide +kernel)
theorem dX7_behind_85 : decode cX7_behind 85 = .ok (.aload_n 0, 1) := zk42 (by decide +kernel)
theorem dX7_behind_86 : decode cX7_behind 86 = .ok (.invokevirtual 181, 3) := zk182 0 181 (by decide +kernel)
theorem dX7_behind_89 : decode cX7_behind 89 = .ok (.iload_n 3, 1) := zk29 (by decide +kernel)
theorem dX7_behind_90 : decode cX7_behind 90 = .ok (.ireturn, 1) := zk172 (by decide +kernel)
def bs_wsX7_best : List (List Cond) := [[.code yX7_best cX7_best 9 (some .int)], wsX7_best_r1, wsX7_best_r2, wsX7_best_r3, wsX7_best_r4, wsX70]
theorem bse_wsX7_best : wsX7_best = bs_wsX7_best.flatten := by
  unfold wsX7_best bs_wsX7_best
  simp only [List.flatten_cons, List.flatten_nil, List.append_nil, List.append_assoc, List.cons_append, List.nil_append]
set_option maxRecDepth 20000 in
theorem ggX7_best_X7_isIn : GoodIn wsX7_best wsX7_isIn := goodIn_pc bs_wsX7_best bse_wsX7_best _ [(1, [6])] rfl gw_wsX7_isIn
set_option maxRecDepth 20000 in
theorem gX7_best_X7_isIn : GoodIn wsX7_best (va_wsS RX7 65 yX7_isIn wsX7_isIn) := goodIn_app (goodIn_pc bs_wsX7_best bse_wsX7_best _ [(1, [3, 4, 5])] rfl (by decide +kernel)) ggX7_best_X7_isIn
set_option maxRecDepth 20000 in
theorem ggX7_best_X7_laysBy : GoodIn wsX7_best wsX7_laysBy := goodIn_pc bs_wsX7_best bse_wsX7_best _ [(1, [10, 11, 2]), (5, [0, 1, 2, 3, 4, 5, 6, 7, 8, 9, 10, 11, 12, 13, 14, 15, 16, 17, 18, 19, 20, 21, 22, 23, 24, 25, 26, 27, 28, 29, 30])] rfl gw_wsX7_laysBy
set_option maxRecDepth 20000 in
theorem gX7_best_X7_laysBy : GoodIn wsX7_best (wsV RX7 175 RX7 yX7_laysBy wsX7_laysBy) := goodIn_app (goodIn_pc bs_wsX7_best bse_wsX7_best _ [(1, [7, 8, 9, 5])] rfl (by decide +kernel)) ggX7_best_X7_laysBy
set_option maxRecDepth 20000 in
theorem ggX7_best_X7_goesOnBy : GoodIn wsX7_best wsX7_goesOnBy := goodIn_pc bs_wsX7_best bse_wsX7_best _ [(1, [15, 2, 16, 17, 18, 5, 19, 20, 21, 22, 23]), (2, [0, 1, 2, 3, 4, 5, 6, 7, 8, 9, 10, 11, 12, 13, 14]), (1, [3, 4, 6]), (2, [15, 16, 17, 18, 19, 20, 21, 22, 23]), (3, [0, 1, 2, 3, 4, 5, 6, 7, 8, 9, 10, 11, 12, 13, 14, 15, 16, 17, 18, 19, 20, 21, 22, 23]), (4, [0, 1, 2, 3]), (5, [0, 1, 2, 3, 4, 5, 6, 7, 8, 9, 10, 11, 12, 13, 14, 15, 16, 17, 18, 19, 20, 21, 22, 23, 24, 25, 26, 27, 28, 29, 30])] rfl gw_wsX7_goesOnBy
set_option maxRecDepth 20000 in
theorem gX7_best_X7_goesOnBy : GoodIn wsX7_best (wsV RX7 166 RX7 yX7_goesOnBy wsX7_goesOnBy) := goodIn_app (goodIn_pc bs_wsX7_best bse_wsX7_best _ [(1, [12, 13, 14, 5])] rfl (by decide +kernel)) ggX7_best_X7_goesOnBy
set_option maxRecDepth 20000 in
theorem ggX7_best_X7_laysBack : GoodIn wsX7_best wsX7_laysBack := goodIn_pc bs_wsX7_best bse_wsX7_best _ [(4, [7]), (1, [2, 11]), (5, [0, 1, 2, 3, 4, 5, 6, 7, 8, 9, 10, 11, 12, 13, 14, 15, 16, 17, 18, 19, 20, 21, 22, 23, 24, 25, 26, 27, 28, 29, 30])] rfl gw_wsX7_laysBack
set_option maxRecDepth 20000 in
theorem gX7_best_X7_laysBack : GoodIn wsX7_best (wsV RX7 181 RX7 yX7_laysBack wsX7_laysBack) := goodIn_app (goodIn_pc bs_wsX7_best bse_wsX7_best _ [(4, [4, 5, 6]), (1, [5])] rfl (by decide +kernel)) ggX7_best_X7_laysBack
theorem dX7_best_0 : decode cX7_best 0 = .ok (.iload_n 1, 1) := zk27 (by decide +kernel)
theorem dX7_best_1 : decode cX7_best 1 = .ok (.i2l, 1) := zk133 (by decide +kernel)
theorem dX7_best_2 : decode cX7_best 2 = .ok (.lconst 1, 1) := zk10 (by decide +kernel)
theorem dX7_best_3 : decode cX7_best 3 = .ok (.ldc2_w 74, 3) := zk20 0 74 (by decide +kernel)
theorem dX7_best_6 : decode cX7_best 6 = .ok (.invokestatic 65, 3) := zk184 0 65 (by decide +kernel)
theorem dX7_best_9 : decode cX7_best 9 = .ok (.ifCond .eq 13, 3) := zk153 0 13 rfl (by decide +kernel)
theorem dX7_best_12 : decode cX7_best 12 = .ok (.iload_n 2, 1) := zk28 (by decide +kernel)
theorem dX7_best_13 : decode cX7_best 13 = .ok (.i2l, 1) := zk133 (by decide +kernel)
theorem dX7_best_14 : decode cX7_best 14 = .ok (.lconst 0, 1) := zk9 (by decide +kernel)
theorem dX7_best_15 : decode cX7_best 15 = .ok (.lconst 1, 1) := zk10 (by decide +kernel)
theorem dX7_best_16 : decode cX7_best 16 = .ok (.invokestatic 65, 3) := zk184 0 65 (by decide +kernel)
theorem dX7_best_19 : decode cX7_best 19 = .ok (.ifCond .ne 6, 3) := zk154 0 6 rfl (by decide +kernel)
theorem dX7_best_22 : decode cX7_best 22 = .ok (.ldc 80, 2) := zk18 80 (by decide +kernel)
theorem dX7_best_24 : decode cX7_best 24 = .ok (.ireturn, 1) := zk172 (by decide +kernel)
theorem dX7_best_25 : decode cX7_best 25 = .ok (.iconst 1, 1) := zk4 (by decide +kernel)
theorem dX7_best_26 : decode cX7_best 26 = .ok (.istore_n 3, 1) := zk62 (by decide +kernel)
theorem dX7_best_27 : decode cX7_best 27 = .ok (.iconst 1, 1) := zk4 (by decide +kernel)
theorem dX7_best_28 : decode cX7_best 28 = .ok (.istore 4, 2) := zk54 4 (by decide +kernel)
theorem dX7_best_30 : decode cX7_best 30 = .ok (.iload 4, 2) := zk21 4 (by decide +kernel)
theorem dX7_best_32 : decode cX7_best 32 = .ok (.iload_n 1, 1) := zk27 (by decide +kernel)
theorem dX7_best_33 : decode cX7_best 33 = .ok (.if_icmp .ge 13, 3) := zk162 0 13 rfl (by decide +kernel)
theorem dX7_best_36 : decode cX7_best 36 = .ok (.iload_n 3, 1) := zk29 (by decide +kernel)
theorem dX7_best_37 : decode cX7_best 37 = .ok (.iconst 3, 1) := zk6 (by decide +kernel)
theorem dX7_best_38 : decode cX7_best 38 = .ok (.imul, 1) := zk104 (by decide +kernel)
theorem dX7_best_39 : decode cX7_best 39 = .ok (.istore_n 3, 1) := zk62 (by decide +kernel)
theorem dX7_best_40 : decode cX7_best 40 = .ok (.iinc 4 1, 3) := by decide +kernel
theorem dX7_best_43 : decode cX7_best 43 = .ok (.goto (-13), 3) := zk167 255 243 rfl (by decide +kernel)
theorem dX7_best_46 : decode cX7_best 46 = .ok (.aload_n 0, 1) := zk42 (by decide +kernel)
theorem dX7_best_47 : decode cX7_best 47 = .ok (.invokevirtual 175, 3) := zk182 0 175 (by decide +kernel)
theorem dX7_best_50 : decode cX7_best 50 = .ok (.iconst (-1), 1) := zk2 (by decide +kernel)
theorem dX7_best_51 : decode cX7_best 51 = .ok (.istore 4, 2) := zk54 4 (by decide +kernel)
theorem dX7_best_53 : decode cX7_best 53 = .ok (.iconst 0, 1) := zk3 (by decide +kernel)
theorem dX7_best_54 : decode cX7_best 54 = .ok (.istore 5, 2) := zk54 5 (by decide +kernel)
theorem dX7_best_56 : decode cX7_best 56 = .ok (.iconst 0, 1) := zk3 (by decide +kernel)
theorem dX7_best_57 : decode cX7_best 57 = .ok (.istore 6, 2) := zk54 6 (by decide +kernel)
theorem dX7_best_59 : decode cX7_best 59 = .ok (.iload 6, 2) := zk21 6 (by decide +kernel)
theorem dX7_best_61 : decode cX7_best 61 = .ok (.iconst 3, 1) := zk6 (by decide +kernel)
theorem dX7_best_62 : decode cX7_best 62 = .ok (.iload_n 3, 1) := zk29 (by decide +kernel)
theorem dX7_best_63 : decode cX7_best 63 = .ok (.imul, 1) := zk104 (by decide +kernel)
theorem dX7_best_64 : decode cX7_best 64 = .ok (.if_icmp .ge 91, 3) := zk162 0 91 rfl (by decide +kernel)
theorem dX7_best_67 : decode cX7_best 67 = .ok (.iload_n 3, 1) := zk29 (by decide +kernel)
theorem dX7_best_68 : decode cX7_best 68 = .ok (.istore 7, 2) := zk54 7 (by decide +kernel)
theorem dX7_best_70 : decode cX7_best 70 = .ok (.iload 7, 2) := zk21 7 (by decide +kernel)
theorem dX7_best_72 : decode cX7_best 72 = .ok (.ifCond .le 45, 3) := zk158 0 45 rfl (by decide +kernel)
theorem dX7_best_75 : decode cX7_best 75 = .ok (.iload 6, 2) := zk21 6 (by decide +kernel)
theorem dX7_best_77 : decode cX7_best 77 = .ok (.iload 7, 2) := zk21 7 (by decide +kernel)
theorem dX7_best_79 : decode cX7_best 79 = .ok (.idiv, 1) := zk108 (by decide +kernel)
theorem dX7_best_80 : decode cX7_best 80 = .ok (.iconst 3, 1) := zk6 (by decide +kernel)
theorem dX7_best_81 : decode cX7_best 81 = .ok (.irem, 1) := zk112 (by decide +kernel)
theorem dX7_best_82 : decode cX7_best 82 = .ok (.istore 8, 2) := zk54 8 (by decide +kernel)
theorem dX7_best_84 : decode cX7_best 84 = .ok (.aload_n 0, 1) := zk42 (by decide +kernel)
theorem dX7_best_85 : decode cX7_best 85 = .ok (.iload 8, 2) := zk21 8 (by decide +kernel)
theorem dX7_best_87 : decode cX7_best 87 = .ok (.ifCond .ne 7, 3) := zk154 0 7 rfl (by decide +kernel)
theorem dX7_best_90 : decode cX7_best 90 = .ok (.iconst 0, 1) := zk3 (by decide +kernel)
theorem dX7_best_91 : decode cX7_best 91 = .ok (.goto 14, 3) := zk167 0 14 rfl (by decide +kernel)
theorem dX7_best_94 : decode cX7_best 94 = .ok (.iload 8, 2) := zk21 8 (by decide +kernel)
theorem dX7_best_96 : decode cX7_best 96 = .ok (.iconst 1, 1) := zk4 (by decide +kernel)
theorem dX7_best_97 : decode cX7_best 97 = .ok (.if_icmp .ne 7, 3) := zk160 0 7 rfl (by decide +kernel)
theorem dX7_best_100 : decode cX7_best 100 = .ok (.iconst (-1), 1) := zk2 (by decide +kernel)
theorem dX7_best_101 : decode cX7_best 101 = .ok (.goto 4, 3) := zk167 0 4 rfl (by decide +kernel)
theorem dX7_best_104 : decode cX7_best 104 = .ok (.iconst 1, 1) := zk4 (by decide +kernel)
theorem dX7_best_105 : decode cX7_best 105 = .ok (.invokevirtual 166, 3) := zk182 0 166 (by decide +kernel)
theorem dX7_best_108 : decode cX7_best 108 = .ok (.iload 7, 2) := zk21 7 (by decide +kernel)
theorem dX7_best_110 : decode cX7_best 110 = .ok (.iconst 3, 1) := zk6 (by decide +kernel)
theorem dX7_best_111 : decode cX7_best 111 = .ok (.idiv, 1) := zk108 (by decide +kernel)
theorem dX7_best_112 : decode cX7_best 112 = .ok (.istore 7, 2) := zk54 7 (by decide +kernel)
theorem dX7_best_114 : decode cX7_best 114 = .ok (.goto (-44), 3) := zk167 255 212 rfl (by decide +kernel)
theorem dX7_best_117 : decode cX7_best 117 = .ok (.aload_n 0, 1) := zk42 (by decide +kernel)
theorem dX7_best_118 : decode cX7_best 118 = .ok (.getfield 7, 3) := zk180 0 7 (by decide +kernel)
theorem dX7_best_121 : decode cX7_best 121 = .ok (.iconst 4, 1) := zk7 (by decide +kernel)
theorem dX7_best_122 : decode cX7_best 122 = .ok (.iaload, 1) := zk46 (by decide +kernel)
theorem dX7_best_123 : decode cX7_best 123 = .ok (.istore 7, 2) := zk54 7 (by decide +kernel)
theorem dX7_best_125 : decode cX7_best 125 = .ok (.aload_n 0, 1) := zk42 (by decide +kernel)
theorem dX7_best_126 : decode cX7_best 126 = .ok (.invokevirtual 181, 3) := zk182 0 181 (by decide +kernel)
theorem dX7_best_129 : decode cX7_best 129 = .ok (.iload 4, 2) := zk21 4 (by decide +kernel)
theorem dX7_best_131 : decode cX7_best 131 = .ok (.ifCond .lt 10, 3) := zk155 0 10 rfl (by decide +kernel)
theorem dX7_best_134 : decode cX7_best 134 = .ok (.iload 7, 2) := zk21 7 (by decide +kernel)
theorem dX7_best_136 : decode cX7_best 136 = .ok (.iload 5, 2) := zk21 5 (by decide +kernel)
theorem dX7_best_138 : decode cX7_best 138 = .ok (.if_icmp .ge 11, 3) := zk162 0 11 rfl (by decide +kernel)
theorem dX7_best_141 : decode cX7_best 141 = .ok (.iload 6, 2) := zk21 6 (by decide +kernel)
theorem dX7_best_143 : decode cX7_best 143 = .ok (.istore 4, 2) := zk54 4 (by decide +kernel)
theorem dX7_best_145 : decode cX7_best 145 = .ok (.iload 7, 2) := zk21 7 (by decide +kernel)
theorem dX7_best_147 : decode cX7_best 147 = .ok (.istore 5, 2) := zk54 5 (by decide +kernel)
theorem dX7_best_149 : decode cX7_best 149 = .ok (.iinc 6 1, 3) := by decide +kernel
theorem dX7_best_152 : decode cX7_best 152 = .ok (.goto (-93), 3) := zk167 255 163 rfl (by decide +kernel)
theorem dX7_best_155 : decode cX7_best 155 = .ok (.iload_n 2, 1) := zk28 (by decide +kernel)
theorem dX7_best_156 : decode cX7_best 156 = .ok (.ifCond .ne 8, 3) := zk154 0 8 rfl (by decide +kernel)
theorem dX7_best_159 : decode cX7_best 159 = .ok (.iload 4, 2) := zk21 4 (by decide +kernel)
theorem dX7_best_161 : decode cX7_best 161 = .ok (.goto 5, 3) := zk167 0 5 rfl (by decide +kernel)
theorem dX7_best_164 : decode cX7_best 164 = .ok (.iload 5, 2) := zk21 5 (by decide +kernel)
theorem dX7_best_166 : decode cX7_best 166 = .ok (.ireturn, 1) := zk172 (by decide +kernel)
set_option maxRecDepth 20000 in
theorem ggX7_isLetter_X7_isIn : GoodIn wsX7_isLetter wsX7_isIn := goodIn_r _ [8] rfl gw_wsX7_isIn
set_option maxRecDepth 20000 in
theorem gX7_isLetter_X7_isIn : GoodIn wsX7_isLetter (va_wsS RX7 65 yX7_isIn wsX7_isIn) := goodIn_app (goodIn_r _ [5, 6, 7] rfl (by decide +kernel)) ggX7_isLetter_X7_isIn
theorem dX7_isLetter_0 : decode cX7_isLetter 0 = .ok (.iload_n 1, 1) := zk27 (by decide +kernel)
theorem dX7_isLetter_1 : decode cX7_isLetter 1 = .ok (.aload_n 0, 1) := zk42 (by decide +kernel)
theorem dX7_isLetter_2 : decode cX7_isLetter 2 = .ok (.getfield 188, 3) := zk180 0 188 (by decide +kernel)
theorem dX7_isLetter_5 : decode cX7_isLetter 5 = .ok (.if_icmp .ge 26, 3) := zk162 0 26 rfl (by decide +kernel)
theorem dX7_isLetter_8 : decode cX7_isLetter 8 = .ok (.aload_n 0, 1) := zk42 (by decide +kernel)
theorem dX7_isLetter_9 : decode cX7_isLetter 9 = .ok (.getfield 46, 3) := zk180 0 46 (by decide +kernel)
theorem dX7_isLetter_12 : decode cX7_isLetter 12 = .ok (.iload_n 1, 1) := zk27 (by decide +kernel)
theorem dX7_isLetter_13 : decode cX7_isLetter 13 = .ok (.iaload, 1) := zk46 (by decide +kernel)
theorem dX7_isLetter_14 : decode cX7_isLetter 14 = .ok (.i2l, 1) := zk133 (by decide +kernel)
theorem dX7_isLetter_15 : decode cX7_isLetter 15 = .ok (.ldc2_w 192, 3) := zk20 0 192 (by decide +kernel)
theorem dX7_isLetter_18 : decode cX7_isLetter 18 = .ok (.ldc2_w 194, 3) := zk20 0 194 (by decide +kernel)
theorem dX7_isLetter_21 : decode cX7_isLetter 21 = .ok (.invokestatic 65, 3) := zk184 0 65 (by decide +kernel)
theorem dX7_isLetter_24 : decode cX7_isLetter 24 = .ok (.ifCond .eq 7, 3) := zk153 0 7 rfl (by decide +kernel)
theorem dX7_isLetter_27 : decode cX7_isLetter 27 = .ok (.iconst 1, 1) := zk4 (by decide +kernel)
theorem dX7_isLetter_28 : decode cX7_isLetter 28 = .ok (.goto 4, 3) := zk167 0 4 rfl (by decide +kernel)
theorem dX7_isLetter_31 : decode cX7_isLetter 31 = .ok (.iconst 0, 1) := zk3 (by decide +kernel)
theorem dX7_isLetter_32 : decode cX7_isLetter 32 = .ok (.ireturn, 1) := zk172 (by decide +kernel)
set_option maxRecDepth 20000 in
theorem ggX7_isDigit_X7_isIn : GoodIn wsX7_isDigit wsX7_isIn := goodIn_r _ [8] rfl gw_wsX7_isIn
set_option maxRecDepth 20000 in
theorem gX7_isDigit_X7_isIn : GoodIn wsX7_isDigit (va_wsS RX7 65 yX7_isIn wsX7_isIn) := goodIn_app (goodIn_r _ [5, 6, 7] rfl (by decide +kernel)) ggX7_isDigit_X7_isIn
theorem dX7_isDigit_0 : decode cX7_isDigit 0 = .ok (.iload_n 1, 1) := zk27 (by decide +kernel)
theorem dX7_isDigit_1 : decode cX7_isDigit 1 = .ok (.aload_n 0, 1) := zk42 (by decide +kernel)
theorem dX7_isDigit_2 : decode cX7_isDigit 2 = .ok (.getfield 188, 3) := zk180 0 188 (by decide +kernel)
theorem dX7_isDigit_5 : decode cX7_isDigit 5 = .ok (.if_icmp .ge 26, 3) := zk162 0 26 rfl (by decide +kernel)
theorem dX7_isDigit_8 : decode cX7_isDigit 8 = .ok (.aload_n 0, 1) := zk42 (by decide +kernel)
theorem dX7_isDigit_9 : decode cX7_isDigit 9 = .ok (.getfield 46, 3) := zk180 0 46 (by decide +kernel)
theorem dX7_isDigit_12 : decode cX7_isDigit 12 = .ok (.iload_n 1, 1) := zk27 (by decide +kernel)
theorem dX7_isDigit_13 : decode cX7_isDigit 13 = .ok (.iaload, 1) := zk46 (by decide +kernel)
theorem dX7_isDigit_14 : decode cX7_isDigit 14 = .ok (.i2l, 1) := zk133 (by decide +kernel)
theorem dX7_isDigit_15 : decode cX7_isDigit 15 = .ok (.ldc2_w 196, 3) := zk20 0 196 (by decide +kernel)
theorem dX7_isDigit_18 : decode cX7_isDigit 18 = .ok (.ldc2_w 198, 3) := zk20 0 198 (by decide +kernel)
theorem dX7_isDigit_21 : decode cX7_isDigit 21 = .ok (.invokestatic 65, 3) := zk184 0 65 (by decide +kernel)
theorem dX7_isDigit_24 : decode cX7_isDigit 24 = .ok (.ifCond .eq 7, 3) := zk153 0 7 rfl (by decide +kernel)
theorem dX7_isDigit_27 : decode cX7_isDigit 27 = .ok (.iconst 1, 1) := zk4 (by decide +kernel)
theorem dX7_isDigit_28 : decode cX7_isDigit 28 = .ok (.goto 4, 3) := zk167 0 4 rfl (by decide +kernel)
theorem dX7_isDigit_31 : decode cX7_isDigit 31 = .ok (.iconst 0, 1) := zk3 (by decide +kernel)
theorem dX7_isDigit_32 : decode cX7_isDigit 32 = .ok (.ireturn, 1) := zk172 (by decide +kernel)
set_option maxRecDepth 20000 in
theorem gw_wsX7_isLetter : wsX7_isLetter.all goodWord = true := by decide +kernel
set_option maxRecDepth 20000 in
theorem ggX7_nextToken_X7_isLetter : GoodIn wsX7_nextToken wsX7_isLetter := goodIn_r _ [12, 3, 4, 13, 14, 15, 16, 11, 17, 24, 25, 26, 27, 28, 29, 30, 31, 32, 33, 34, 35, 36, 37, 38, 39, 40, 41, 42, 43, 44, 45, 46, 47, 48, 49, 50, 51, 52, 53, 54] rfl gw_wsX7_isLetter
set_option maxRecDepth 20000 in
theorem gX7_nextToken_X7_isLetter : GoodIn wsX7_nextToken (wsV RX7 209 RX7 yX7_isLetter wsX7_isLetter) := goodIn_app (goodIn_r _ [8, 9, 10, 11] rfl (by decide +kernel)) ggX7_nextToken_X7_isLetter
set_option maxRecDepth 20000 in
theorem gw_wsX7_isDigit : wsX7_isDigit.all goodWord = true := by decide +kernel
set_option maxRecDepth 20000 in
theorem ggX7_nextToken_X7_isDigit : GoodIn wsX7_nextToken wsX7_isDigit := goodIn_r _ [21, 3, 4, 22, 23, 15, 16, 11, 17, 24, 25, 26, 27, 28, 29, 30, 31, 32, 33, 34, 35, 36, 37, 38, 39, 40, 41, 42, 43, 44, 45, 46, 47, 48, 49, 50, 51, 52, 53, 54] rfl gw_wsX7_isDigit
set_option maxRecDepth 20000 in
theorem gX7_nextToken_X7_isDigit : GoodIn wsX7_nextToken (wsV RX7 215 RX7 yX7_isDigit wsX7_isDigit) := goodIn_app (goodIn_r _ [18, 19, 20, 11] rfl (by decide +kernel)) ggX7_nextToken_X7_isDigit
theorem dX7_nextToken_0 : decode cX7_nextToken 0 = .ok (.aload_n 0, 1) := zk42 (by decide +kernel)
theorem dX7_nextToken_1 : decode cX7_nextToken 1 = .ok (.getfield 200, 3) := zk180 0 200 (by decide +kernel)
theorem dX7_nextToken_4 : decode cX7_nextToken 4 = .ok (.ifCond .le 23, 3) := zk158 0 23 rfl (by decide +kernel)
theorem dX7_nextToken_7 : decode cX7_nextToken 7 = .ok (.aload_n 0, 1) := zk42 (by decide +kernel)
theorem dX7_nextToken_8 : decode cX7_nextToken 8 = .ok (.getfield 203, 3) := zk180 0 203 (by decide +kernel)
theorem dX7_nextToken_11 : decode cX7_nextToken 11 = .ok (.iconst 1, 1) := zk4 (by decide +kernel)
theorem dX7_nextToken_12 : decode cX7_nextToken 12 = .ok (.if_icmp .eq 11, 3) := zk159 0 11 rfl (by decide +kernel)
theorem dX7_nextToken_15 : decode cX7_nextToken 15 = .ok (.aload_n 0, 1) := zk42 (by decide +kernel)
theorem dX7_nextToken_16 : decode cX7_nextToken 16 = .ok (.getfield 203, 3) := zk180 0 203 (by decide +kernel)
theorem dX7_nextToken_19 : decode cX7_nextToken 19 = .ok (.iconst 2, 1) := zk5 (by decide +kernel)
theorem dX7_nextToken_20 : decode cX7_nextToken 20 = .ok (.if_icmp .ne 7, 3) := zk160 0 7 rfl (by decide +kernel)
theorem dX7_nextToken_23 : decode cX7_nextToken 23 = .ok (.iconst 1, 1) := zk4 (by decide +kernel)
theorem dX7_nextToken_24 : decode cX7_nextToken 24 = .ok (.goto 4, 3) := zk167 0 4 rfl (by decide +kernel)
theorem dX7_nextToken_27 : decode cX7_nextToken 27 = .ok (.iconst 0, 1) := zk3 (by decide +kernel)
theorem dX7_nextToken_28 : decode cX7_nextToken 28 = .ok (.istore_n 1, 1) := zk60 (by decide +kernel)
theorem dX7_nextToken_29 : decode cX7_nextToken 29 = .ok (.aload_n 0, 1) := zk42 (by decide +kernel)
theorem dX7_nextToken_30 : decode cX7_nextToken 30 = .ok (.getfield 200, 3) := zk180 0 200 (by decide +kernel)
theorem dX7_nextToken_33 : decode cX7_nextToken 33 = .ok (.istore_n 2, 1) := zk61 (by decide +kernel)
theorem dX7_nextToken_34 : decode cX7_nextToken 34 = .ok (.aload_n 0, 1) := zk42 (by decide +kernel)
theorem dX7_nextToken_35 : decode cX7_nextToken 35 = .ok (.getfield 200, 3) := zk180 0 200 (by decide +kernel)
theorem dX7_nextToken_38 : decode cX7_nextToken 38 = .ok (.aload_n 0, 1) := zk42 (by decide +kernel)
theorem dX7_nextToken_39 : decode cX7_nextToken 39 = .ok (.getfield 188, 3) := zk180 0 188 (by decide +kernel)
theorem dX7_nextToken_42 : decode cX7_nextToken 42 = .ok (.if_icmp .ge 30, 3) := zk162 0 30 rfl (by decide +kernel)
theorem dX7_nextToken_45 : decode cX7_nextToken 45 = .ok (.aload_n 0, 1) := zk42 (by decide +kernel)
theorem dX7_nextToken_46 : decode cX7_nextToken 46 = .ok (.getfield 46, 3) := zk180 0 46 (by decide +kernel)
theorem dX7_nextToken_49 : decode cX7_nextToken 49 = .ok (.aload_n 0, 1) := zk42 (by decide +kernel)
theorem dX7_nextToken_50 : decode cX7_nextToken 50 = .ok (.getfield 200, 3) := zk180 0 200 (by decide +kernel)
theorem dX7_nextToken_53 : decode cX7_nextToken 53 = .ok (.iaload, 1) := zk46 (by decide +kernel)
theorem dX7_nextToken_54 : decode cX7_nextToken 54 = .ok (.bipush 32, 2) := zk16 32 rfl (by decide +kernel)
theorem dX7_nextToken_56 : decode cX7_nextToken 56 = .ok (.if_icmp .ne 16, 3) := zk160 0 16 rfl (by decide +kernel)
theorem dX7_nextToken_59 : decode cX7_nextToken 59 = .ok (.aload_n 0, 1) := zk42 (by decide +kernel)
theorem dX7_nextToken_60 : decode cX7_nextToken 60 = .ok (.dup, 1) := zk89 (by decide +kernel)
theorem dX7_nextToken_61 : decode cX7_nextToken 61 = .ok (.getfield 200, 3) := zk180 0 200 (by decide +kernel)
theorem dX7_nextToken_64 : decode cX7_nextToken 64 = .ok (.iconst 1, 1) := zk4 (by decide +kernel)
theorem dX7_nextToken_65 : decode cX7_nextToken 65 = .ok (.iadd, 1) := zk96 (by decide +kernel)
theorem dX7_nextToken_66 : decode cX7_nextToken 66 = .ok (.putfield 200, 3) := zk181 0 200 (by decide +kernel)
theorem dX7_nextToken_69 : decode cX7_nextToken 69 = .ok (.goto (-35), 3) := zk167 255 221 rfl (by decide +kernel)
theorem dX7_nextToken_72 : decode cX7_nextToken 72 = .ok (.iload_n 1, 1) := zk27 (by decide +kernel)
theorem dX7_nextToken_73 : decode cX7_nextToken 73 = .ok (.ifCond .eq 15, 3) := zk153 0 15 rfl (by decide +kernel)
theorem dX7_nextToken_76 : decode cX7_nextToken 76 = .ok (.iload_n 2, 1) := zk28 (by decide +kernel)
theorem dX7_nextToken_77 : decode cX7_nextToken 77 = .ok (.aload_n 0, 1) := zk42 (by decide +kernel)
theorem dX7_nextToken_78 : decode cX7_nextToken 78 = .ok (.getfield 200, 3) := zk180 0 200 (by decide +kernel)
theorem dX7_nextToken_81 : decode cX7_nextToken 81 = .ok (.if_icmp .ne 7, 3) := zk160 0 7 rfl (by decide +kernel)
theorem dX7_nextToken_84 : decode cX7_nextToken 84 = .ok (.iconst 1, 1) := zk4 (by decide +kernel)
theorem dX7_nextToken_85 : decode cX7_nextToken 85 = .ok (.goto 4, 3) := zk167 0 4 rfl (by decide +kernel)
theorem dX7_nextToken_88 : decode cX7_nextToken 88 = .ok (.iconst 0, 1) := zk3 (by decide +kernel)
theorem dX7_nextToken_89 : decode cX7_nextToken 89 = .ok (.istore_n 1, 1) := zk60 (by decide +kernel)
theorem dX7_nextToken_90 : decode cX7_nextToken 90 = .ok (.aload_n 0, 1) := zk42 (by decide +kernel)
theorem dX7_nextToken_91 : decode cX7_nextToken 91 = .ok (.aload_n 0, 1) := zk42 (by decide +kernel)
theorem dX7_nextToken_92 : decode cX7_nextToken 92 = .ok (.getfield 200, 3) := zk180 0 200 (by decide +kernel)
theorem dX7_nextToken_95 : decode cX7_nextToken 95 = .ok (.putfield 206, 3) := zk181 0 206 (by decide +kernel)
theorem dX7_nextToken_98 : decode cX7_nextToken 98 = .ok (.aload_n 0, 1) := zk42 (by decide +kernel)
theorem dX7_nextToken_99 : decode cX7_nextToken 99 = .ok (.getfield 206, 3) := zk180 0 206 (by decide +kernel)
theorem dX7_nextToken_102 : decode cX7_nextToken 102 = .ok (.aload_n 0, 1) := zk42 (by decide +kernel)
theorem dX7_nextToken_103 : decode cX7_nextToken 103 = .ok (.getfield 188, 3) := zk180 0 188 (by decide +kernel)
theorem dX7_nextToken_106 : decode cX7_nextToken 106 = .ok (.if_icmp .ne 11, 3) := zk160 0 11 rfl (by decide +kernel)
theorem dX7_nextToken_109 : decode cX7_nextToken 109 = .ok (.aload_n 0, 1) := zk42 (by decide +kernel)
theorem dX7_nextToken_110 : decode cX7_nextToken 110 = .ok (.iconst 0, 1) := zk3 (by decide +kernel)
theorem dX7_nextToken_111 : decode cX7_nextToken 111 = .ok (.putfield 203, 3) := zk181 0 203 (by decide +kernel)
theorem dX7_nextToken_114 : decode cX7_nextToken 114 = .ok (.goto 225, 3) := zk167 0 225 rfl (by decide +kernel)
theorem dX7_nextToken_117 : decode cX7_nextToken 117 = .ok (.aload_n 0, 1) := zk42 (by decide +kernel)
theorem dX7_nextToken_118 : decode cX7_nextToken 118 = .ok (.aload_n 0, 1) := zk42 (by decide +kernel)
theorem dX7_nextToken_119 : decode cX7_nextToken 119 = .ok (.getfield 206, 3) := zk180 0 206 (by decide +kernel)
theorem dX7_nextToken_122 : decode cX7_nextToken 122 = .ok (.invokevirtual 209, 3) := zk182 0 209 (by decide +kernel)
theorem dX7_nextToken_125 : decode cX7_nextToken 125 = .ok (.ifCond .eq 73, 3) := zk153 0 73 rfl (by decide +kernel)
theorem dX7_nextToken_128 : decode cX7_nextToken 128 = .ok (.aload_n 0, 1) := zk42 (by decide +kernel)
theorem dX7_nextToken_129 : decode cX7_nextToken 129 = .ok (.aload_n 0, 1) := zk42 (by decide +kernel)
theorem dX7_nextToken_130 : decode cX7_nextToken 130 = .ok (.getfield 200, 3) := zk180 0 200 (by decide +kernel)
theorem dX7_nextToken_133 : decode cX7_nextToken 133 = .ok (.invokevirtual 209, 3) := zk182 0 209 (by decide +kernel)
theorem dX7_nextToken_136 : decode cX7_nextToken 136 = .ok (.ifCond .eq 16, 3) := zk153 0 16 rfl (by decide +kernel)
theorem dX7_nextToken_139 : decode cX7_nextToken 139 = .ok (.aload_n 0, 1) := zk42 (by decide +kernel)
theorem dX7_nextToken_140 : decode cX7_nextToken 140 = .ok (.dup, 1) := zk89 (by decide +kernel)
theorem dX7_nextToken_141 : decode cX7_nextToken 141 = .ok (.getfield 200, 3) := zk180 0 200 (by decide +kernel)
theorem dX7_nextToken_144 : decode cX7_nextToken 144 = .ok (.iconst 1, 1) := zk4 (by decide +kernel)
theorem dX7_nextToken_145 : decode cX7_nextToken 145 = .ok (.iadd, 1) := zk96 (by decide +kernel)
theorem dX7_nextToken_146 : decode cX7_nextToken 146 = .ok (.putfield 200, 3) := zk181 0 200 (by decide +kernel)
theorem dX7_nextToken_149 : decode cX7_nextToken 149 = .ok (.goto (-21), 3) := zk167 255 235 rfl (by decide +kernel)
theorem dX7_nextToken_152 : decode cX7_nextToken 152 = .ok (.aload_n 0, 1) := zk42 (by decide +kernel)
theorem dX7_nextToken_153 : decode cX7_nextToken 153 = .ok (.iload_n 1, 1) := zk27 (by decide +kernel)
theorem dX7_nextToken_154 : decode cX7_nextToken 154 = .ok (.ifCond .eq 7, 3) := zk153 0 7 rfl (by decide +kernel)
theorem dX7_nextToken_157 : decode cX7_nextToken 157 = .ok (.iconst 4, 1) := zk7 (by decide +kernel)
theorem dX7_nextToken_158 : decode cX7_nextToken 158 = .ok (.goto 4, 3) := zk167 0 4 rfl (by decide +kernel)
theorem dX7_nextToken_161 : decode cX7_nextToken 161 = .ok (.iconst 1, 1) := zk4 (by decide +kernel)
theorem dX7_nextToken_162 : decode cX7_nextToken 162 = .ok (.putfield 203, 3) := zk181 0 203 (by decide +kernel)
theorem dX7_nextToken_165 : decode cX7_nextToken 165 = .ok (.aload_n 0, 1) := zk42 (by decide +kernel)
theorem dX7_nextToken_166 : decode cX7_nextToken 166 = .ok (.aload_n 0, 1) := zk42 (by decide +kernel)
theorem dX7_nextToken_167 : decode cX7_nextToken 167 = .ok (.getfield 200, 3) := zk180 0 200 (by decide +kernel)
theorem dX7_nextToken_170 : decode cX7_nextToken 170 = .ok (.aload_n 0, 1) := zk42 (by decide +kernel)
theorem dX7_nextToken_171 : decode cX7_nextToken 171 = .ok (.getfield 206, 3) := zk180 0 206 (by decide +kernel)
theorem dX7_nextToken_174 : decode cX7_nextToken 174 = .ok (.isub, 1) := zk100 (by decide +kernel)
theorem dX7_nextToken_175 : decode cX7_nextToken 175 = .ok (.iconst 1, 1) := zk4 (by decide +kernel)
theorem dX7_nextToken_176 : decode cX7_nextToken 176 = .ok (.if_icmp .ne 15, 3) := zk160 0 15 rfl (by decide +kernel)
theorem dX7_nextToken_179 : decode cX7_nextToken 179 = .ok (.aload_n 0, 1) := zk42 (by decide +kernel)
theorem dX7_nextToken_180 : decode cX7_nextToken 180 = .ok (.getfield 46, 3) := zk180 0 46 (by decide +kernel)
theorem dX7_nextToken_183 : decode cX7_nextToken 183 = .ok (.aload_n 0, 1) := zk42 (by decide +kernel)
theorem dX7_nextToken_184 : decode cX7_nextToken 184 = .ok (.getfield 206, 3) := zk180 0 206 (by decide +kernel)
theorem dX7_nextToken_187 : decode cX7_nextToken 187 = .ok (.iaload, 1) := zk46 (by decide +kernel)
theorem dX7_nextToken_188 : decode cX7_nextToken 188 = .ok (.goto 4, 3) := zk167 0 4 rfl (by decide +kernel)
theorem dX7_nextToken_191 : decode cX7_nextToken 191 = .ok (.iconst 0, 1) := zk3 (by decide +kernel)
theorem dX7_nextToken_192 : decode cX7_nextToken 192 = .ok (.putfield 212, 3) := zk181 0 212 (by decide +kernel)
theorem dX7_nextToken_195 : decode cX7_nextToken 195 = .ok (.goto 144, 3) := zk167 0 144 rfl (by decide +kernel)
theorem dX7_nextToken_198 : decode cX7_nextToken 198 = .ok (.aload_n 0, 1) := zk42 (by decide +kernel)
theorem dX7_nextToken_199 : decode cX7_nextToken 199 = .ok (.aload_n 0, 1) := zk42 (by decide +kernel)
theorem dX7_nextToken_200 : decode cX7_nextToken 200 = .ok (.getfield 206, 3) := zk180 0 206 (by decide +kernel)
theorem dX7_nextToken_203 : decode cX7_nextToken 203 = .ok (.invokevirtual 215, 3) := zk182 0 215 (by decide +kernel)
theorem dX7_nextToken_206 : decode cX7_nextToken 206 = .ok (.ifCond .eq 105, 3) := zk153 0 105 rfl (by decide +kernel)
theorem dX7_nextToken_209 : decode cX7_nextToken 209 = .ok (.aload_n 0, 1) := zk42 (by decide +kernel)
theorem dX7_nextToken_210 : decode cX7_nextToken 210 = .ok (.iconst 0, 1) := zk3 (by decide +kernel)
theorem dX7_nextToken_211 : decode cX7_nextToken 211 = .ok (.putfield 218, 3) := zk181 0 218 (by decide +kernel)
theorem dX7_nextToken_214 : decode cX7_nextToken 214 = .ok (.aload_n 0, 1) := zk42 (by decide +kernel)
theorem dX7_nextToken_215 : decode cX7_nextToken 215 = .ok (.aload_n 0, 1) := zk42 (by decide +kernel)
theorem dX7_nextToken_216 : decode cX7_nextToken 216 = .ok (.getfield 200, 3) := zk180 0 200 (by decide +kernel)
theorem dX7_nextToken_219 : decode cX7_nextToken 219 = .ok (.invokevirtual 215, 3) := zk182 0 215 (by decide +kernel)
theorem dX7_nextToken_222 : decode cX7_nextToken 222 = .ok (.ifCond .eq 60, 3) := zk153 0 60 rfl (by decide +kernel)
theorem dX7_nextToken_225 : decode cX7_nextToken 225 = .ok (.aload_n 0, 1) := zk42 (by decide +kernel)
theorem dX7_nextToken_226 : decode cX7_nextToken 226 = .ok (.aload_n 0, 1) := zk42 (by decide +kernel)
theorem dX7_nextToken_227 : decode cX7_nextToken 227 = .ok (.getfield 200, 3) := zk180 0 200 (by decide +kernel)
theorem dX7_nextToken_230 : decode cX7_nextToken 230 = .ok (.aload_n 0, 1) := zk42 (by decide +kernel)
theorem dX7_nextToken_231 : decode cX7_nextToken 231 = .ok (.getfield 206, 3) := zk180 0 206 (by decide +kernel)
theorem dX7_nextToken_234 : decode cX7_nextToken 234 = .ok (.isub, 1) := zk100 (by decide +kernel)
theorem dX7_nextToken_235 : decode cX7_nextToken 235 = .ok (.iconst 4, 1) := zk7 (by decide +kernel)
theorem dX7_nextToken_236 : decode cX7_nextToken 236 = .ok (.if_icmp .ge 26, 3) := zk162 0 26 rfl (by decide +kernel)
theorem dX7_nextToken_239 : decode cX7_nextToken 239 = .ok (.bipush 10, 2) := zk16 10 rfl (by decide +kernel)
theorem dX7_nextToken_241 : decode cX7_nextToken 241 = .ok (.aload_n 0, 1) := zk42 (by decide +kernel)
theorem dX7_nextToken_242 : decode cX7_nextToken 242 = .ok (.getfield 218, 3) := zk180 0 218 (by decide +kernel)
theorem dX7_nextToken_245 : decode cX7_nextToken 245 = .ok (.imul, 1) := zk104 (by decide +kernel)
theorem dX7_nextToken_246 : decode cX7_nextToken 246 = .ok (.aload_n 0, 1) := zk42 (by decide +kernel)
theorem dX7_nextToken_247 : decode cX7_nextToken 247 = .ok (.getfield 46, 3) := zk180 0 46 (by decide +kernel)
theorem dX7_nextToken_250 : decode cX7_nextToken 250 = .ok (.aload_n 0, 1) := zk42 (by decide +kernel)
theorem dX7_nextToken_251 : decode cX7_nextToken 251 = .ok (.getfield 200, 3) := zk180 0 200 (by decide +kernel)
theorem dX7_nextToken_254 : decode cX7_nextToken 254 = .ok (.iaload, 1) := zk46 (by decide +kernel)
theorem dX7_nextToken_255 : decode cX7_nextToken 255 = .ok (.iadd, 1) := zk96 (by decide +kernel)
theorem dX7_nextToken_256 : decode cX7_nextToken 256 = .ok (.bipush 48, 2) := zk16 48 rfl (by decide +kernel)
theorem dX7_nextToken_258 : decode cX7_nextToken 258 = .ok (.isub, 1) := zk100 (by decide +kernel)
theorem dX7_nextToken_259 : decode cX7_nextToken 259 = .ok (.goto 7, 3) := zk167 0 7 rfl (by decide +kernel)
theorem dX7_nextToken_262 : decode cX7_nextToken 262 = .ok (.aload_n 0, 1) := zk42 (by decide +kernel)
theorem dX7_nextToken_263 : decode cX7_nextToken 263 = .ok (.getfield 218, 3) := zk180 0 218 (by decide +kernel)
theorem dX7_nextToken_266 : decode cX7_nextToken 266 = .ok (.putfield 218, 3) := zk181 0 218 (by decide +kernel)
theorem dX7_nextToken_269 : decode cX7_nextToken 269 = .ok (.aload_n 0, 1) := zk42 (by decide +kernel)
theorem dX7_nextToken_270 : decode cX7_nextToken 270 = .ok (.dup, 1) := zk89 (by decide +kernel)
theorem dX7_nextToken_271 : decode cX7_nextToken 271 = .ok (.getfield 200, 3) := zk180 0 200 (by decide +kernel)
theorem dX7_nextToken_274 : decode cX7_nextToken 274 = .ok (.iconst 1, 1) := zk4 (by decide +kernel)
theorem dX7_nextToken_275 : decode cX7_nextToken 275 = .ok (.iadd, 1) := zk96 (by decide +kernel)
theorem dX7_nextToken_276 : decode cX7_nextToken 276 = .ok (.putfield 200, 3) := zk181 0 200 (by decide +kernel)
theorem dX7_nextToken_279 : decode cX7_nextToken 279 = .ok (.goto (-65), 3) := zk167 255 191 rfl (by decide +kernel)
theorem dX7_nextToken_282 : decode cX7_nextToken 282 = .ok (.aload_n 0, 1) := zk42 (by decide +kernel)
theorem dX7_nextToken_283 : decode cX7_nextToken 283 = .ok (.iload_n 1, 1) := zk27 (by decide +kernel)
theorem dX7_nextToken_284 : decode cX7_nextToken 284 = .ok (.ifCond .ne 16, 3) := zk154 0 16 rfl (by decide +kernel)
theorem dX7_nextToken_287 : decode cX7_nextToken 287 = .ok (.aload_n 0, 1) := zk42 (by decide +kernel)
theorem dX7_nextToken_288 : decode cX7_nextToken 288 = .ok (.getfield 200, 3) := zk180 0 200 (by decide +kernel)
theorem dX7_nextToken_291 : decode cX7_nextToken 291 = .ok (.aload_n 0, 1) := zk42 (by decide +kernel)
theorem dX7_nextToken_292 : decode cX7_nextToken 292 = .ok (.getfield 206, 3) := zk180 0 206 (by decide +kernel)
theorem dX7_nextToken_295 : decode cX7_nextToken 295 = .ok (.isub, 1) := zk100 (by decide +kernel)
theorem dX7_nextToken_296 : decode cX7_nextToken 296 = .ok (.iconst 4, 1) := zk7 (by decide +kernel)
theorem dX7_nextToken_297 : decode cX7_nextToken 297 = .ok (.if_icmp .le 7, 3) := zk164 0 7 rfl (by decide +kernel)
theorem dX7_nextToken_300 : decode cX7_nextToken 300 = .ok (.iconst 4, 1) := zk7 (by decide +kernel)
theorem dX7_nextToken_301 : decode cX7_nextToken 301 = .ok (.goto 4, 3) := zk167 0 4 rfl (by decide +kernel)
theorem dX7_nextToken_304 : decode cX7_nextToken 304 = .ok (.iconst 2, 1) := zk5 (by decide +kernel)
theorem dX7_nextToken_305 : decode cX7_nextToken 305 = .ok (.putfield 203, 3) := zk181 0 203 (by decide +kernel)
theorem dX7_nextToken_308 : decode cX7_nextToken 308 = .ok (.goto 31, 3) := zk167 0 31 rfl (by decide +kernel)
theorem dX7_nextToken_311 : decode cX7_nextToken 311 = .ok (.aload_n 0, 1) := zk42 (by decide +kernel)
theorem dX7_nextToken_312 : decode cX7_nextToken 312 = .ok (.iconst 3, 1) := zk6 (by decide +kernel)
theorem dX7_nextToken_313 : decode cX7_nextToken 313 = .ok (.putfield 203, 3) := zk181 0 203 (by decide +kernel)
theorem dX7_nextToken_316 : decode cX7_nextToken 316 = .ok (.aload_n 0, 1) := zk42 (by decide +kernel)
theorem dX7_nextToken_317 : decode cX7_nextToken 317 = .ok (.aload_n 0, 1) := zk42 (by decide +kernel)
theorem dX7_nextToken_318 : decode cX7_nextToken 318 = .ok (.getfield 46, 3) := zk180 0 46 (by decide +kernel)
theorem dX7_nextToken_321 : decode cX7_nextToken 321 = .ok (.aload_n 0, 1) := zk42 (by decide +kernel)
theorem dX7_nextToken_322 : decode cX7_nextToken 322 = .ok (.getfield 206, 3) := zk180 0 206 (by decide +kernel)
theorem dX7_nextToken_325 : decode cX7_nextToken 325 = .ok (.iaload, 1) := zk46 (by decide +kernel)
theorem dX7_nextToken_326 : decode cX7_nextToken 326 = .ok (.putfield 212, 3) := zk181 0 212 (by decide +kernel)
theorem dX7_nextToken_329 : decode cX7_nextToken 329 = .ok (.aload_n 0, 1) := zk42 (by decide +kernel)
theorem dX7_nextToken_330 : decode cX7_nextToken 330 = .ok (.dup, 1) := zk89 (by decide +kernel)
theorem dX7_nextToken_331 : decode cX7_nextToken 331 = .ok (.getfield 200, 3) := zk180 0 200 (by decide +kernel)
theorem dX7_nextToken_334 : decode cX7_nextToken 334 = .ok (.iconst 1, 1) := zk4 (by decide +kernel)
theorem dX7_nextToken_335 : decode cX7_nextToken 335 = .ok (.iadd, 1) := zk96 (by decide +kernel)
theorem dX7_nextToken_336 : decode cX7_nextToken 336 = .ok (.putfield 200, 3) := zk181 0 200 (by decide +kernel)
theorem dX7_nextToken_339 : decode cX7_nextToken 339 = .ok (.return_, 1) := zk177 (by decide +kernel)
theorem dX7_isSign_0 : decode cX7_isSign 0 = .ok (.aload_n 0, 1) := zk42 (by decide +kernel)
theorem dX7_isSign_1 : decode cX7_isSign 1 = .ok (.getfield 203, 3) := zk180 0 203 (by decide +kernel)
theorem dX7_isSign_4 : decode cX7_isSign 4 = .ok (.iconst 3, 1) := zk6 (by decide +kernel)
theorem dX7_isSign_5 : decode cX7_isSign 5 = .ok (.if_icmp .ne 15, 3) := zk160 0 15 rfl (by decide +kernel)
theorem dX7_isSign_8 : decode cX7_isSign 8 = .ok (.aload_n 0, 1) := zk42 (by decide +kernel)
theorem dX7_isSign_9 : decode cX7_isSign 9 = .ok (.getfield 212, 3) := zk180 0 212 (by decide +kernel)
theorem dX7_isSign_12 : decode cX7_isSign 12 = .ok (.iload_n 1, 1) := zk27 (by decide +kernel)
theorem dX7_isSign_13 : decode cX7_isSign 13 = .ok (.if_icmp .ne 7, 3) := zk160 0 7 rfl (by decide +kernel)
theorem dX7_isSign_16 : decode cX7_isSign 16 = .ok (.iconst 1, 1) := zk4 (by decide +kernel)
theorem dX7_isSign_17 : decode cX7_isSign 17 = .ok (.goto 4, 3) := zk167 0 4 rfl (by decide +kernel)
theorem dX7_isSign_20 : decode cX7_isSign 20 = .ok (.iconst 0, 1) := zk3 (by decide +kernel)
theorem dX7_isSign_21 : decode cX7_isSign 21 = .ok (.ireturn, 1) := zk172 (by decide +kernel)
theorem dX7_isName_0 : decode cX7_isName 0 = .ok (.iload_n 0, 1) := zk26 (by decide +kernel)
theorem dX7_isName_1 : decode cX7_isName 1 = .ok (.lookupswitch 69 #[(0, 27), (1, 51)], 27) := by decide +kernel
theorem dX7_isName_28 : decode cX7_isName 28 = .ok (.iload_n 1, 1) := zk27 (by decide +kernel)
theorem dX7_isName_29 : decode cX7_isName 29 = .ok (.bipush 104, 2) := zk16 104 rfl (by decide +kernel)
theorem dX7_isName_31 : decode cX7_isName 31 = .ok (.if_icmp .eq 15, 3) := zk159 0 15 rfl (by decide +kernel)
theorem dX7_isName_34 : decode cX7_isName 34 = .ok (.iload_n 1, 1) := zk27 (by decide +kernel)
theorem dX7_isName_35 : decode cX7_isName 35 = .ok (.bipush 103, 2) := zk16 103 rfl (by decide +kernel)
theorem dX7_isName_37 : decode cX7_isName 37 = .ok (.if_icmp .eq 9, 3) := zk159 0 9 rfl (by decide +kernel)
theorem dX7_isName_40 : decode cX7_isName 40 = .ok (.iload_n 1, 1) := zk27 (by decide +kernel)
theorem dX7_isName_41 : decode cX7_isName 41 = .ok (.bipush 112, 2) := zk16 112 rfl (by decide +kernel)
theorem dX7_isName_43 : decode cX7_isName 43 = .ok (.if_icmp .ne 7, 3) := zk160 0 7 rfl (by decide +kernel)
theorem dX7_isName_46 : decode cX7_isName 46 = .ok (.iconst 1, 1) := zk4 (by decide +kernel)
theorem dX7_isName_47 : decode cX7_isName 47 = .ok (.goto 4, 3) := zk167 0 4 rfl (by decide +kernel)
theorem dX7_isName_50 : decode cX7_isName 50 = .ok (.iconst 0, 1) := zk3 (by decide +kernel)
theorem dX7_isName_51 : decode cX7_isName 51 = .ok (.ireturn, 1) := zk172 (by decide +kernel)
theorem dX7_isName_52 : decode cX7_isName 52 = .ok (.iload_n 1, 1) := zk27 (by decide +kernel)
theorem dX7_isName_53 : decode cX7_isName 53 = .ok (.bipush 99, 2) := zk16 99 rfl (by decide +kernel)
theorem dX7_isName_55 : decode cX7_isName 55 = .ok (.if_icmp .eq 9, 3) := zk159 0 9 rfl (by decide +kernel)
theorem dX7_isName_58 : decode cX7_isName 58 = .ok (.iload_n 1, 1) := zk27 (by decide +kernel)
theorem dX7_isName_59 : decode cX7_isName 59 = .ok (.bipush 116, 2) := zk16 116 rfl (by decide +kernel)
theorem dX7_isName_61 : decode cX7_isName 61 = .ok (.if_icmp .ne 7, 3) := zk160 0 7 rfl (by decide +kernel)
theorem dX7_isName_64 : decode cX7_isName 64 = .ok (.iconst 1, 1) := zk4 (by decide +kernel)
theorem dX7_isName_65 : decode cX7_isName 65 = .ok (.goto 4, 3) := zk167 0 4 rfl (by decide +kernel)
theorem dX7_isName_68 : decode cX7_isName 68 = .ok (.iconst 0, 1) := zk3 (by decide +kernel)
theorem dX7_isName_69 : decode cX7_isName 69 = .ok (.ireturn, 1) := zk172 (by decide +kernel)
theorem dX7_isName_70 : decode cX7_isName 70 = .ok (.iload_n 1, 1) := zk27 (by decide +kernel)
theorem dX7_isName_71 : decode cX7_isName 71 = .ok (.bipush 103, 2) := zk16 103 rfl (by decide +kernel)
theorem dX7_isName_73 : decode cX7_isName 73 = .ok (.if_icmp .eq 9, 3) := zk159 0 9 rfl (by decide +kernel)
theorem dX7_isName_76 : decode cX7_isName 76 = .ok (.iload_n 1, 1) := zk27 (by decide +kernel)
theorem dX7_isName_77 : decode cX7_isName 77 = .ok (.bipush 115, 2) := zk16 115 rfl (by decide +kernel)
theorem dX7_isName_79 : decode cX7_isName 79 = .ok (.if_icmp .ne 7, 3) := zk160 0 7 rfl (by decide +kernel)
theorem dX7_isName_82 : decode cX7_isName 82 = .ok (.iconst 1, 1) := zk4 (by decide +kernel)
theorem dX7_isName_83 : decode cX7_isName 83 = .ok (.goto 4, 3) := zk167 0 4 rfl (by decide +kernel)
theorem dX7_isName_86 : decode cX7_isName 86 = .ok (.iconst 0, 1) := zk3 (by decide +kernel)
theorem dX7_isName_87 : decode cX7_isName 87 = .ok (.ireturn, 1) := zk172 (by decide +kernel)
theorem dX7_step_0 : decode cX7_step 0 = .ok (.aload_n 0, 1) := zk42 (by decide +kernel)
theorem dX7_step_1 : decode cX7_step 1 = .ok (.getfield 7, 3) := zk180 0 7 (by decide +kernel)
theorem dX7_step_4 : decode cX7_step 4 = .ok (.aload_n 0, 1) := zk42 (by decide +kernel)
theorem dX7_step_5 : decode cX7_step 5 = .ok (.getfield 225, 3) := zk180 0 225 (by decide +kernel)
theorem dX7_step_8 : decode cX7_step 8 = .ok (.iconst 2, 1) := zk5 (by decide +kernel)
theorem dX7_step_9 : decode cX7_step 9 = .ok (.aload_n 0, 1) := zk42 (by decide +kernel)
theorem dX7_step_10 : decode cX7_step 10 = .ok (.getfield 228, 3) := zk180 0 228 (by decide +kernel)
theorem dX7_step_13 : decode cX7_step 13 = .ok (.imul, 1) := zk104 (by decide +kernel)
theorem dX7_step_14 : decode cX7_step 14 = .ok (.iadd, 1) := zk96 (by decide +kernel)
theorem dX7_step_15 : decode cX7_step 15 = .ok (.iload_n 1, 1) := zk27 (by decide +kernel)
theorem dX7_step_16 : decode cX7_step 16 = .ok (.iastore, 1) := zk79 (by decide +kernel)
theorem dX7_step_17 : decode cX7_step 17 = .ok (.aload_n 0, 1) := zk42 (by decide +kernel)
theorem dX7_step_18 : decode cX7_step 18 = .ok (.getfield 7, 3) := zk180 0 7 (by decide +kernel)
theorem dX7_step_21 : decode cX7_step 21 = .ok (.aload_n 0, 1) := zk42 (by decide +kernel)
theorem dX7_step_22 : decode cX7_step 22 = .ok (.getfield 225, 3) := zk180 0 225 (by decide +kernel)
theorem dX7_step_25 : decode cX7_step 25 = .ok (.iconst 2, 1) := zk5 (by decide +kernel)
theorem dX7_step_26 : decode cX7_step 26 = .ok (.aload_n 0, 1) := zk42 (by decide +kernel)
theorem dX7_step_27 : decode cX7_step 27 = .ok (.getfield 228, 3) := zk180 0 228 (by decide +kernel)
theorem dX7_step_30 : decode cX7_step 30 = .ok (.imul, 1) := zk104 (by decide +kernel)
theorem dX7_step_31 : decode cX7_step 31 = .ok (.iadd, 1) := zk96 (by decide +kernel)
theorem dX7_step_32 : decode cX7_step 32 = .ok (.iconst 1, 1) := zk4 (by decide +kernel)
theorem dX7_step_33 : decode cX7_step 33 = .ok (.iadd, 1) := zk96 (by decide +kernel)
theorem dX7_step_34 : decode cX7_step 34 = .ok (.iload_n 2, 1) := zk28 (by decide +kernel)
theorem dX7_step_35 : decode cX7_step 35 = .ok (.iastore, 1) := zk79 (by decide +kernel)
theorem dX7_step_36 : decode cX7_step 36 = .ok (.aload_n 0, 1) := zk42 (by decide +kernel)
theorem dX7_step_37 : decode cX7_step 37 = .ok (.dup, 1) := zk89 (by decide +kernel)
theorem dX7_step_38 : decode cX7_step 38 = .ok (.getfield 228, 3) := zk180 0 228 (by decide +kernel)
theorem dX7_step_41 : decode cX7_step 41 = .ok (.iconst 1, 1) := zk4 (by decide +kernel)
theorem dX7_step_42 : decode cX7_step 42 = .ok (.iadd, 1) := zk96 (by decide +kernel)
theorem dX7_step_43 : decode cX7_step 43 = .ok (.putfield 228, 3) := zk181 0 228 (by decide +kernel)
theorem dX7_step_46 : decode cX7_step 46 = .ok (.return_, 1) := zk177 (by decide +kernel)
set_option maxRecDepth 20000 in
theorem gw_wsX7_both : wsX7_both.all goodWord = true := by decide +kernel
def bs_wsX7_either : List (List Cond) := [[.code yX7_either cX7_either 2 (some .boolean)], wsX7_either_r1, wsX7_either_r2, wsX7_either_r3, wsX70]
theorem bse_wsX7_either : wsX7_either = bs_wsX7_either.flatten := by
  unfold wsX7_either bs_wsX7_either
  simp only [List.flatten_cons, List.flatten_nil, List.append_nil, List.append_assoc, List.cons_append, List.nil_append]
set_option maxRecDepth 20000 in
theorem ggX7_either_X7_both : GoodIn wsX7_either wsX7_both := goodIn_pc bs_wsX7_either bse_wsX7_either _ [(2, [17, 18, 19, 20]), (1, [3, 4, 5, 6, 7, 8, 9, 10, 11, 12, 13, 14, 15, 16, 17, 18, 19, 20, 21, 22, 23]), (2, [0, 1, 2, 3, 4, 5, 6, 7, 8, 9, 10, 11, 12, 13, 14, 15, 16]), (0, [0]), (1, [0, 1, 2]), (2, [21, 22, 23]), (3, [0, 1, 2, 3, 4, 5, 6, 7, 8, 9, 10, 11, 12, 13, 14, 15, 16, 17, 18]), (4, [0, 1, 2, 3, 4, 5, 6, 7, 8, 9, 10, 11, 12, 13, 14, 15, 16, 17, 18, 19, 20, 21, 22, 23, 24, 25, 26, 27, 28, 29, 30])] rfl gw_wsX7_both
set_option maxRecDepth 20000 in
theorem gX7_either_X7_both : GoodIn wsX7_either (wsV RX7 231 RX7 yX7_both wsX7_both) := goodIn_app (goodIn_pc bs_wsX7_either bse_wsX7_either _ [(1, [0, 1, 2, 3])] rfl (by decide +kernel)) ggX7_either_X7_both
set_option maxRecDepth 20000 in
theorem gw_wsX7_isSign : wsX7_isSign.all goodWord = true := by decide +kernel
set_option maxRecDepth 20000 in
theorem ggX7_either_X7_isSign : GoodIn wsX7_either wsX7_isSign := goodIn_pc bs_wsX7_either bse_wsX7_either _ [(1, [7, 8, 9]), (4, [0, 1, 2, 3, 4, 5, 6, 7, 8, 9, 10, 11, 12, 13, 14, 15, 16, 17, 18, 19, 20, 21, 22, 23, 24, 25, 26, 27, 28, 29, 30])] rfl gw_wsX7_isSign
set_option maxRecDepth 20000 in
theorem gX7_either_X7_isSign : GoodIn wsX7_either (wsV RX7 234 RX7 yX7_isSign wsX7_isSign) := goodIn_app (goodIn_pc bs_wsX7_either bse_wsX7_either _ [(1, [4, 5, 6, 3])] rfl (by decide +kernel)) ggX7_either_X7_isSign
set_option maxRecDepth 20000 in
theorem gw_wsX7_nextToken : wsX7_nextToken.all goodWord = true := by decide +kernel
set_option maxRecDepth 20000 in
theorem ggX7_either_X7_nextToken : GoodIn wsX7_either wsX7_nextToken := goodIn_pc bs_wsX7_either bse_wsX7_either _ [(1, [13, 14, 8, 15, 16, 17, 9, 18, 19, 20, 21, 3, 22, 23]), (2, [0, 1, 2, 3, 4, 5, 6, 7, 8, 9]), (4, [0, 1, 2, 3, 4, 5, 6, 7, 8, 9, 10, 11, 12, 13, 14, 15, 16, 17, 18, 19, 20, 21, 22, 23, 24, 25, 26, 27, 28, 29, 30])] rfl gw_wsX7_nextToken
set_option maxRecDepth 20000 in
theorem gX7_either_X7_nextToken : GoodIn wsX7_either (wsV RX7 237 RX7 yX7_nextToken wsX7_nextToken) := goodIn_app (goodIn_pc bs_wsX7_either bse_wsX7_either _ [(1, [10, 11, 12, 3])] rfl (by decide +kernel)) ggX7_either_X7_nextToken
set_option maxRecDepth 20000 in
theorem gw_wsX7_step : wsX7_step.all goodWord = true := by decide +kernel
set_option maxRecDepth 20000 in
theorem ggX7_either_X7_step : GoodIn wsX7_either wsX7_step := goodIn_pc bs_wsX7_either bse_wsX7_either _ [(2, [13, 14, 15, 16]), (4, [0, 1, 2, 3, 4, 5, 6, 7, 8, 9, 10, 11, 12, 13, 14, 15, 16, 17, 18, 19, 20, 21, 22, 23, 24, 25, 26, 27, 28, 29, 30])] rfl gw_wsX7_step
set_option maxRecDepth 20000 in
theorem gX7_either_X7_step : GoodIn wsX7_either (wsV RX7 240 RX7 yX7_step wsX7_step) := goodIn_app (goodIn_pc bs_wsX7_either bse_wsX7_either _ [(2, [10, 11, 12]), (1, [3])] rfl (by decide +kernel)) ggX7_either_X7_step
theorem dX7_either_0 : decode cX7_either 0 = .ok (.aload_n 0, 1) := zk42 (by decide +kernel)
theorem dX7_either_1 : decode cX7_either 1 = .ok (.iload_n 1, 1) := zk27 (by decide +kernel)
theorem dX7_either_2 : decode cX7_either 2 = .ok (.invokevirtual 231, 3) := zk182 0 231 (by decide +kernel)
theorem dX7_either_5 : decode cX7_either 5 = .ok (.ifCond .ne 5, 3) := zk154 0 5 rfl (by decide +kernel)
theorem dX7_either_8 : decode cX7_either 8 = .ok (.iconst 0, 1) := zk3 (by decide +kernel)
theorem dX7_either_9 : decode cX7_either 9 = .ok (.ireturn, 1) := zk172 (by decide +kernel)
theorem dX7_either_10 : decode cX7_either 10 = .ok (.aload_n 0, 1) := zk42 (by decide +kernel)
theorem dX7_either_11 : decode cX7_either 11 = .ok (.bipush 124, 2) := zk16 124 rfl (by decide +kernel)
theorem dX7_either_13 : decode cX7_either 13 = .ok (.invokevirtual 234, 3) := zk182 0 234 (by decide +kernel)
theorem dX7_either_16 : decode cX7_either 16 = .ok (.ifCond .eq 27, 3) := zk153 0 27 rfl (by decide +kernel)
theorem dX7_either_19 : decode cX7_either 19 = .ok (.aload_n 0, 1) := zk42 (by decide +kernel)
theorem dX7_either_20 : decode cX7_either 20 = .ok (.invokevirtual 237, 3) := zk182 0 237 (by decide +kernel)
theorem dX7_either_23 : decode cX7_either 23 = .ok (.aload_n 0, 1) := zk42 (by decide +kernel)
theorem dX7_either_24 : decode cX7_either 24 = .ok (.iload_n 1, 1) := zk27 (by decide +kernel)
theorem dX7_either_25 : decode cX7_either 25 = .ok (.invokevirtual 231, 3) := zk182 0 231 (by decide +kernel)
theorem dX7_either_28 : decode cX7_either 28 = .ok (.ifCond .ne 5, 3) := zk154 0 5 rfl (by decide +kernel)
theorem dX7_either_31 : decode cX7_either 31 = .ok (.iconst 0, 1) := zk3 (by decide +kernel)
theorem dX7_either_32 : decode cX7_either 32 = .ok (.ireturn, 1) := zk172 (by decide +kernel)
theorem dX7_either_33 : decode cX7_either 33 = .ok (.aload_n 0, 1) := zk42 (by decide +kernel)
theorem dX7_either_34 : decode cX7_either 34 = .ok (.iconst 2, 1) := zk5 (by decide +kernel)
theorem dX7_either_35 : decode cX7_either 35 = .ok (.bipush 124, 2) := zk16 124 rfl (by decide +kernel)
theorem dX7_either_37 : decode cX7_either 37 = .ok (.invokevirtual 240, 3) := zk182 0 240 (by decide +kernel)
theorem dX7_either_40 : decode cX7_either 40 = .ok (.goto (-30), 3) := zk167 255 226 rfl (by decide +kernel)
theorem dX7_either_43 : decode cX7_either 43 = .ok (.iconst 1, 1) := zk4 (by decide +kernel)
theorem dX7_either_44 : decode cX7_either 44 = .ok (.ireturn, 1) := zk172 (by decide +kernel)
set_option maxRecDepth 20000 in
theorem gw_wsX7_test : wsX7_test.all goodWord = true := by decide +kernel
def bs_wsX7_both : List (List Cond) := [[.code yX7_both cX7_both 2 (some .boolean)], wsX7_both_r1, wsX7_both_r2, wsX7_both_r3, wsX70]
theorem bse_wsX7_both : wsX7_both = bs_wsX7_both.flatten := by
  unfold wsX7_both bs_wsX7_both
  simp only [List.flatten_cons, List.flatten_nil, List.append_nil, List.append_assoc, List.cons_append, List.nil_append]
set_option maxRecDepth 20000 in
theorem ggX7_both_X7_test : GoodIn wsX7_both wsX7_test := goodIn_pc bs_wsX7_both bse_wsX7_both _ [(3, [15]), (1, [9]), (3, [16, 17, 18]), (1, [3, 4, 5, 6, 7, 8, 10, 11, 12, 13, 14, 15, 16, 17, 18, 19, 20, 21, 22, 23]), (2, [0, 1, 2, 3, 4, 5, 6, 7, 8, 9, 10, 11, 12, 13, 14, 15, 16]), (0, [0]), (1, [0, 1, 2]), (2, [17, 18, 19, 20, 21, 22, 23]), (3, [0, 1, 2, 3, 4, 5, 6, 7, 8, 9, 10, 11, 12, 13, 14]), (4, [0, 1, 2, 3, 4, 5, 6, 7, 8, 9, 10, 11, 12, 13, 14, 15, 16, 17, 18, 19, 20, 21, 22, 23, 24, 25, 26, 27, 28, 29, 30])] rfl gw_wsX7_test
set_option maxRecDepth 20000 in
theorem gX7_both_X7_test : GoodIn wsX7_both (wsV RX7 244 RX7 yX7_test wsX7_test) := goodIn_app (goodIn_pc bs_wsX7_both bse_wsX7_both _ [(1, [0, 1, 2, 3])] rfl (by decide +kernel)) ggX7_both_X7_test
set_option maxRecDepth 20000 in
theorem ggX7_both_X7_isSign : GoodIn wsX7_both wsX7_isSign := goodIn_pc bs_wsX7_both bse_wsX7_both _ [(1, [7, 8, 9]), (4, [0, 1, 2, 3, 4, 5, 6, 7, 8, 9, 10, 11, 12, 13, 14, 15, 16, 17, 18, 19, 20, 21, 22, 23, 24, 25, 26, 27, 28, 29, 30])] rfl gw_wsX7_isSign
set_option maxRecDepth 20000 in
theorem gX7_both_X7_isSign : GoodIn wsX7_both (wsV RX7 234 RX7 yX7_isSign wsX7_isSign) := goodIn_app (goodIn_pc bs_wsX7_both bse_wsX7_both _ [(1, [4, 5, 6, 3])] rfl (by decide +kernel)) ggX7_both_X7_isSign
set_option maxRecDepth 20000 in
theorem ggX7_both_X7_nextToken : GoodIn wsX7_both wsX7_nextToken := goodIn_pc bs_wsX7_both bse_wsX7_both _ [(1, [13, 14, 8, 15, 16, 17, 9, 18, 19, 20, 21, 3, 22, 23]), (2, [0, 1, 2, 3, 4, 5, 6, 7, 8, 9]), (4, [0, 1, 2, 3, 4, 5, 6, 7, 8, 9, 10, 11, 12, 13, 14, 15, 16, 17, 18, 19, 20, 21, 22, 23, 24, 25, 26, 27, 28, 29, 30])] rfl gw_wsX7_nextToken
set_option maxRecDepth 20000 in
theorem gX7_both_X7_nextToken : GoodIn wsX7_both (wsV RX7 237 RX7 yX7_nextToken wsX7_nextToken) := goodIn_app (goodIn_pc bs_wsX7_both bse_wsX7_both _ [(1, [10, 11, 12, 3])] rfl (by decide +kernel)) ggX7_both_X7_nextToken
set_option maxRecDepth 20000 in
theorem ggX7_both_X7_step : GoodIn wsX7_both wsX7_step := goodIn_pc bs_wsX7_both bse_wsX7_both _ [(2, [13, 14, 15, 16]), (4, [0, 1, 2, 3, 4, 5, 6, 7, 8, 9, 10, 11, 12, 13, 14, 15, 16, 17, 18, 19, 20, 21, 22, 23, 24, 25, 26, 27, 28, 29, 30])] rfl gw_wsX7_step
set_option maxRecDepth 20000 in
theorem gX7_both_X7_step : GoodIn wsX7_both (wsV RX7 240 RX7 yX7_step wsX7_step) := goodIn_app (goodIn_pc bs_wsX7_both bse_wsX7_both _ [(2, [10, 11, 12]), (1, [3])] rfl (by decide +kernel)) ggX7_both_X7_step
theorem dX7_both_0 : decode cX7_both 0 = .ok (.aload_n 0, 1) := zk42 (by decide +kernel)
theorem dX7_both_1 : decode cX7_both 1 = .ok (.iload_n 1, 1) := zk27 (by decide +kernel)
theorem dX7_both_2 : decode cX7_both 2 = .ok (.invokevirtual 244, 3) := zk182 0 244 (by decide +kernel)
theorem dX7_both_5 : decode cX7_both 5 = .ok (.ifCond .ne 5, 3) := zk154 0 5 rfl (by decide +kernel)
theorem dX7_both_8 : decode cX7_both 8 = .ok (.iconst 0, 1) := zk3 (by decide +kernel)
theorem dX7_both_9 : decode cX7_both 9 = .ok (.ireturn, 1) := zk172 (by decide +kernel)
theorem dX7_both_10 : decode cX7_both 10 = .ok (.aload_n 0, 1) := zk42 (by decide +kernel)
theorem dX7_both_11 : decode cX7_both 11 = .ok (.bipush 38, 2) := zk16 38 rfl (by decide +kernel)
theorem dX7_both_13 : decode cX7_both 13 = .ok (.invokevirtual 234, 3) := zk182 0 234 (by decide +kernel)
theorem dX7_both_16 : decode cX7_both 16 = .ok (.ifCond .eq 27, 3) := zk153 0 27 rfl (by decide +kernel)
theorem dX7_both_19 : decode cX7_both 19 = .ok (.aload_n 0, 1) := zk42 (by decide +kernel)
theorem dX7_both_20 : decode cX7_both 20 = .ok (.invokevirtual 237, 3) := zk182 0 237 (by decide +kernel)
theorem dX7_both_23 : decode cX7_both 23 = .ok (.aload_n 0, 1) := zk42 (by decide +kernel)
theorem dX7_both_24 : decode cX7_both 24 = .ok (.iload_n 1, 1) := zk27 (by decide +kernel)
theorem dX7_both_25 : decode cX7_both 25 = .ok (.invokevirtual 244, 3) := zk182 0 244 (by decide +kernel)
theorem dX7_both_28 : decode cX7_both 28 = .ok (.ifCond .ne 5, 3) := zk154 0 5 rfl (by decide +kernel)
theorem dX7_both_31 : decode cX7_both 31 = .ok (.iconst 0, 1) := zk3 (by decide +kernel)
theorem dX7_both_32 : decode cX7_both 32 = .ok (.ireturn, 1) := zk172 (by decide +kernel)
theorem dX7_both_33 : decode cX7_both 33 = .ok (.aload_n 0, 1) := zk42 (by decide +kernel)
theorem dX7_both_34 : decode cX7_both 34 = .ok (.iconst 2, 1) := zk5 (by decide +kernel)
theorem dX7_both_35 : decode cX7_both 35 = .ok (.bipush 38, 2) := zk16 38 rfl (by decide +kernel)
theorem dX7_both_37 : decode cX7_both 37 = .ok (.invokevirtual 240, 3) := zk182 0 240 (by decide +kernel)
theorem dX7_both_40 : decode cX7_both 40 = .ok (.goto (-30), 3) := zk167 255 226 rfl (by decide +kernel)
theorem dX7_both_43 : decode cX7_both 43 = .ok (.iconst 1, 1) := zk4 (by decide +kernel)
theorem dX7_both_44 : decode cX7_both 44 = .ok (.ireturn, 1) := zk172 (by decide +kernel)
set_option maxRecDepth 20000 in
theorem gw_wsX7_sum : wsX7_sum.all goodWord = true := by decide +kernel
def bs_wsX7_test : List (List Cond) := [[.code yX7_test cX7_test 3 (some .boolean)], wsX7_test_r1, wsX7_test_r2, wsX7_test_r3, wsX70]
theorem bse_wsX7_test : wsX7_test = bs_wsX7_test.flatten := by
  unfold wsX7_test bs_wsX7_test
  simp only [List.flatten_cons, List.flatten_nil, List.append_nil, List.append_assoc, List.cons_append, List.nil_append]
set_option maxRecDepth 20000 in
theorem ggX7_test_X7_sum : GoodIn wsX7_test wsX7_sum := goodIn_pc bs_wsX7_test bse_wsX7_test _ [(3, [14]), (1, [0]), (3, [15, 16, 17]), (1, [4, 5, 6, 7, 8, 9, 10, 11, 12, 13, 14, 15, 16, 17, 18, 19, 20, 21, 22, 23]), (2, [0, 1, 2, 3, 4, 5, 6, 7, 8, 9, 10, 11, 12, 13, 14, 15, 16, 17, 18, 19, 20, 21, 22, 23]), (3, [0, 1, 2, 3, 4, 5, 6, 7, 8, 9, 10, 11, 12, 13, 18]), (0, [0]), (1, [1, 2, 3]), (4, [0, 1, 2, 3, 4, 5, 6, 7, 8, 9, 10, 11, 12, 13, 14, 15, 16, 17, 18, 19, 20, 21, 22, 23, 24, 25, 26, 27, 28, 29, 30])] rfl gw_wsX7_sum
set_option maxRecDepth 20000 in
theorem gX7_test_X7_sum : GoodIn wsX7_test (wsV RX7 247 RX7 yX7_sum wsX7_sum) := goodIn_app (goodIn_pc bs_wsX7_test bse_wsX7_test _ [(1, [1, 2, 3, 4])] rfl (by decide +kernel)) ggX7_test_X7_sum
set_option maxRecDepth 20000 in
theorem ggX7_test_X7_isSign : GoodIn wsX7_test wsX7_isSign := goodIn_pc bs_wsX7_test bse_wsX7_test _ [(1, [8, 9, 0]), (4, [0, 1, 2, 3, 4, 5, 6, 7, 8, 9, 10, 11, 12, 13, 14, 15, 16, 17, 18, 19, 20, 21, 22, 23, 24, 25, 26, 27, 28, 29, 30])] rfl gw_wsX7_isSign
set_option maxRecDepth 20000 in
theorem gX7_test_X7_isSign : GoodIn wsX7_test (wsV RX7 234 RX7 yX7_isSign wsX7_isSign) := goodIn_app (goodIn_pc bs_wsX7_test bse_wsX7_test _ [(1, [5, 6, 7, 4])] rfl (by decide +kernel)) ggX7_test_X7_isSign
set_option maxRecDepth 20000 in
theorem ggX7_test_X7_nextToken : GoodIn wsX7_test wsX7_nextToken := goodIn_pc bs_wsX7_test bse_wsX7_test _ [(1, [13, 14, 9, 15, 16, 17, 0, 18, 19, 20, 21, 4, 22, 23]), (2, [0, 1, 2, 3, 4, 5, 6, 7, 8, 9]), (4, [0, 1, 2, 3, 4, 5, 6, 7, 8, 9, 10, 11, 12, 13, 14, 15, 16, 17, 18, 19, 20, 21, 22, 23, 24, 25, 26, 27, 28, 29, 30])] rfl gw_wsX7_nextToken
set_option maxRecDepth 20000 in
theorem gX7_test_X7_nextToken : GoodIn wsX7_test (wsV RX7 237 RX7 yX7_nextToken wsX7_nextToken) := goodIn_app (goodIn_pc bs_wsX7_test bse_wsX7_test _ [(1, [10, 11, 12, 4])] rfl (by decide +kernel)) ggX7_test_X7_nextToken
set_option maxRecDepth 20000 in
theorem ggX7_test_X7_step : GoodIn wsX7_test wsX7_step := goodIn_pc bs_wsX7_test bse_wsX7_test _ [(2, [13, 14, 15, 16]), (4, [0, 1, 2, 3, 4, 5, 6, 7, 8, 9, 10, 11, 12, 13, 14, 15, 16, 17, 18, 19, 20, 21, 22, 23, 24, 25, 26, 27, 28, 29, 30])] rfl gw_wsX7_step
set_option maxRecDepth 20000 in
theorem gX7_test_X7_step : GoodIn wsX7_test (wsV RX7 240 RX7 yX7_step wsX7_step) := goodIn_app (goodIn_pc bs_wsX7_test bse_wsX7_test _ [(2, [10, 11, 12]), (1, [4])] rfl (by decide +kernel)) ggX7_test_X7_step
theorem dX7_test_0 : decode cX7_test 0 = .ok (.aload_n 0, 1) := zk42 (by decide +kernel)
theorem dX7_test_1 : decode cX7_test 1 = .ok (.iload_n 1, 1) := zk27 (by decide +kernel)
theorem dX7_test_2 : decode cX7_test 2 = .ok (.invokevirtual 247, 3) := zk182 0 247 (by decide +kernel)
theorem dX7_test_5 : decode cX7_test 5 = .ok (.ifCond .ne 5, 3) := zk154 0 5 rfl (by decide +kernel)
theorem dX7_test_8 : decode cX7_test 8 = .ok (.iconst 0, 1) := zk3 (by decide +kernel)
theorem dX7_test_9 : decode cX7_test 9 = .ok (.ireturn, 1) := zk172 (by decide +kernel)
theorem dX7_test_10 : decode cX7_test 10 = .ok (.aload_n 0, 1) := zk42 (by decide +kernel)
theorem dX7_test_11 : decode cX7_test 11 = .ok (.bipush 60, 2) := zk16 60 rfl (by decide +kernel)
theorem dX7_test_13 : decode cX7_test 13 = .ok (.invokevirtual 234, 3) := zk182 0 234 (by decide +kernel)
theorem dX7_test_16 : decode cX7_test 16 = .ok (.ifCond .ne 21, 3) := zk154 0 21 rfl (by decide +kernel)
theorem dX7_test_19 : decode cX7_test 19 = .ok (.aload_n 0, 1) := zk42 (by decide +kernel)
theorem dX7_test_20 : decode cX7_test 20 = .ok (.bipush 61, 2) := zk16 61 rfl (by decide +kernel)
theorem dX7_test_22 : decode cX7_test 22 = .ok (.invokevirtual 234, 3) := zk182 0 234 (by decide +kernel)
theorem dX7_test_25 : decode cX7_test 25 = .ok (.ifCond .ne 12, 3) := zk154 0 12 rfl (by decide +kernel)
theorem dX7_test_28 : decode cX7_test 28 = .ok (.aload_n 0, 1) := zk42 (by decide +kernel)
theorem dX7_test_29 : decode cX7_test 29 = .ok (.bipush 62, 2) := zk16 62 rfl (by decide +kernel)
theorem dX7_test_31 : decode cX7_test 31 = .ok (.invokevirtual 234, 3) := zk182 0 234 (by decide +kernel)
theorem dX7_test_34 : decode cX7_test 34 = .ok (.ifCond .eq 28, 3) := zk153 0 28 rfl (by decide +kernel)
theorem dX7_test_37 : decode cX7_test 37 = .ok (.aload_n 0, 1) := zk42 (by decide +kernel)
theorem dX7_test_38 : decode cX7_test 38 = .ok (.getfield 212, 3) := zk180 0 212 (by decide +kernel)
theorem dX7_test_41 : decode cX7_test 41 = .ok (.istore_n 2, 1) := zk61 (by decide +kernel)
theorem dX7_test_42 : decode cX7_test 42 = .ok (.aload_n 0, 1) := zk42 (by decide +kernel)
theorem dX7_test_43 : decode cX7_test 43 = .ok (.invokevirtual 237, 3) := zk182 0 237 (by decide +kernel)
theorem dX7_test_46 : decode cX7_test 46 = .ok (.aload_n 0, 1) := zk42 (by decide +kernel)
theorem dX7_test_47 : decode cX7_test 47 = .ok (.iload_n 1, 1) := zk27 (by decide +kernel)
theorem dX7_test_48 : decode cX7_test 48 = .ok (.invokevirtual 247, 3) := zk182 0 247 (by decide +kernel)
theorem dX7_test_51 : decode cX7_test 51 = .ok (.ifCond .ne 5, 3) := zk154 0 5 rfl (by decide +kernel)
theorem dX7_test_54 : decode cX7_test 54 = .ok (.iconst 0, 1) := zk3 (by decide +kernel)
theorem dX7_test_55 : decode cX7_test 55 = .ok (.ireturn, 1) := zk172 (by decide +kernel)
theorem dX7_test_56 : decode cX7_test 56 = .ok (.aload_n 0, 1) := zk42 (by decide +kernel)
theorem dX7_test_57 : decode cX7_test 57 = .ok (.iconst 2, 1) := zk5 (by decide +kernel)
theorem dX7_test_58 : decode cX7_test 58 = .ok (.iload_n 2, 1) := zk28 (by decide +kernel)
theorem dX7_test_59 : decode cX7_test 59 = .ok (.invokevirtual 240, 3) := zk182 0 240 (by decide +kernel)
theorem dX7_test_62 : decode cX7_test 62 = .ok (.iconst 1, 1) := zk4 (by decide +kernel)
theorem dX7_test_63 : decode cX7_test 63 = .ok (.ireturn, 1) := zk172 (by decide +kernel)
set_option maxRecDepth 20000 in
theorem gw_wsX7_term : wsX7_term.all goodWord = true := by decide +kernel
def bs_wsX7_sum : List (List Cond) := [[.code yX7_sum cX7_sum 3 (some .boolean)], wsX7_sum_r1, wsX7_sum_r2, wsX7_sum_r3, wsX70]
theorem bse_wsX7_sum : wsX7_sum = bs_wsX7_sum.flatten := by
  unfold wsX7_sum bs_wsX7_sum
  simp only [List.flatten_cons, List.flatten_nil, List.append_nil, List.append_assoc, List.cons_append, List.nil_append]
set_option maxRecDepth 20000 in
theorem ggX7_sum_X7_term : GoodIn wsX7_sum wsX7_term := goodIn_pc bs_wsX7_sum bse_wsX7_sum _ [(3, [14]), (1, [0]), (3, [8, 9, 10]), (1, [4, 5, 6, 7, 8, 9, 10, 11, 12, 13, 14, 15, 16, 17, 18, 19, 20, 21, 22, 23]), (2, [0, 1, 2, 3, 4, 5, 6, 7, 8, 9, 10, 11, 12, 13, 14, 15, 16, 17, 18, 19, 20, 21, 22, 23]), (3, [0, 1, 2, 3, 4, 5, 6, 7, 11, 12, 13]), (0, [0]), (1, [1, 2, 3]), (3, [15, 16, 17, 18]), (4, [0, 1, 2, 3, 4, 5, 6, 7, 8, 9, 10, 11, 12, 13, 14, 15, 16, 17, 18, 19, 20, 21, 22, 23, 24, 25, 26, 27, 28, 29, 30])] rfl gw_wsX7_term
set_option maxRecDepth 20000 in
theorem gX7_sum_X7_term : GoodIn wsX7_sum (wsV RX7 250 RX7 yX7_term wsX7_term) := goodIn_app (goodIn_pc bs_wsX7_sum bse_wsX7_sum _ [(1, [1, 2, 3, 4])] rfl (by decide +kernel)) ggX7_sum_X7_term
set_option maxRecDepth 20000 in
theorem ggX7_sum_X7_isSign : GoodIn wsX7_sum wsX7_isSign := goodIn_pc bs_wsX7_sum bse_wsX7_sum _ [(1, [8, 9, 0]), (4, [0, 1, 2, 3, 4, 5, 6, 7, 8, 9, 10, 11, 12, 13, 14, 15, 16, 17, 18, 19, 20, 21, 22, 23, 24, 25, 26, 27, 28, 29, 30])] rfl gw_wsX7_isSign
set_option maxRecDepth 20000 in
theorem gX7_sum_X7_isSign : GoodIn wsX7_sum (wsV RX7 234 RX7 yX7_isSign wsX7_isSign) := goodIn_app (goodIn_pc bs_wsX7_sum bse_wsX7_sum _ [(1, [5, 6, 7, 4])] rfl (by decide +kernel)) ggX7_sum_X7_isSign
set_option maxRecDepth 20000 in
theorem ggX7_sum_X7_nextToken : GoodIn wsX7_sum wsX7_nextToken := goodIn_pc bs_wsX7_sum bse_wsX7_sum _ [(1, [13, 14, 9, 15, 16, 17, 0, 18, 19, 20, 21, 4, 22, 23]), (2, [0, 1, 2, 3, 4, 5, 6, 7, 8, 9]), (4, [0, 1, 2, 3, 4, 5, 6, 7, 8, 9, 10, 11, 12, 13, 14, 15, 16, 17, 18, 19, 20, 21, 22, 23, 24, 25, 26, 27, 28, 29, 30])] rfl gw_wsX7_nextToken
set_option maxRecDepth 20000 in
theorem gX7_sum_X7_nextToken : GoodIn wsX7_sum (wsV RX7 237 RX7 yX7_nextToken wsX7_nextToken) := goodIn_app (goodIn_pc bs_wsX7_sum bse_wsX7_sum _ [(1, [10, 11, 12, 4])] rfl (by decide +kernel)) ggX7_sum_X7_nextToken
set_option maxRecDepth 20000 in
theorem ggX7_sum_X7_step : GoodIn wsX7_sum wsX7_step := goodIn_pc bs_wsX7_sum bse_wsX7_sum _ [(2, [13, 14, 15, 16]), (4, [0, 1, 2, 3, 4, 5, 6, 7, 8, 9, 10, 11, 12, 13, 14, 15, 16, 17, 18, 19, 20, 21, 22, 23, 24, 25, 26, 27, 28, 29, 30])] rfl gw_wsX7_step
set_option maxRecDepth 20000 in
theorem gX7_sum_X7_step : GoodIn wsX7_sum (wsV RX7 240 RX7 yX7_step wsX7_step) := goodIn_app (goodIn_pc bs_wsX7_sum bse_wsX7_sum _ [(2, [10, 11, 12]), (1, [4])] rfl (by decide +kernel)) ggX7_sum_X7_step
theorem dX7_sum_0 : decode cX7_sum 0 = .ok (.aload_n 0, 1) := zk42 (by decide +kernel)
theorem dX7_sum_1 : decode cX7_sum 1 = .ok (.iload_n 1, 1) := zk27 (by decide +kernel)
theorem dX7_sum_2 : decode cX7_sum 2 = .ok (.invokevirtual 250, 3) := zk182 0 250 (by decide +kernel)
theorem dX7_sum_5 : decode cX7_sum 5 = .ok (.ifCond .ne 5, 3) := zk154 0 5 rfl (by decide +kernel)
theorem dX7_sum_8 : decode cX7_sum 8 = .ok (.iconst 0, 1) := zk3 (by decide +kernel)
theorem dX7_sum_9 : decode cX7_sum 9 = .ok (.ireturn, 1) := zk172 (by decide +kernel)
theorem dX7_sum_10 : decode cX7_sum 10 = .ok (.aload_n 0, 1) := zk42 (by decide +kernel)
theorem dX7_sum_11 : decode cX7_sum 11 = .ok (.bipush 43, 2) := zk16 43 rfl (by decide +kernel)
theorem dX7_sum_13 : decode cX7_sum 13 = .ok (.invokevirtual 234, 3) := zk182 0 234 (by decide +kernel)
theorem dX7_sum_16 : decode cX7_sum 16 = .ok (.ifCond .ne 12, 3) := zk154 0 12 rfl (by decide +kernel)
theorem dX7_sum_19 : decode cX7_sum 19 = .ok (.aload_n 0, 1) := zk42 (by decide +kernel)
theorem dX7_sum_20 : decode cX7_sum 20 = .ok (.bipush 45, 2) := zk16 45 rfl (by decide +kernel)
theorem dX7_sum_22 : decode cX7_sum 22 = .ok (.invokevirtual 234, 3) := zk182 0 234 (by decide +kernel)
theorem dX7_sum_25 : decode cX7_sum 25 = .ok (.ifCond .eq 31, 3) := zk153 0 31 rfl (by decide +kernel)
theorem dX7_sum_28 : decode cX7_sum 28 = .ok (.aload_n 0, 1) := zk42 (by decide +kernel)
theorem dX7_sum_29 : decode cX7_sum 29 = .ok (.getfield 212, 3) := zk180 0 212 (by decide +kernel)
theorem dX7_sum_32 : decode cX7_sum 32 = .ok (.istore_n 2, 1) := zk61 (by decide +kernel)
theorem dX7_sum_33 : decode cX7_sum 33 = .ok (.aload_n 0, 1) := zk42 (by decide +kernel)
theorem dX7_sum_34 : decode cX7_sum 34 = .ok (.invokevirtual 237, 3) := zk182 0 237 (by decide +kernel)
theorem dX7_sum_37 : decode cX7_sum 37 = .ok (.aload_n 0, 1) := zk42 (by decide +kernel)
theorem dX7_sum_38 : decode cX7_sum 38 = .ok (.iload_n 1, 1) := zk27 (by decide +kernel)
theorem dX7_sum_39 : decode cX7_sum 39 = .ok (.invokevirtual 250, 3) := zk182 0 250 (by decide +kernel)
theorem dX7_sum_42 : decode cX7_sum 42 = .ok (.ifCond .ne 5, 3) := zk154 0 5 rfl (by decide +kernel)
theorem dX7_sum_45 : decode cX7_sum 45 = .ok (.iconst 0, 1) := zk3 (by decide +kernel)
theorem dX7_sum_46 : decode cX7_sum 46 = .ok (.ireturn, 1) := zk172 (by decide +kernel)
theorem dX7_sum_47 : decode cX7_sum 47 = .ok (.aload_n 0, 1) := zk42 (by decide +kernel)
theorem dX7_sum_48 : decode cX7_sum 48 = .ok (.iconst 2, 1) := zk5 (by decide +kernel)
theorem dX7_sum_49 : decode cX7_sum 49 = .ok (.iload_n 2, 1) := zk28 (by decide +kernel)
theorem dX7_sum_50 : decode cX7_sum 50 = .ok (.invokevirtual 240, 3) := zk182 0 240 (by decide +kernel)
theorem dX7_sum_53 : decode cX7_sum 53 = .ok (.goto (-43), 3) := zk167 255 213 rfl (by decide +kernel)
theorem dX7_sum_56 : decode cX7_sum 56 = .ok (.iconst 1, 1) := zk4 (by decide +kernel)
theorem dX7_sum_57 : decode cX7_sum 57 = .ok (.ireturn, 1) := zk172 (by decide +kernel)
set_option maxRecDepth 20000 in
theorem gw_wsX7_part0 : wsX7_part0.all goodWord = true := by decide +kernel
def bs_wsX7_term : List (List Cond) := [[.code yX7_term cX7_term 3 (some .boolean)], wsX7_term_r1, wsX7_term_r2, wsX7_term_r3, wsX70]
theorem bse_wsX7_term : wsX7_term = bs_wsX7_term.flatten := by
  unfold wsX7_term bs_wsX7_term
  simp only [List.flatten_cons, List.flatten_nil, List.append_nil, List.append_assoc, List.cons_append, List.nil_append]
set_option maxRecDepth 20000 in
theorem ggX7_term_X7_part0 : GoodIn wsX7_term wsX7_part0 := goodIn_pc bs_wsX7_term bse_wsX7_term _ [(3, [1]), (1, [9, 18]), (3, [2]), (1, [0]), (3, [3, 4]), (2, [10, 11, 12]), (1, [4]), (2, [13, 14, 15, 16]), (1, [10, 11, 12, 13, 14, 15, 16, 17, 19, 20, 21, 22, 23]), (2, [0, 1, 2, 3, 4, 5, 6, 7, 8, 9]), (3, [5, 6, 7]), (1, [5, 6, 7, 8, 1, 2, 3]), (3, [8, 9, 10]), (2, [17, 18, 19, 20, 21, 22, 23]), (3, [0, 11, 12, 13, 14]), (0, [0]), (3, [15, 16, 17, 18]), (4, [0, 1, 2, 3, 4, 5, 6, 7, 8, 9, 10, 11, 12, 13, 14, 15, 16, 17, 18, 19, 20, 21, 22, 23, 24, 25, 26, 27, 28, 29, 30])] rfl gw_wsX7_part0
set_option maxRecDepth 20000 in
theorem gX7_term_X7_part0 : GoodIn wsX7_term (wsV RX7 253 RX7 yX7_part0 wsX7_part0) := goodIn_app (goodIn_pc bs_wsX7_term bse_wsX7_term _ [(1, [1, 2, 3, 4])] rfl (by decide +kernel)) ggX7_term_X7_part0
set_option maxRecDepth 20000 in
theorem ggX7_term_X7_isSign : GoodIn wsX7_term wsX7_isSign := goodIn_pc bs_wsX7_term bse_wsX7_term _ [(1, [8, 9, 0]), (4, [0, 1, 2, 3, 4, 5, 6, 7, 8, 9, 10, 11, 12, 13, 14, 15, 16, 17, 18, 19, 20, 21, 22, 23, 24, 25, 26, 27, 28, 29, 30])] rfl gw_wsX7_isSign
set_option maxRecDepth 20000 in
theorem gX7_term_X7_isSign : GoodIn wsX7_term (wsV RX7 234 RX7 yX7_isSign wsX7_isSign) := goodIn_app (goodIn_pc bs_wsX7_term bse_wsX7_term _ [(1, [5, 6, 7, 4])] rfl (by decide +kernel)) ggX7_term_X7_isSign
set_option maxRecDepth 20000 in
theorem ggX7_term_X7_nextToken : GoodIn wsX7_term wsX7_nextToken := goodIn_pc bs_wsX7_term bse_wsX7_term _ [(1, [13, 14, 9, 15, 16, 17, 0, 18, 19, 20, 21, 4, 22, 23]), (2, [0, 1, 2, 3, 4, 5, 6, 7, 8, 9]), (4, [0, 1, 2, 3, 4, 5, 6, 7, 8, 9, 10, 11, 12, 13, 14, 15, 16, 17, 18, 19, 20, 21, 22, 23, 24, 25, 26, 27, 28, 29, 30])] rfl gw_wsX7_nextToken
set_option maxRecDepth 20000 in
theorem gX7_term_X7_nextToken : GoodIn wsX7_term (wsV RX7 237 RX7 yX7_nextToken wsX7_nextToken) := goodIn_app (goodIn_pc bs_wsX7_term bse_wsX7_term _ [(1, [10, 11, 12, 4])] rfl (by decide +kernel)) ggX7_term_X7_nextToken
set_option maxRecDepth 20000 in
theorem ggX7_term_X7_step : GoodIn wsX7_term wsX7_step := goodIn_pc bs_wsX7_term bse_wsX7_term _ [(2, [13, 14, 15, 16]), (4, [0, 1, 2, 3, 4, 5, 6, 7, 8, 9, 10, 11, 12, 13, 14, 15, 16, 17, 18, 19, 20, 21, 22, 23, 24, 25, 26, 27, 28, 29, 30])] rfl gw_wsX7_step
set_option maxRecDepth 20000 in
theorem gX7_term_X7_step : GoodIn wsX7_term (wsV RX7 240 RX7 yX7_step wsX7_step) := goodIn_app (goodIn_pc bs_wsX7_term bse_wsX7_term _ [(2, [10, 11, 12]), (1, [4])] rfl (by decide +kernel)) ggX7_term_X7_step
theorem dX7_term_0 : decode cX7_term 0 = .ok (.aload_n 0, 1) := zk42 (by decide +kernel)
theorem dX7_term_1 : decode cX7_term 1 = .ok (.iload_n 1, 1) := zk27 (by decide +kernel)
theorem dX7_term_2 : decode cX7_term 2 = .ok (.invokevirtual 253, 3) := zk182 0 253 (by decide +kernel)
theorem dX7_term_5 : decode cX7_term 5 = .ok (.ifCond .ne 5, 3) := zk154 0 5 rfl (by decide +kernel)
theorem dX7_term_8 : decode cX7_term 8 = .ok (.iconst 0, 1) := zk3 (by decide +kernel)
theorem dX7_term_9 : decode cX7_term 9 = .ok (.ireturn, 1) := zk172 (by decide +kernel)
theorem dX7_term_10 : decode cX7_term 10 = .ok (.aload_n 0, 1) := zk42 (by decide +kernel)
theorem dX7_term_11 : decode cX7_term 11 = .ok (.bipush 42, 2) := zk16 42 rfl (by decide +kernel)
theorem dX7_term_13 : decode cX7_term 13 = .ok (.invokevirtual 234, 3) := zk182 0 234 (by decide +kernel)
theorem dX7_term_16 : decode cX7_term 16 = .ok (.ifCond .ne 12, 3) := zk154 0 12 rfl (by decide +kernel)
theorem dX7_term_19 : decode cX7_term 19 = .ok (.aload_n 0, 1) := zk42 (by decide +kernel)
theorem dX7_term_20 : decode cX7_term 20 = .ok (.bipush 47, 2) := zk16 47 rfl (by decide +kernel)
theorem dX7_term_22 : decode cX7_term 22 = .ok (.invokevirtual 234, 3) := zk182 0 234 (by decide +kernel)
theorem dX7_term_25 : decode cX7_term 25 = .ok (.ifCond .eq 31, 3) := zk153 0 31 rfl (by decide +kernel)
theorem dX7_term_28 : decode cX7_term 28 = .ok (.aload_n 0, 1) := zk42 (by decide +kernel)
theorem dX7_term_29 : decode cX7_term 29 = .ok (.getfield 212, 3) := zk180 0 212 (by decide +kernel)
theorem dX7_term_32 : decode cX7_term 32 = .ok (.istore_n 2, 1) := zk61 (by decide +kernel)
theorem dX7_term_33 : decode cX7_term 33 = .ok (.aload_n 0, 1) := zk42 (by decide +kernel)
theorem dX7_term_34 : decode cX7_term 34 = .ok (.invokevirtual 237, 3) := zk182 0 237 (by decide +kernel)
theorem dX7_term_37 : decode cX7_term 37 = .ok (.aload_n 0, 1) := zk42 (by decide +kernel)
theorem dX7_term_38 : decode cX7_term 38 = .ok (.iload_n 1, 1) := zk27 (by decide +kernel)
theorem dX7_term_39 : decode cX7_term 39 = .ok (.invokevirtual 253, 3) := zk182 0 253 (by decide +kernel)
theorem dX7_term_42 : decode cX7_term 42 = .ok (.ifCond .ne 5, 3) := zk154 0 5 rfl (by decide +kernel)
theorem dX7_term_45 : decode cX7_term 45 = .ok (.iconst 0, 1) := zk3 (by decide +kernel)
theorem dX7_term_46 : decode cX7_term 46 = .ok (.ireturn, 1) := zk172 (by decide +kernel)
theorem dX7_term_47 : decode cX7_term 47 = .ok (.aload_n 0, 1) := zk42 (by decide +kernel)
theorem dX7_term_48 : decode cX7_term 48 = .ok (.iconst 2, 1) := zk5 (by decide +kernel)
theorem dX7_term_49 : decode cX7_term 49 = .ok (.iload_n 2, 1) := zk28 (by decide +kernel)
theorem dX7_term_50 : decode cX7_term 50 = .ok (.invokevirtual 240, 3) := zk182 0 240 (by decide +kernel)
theorem dX7_term_53 : decode cX7_term 53 = .ok (.goto (-43), 3) := zk167 255 213 rfl (by decide +kernel)
theorem dX7_term_56 : decode cX7_term 56 = .ok (.iconst 1, 1) := zk4 (by decide +kernel)
theorem dX7_term_57 : decode cX7_term 57 = .ok (.ireturn, 1) := zk172 (by decide +kernel)
def bs_wsX7_part0 : List (List Cond) := [[.code yX7_part0 cX7_part0 2 (some .boolean)], wsX7_part0_r1, wsX7_part0_r2, wsX7_part0_r3, wsX70]
theorem bse_wsX7_part0 : wsX7_part0 = bs_wsX7_part0.flatten := by
  unfold wsX7_part0 bs_wsX7_part0
  simp only [List.flatten_cons, List.flatten_nil, List.append_nil, List.append_assoc, List.cons_append, List.nil_append]
set_option maxRecDepth 20000 in
theorem ggX7_part0_X7_step : GoodIn wsX7_part0 wsX7_step := goodIn_pc bs_wsX7_part0 bse_wsX7_part0 _ [(1, [10, 11, 12, 13]), (4, [0, 1, 2, 3, 4, 5, 6, 7, 8, 9, 10, 11, 12, 13, 14, 15, 16, 17, 18, 19, 20, 21, 22, 23, 24, 25, 26, 27, 28, 29, 30])] rfl gw_wsX7_step
set_option maxRecDepth 20000 in
theorem gX7_part0_X7_step : GoodIn wsX7_part0 (wsV RX7 240 RX7 yX7_step wsX7_step) := goodIn_app (goodIn_pc bs_wsX7_part0 bse_wsX7_part0 _ [(1, [6, 7, 8, 9])] rfl (by decide +kernel)) ggX7_part0_X7_step
set_option maxRecDepth 20000 in
theorem ggX7_part0_X7_nextToken : GoodIn wsX7_part0 wsX7_nextToken := goodIn_pc bs_wsX7_part0 bse_wsX7_part0 _ [(1, [17, 18, 0, 19, 20, 21, 3, 1, 22, 23]), (2, [0]), (1, [9]), (2, [1, 2, 3, 4, 5, 6, 7, 8, 9, 10, 11, 12]), (4, [0, 1, 2, 3, 4, 5, 6, 7, 8, 9, 10, 11, 12, 13, 14, 15, 16, 17, 18, 19, 20, 21, 22, 23, 24, 25, 26, 27, 28, 29, 30])] rfl gw_wsX7_nextToken
set_option maxRecDepth 20000 in
theorem gX7_part0_X7_nextToken : GoodIn wsX7_part0 (wsV RX7 237 RX7 yX7_nextToken wsX7_nextToken) := goodIn_app (goodIn_pc bs_wsX7_part0 bse_wsX7_part0 _ [(1, [14, 15, 16, 9])] rfl (by decide +kernel)) ggX7_part0_X7_nextToken
set_option maxRecDepth 20000 in
theorem gw_wsX7_isName : wsX7_isName.all goodWord = true := by decide +kernel
set_option maxRecDepth 20000 in
theorem ggX7_part0_X7_isName : GoodIn wsX7_part0 wsX7_isName := goodIn_pc bs_wsX7_part0 bse_wsX7_part0 _ [(2, [15])] rfl gw_wsX7_isName
set_option maxRecDepth 20000 in
theorem gX7_part0_X7_isName : GoodIn wsX7_part0 (va_wsS RX7 259 yX7_isName wsX7_isName) := goodIn_app (goodIn_pc bs_wsX7_part0 bse_wsX7_part0 _ [(2, [13, 14]), (1, [9])] rfl (by decide +kernel)) ggX7_part0_X7_isName
set_option maxRecDepth 20000 in
theorem ggX7_part0_X7_isSign : GoodIn wsX7_part0 wsX7_isSign := goodIn_pc bs_wsX7_part0 bse_wsX7_part0 _ [(2, [19]), (1, [0, 3]), (4, [0, 1, 2, 3, 4, 5, 6, 7, 8, 9, 10, 11, 12, 13, 14, 15, 16, 17, 18, 19, 20, 21, 22, 23, 24, 25, 26, 27, 28, 29, 30])] rfl gw_wsX7_isSign
set_option maxRecDepth 20000 in
theorem gX7_part0_X7_isSign : GoodIn wsX7_part0 (wsV RX7 234 RX7 yX7_isSign wsX7_isSign) := goodIn_app (goodIn_pc bs_wsX7_part0 bse_wsX7_part0 _ [(2, [16, 17, 18]), (1, [9])] rfl (by decide +kernel)) ggX7_part0_X7_isSign
set_option maxRecDepth 20000 in
theorem ggX7_part0_X7_part0 : GoodIn wsX7_part0 wsX7_part0 := goodIn_pc bs_wsX7_part0 bse_wsX7_part0 _ [(0, [0]), (1, [0, 1, 2, 3, 4, 5, 6, 7, 8, 9, 10, 11, 12, 13, 14, 15, 16, 17, 18, 19, 20, 21, 22, 23]), (2, [0, 1, 2, 3, 4, 5, 6, 7, 8, 9, 10, 11, 12, 13, 14, 15, 16, 17, 18, 19, 20, 21, 22, 23]), (3, [0, 1, 2, 3, 4, 5, 6, 7, 8, 9, 10, 11, 12, 13, 14, 15, 16, 17, 18]), (4, [0, 1, 2, 3, 4, 5, 6, 7, 8, 9, 10, 11, 12, 13, 14, 15, 16, 17, 18, 19, 20, 21, 22, 23, 24, 25, 26, 27, 28, 29, 30])] rfl gw_wsX7_part0
set_option maxRecDepth 20000 in
theorem gX7_part0_X7_part0 : GoodIn wsX7_part0 (wsV RX7 253 RX7 yX7_part0 wsX7_part0) := goodIn_app (goodIn_pc bs_wsX7_part0 bse_wsX7_part0 _ [(2, [20, 21, 22]), (1, [9])] rfl (by decide +kernel)) ggX7_part0_X7_part0
set_option maxRecDepth 20000 in
theorem gw_wsX7_either : wsX7_either.all goodWord = true := by decide +kernel
set_option maxRecDepth 20000 in
theorem ggX7_part0_X7_either : GoodIn wsX7_part0 wsX7_either := goodIn_pc bs_wsX7_part0 bse_wsX7_part0 _ [(3, [6, 7, 8, 9]), (1, [9]), (2, [16, 17, 18, 19]), (1, [0, 3, 14, 15, 16, 17, 18, 19, 20, 21, 1, 22, 23]), (2, [0, 1, 2, 3, 4, 5, 6, 7, 8, 9, 10, 11, 12]), (1, [6, 7, 8, 10, 11, 12, 13]), (3, [2, 3, 4, 5]), (0, [0]), (1, [2, 4, 5]), (2, [13, 14, 15, 20, 21, 22, 23]), (3, [0, 1, 10, 11, 12, 13, 14, 15, 16, 17, 18]), (4, [0, 1, 2, 3, 4, 5, 6, 7, 8, 9, 10, 11, 12, 13, 14, 15, 16, 17, 18, 19, 20, 21, 22, 23, 24, 25, 26, 27, 28, 29, 30])] rfl gw_wsX7_either
set_option maxRecDepth 20000 in
theorem gX7_part0_X7_either : GoodIn wsX7_part0 (wsV RX7 268 RX7 yX7_either wsX7_either) := goodIn_app (goodIn_pc bs_wsX7_part0 bse_wsX7_part0 _ [(2, [23]), (3, [0, 1]), (1, [9])] rfl (by decide +kernel)) ggX7_part0_X7_either
theorem dX7_part0_0 : decode cX7_part0 0 = .ok (.aload_n 0, 1) := zk42 (by decide +kernel)
theorem dX7_part0_1 : decode cX7_part0 1 = .ok (.getfield 203, 3) := zk180 0 203 (by decide +kernel)
theorem dX7_part0_4 : decode cX7_part0 4 = .ok (.iconst 2, 1) := zk5 (by decide +kernel)
theorem dX7_part0_5 : decode cX7_part0 5 = .ok (.if_icmp .ne 28, 3) := zk160 0 28 rfl (by decide +kernel)
theorem dX7_part0_8 : decode cX7_part0 8 = .ok (.aload_n 0, 1) := zk42 (by decide +kernel)
theorem dX7_part0_9 : decode cX7_part0 9 = .ok (.iconst 0, 1) := zk3 (by decide +kernel)
theorem dX7_part0_10 : decode cX7_part0 10 = .ok (.aload_n 0, 1) := zk42 (by decide +kernel)
theorem dX7_part0_11 : decode cX7_part0 11 = .ok (.getfield 218, 3) := zk180 0 218 (by decide +kernel)
theorem dX7_part0_14 : decode cX7_part0 14 = .ok (.invokevirtual 240, 3) := zk182 0 240 (by decide +kernel)
theorem dX7_part0_17 : decode cX7_part0 17 = .ok (.aload_n 0, 1) := zk42 (by decide +kernel)
theorem dX7_part0_18 : decode cX7_part0 18 = .ok (.dup, 1) := zk89 (by decide +kernel)
theorem dX7_part0_19 : decode cX7_part0 19 = .ok (.getfield 256, 3) := zk180 1 0 (by decide +kernel)
theorem dX7_part0_22 : decode cX7_part0 22 = .ok (.iconst 1, 1) := zk4 (by decide +kernel)
theorem dX7_part0_23 : decode cX7_part0 23 = .ok (.iadd, 1) := zk96 (by decide +kernel)
theorem dX7_part0_24 : decode cX7_part0 24 = .ok (.putfield 256, 3) := zk181 1 0 (by decide +kernel)
theorem dX7_part0_27 : decode cX7_part0 27 = .ok (.aload_n 0, 1) := zk42 (by decide +kernel)
theorem dX7_part0_28 : decode cX7_part0 28 = .ok (.invokevirtual 237, 3) := zk182 0 237 (by decide +kernel)
theorem dX7_part0_31 : decode cX7_part0 31 = .ok (.iconst 1, 1) := zk4 (by decide +kernel)
theorem dX7_part0_32 : decode cX7_part0 32 = .ok (.ireturn, 1) := zk172 (by decide +kernel)
theorem dX7_part0_33 : decode cX7_part0 33 = .ok (.aload_n 0, 1) := zk42 (by decide +kernel)
theorem dX7_part0_34 : decode cX7_part0 34 = .ok (.getfield 203, 3) := zk180 0 203 (by decide +kernel)
theorem dX7_part0_37 : decode cX7_part0 37 = .ok (.iconst 1, 1) := zk4 (by decide +kernel)
theorem dX7_part0_38 : decode cX7_part0 38 = .ok (.if_icmp .ne 46, 3) := zk160 0 46 rfl (by decide +kernel)
theorem dX7_part0_41 : decode cX7_part0 41 = .ok (.aload_n 0, 1) := zk42 (by decide +kernel)
theorem dX7_part0_42 : decode cX7_part0 42 = .ok (.getfield 212, 3) := zk180 0 212 (by decide +kernel)
theorem dX7_part0_45 : decode cX7_part0 45 = .ok (.ifCond .eq 39, 3) := zk153 0 39 rfl (by decide +kernel)
theorem dX7_part0_48 : decode cX7_part0 48 = .ok (.iload_n 1, 1) := zk27 (by decide +kernel)
theorem dX7_part0_49 : decode cX7_part0 49 = .ok (.aload_n 0, 1) := zk42 (by decide +kernel)
theorem dX7_part0_50 : decode cX7_part0 50 = .ok (.getfield 212, 3) := zk180 0 212 (by decide +kernel)
theorem dX7_part0_53 : decode cX7_part0 53 = .ok (.invokestatic 259, 3) := zk184 1 3 (by decide +kernel)
theorem dX7_part0_56 : decode cX7_part0 56 = .ok (.ifCond .eq 28, 3) := zk153 0 28 rfl (by decide +kernel)
theorem dX7_part0_59 : decode cX7_part0 59 = .ok (.aload_n 0, 1) := zk42 (by decide +kernel)
theorem dX7_part0_60 : decode cX7_part0 60 = .ok (.iconst 1, 1) := zk4 (by decide +kernel)
theorem dX7_part0_61 : decode cX7_part0 61 = .ok (.aload_n 0, 1) := zk42 (by decide +kernel)
theorem dX7_part0_62 : decode cX7_part0 62 = .ok (.getfield 212, 3) := zk180 0 212 (by decide +kernel)
theorem dX7_part0_65 : decode cX7_part0 65 = .ok (.invokevirtual 240, 3) := zk182 0 240 (by decide +kernel)
theorem dX7_part0_68 : decode cX7_part0 68 = .ok (.aload_n 0, 1) := zk42 (by decide +kernel)
theorem dX7_part0_69 : decode cX7_part0 69 = .ok (.dup, 1) := zk89 (by decide +kernel)
theorem dX7_part0_70 : decode cX7_part0 70 = .ok (.getfield 256, 3) := zk180 1 0 (by decide +kernel)
theorem dX7_part0_73 : decode cX7_part0 73 = .ok (.iconst 1, 1) := zk4 (by decide +kernel)
theorem dX7_part0_74 : decode cX7_part0 74 = .ok (.iadd, 1) := zk96 (by decide +kernel)
theorem dX7_part0_75 : decode cX7_part0 75 = .ok (.putfield 256, 3) := zk181 1 0 (by decide +kernel)
theorem dX7_part0_78 : decode cX7_part0 78 = .ok (.aload_n 0, 1) := zk42 (by decide +kernel)
theorem dX7_part0_79 : decode cX7_part0 79 = .ok (.invokevirtual 237, 3) := zk182 0 237 (by decide +kernel)
theorem dX7_part0_82 : decode cX7_part0 82 = .ok (.iconst 1, 1) := zk4 (by decide +kernel)
theorem dX7_part0_83 : decode cX7_part0 83 = .ok (.ireturn, 1) := zk172 (by decide +kernel)
theorem dX7_part0_84 : decode cX7_part0 84 = .ok (.aload_n 0, 1) := zk42 (by decide +kernel)
theorem dX7_part0_85 : decode cX7_part0 85 = .ok (.bipush 33, 2) := zk16 33 rfl (by decide +kernel)
theorem dX7_part0_87 : decode cX7_part0 87 = .ok (.invokevirtual 234, 3) := zk182 0 234 (by decide +kernel)
theorem dX7_part0_90 : decode cX7_part0 90 = .ok (.ifCond .eq 55, 3) := zk153 0 55 rfl (by decide +kernel)
theorem dX7_part0_93 : decode cX7_part0 93 = .ok (.aload_n 0, 1) := zk42 (by decide +kernel)
theorem dX7_part0_94 : decode cX7_part0 94 = .ok (.getfield 262, 3) := zk180 1 6 (by decide +kernel)
theorem dX7_part0_97 : decode cX7_part0 97 = .ok (.bipush 8, 2) := zk16 8 rfl (by decide +kernel)
theorem dX7_part0_99 : decode cX7_part0 99 = .ok (.if_icmp .ge 46, 3) := zk162 0 46 rfl (by decide +kernel)
theorem dX7_part0_102 : decode cX7_part0 102 = .ok (.aload_n 0, 1) := zk42 (by decide +kernel)
theorem dX7_part0_103 : decode cX7_part0 103 = .ok (.dup, 1) := zk89 (by decide +kernel)
theorem dX7_part0_104 : decode cX7_part0 104 = .ok (.getfield 262, 3) := zk180 1 6 (by decide +kernel)
theorem dX7_part0_107 : decode cX7_part0 107 = .ok (.iconst 1, 1) := zk4 (by decide +kernel)
theorem dX7_part0_108 : decode cX7_part0 108 = .ok (.iadd, 1) := zk96 (by decide +kernel)
theorem dX7_part0_109 : decode cX7_part0 109 = .ok (.putfield 262, 3) := zk181 1 6 (by decide +kernel)
theorem dX7_part0_112 : decode cX7_part0 112 = .ok (.aload_n 0, 1) := zk42 (by decide +kernel)
theorem dX7_part0_113 : decode cX7_part0 113 = .ok (.invokevirtual 237, 3) := zk182 0 237 (by decide +kernel)
theorem dX7_part0_116 : decode cX7_part0 116 = .ok (.aload_n 0, 1) := zk42 (by decide +kernel)
theorem dX7_part0_117 : decode cX7_part0 117 = .ok (.iload_n 1, 1) := zk27 (by decide +kernel)
theorem dX7_part0_118 : decode cX7_part0 118 = .ok (.invokevirtual 253, 3) := zk182 0 253 (by decide +kernel)
theorem dX7_part0_121 : decode cX7_part0 121 = .ok (.ifCond .ne 5, 3) := zk154 0 5 rfl (by decide +kernel)
theorem dX7_part0_124 : decode cX7_part0 124 = .ok (.iconst 0, 1) := zk3 (by decide +kernel)
theorem dX7_part0_125 : decode cX7_part0 125 = .ok (.ireturn, 1) := zk172 (by decide +kernel)
theorem dX7_part0_126 : decode cX7_part0 126 = .ok (.aload_n 0, 1) := zk42 (by decide +kernel)
theorem dX7_part0_127 : decode cX7_part0 127 = .ok (.dup, 1) := zk89 (by decide +kernel)
theorem dX7_part0_128 : decode cX7_part0 128 = .ok (.getfield 262, 3) := zk180 1 6 (by decide +kernel)
theorem dX7_part0_131 : decode cX7_part0 131 = .ok (.iconst 1, 1) := zk4 (by decide +kernel)
theorem dX7_part0_132 : decode cX7_part0 132 = .ok (.isub, 1) := zk100 (by decide +kernel)
theorem dX7_part0_133 : decode cX7_part0 133 = .ok (.putfield 262, 3) := zk181 1 6 (by decide +kernel)
theorem dX7_part0_136 : decode cX7_part0 136 = .ok (.aload_n 0, 1) := zk42 (by decide +kernel)
theorem dX7_part0_137 : decode cX7_part0 137 = .ok (.iconst 2, 1) := zk5 (by decide +kernel)
theorem dX7_part0_138 : decode cX7_part0 138 = .ok (.bipush 33, 2) := zk16 33 rfl (by decide +kernel)
theorem dX7_part0_140 : decode cX7_part0 140 = .ok (.invokevirtual 240, 3) := zk182 0 240 (by decide +kernel)
theorem dX7_part0_143 : decode cX7_part0 143 = .ok (.iconst 1, 1) := zk4 (by decide +kernel)
theorem dX7_part0_144 : decode cX7_part0 144 = .ok (.ireturn, 1) := zk172 (by decide +kernel)
theorem dX7_part0_145 : decode cX7_part0 145 = .ok (.aload_n 0, 1) := zk42 (by decide +kernel)
theorem dX7_part0_146 : decode cX7_part0 146 = .ok (.bipush 40, 2) := zk16 40 rfl (by decide +kernel)
theorem dX7_part0_148 : decode cX7_part0 148 = .ok (.invokevirtual 234, 3) := zk182 0 234 (by decide +kernel)
theorem dX7_part0_151 : decode cX7_part0 151 = .ok (.ifCond .eq 12, 3) := zk153 0 12 rfl (by decide +kernel)
theorem dX7_part0_154 : decode cX7_part0 154 = .ok (.aload_n 0, 1) := zk42 (by decide +kernel)
theorem dX7_part0_155 : decode cX7_part0 155 = .ok (.getfield 265, 3) := zk180 1 9 (by decide +kernel)
theorem dX7_part0_158 : decode cX7_part0 158 = .ok (.bipush 8, 2) := zk16 8 rfl (by decide +kernel)
theorem dX7_part0_160 : decode cX7_part0 160 = .ok (.if_icmp .ne 5, 3) := zk160 0 5 rfl (by decide +kernel)
theorem dX7_part0_163 : decode cX7_part0 163 = .ok (.iconst 0, 1) := zk3 (by decide +kernel)
theorem dX7_part0_164 : decode cX7_part0 164 = .ok (.ireturn, 1) := zk172 (by decide +kernel)
theorem dX7_part0_165 : decode cX7_part0 165 = .ok (.aload_n 0, 1) := zk42 (by decide +kernel)
theorem dX7_part0_166 : decode cX7_part0 166 = .ok (.dup, 1) := zk89 (by decide +kernel)
theorem dX7_part0_167 : decode cX7_part0 167 = .ok (.getfield 265, 3) := zk180 1 9 (by decide +kernel)
theorem dX7_part0_170 : decode cX7_part0 170 = .ok (.iconst 1, 1) := zk4 (by decide +kernel)
theorem dX7_part0_171 : decode cX7_part0 171 = .ok (.iadd, 1) := zk96 (by decide +kernel)
theorem dX7_part0_172 : decode cX7_part0 172 = .ok (.putfield 265, 3) := zk181 1 9 (by decide +kernel)
theorem dX7_part0_175 : decode cX7_part0 175 = .ok (.aload_n 0, 1) := zk42 (by decide +kernel)
theorem dX7_part0_176 : decode cX7_part0 176 = .ok (.invokevirtual 237, 3) := zk182 0 237 (by decide +kernel)
theorem dX7_part0_179 : decode cX7_part0 179 = .ok (.aload_n 0, 1) := zk42 (by decide +kernel)
theorem dX7_part0_180 : decode cX7_part0 180 = .ok (.iload_n 1, 1) := zk27 (by decide +kernel)
theorem dX7_part0_181 : decode cX7_part0 181 = .ok (.invokevirtual 268, 3) := zk182 1 12 (by decide +kernel)
theorem dX7_part0_184 : decode cX7_part0 184 = .ok (.ifCond .eq 12, 3) := zk153 0 12 rfl (by decide +kernel)
theorem dX7_part0_187 : decode cX7_part0 187 = .ok (.aload_n 0, 1) := zk42 (by decide +kernel)
theorem dX7_part0_188 : decode cX7_part0 188 = .ok (.bipush 41, 2) := zk16 41 rfl (by decide +kernel)
theorem dX7_part0_190 : decode cX7_part0 190 = .ok (.invokevirtual 234, 3) := zk182 0 234 (by decide +kernel)
theorem dX7_part0_193 : decode cX7_part0 193 = .ok (.ifCond .ne 5, 3) := zk154 0 5 rfl (by decide +kernel)
theorem dX7_part0_196 : decode cX7_part0 196 = .ok (.iconst 0, 1) := zk3 (by decide +kernel)
theorem dX7_part0_197 : decode cX7_part0 197 = .ok (.ireturn, 1) := zk172 (by decide +kernel)
theorem dX7_part0_198 : decode cX7_part0 198 = .ok (.aload_n 0, 1) := zk42 (by decide +kernel)
theorem dX7_part0_199 : decode cX7_part0 199 = .ok (.dup, 1) := zk89 (by decide +kernel)
theorem dX7_part0_200 : decode cX7_part0 200 = .ok (.getfield 265, 3) := zk180 1 9 (by decide +kernel)
theorem dX7_part0_203 : decode cX7_part0 203 = .ok (.iconst 1, 1) := zk4 (by decide +kernel)
theorem dX7_part0_204 : decode cX7_part0 204 = .ok (.isub, 1) := zk100 (by decide +kernel)
theorem dX7_part0_205 : decode cX7_part0 205 = .ok (.putfield 265, 3) := zk181 1 9 (by decide +kernel)
theorem dX7_part0_208 : decode cX7_part0 208 = .ok (.aload_n 0, 1) := zk42 (by decide +kernel)
theorem dX7_part0_209 : decode cX7_part0 209 = .ok (.invokevirtual 237, 3) := zk182 0 237 (by decide +kernel)
theorem dX7_part0_212 : decode cX7_part0 212 = .ok (.iconst 1, 1) := zk4 (by decide +kernel)
theorem dX7_part0_213 : decode cX7_part0 213 = .ok (.ireturn, 1) := zk172 (by decide +kernel)
