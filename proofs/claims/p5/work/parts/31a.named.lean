set_option maxRecDepth 20000 in
theorem ggX7_book_X7_of : GoodIn wsX7_book wsX7_of := goodIn_r _ [7, 1, 8, 9, 10, 11, 12, 13, 14, 15, 16, 17, 18, 19, 20, 21, 22, 23, 24, 25, 26, 27, 28, 29, 30, 31, 32, 33, 34, 35, 36, 37, 38] rfl gw_wsX7_of
set_option maxRecDepth 20000 in
theorem gX7_book_X7_of : GoodIn wsX7_book (wsV RX7 85 RX7 yX7_of wsX7_of) := goodIn_app (goodIn_of _ (by decide +kernel)) ggX7_book_X7_of
theorem dgX7_book_0_ : dchk cX7_book [(0, .iload_n 1, 1), (1, .tableswitch 55 0 3 #[31, 38, 45, 52], 31), (32, .aload_n 0, 1), (33, .getfield 7, 3), (36, .iconst 4, 1), (37, .iaload, 1), (38, .ireturn, 1), (39, .aload_n 0, 1), (40, .getfield 7, 3), (43, .iconst 3, 1), (44, .iaload, 1), (45, .ireturn, 1), (46, .aload_n 0, 1), (47, .getfield 7, 3), (50, .iconst 5, 1), (51, .iaload, 1), (52, .ireturn, 1), (53, .goto 6, 3), (56, .ldc 80, 2), (58, .ireturn, 1), (59, .iconst 0, 1), (60, .istore_n 2, 1), (61, .iconst 0, 1), (62, .istore_n 3, 1), (63, .iload_n 3, 1), (64, .aload_n 0, 1), (65, .getfield 7, 3), (68, .iconst 0, 1), (69, .iaload, 1), (70, .if_icmp .ge 18, 3), (73, .iload_n 2, 1), (74, .aload_n 0, 1)] = true := by decide +kernel
theorem dX7_book_0 : decode cX7_book 0 = .ok (.iload_n 1, 1) := dchk_at dgX7_book_0_ 0 rfl
theorem dX7_book_1 : decode cX7_book 1 = .ok (.tableswitch 55 0 3 #[31, 38, 45, 52], 31) := dchk_at dgX7_book_0_ 1 rfl
theorem dX7_book_32 : decode cX7_book 32 = .ok (.aload_n 0, 1) := dchk_at dgX7_book_0_ 2 rfl
theorem dX7_book_33 : decode cX7_book 33 = .ok (.getfield 7, 3) := dchk_at dgX7_book_0_ 3 rfl
theorem dX7_book_36 : decode cX7_book 36 = .ok (.iconst 4, 1) := dchk_at dgX7_book_0_ 4 rfl
theorem dX7_book_37 : decode cX7_book 37 = .ok (.iaload, 1) := dchk_at dgX7_book_0_ 5 rfl
theorem dX7_book_38 : decode cX7_book 38 = .ok (.ireturn, 1) := dchk_at dgX7_book_0_ 6 rfl
theorem dX7_book_39 : decode cX7_book 39 = .ok (.aload_n 0, 1) := dchk_at dgX7_book_0_ 7 rfl
theorem dX7_book_40 : decode cX7_book 40 = .ok (.getfield 7, 3) := dchk_at dgX7_book_0_ 8 rfl
theorem dX7_book_43 : decode cX7_book 43 = .ok (.iconst 3, 1) := dchk_at dgX7_book_0_ 9 rfl
theorem dX7_book_44 : decode cX7_book 44 = .ok (.iaload, 1) := dchk_at dgX7_book_0_ 10 rfl
theorem dX7_book_45 : decode cX7_book 45 = .ok (.ireturn, 1) := dchk_at dgX7_book_0_ 11 rfl
theorem dX7_book_46 : decode cX7_book 46 = .ok (.aload_n 0, 1) := dchk_at dgX7_book_0_ 12 rfl
theorem dX7_book_47 : decode cX7_book 47 = .ok (.getfield 7, 3) := dchk_at dgX7_book_0_ 13 rfl
theorem dX7_book_50 : decode cX7_book 50 = .ok (.iconst 5, 1) := dchk_at dgX7_book_0_ 14 rfl
theorem dX7_book_51 : decode cX7_book 51 = .ok (.iaload, 1) := dchk_at dgX7_book_0_ 15 rfl
theorem dX7_book_52 : decode cX7_book 52 = .ok (.ireturn, 1) := dchk_at dgX7_book_0_ 16 rfl
theorem dX7_book_53 : decode cX7_book 53 = .ok (.goto 6, 3) := dchk_at dgX7_book_0_ 17 rfl
theorem dX7_book_56 : decode cX7_book 56 = .ok (.ldc 80, 2) := dchk_at dgX7_book_0_ 18 rfl
theorem dX7_book_58 : decode cX7_book 58 = .ok (.ireturn, 1) := dchk_at dgX7_book_0_ 19 rfl
theorem dX7_book_59 : decode cX7_book 59 = .ok (.iconst 0, 1) := dchk_at dgX7_book_0_ 20 rfl
theorem dX7_book_60 : decode cX7_book 60 = .ok (.istore_n 2, 1) := dchk_at dgX7_book_0_ 21 rfl
theorem dX7_book_61 : decode cX7_book 61 = .ok (.iconst 0, 1) := dchk_at dgX7_book_0_ 22 rfl
theorem dX7_book_62 : decode cX7_book 62 = .ok (.istore_n 3, 1) := dchk_at dgX7_book_0_ 23 rfl
theorem dX7_book_63 : decode cX7_book 63 = .ok (.iload_n 3, 1) := dchk_at dgX7_book_0_ 24 rfl
theorem dX7_book_64 : decode cX7_book 64 = .ok (.aload_n 0, 1) := dchk_at dgX7_book_0_ 25 rfl
theorem dX7_book_65 : decode cX7_book 65 = .ok (.getfield 7, 3) := dchk_at dgX7_book_0_ 26 rfl
theorem dX7_book_68 : decode cX7_book 68 = .ok (.iconst 0, 1) := dchk_at dgX7_book_0_ 27 rfl
theorem dX7_book_69 : decode cX7_book 69 = .ok (.iaload, 1) := dchk_at dgX7_book_0_ 28 rfl
theorem dX7_book_70 : decode cX7_book 70 = .ok (.if_icmp .ge 18, 3) := dchk_at dgX7_book_0_ 29 rfl
theorem dX7_book_73 : decode cX7_book 73 = .ok (.iload_n 2, 1) := dchk_at dgX7_book_0_ 30 rfl
theorem dX7_book_74 : decode cX7_book 74 = .ok (.aload_n 0, 1) := dchk_at dgX7_book_0_ 31 rfl
theorem dgX7_book_75_ : dchk cX7_book [(75, .iload_n 3, 1), (76, .iconst 2, 1), (77, .invokevirtual 85, 3), (80, .iadd, 1), (81, .istore_n 2, 1), (82, .iinc 3 1, 3), (85, .goto (-22), 3), (88, .iload_n 2, 1), (89, .ireturn, 1)] = true := by decide +kernel
theorem dX7_book_75 : decode cX7_book 75 = .ok (.iload_n 3, 1) := dchk_at dgX7_book_75_ 0 rfl
theorem dX7_book_76 : decode cX7_book 76 = .ok (.iconst 2, 1) := dchk_at dgX7_book_75_ 1 rfl
theorem dX7_book_77 : decode cX7_book 77 = .ok (.invokevirtual 85, 3) := dchk_at dgX7_book_75_ 2 rfl
theorem dX7_book_80 : decode cX7_book 80 = .ok (.iadd, 1) := dchk_at dgX7_book_75_ 3 rfl
theorem dX7_book_81 : decode cX7_book 81 = .ok (.istore_n 2, 1) := dchk_at dgX7_book_75_ 4 rfl
theorem dX7_book_82 : decode cX7_book 82 = .ok (.iinc 3 1, 3) := dchk_at dgX7_book_75_ 5 rfl
theorem dX7_book_85 : decode cX7_book 85 = .ok (.goto (-22), 3) := dchk_at dgX7_book_75_ 6 rfl
theorem dX7_book_88 : decode cX7_book 88 = .ok (.iload_n 2, 1) := dchk_at dgX7_book_75_ 7 rfl
theorem dX7_book_89 : decode cX7_book 89 = .ok (.ireturn, 1) := dchk_at dgX7_book_75_ 8 rfl
theorem dgX7_laysBack_0_ : dchk cX7_laysBack [(0, .iconst 0, 1), (1, .istore_n 1, 1), (2, .iload_n 1, 1), (3, .bipush 47, 2), (5, .if_icmp .ge 21, 3), (8, .aload_n 0, 1), (9, .getfield 7, 3), (12, .iload_n 1, 1), (13, .aload_n 0, 1), (14, .getfield 43, 3), (17, .iload_n 1, 1), (18, .iaload, 1), (19, .iastore, 1), (20, .iinc 1 1, 3), (23, .goto (-21), 3), (26, .return_, 1)] = true := by decide +kernel
theorem dX7_laysBack_0 : decode cX7_laysBack 0 = .ok (.iconst 0, 1) := dchk_at dgX7_laysBack_0_ 0 rfl
theorem dX7_laysBack_1 : decode cX7_laysBack 1 = .ok (.istore_n 1, 1) := dchk_at dgX7_laysBack_0_ 1 rfl
theorem dX7_laysBack_2 : decode cX7_laysBack 2 = .ok (.iload_n 1, 1) := dchk_at dgX7_laysBack_0_ 2 rfl
theorem dX7_laysBack_3 : decode cX7_laysBack 3 = .ok (.bipush 47, 2) := dchk_at dgX7_laysBack_0_ 3 rfl
theorem dX7_laysBack_5 : decode cX7_laysBack 5 = .ok (.if_icmp .ge 21, 3) := dchk_at dgX7_laysBack_0_ 4 rfl
theorem dX7_laysBack_8 : decode cX7_laysBack 8 = .ok (.aload_n 0, 1) := dchk_at dgX7_laysBack_0_ 5 rfl
theorem dX7_laysBack_9 : decode cX7_laysBack 9 = .ok (.getfield 7, 3) := dchk_at dgX7_laysBack_0_ 6 rfl
theorem dX7_laysBack_12 : decode cX7_laysBack 12 = .ok (.iload_n 1, 1) := dchk_at dgX7_laysBack_0_ 7 rfl
theorem dX7_laysBack_13 : decode cX7_laysBack 13 = .ok (.aload_n 0, 1) := dchk_at dgX7_laysBack_0_ 8 rfl
theorem dX7_laysBack_14 : decode cX7_laysBack 14 = .ok (.getfield 43, 3) := dchk_at dgX7_laysBack_0_ 9 rfl
theorem dX7_laysBack_17 : decode cX7_laysBack 17 = .ok (.iload_n 1, 1) := dchk_at dgX7_laysBack_0_ 10 rfl
theorem dX7_laysBack_18 : decode cX7_laysBack 18 = .ok (.iaload, 1) := dchk_at dgX7_laysBack_0_ 11 rfl
theorem dX7_laysBack_19 : decode cX7_laysBack 19 = .ok (.iastore, 1) := dchk_at dgX7_laysBack_0_ 12 rfl
theorem dX7_laysBack_20 : decode cX7_laysBack 20 = .ok (.iinc 1 1, 3) := dchk_at dgX7_laysBack_0_ 13 rfl
theorem dX7_laysBack_23 : decode cX7_laysBack 23 = .ok (.goto (-21), 3) := dchk_at dgX7_laysBack_0_ 14 rfl
theorem dX7_laysBack_26 : decode cX7_laysBack 26 = .ok (.return_, 1) := dchk_at dgX7_laysBack_0_ 15 rfl
set_option maxRecDepth 20000 in
theorem gw_wsX7_goesOn : wsX7_goesOn.all goodWord = true := by decide +kernel
set_option maxRecDepth 20000 in
theorem ggX7_goesOnMany_X7_goesOn : GoodIn wsX7_goesOnMany wsX7_goesOn := goodIn_r _ [5, 6, 7, 8, 4, 9, 10, 11, 12, 13, 14, 15, 16, 17, 18, 19, 20, 21, 22, 23, 24, 25, 26, 27, 28, 29, 30, 31, 32, 33, 34, 35, 36, 37, 38, 39, 40, 41, 42, 43, 44, 45, 46, 47, 48, 49, 50, 51, 52, 53, 54, 55, 56, 57, 58, 59, 60, 61, 62, 63, 64, 65, 66, 67, 68, 69, 70, 71, 72, 73, 74, 75, 76, 77, 78, 79, 80, 81, 82, 83, 84, 85, 86, 87, 88, 89, 90, 91, 92, 93, 94, 95, 96, 97, 98, 99, 100, 101, 102, 103, 104, 105, 106, 107, 108, 109, 110, 111, 112, 113, 114, 115, 116] rfl gw_wsX7_goesOn
set_option maxRecDepth 20000 in
theorem gX7_goesOnMany_X7_goesOn : GoodIn wsX7_goesOnMany (wsV RX7 172 RX7 yX7_goesOn wsX7_goesOn) := goodIn_app (goodIn_of _ (by decide +kernel)) ggX7_goesOnMany_X7_goesOn
theorem dgX7_goesOnMany_0_ : dchk cX7_goesOnMany [(0, .iconst 0, 1), (1, .istore_n 2, 1), (2, .iload_n 2, 1), (3, .iload_n 1, 1), (4, .if_icmp .ge 13, 3), (7, .aload_n 0, 1), (8, .invokevirtual 172, 3), (11, .iinc 2 1, 3), (14, .goto (-12), 3), (17, .return_, 1)] = true := by decide +kernel
theorem dX7_goesOnMany_0 : decode cX7_goesOnMany 0 = .ok (.iconst 0, 1) := dchk_at dgX7_goesOnMany_0_ 0 rfl
theorem dX7_goesOnMany_1 : decode cX7_goesOnMany 1 = .ok (.istore_n 2, 1) := dchk_at dgX7_goesOnMany_0_ 1 rfl
theorem dX7_goesOnMany_2 : decode cX7_goesOnMany 2 = .ok (.iload_n 2, 1) := dchk_at dgX7_goesOnMany_0_ 2 rfl
theorem dX7_goesOnMany_3 : decode cX7_goesOnMany 3 = .ok (.iload_n 1, 1) := dchk_at dgX7_goesOnMany_0_ 3 rfl
theorem dX7_goesOnMany_4 : decode cX7_goesOnMany 4 = .ok (.if_icmp .ge 13, 3) := dchk_at dgX7_goesOnMany_0_ 4 rfl
theorem dX7_goesOnMany_7 : decode cX7_goesOnMany 7 = .ok (.aload_n 0, 1) := dchk_at dgX7_goesOnMany_0_ 5 rfl
theorem dX7_goesOnMany_8 : decode cX7_goesOnMany 8 = .ok (.invokevirtual 172, 3) := dchk_at dgX7_goesOnMany_0_ 6 rfl
theorem dX7_goesOnMany_11 : decode cX7_goesOnMany 11 = .ok (.iinc 2 1, 3) := dchk_at dgX7_goesOnMany_0_ 7 rfl
theorem dX7_goesOnMany_14 : decode cX7_goesOnMany 14 = .ok (.goto (-12), 3) := dchk_at dgX7_goesOnMany_0_ 8 rfl
theorem dX7_goesOnMany_17 : decode cX7_goesOnMany 17 = .ok (.return_, 1) := dchk_at dgX7_goesOnMany_0_ 9 rfl
set_option maxRecDepth 20000 in
theorem ggX7_behind_X7_isIn : GoodIn wsX7_behind wsX7_isIn := goodIn_r _ [8] rfl gw_wsX7_isIn
set_option maxRecDepth 20000 in
theorem gX7_behind_X7_isIn : GoodIn wsX7_behind (va_wsS RX7 65 yX7_isIn wsX7_isIn) := goodIn_app (goodIn_of _ (by decide +kernel)) ggX7_behind_X7_isIn
set_option maxRecDepth 20000 in
theorem gw_wsX7_laysBy : wsX7_laysBy.all goodWord = true := by decide +kernel
set_option maxRecDepth 20000 in
theorem ggX7_behind_X7_laysBy : GoodIn wsX7_behind wsX7_laysBy := goodIn_r _ [12, 13, 4, 102, 103, 104, 105, 106, 107, 108, 109, 110, 111, 112, 113, 114, 115, 116, 117, 118, 119, 120, 121, 122, 123, 124, 125, 126, 127, 128, 129, 130, 131, 132] rfl gw_wsX7_laysBy
set_option maxRecDepth 20000 in
theorem gX7_behind_X7_laysBy : GoodIn wsX7_behind (wsV RX7 175 RX7 yX7_laysBy wsX7_laysBy) := goodIn_app (goodIn_of _ (by decide +kernel)) ggX7_behind_X7_laysBy
set_option maxRecDepth 20000 in
theorem gw_wsX7_goesOnMany : wsX7_goesOnMany.all goodWord = true := by decide +kernel
set_option maxRecDepth 20000 in
theorem ggX7_behind_X7_goesOnMany : GoodIn wsX7_behind wsX7_goesOnMany := goodIn_r _ [17, 18, 19, 20, 7, 21, 22, 23, 24, 25, 4, 26, 27, 28, 29, 30, 31, 32, 33, 34, 35, 36, 37, 38, 39, 40, 41, 42, 43, 44, 45, 46, 47, 48, 49, 50, 51, 52, 5, 6, 8, 53, 54, 55, 56, 57, 58, 59, 60, 61, 62, 63, 64, 65, 66, 67, 68, 69, 70, 71, 72, 73, 74, 75, 76, 77, 78, 79, 80, 81, 82, 83, 84, 85, 86, 87, 88, 89, 90, 91, 92, 93, 94, 95, 96, 97, 102, 103, 104, 105, 106, 107, 108, 109, 110, 111, 112, 113, 114, 115, 116, 117, 118, 119, 120, 121, 122, 123, 124, 125, 126, 127, 128, 129, 130, 131, 132] rfl gw_wsX7_goesOnMany
set_option maxRecDepth 20000 in
theorem gX7_behind_X7_goesOnMany : GoodIn wsX7_behind (wsV RX7 178 RX7 yX7_goesOnMany wsX7_goesOnMany) := goodIn_app (goodIn_of _ (by decide +kernel)) ggX7_behind_X7_goesOnMany
set_option maxRecDepth 20000 in
theorem gw_wsX7_laysBack : wsX7_laysBack.all goodWord = true := by decide +kernel
set_option maxRecDepth 20000 in
theorem ggX7_behind_X7_laysBack : GoodIn wsX7_behind wsX7_laysBack := goodIn_r _ [101, 4, 13, 102, 103, 104, 105, 106, 107, 108, 109, 110, 111, 112, 113, 114, 115, 116, 117, 118, 119, 120, 121, 122, 123, 124, 125, 126, 127, 128, 129, 130, 131, 132] rfl gw_wsX7_laysBack
set_option maxRecDepth 20000 in
theorem gX7_behind_X7_laysBack : GoodIn wsX7_behind (wsV RX7 181 RX7 yX7_laysBack wsX7_laysBack) := goodIn_app (goodIn_of _ (by decide +kernel)) ggX7_behind_X7_laysBack
theorem dgX7_behind_0_ : dchk cX7_behind [(0, .iload_n 1, 1), (1, .i2l, 1), (2, .lconst 0, 1), (3, .ldc2_w 170, 3), (6, .invokestatic 65, 3), (9, .ifCond .eq 15, 3), (12, .iload_n 2, 1), (13, .i2l, 1), (14, .lconst 0, 1), (15, .ldc2_w 133, 3), (18, .invokestatic 65, 3), (21, .ifCond .ne 6, 3), (24, .ldc 80, 2), (26, .ireturn, 1), (27, .aload_n 0, 1), (28, .invokevirtual 175, 3), (31, .aload_n 0, 1), (32, .iload_n 1, 1), (33, .invokevirtual 178, 3), (36, .iload_n 2, 1), (37, .ifCond .ne 12, 3), (40, .aload_n 0, 1), (41, .getfield 7, 3), (44, .iconst 4, 1), (45, .iaload, 1), (46, .goto 38, 3), (49, .iload_n 2, 1), (50, .iconst 1, 1), (51, .if_icmp .ne 12, 3), (54, .aload_n 0, 1), (55, .getfield 7, 3), (58, .iconst 3, 1)] = true := by decide +kernel
theorem dX7_behind_0 : decode cX7_behind 0 = .ok (.iload_n 1, 1) := dchk_at dgX7_behind_0_ 0 rfl
theorem dX7_behind_1 : decode cX7_behind 1 = .ok (.i2l, 1) := dchk_at dgX7_behind_0_ 1 rfl
theorem dX7_behind_2 : decode cX7_behind 2 = .ok (.lconst 0, 1) := dchk_at dgX7_behind_0_ 2 rfl
theorem dX7_behind_3 : decode cX7_behind 3 = .ok (.ldc2_w 170, 3) := dchk_at dgX7_behind_0_ 3 rfl
theorem dX7_behind_6 : decode cX7_behind 6 = .ok (.invokestatic 65, 3) := dchk_at dgX7_behind_0_ 4 rfl
theorem dX7_behind_9 : decode cX7_behind 9 = .ok (.ifCond .eq 15, 3) := dchk_at dgX7_behind_0_ 5 rfl
theorem dX7_behind_12 : decode cX7_behind 12 = .ok (.iload_n 2, 1) := dchk_at dgX7_behind_0_ 6 rfl
theorem dX7_behind_13 : decode cX7_behind 13 = .ok (.i2l, 1) := dchk_at dgX7_behind_0_ 7 rfl
theorem dX7_behind_14 : decode cX7_behind 14 = .ok (.lconst 0, 1) := dchk_at dgX7_behind_0_ 8 rfl
theorem dX7_behind_15 : decode cX7_behind 15 = .ok (.ldc2_w 133, 3) := dchk_at dgX7_behind_0_ 9 rfl
theorem dX7_behind_18 : decode cX7_behind 18 = .ok (.invokestatic 65, 3) := dchk_at dgX7_behind_0_ 10 rfl
theorem dX7_behind_21 : decode cX7_behind 21 = .ok (.ifCond .ne 6, 3) := dchk_at dgX7_behind_0_ 11 rfl
theorem dX7_behind_24 : decode cX7_behind 24 = .ok (.ldc 80, 2) := dchk_at dgX7_behind_0_ 12 rfl
theorem dX7_behind_26 : decode cX7_behind 26 = .ok (.ireturn, 1) := dchk_at dgX7_behind_0_ 13 rfl
theorem dX7_behind_27 : decode cX7_behind 27 = .ok (.aload_n 0, 1) := dchk_at dgX7_behind_0_ 14 rfl
theorem dX7_behind_28 : decode cX7_behind 28 = .ok (.invokevirtual 175, 3) := dchk_at dgX7_behind_0_ 15 rfl
theorem dX7_behind_31 : decode cX7_behind 31 = .ok (.aload_n 0, 1) := dchk_at dgX7_behind_0_ 16 rfl
theorem dX7_behind_32 : decode cX7_behind 32 = .ok (.iload_n 1, 1) := dchk_at dgX7_behind_0_ 17 rfl
theorem dX7_behind_33 : decode cX7_behind 33 = .ok (.invokevirtual 178, 3) := dchk_at dgX7_behind_0_ 18 rfl
theorem dX7_behind_36 : decode cX7_behind 36 = .ok (.iload_n 2, 1) := dchk_at dgX7_behind_0_ 19 rfl
theorem dX7_behind_37 : decode cX7_behind 37 = .ok (.ifCond .ne 12, 3) := dchk_at dgX7_behind_0_ 20 rfl
theorem dX7_behind_40 : decode cX7_behind 40 = .ok (.aload_n 0, 1) := dchk_at dgX7_behind_0_ 21 rfl
theorem dX7_behind_41 : decode cX7_behind 41 = .ok (.getfield 7, 3) := dchk_at dgX7_behind_0_ 22 rfl
theorem dX7_behind_44 : decode cX7_behind 44 = .ok (.iconst 4, 1) := dchk_at dgX7_behind_0_ 23 rfl
theorem dX7_behind_45 : decode cX7_behind 45 = .ok (.iaload, 1) := dchk_at dgX7_behind_0_ 24 rfl
theorem dX7_behind_46 : decode cX7_behind 46 = .ok (.goto 38, 3) := dchk_at dgX7_behind_0_ 25 rfl
theorem dX7_behind_49 : decode cX7_behind 49 = .ok (.iload_n 2, 1) := dchk_at dgX7_behind_0_ 26 rfl
theorem dX7_behind_50 : decode cX7_behind 50 = .ok (.iconst 1, 1) := dchk_at dgX7_behind_0_ 27 rfl
theorem dX7_behind_51 : decode cX7_behind 51 = .ok (.if_icmp .ne 12, 3) := dchk_at dgX7_behind_0_ 28 rfl
theorem dX7_behind_54 : decode cX7_behind 54 = .ok (.aload_n 0, 1) := dchk_at dgX7_behind_0_ 29 rfl
theorem dX7_behind_55 : decode cX7_behind 55 = .ok (.getfield 7, 3) := dchk_at dgX7_behind_0_ 30 rfl
theorem dX7_behind_58 : decode cX7_behind 58 = .ok (.iconst 3, 1) := dchk_at dgX7_behind_0_ 31 rfl
theorem dgX7_behind_59_ : dchk cX7_behind [(59, .iaload, 1), (60, .goto 24, 3), (63, .iload_n 2, 1), (64, .iconst 2, 1), (65, .if_icmp .ne 13, 3), (68, .aload_n 0, 1), (69, .getfield 7, 3), (72, .bipush 7, 2), (74, .iaload, 1), (75, .goto 9, 3), (78, .aload_n 0, 1), (79, .getfield 7, 3), (82, .iconst 5, 1), (83, .iaload, 1), (84, .istore_n 3, 1), (85, .aload_n 0, 1), (86, .invokevirtual 181, 3), (89, .iload_n 3, 1), (90, .ireturn, 1)] = true := by decide +kernel
theorem dX7_behind_59 : decode cX7_behind 59 = .ok (.iaload, 1) := dchk_at dgX7_behind_59_ 0 rfl
theorem dX7_behind_60 : decode cX7_behind 60 = .ok (.goto 24, 3) := dchk_at dgX7_behind_59_ 1 rfl
theorem dX7_behind_63 : decode cX7_behind 63 = .ok (.iload_n 2, 1) := dchk_at dgX7_behind_59_ 2 rfl
theorem dX7_behind_64 : decode cX7_behind 64 = .ok (.iconst 2, 1) := dchk_at dgX7_behind_59_ 3 rfl
theorem dX7_behind_65 : decode cX7_behind 65 = .ok (.if_icmp .ne 13, 3) := dchk_at dgX7_behind_59_ 4 rfl
theorem dX7_behind_68 : decode cX7_behind 68 = .ok (.aload_n 0, 1) := dchk_at dgX7_behind_59_ 5 rfl
theorem dX7_behind_69 : decode cX7_behind 69 = .ok (.getfield 7, 3) := dchk_at dgX7_behind_59_ 6 rfl
theorem dX7_behind_72 : decode cX7_behind 72 = .ok (.bipush 7, 2) := dchk_at dgX7_behind_59_ 7 rfl
theorem dX7_behind_74 : decode cX7_behind 74 = .ok (.iaload, 1) := dchk_at dgX7_behind_59_ 8 rfl
theorem dX7_behind_75 : decode cX7_behind 75 = .ok (.goto 9, 3) := dchk_at dgX7_behind_59_ 9 rfl
theorem dX7_behind_78 : decode cX7_behind 78 = .ok (.aload_n 0, 1) := dchk_at dgX7_behind_59_ 10 rfl
theorem dX7_behind_79 : decode cX7_behind 79 = .ok (.getfield 7, 3) := dchk_at dgX7_behind_59_ 11 rfl
theorem dX7_behind_82 : decode cX7_behind 82 = .ok (.iconst 5, 1) := dchk_at dgX7_behind_59_ 12 rfl
theorem dX7_behind_83 : decode cX7_behind 83 = .ok (.iaload, 1) := dchk_at dgX7_behind_59_ 13 rfl
theorem dX7_behind_84 : decode cX7_behind 84 = .ok (.istore_n 3, 1) := dchk_at dgX7_behind_59_ 14 rfl
theorem dX7_behind_85 : decode cX7_behind 85 = .ok (.aload_n 0, 1) := dchk_at dgX7_behind_59_ 15 rfl
theorem dX7_behind_86 : decode cX7_behind 86 = .ok (.invokevirtual 181, 3) := dchk_at dgX7_behind_59_ 16 rfl
theorem dX7_behind_89 : decode cX7_behind 89 = .ok (.iload_n 3, 1) := dchk_at dgX7_behind_59_ 17 rfl
theorem dX7_behind_90 : decode cX7_behind 90 = .ok (.ireturn, 1) := dchk_at dgX7_behind_59_ 18 rfl
set_option maxRecDepth 20000 in
theorem ggX7_best_X7_isIn : GoodIn wsX7_best wsX7_isIn := goodIn_r _ [7] rfl gw_wsX7_isIn
set_option maxRecDepth 20000 in
theorem gX7_best_X7_isIn : GoodIn wsX7_best (va_wsS RX7 65 yX7_isIn wsX7_isIn) := goodIn_app (goodIn_of _ (by decide +kernel)) ggX7_best_X7_isIn
set_option maxRecDepth 20000 in
theorem ggX7_best_X7_laysBy : GoodIn wsX7_best wsX7_laysBy := goodIn_r _ [11, 12, 3, 81, 82, 83, 84, 85, 86, 87, 88, 89, 90, 91, 92, 93, 94, 95, 96, 97, 98, 99, 100, 101, 102, 103, 104, 105, 106, 107, 108, 109, 110, 111] rfl gw_wsX7_laysBy
set_option maxRecDepth 20000 in
theorem gX7_best_X7_laysBy : GoodIn wsX7_best (wsV RX7 175 RX7 yX7_laysBy wsX7_laysBy) := goodIn_app (goodIn_of _ (by decide +kernel)) ggX7_best_X7_laysBy
set_option maxRecDepth 20000 in
theorem ggX7_best_X7_goesOnBy : GoodIn wsX7_best wsX7_goesOnBy := goodIn_r _ [16, 3, 17, 18, 19, 6, 20, 21, 22, 23, 24, 25, 26, 27, 28, 29, 30, 31, 32, 33, 34, 35, 36, 37, 38, 39, 4, 5, 7, 40, 41, 42, 43, 44, 45, 46, 47, 48, 49, 50, 51, 52, 53, 54, 55, 56, 57, 58, 59, 60, 61, 62, 63, 64, 65, 66, 67, 68, 69, 70, 71, 72, 73, 74, 75, 76, 81, 82, 83, 84, 85, 86, 87, 88, 89, 90, 91, 92, 93, 94, 95, 96, 97, 98, 99, 100, 101, 102, 103, 104, 105, 106, 107, 108, 109, 110, 111] rfl gw_wsX7_goesOnBy
set_option maxRecDepth 20000 in
theorem gX7_best_X7_goesOnBy : GoodIn wsX7_best (wsV RX7 166 RX7 yX7_goesOnBy wsX7_goesOnBy) := goodIn_app (goodIn_of _ (by decide +kernel)) ggX7_best_X7_goesOnBy
set_option maxRecDepth 20000 in
theorem ggX7_best_X7_laysBack : GoodIn wsX7_best wsX7_laysBack := goodIn_r _ [80, 3, 12, 81, 82, 83, 84, 85, 86, 87, 88, 89, 90, 91, 92, 93, 94, 95, 96, 97, 98, 99, 100, 101, 102, 103, 104, 105, 106, 107, 108, 109, 110, 111] rfl gw_wsX7_laysBack
set_option maxRecDepth 20000 in
theorem gX7_best_X7_laysBack : GoodIn wsX7_best (wsV RX7 181 RX7 yX7_laysBack wsX7_laysBack) := goodIn_app (goodIn_of _ (by decide +kernel)) ggX7_best_X7_laysBack
theorem dgX7_best_0_ : dchk cX7_best [(0, .iload_n 1, 1), (1, .i2l, 1), (2, .lconst 1, 1), (3, .ldc2_w 74, 3), (6, .invokestatic 65, 3), (9, .ifCond .eq 13, 3), (12, .iload_n 2, 1), (13, .i2l, 1), (14, .lconst 0, 1), (15, .lconst 1, 1), (16, .invokestatic 65, 3), (19, .ifCond .ne 6, 3), (22, .ldc 80, 2), (24, .ireturn, 1), (25, .iconst 1, 1), (26, .istore_n 3, 1), (27, .iconst 1, 1), (28, .istore 4, 2), (30, .iload 4, 2), (32, .iload_n 1, 1), (33, .if_icmp .ge 13, 3), (36, .iload_n 3, 1), (37, .iconst 3, 1), (38, .imul, 1), (39, .istore_n 3, 1), (40, .iinc 4 1, 3), (43, .goto (-13), 3), (46, .aload_n 0, 1), (47, .invokevirtual 175, 3), (50, .iconst (-1), 1), (51, .istore 4, 2), (53, .iconst 0, 1)] = true := by decide +kernel
theorem dX7_best_0 : decode cX7_best 0 = .ok (.iload_n 1, 1) := dchk_at dgX7_best_0_ 0 rfl
theorem dX7_best_1 : decode cX7_best 1 = .ok (.i2l, 1) := dchk_at dgX7_best_0_ 1 rfl
theorem dX7_best_2 : decode cX7_best 2 = .ok (.lconst 1, 1) := dchk_at dgX7_best_0_ 2 rfl
theorem dX7_best_3 : decode cX7_best 3 = .ok (.ldc2_w 74, 3) := dchk_at dgX7_best_0_ 3 rfl
theorem dX7_best_6 : decode cX7_best 6 = .ok (.invokestatic 65, 3) := dchk_at dgX7_best_0_ 4 rfl
theorem dX7_best_9 : decode cX7_best 9 = .ok (.ifCond .eq 13, 3) := dchk_at dgX7_best_0_ 5 rfl
theorem dX7_best_12 : decode cX7_best 12 = .ok (.iload_n 2, 1) := dchk_at dgX7_best_0_ 6 rfl
theorem dX7_best_13 : decode cX7_best 13 = .ok (.i2l, 1) := dchk_at dgX7_best_0_ 7 rfl
theorem dX7_best_14 : decode cX7_best 14 = .ok (.lconst 0, 1) := dchk_at dgX7_best_0_ 8 rfl
theorem dX7_best_15 : decode cX7_best 15 = .ok (.lconst 1, 1) := dchk_at dgX7_best_0_ 9 rfl
theorem dX7_best_16 : decode cX7_best 16 = .ok (.invokestatic 65, 3) := dchk_at dgX7_best_0_ 10 rfl
theorem dX7_best_19 : decode cX7_best 19 = .ok (.ifCond .ne 6, 3) := dchk_at dgX7_best_0_ 11 rfl
theorem dX7_best_22 : decode cX7_best 22 = .ok (.ldc 80, 2) := dchk_at dgX7_best_0_ 12 rfl
theorem dX7_best_24 : decode cX7_best 24 = .ok (.ireturn, 1) := dchk_at dgX7_best_0_ 13 rfl
theorem dX7_best_25 : decode cX7_best 25 = .ok (.iconst 1, 1) := dchk_at dgX7_best_0_ 14 rfl
theorem dX7_best_26 : decode cX7_best 26 = .ok (.istore_n 3, 1) := dchk_at dgX7_best_0_ 15 rfl
theorem dX7_best_27 : decode cX7_best 27 = .ok (.iconst 1, 1) := dchk_at dgX7_best_0_ 16 rfl
theorem dX7_best_28 : decode cX7_best 28 = .ok (.istore 4, 2) := dchk_at dgX7_best_0_ 17 rfl
theorem dX7_best_30 : decode cX7_best 30 = .ok (.iload 4, 2) := dchk_at dgX7_best_0_ 18 rfl
theorem dX7_best_32 : decode cX7_best 32 = .ok (.iload_n 1, 1) := dchk_at dgX7_best_0_ 19 rfl
theorem dX7_best_33 : decode cX7_best 33 = .ok (.if_icmp .ge 13, 3) := dchk_at dgX7_best_0_ 20 rfl
theorem dX7_best_36 : decode cX7_best 36 = .ok (.iload_n 3, 1) := dchk_at dgX7_best_0_ 21 rfl
theorem dX7_best_37 : decode cX7_best 37 = .ok (.iconst 3, 1) := dchk_at dgX7_best_0_ 22 rfl
theorem dX7_best_38 : decode cX7_best 38 = .ok (.imul, 1) := dchk_at dgX7_best_0_ 23 rfl
theorem dX7_best_39 : decode cX7_best 39 = .ok (.istore_n 3, 1) := dchk_at dgX7_best_0_ 24 rfl
theorem dX7_best_40 : decode cX7_best 40 = .ok (.iinc 4 1, 3) := dchk_at dgX7_best_0_ 25 rfl
theorem dX7_best_43 : decode cX7_best 43 = .ok (.goto (-13), 3) := dchk_at dgX7_best_0_ 26 rfl
theorem dX7_best_46 : decode cX7_best 46 = .ok (.aload_n 0, 1) := dchk_at dgX7_best_0_ 27 rfl
theorem dX7_best_47 : decode cX7_best 47 = .ok (.invokevirtual 175, 3) := dchk_at dgX7_best_0_ 28 rfl
theorem dX7_best_50 : decode cX7_best 50 = .ok (.iconst (-1), 1) := dchk_at dgX7_best_0_ 29 rfl
theorem dX7_best_51 : decode cX7_best 51 = .ok (.istore 4, 2) := dchk_at dgX7_best_0_ 30 rfl
theorem dX7_best_53 : decode cX7_best 53 = .ok (.iconst 0, 1) := dchk_at dgX7_best_0_ 31 rfl
theorem dgX7_best_54_ : dchk cX7_best [(54, .istore 5, 2), (56, .iconst 0, 1), (57, .istore 6, 2), (59, .iload 6, 2), (61, .iconst 3, 1), (62, .iload_n 3, 1), (63, .imul, 1), (64, .if_icmp .ge 91, 3), (67, .iload_n 3, 1), (68, .istore 7, 2), (70, .iload 7, 2), (72, .ifCond .le 45, 3), (75, .iload 6, 2), (77, .iload 7, 2), (79, .idiv, 1), (80, .iconst 3, 1), (81, .irem, 1), (82, .istore 8, 2), (84, .aload_n 0, 1), (85, .iload 8, 2), (87, .ifCond .ne 7, 3), (90, .iconst 0, 1), (91, .goto 14, 3), (94, .iload 8, 2), (96, .iconst 1, 1), (97, .if_icmp .ne 7, 3), (100, .iconst (-1), 1), (101, .goto 4, 3), (104, .iconst 1, 1), (105, .invokevirtual 166, 3), (108, .iload 7, 2), (110, .iconst 3, 1)] = true := by decide +kernel
theorem dX7_best_54 : decode cX7_best 54 = .ok (.istore 5, 2) := dchk_at dgX7_best_54_ 0 rfl
theorem dX7_best_56 : decode cX7_best 56 = .ok (.iconst 0, 1) := dchk_at dgX7_best_54_ 1 rfl
theorem dX7_best_57 : decode cX7_best 57 = .ok (.istore 6, 2) := dchk_at dgX7_best_54_ 2 rfl
theorem dX7_best_59 : decode cX7_best 59 = .ok (.iload 6, 2) := dchk_at dgX7_best_54_ 3 rfl
theorem dX7_best_61 : decode cX7_best 61 = .ok (.iconst 3, 1) := dchk_at dgX7_best_54_ 4 rfl
theorem dX7_best_62 : decode cX7_best 62 = .ok (.iload_n 3, 1) := dchk_at dgX7_best_54_ 5 rfl
theorem dX7_best_63 : decode cX7_best 63 = .ok (.imul, 1) := dchk_at dgX7_best_54_ 6 rfl
theorem dX7_best_64 : decode cX7_best 64 = .ok (.if_icmp .ge 91, 3) := dchk_at dgX7_best_54_ 7 rfl
theorem dX7_best_67 : decode cX7_best 67 = .ok (.iload_n 3, 1) := dchk_at dgX7_best_54_ 8 rfl
theorem dX7_best_68 : decode cX7_best 68 = .ok (.istore 7, 2) := dchk_at dgX7_best_54_ 9 rfl
theorem dX7_best_70 : decode cX7_best 70 = .ok (.iload 7, 2) := dchk_at dgX7_best_54_ 10 rfl
theorem dX7_best_72 : decode cX7_best 72 = .ok (.ifCond .le 45, 3) := dchk_at dgX7_best_54_ 11 rfl
theorem dX7_best_75 : decode cX7_best 75 = .ok (.iload 6, 2) := dchk_at dgX7_best_54_ 12 rfl
theorem dX7_best_77 : decode cX7_best 77 = .ok (.iload 7, 2) := dchk_at dgX7_best_54_ 13 rfl
theorem dX7_best_79 : decode cX7_best 79 = .ok (.idiv, 1) := dchk_at dgX7_best_54_ 14 rfl
theorem dX7_best_80 : decode cX7_best 80 = .ok (.iconst 3, 1) := dchk_at dgX7_best_54_ 15 rfl
theorem dX7_best_81 : decode cX7_best 81 = .ok (.irem, 1) := dchk_at dgX7_best_54_ 16 rfl
theorem dX7_best_82 : decode cX7_best 82 = .ok (.istore 8, 2) := dchk_at dgX7_best_54_ 17 rfl
theorem dX7_best_84 : decode cX7_best 84 = .ok (.aload_n 0, 1) := dchk_at dgX7_best_54_ 18 rfl
theorem dX7_best_85 : decode cX7_best 85 = .ok (.iload 8, 2) := dchk_at dgX7_best_54_ 19 rfl
theorem dX7_best_87 : decode cX7_best 87 = .ok (.ifCond .ne 7, 3) := dchk_at dgX7_best_54_ 20 rfl
theorem dX7_best_90 : decode cX7_best 90 = .ok (.iconst 0, 1) := dchk_at dgX7_best_54_ 21 rfl
theorem dX7_best_91 : decode cX7_best 91 = .ok (.goto 14, 3) := dchk_at dgX7_best_54_ 22 rfl
theorem dX7_best_94 : decode cX7_best 94 = .ok (.iload 8, 2) := dchk_at dgX7_best_54_ 23 rfl
theorem dX7_best_96 : decode cX7_best 96 = .ok (.iconst 1, 1) := dchk_at dgX7_best_54_ 24 rfl
theorem dX7_best_97 : decode cX7_best 97 = .ok (.if_icmp .ne 7, 3) := dchk_at dgX7_best_54_ 25 rfl
theorem dX7_best_100 : decode cX7_best 100 = .ok (.iconst (-1), 1) := dchk_at dgX7_best_54_ 26 rfl
theorem dX7_best_101 : decode cX7_best 101 = .ok (.goto 4, 3) := dchk_at dgX7_best_54_ 27 rfl
theorem dX7_best_104 : decode cX7_best 104 = .ok (.iconst 1, 1) := dchk_at dgX7_best_54_ 28 rfl
theorem dX7_best_105 : decode cX7_best 105 = .ok (.invokevirtual 166, 3) := dchk_at dgX7_best_54_ 29 rfl
theorem dX7_best_108 : decode cX7_best 108 = .ok (.iload 7, 2) := dchk_at dgX7_best_54_ 30 rfl
theorem dX7_best_110 : decode cX7_best 110 = .ok (.iconst 3, 1) := dchk_at dgX7_best_54_ 31 rfl
theorem dgX7_best_111_ : dchk cX7_best [(111, .idiv, 1), (112, .istore 7, 2), (114, .goto (-44), 3), (117, .aload_n 0, 1), (118, .getfield 7, 3), (121, .iconst 4, 1), (122, .iaload, 1), (123, .istore 7, 2), (125, .aload_n 0, 1), (126, .invokevirtual 181, 3), (129, .iload 4, 2), (131, .ifCond .lt 10, 3), (134, .iload 7, 2), (136, .iload 5, 2), (138, .if_icmp .ge 11, 3), (141, .iload 6, 2), (143, .istore 4, 2), (145, .iload 7, 2), (147, .istore 5, 2), (149, .iinc 6 1, 3), (152, .goto (-93), 3), (155, .iload_n 2, 1), (156, .ifCond .ne 8, 3), (159, .iload 4, 2), (161, .goto 5, 3), (164, .iload 5, 2), (166, .ireturn, 1)] = true := by decide +kernel
theorem dX7_best_111 : decode cX7_best 111 = .ok (.idiv, 1) := dchk_at dgX7_best_111_ 0 rfl
theorem dX7_best_112 : decode cX7_best 112 = .ok (.istore 7, 2) := dchk_at dgX7_best_111_ 1 rfl
theorem dX7_best_114 : decode cX7_best 114 = .ok (.goto (-44), 3) := dchk_at dgX7_best_111_ 2 rfl
theorem dX7_best_117 : decode cX7_best 117 = .ok (.aload_n 0, 1) := dchk_at dgX7_best_111_ 3 rfl
theorem dX7_best_118 : decode cX7_best 118 = .ok (.getfield 7, 3) := dchk_at dgX7_best_111_ 4 rfl
theorem dX7_best_121 : decode cX7_best 121 = .ok (.iconst 4, 1) := dchk_at dgX7_best_111_ 5 rfl
theorem dX7_best_122 : decode cX7_best 122 = .ok (.iaload, 1) := dchk_at dgX7_best_111_ 6 rfl
theorem dX7_best_123 : decode cX7_best 123 = .ok (.istore 7, 2) := dchk_at dgX7_best_111_ 7 rfl
theorem dX7_best_125 : decode cX7_best 125 = .ok (.aload_n 0, 1) := dchk_at dgX7_best_111_ 8 rfl
theorem dX7_best_126 : decode cX7_best 126 = .ok (.invokevirtual 181, 3) := dchk_at dgX7_best_111_ 9 rfl
theorem dX7_best_129 : decode cX7_best 129 = .ok (.iload 4, 2) := dchk_at dgX7_best_111_ 10 rfl
theorem dX7_best_131 : decode cX7_best 131 = .ok (.ifCond .lt 10, 3) := dchk_at dgX7_best_111_ 11 rfl
theorem dX7_best_134 : decode cX7_best 134 = .ok (.iload 7, 2) := dchk_at dgX7_best_111_ 12 rfl
theorem dX7_best_136 : decode cX7_best 136 = .ok (.iload 5, 2) := dchk_at dgX7_best_111_ 13 rfl
theorem dX7_best_138 : decode cX7_best 138 = .ok (.if_icmp .ge 11, 3) := dchk_at dgX7_best_111_ 14 rfl
theorem dX7_best_141 : decode cX7_best 141 = .ok (.iload 6, 2) := dchk_at dgX7_best_111_ 15 rfl
theorem dX7_best_143 : decode cX7_best 143 = .ok (.istore 4, 2) := dchk_at dgX7_best_111_ 16 rfl
theorem dX7_best_145 : decode cX7_best 145 = .ok (.iload 7, 2) := dchk_at dgX7_best_111_ 17 rfl
theorem dX7_best_147 : decode cX7_best 147 = .ok (.istore 5, 2) := dchk_at dgX7_best_111_ 18 rfl
theorem dX7_best_149 : decode cX7_best 149 = .ok (.iinc 6 1, 3) := dchk_at dgX7_best_111_ 19 rfl
theorem dX7_best_152 : decode cX7_best 152 = .ok (.goto (-93), 3) := dchk_at dgX7_best_111_ 20 rfl
theorem dX7_best_155 : decode cX7_best 155 = .ok (.iload_n 2, 1) := dchk_at dgX7_best_111_ 21 rfl
theorem dX7_best_156 : decode cX7_best 156 = .ok (.ifCond .ne 8, 3) := dchk_at dgX7_best_111_ 22 rfl
theorem dX7_best_159 : decode cX7_best 159 = .ok (.iload 4, 2) := dchk_at dgX7_best_111_ 23 rfl
theorem dX7_best_161 : decode cX7_best 161 = .ok (.goto 5, 3) := dchk_at dgX7_best_111_ 24 rfl
theorem dX7_best_164 : decode cX7_best 164 = .ok (.iload 5, 2) := dchk_at dgX7_best_111_ 25 rfl
theorem dX7_best_166 : decode cX7_best 166 = .ok (.ireturn, 1) := dchk_at dgX7_best_111_ 26 rfl
set_option maxRecDepth 20000 in
theorem ggX7_isLetter_X7_isIn : GoodIn wsX7_isLetter wsX7_isIn := goodIn_r _ [8] rfl gw_wsX7_isIn
set_option maxRecDepth 20000 in
theorem gX7_isLetter_X7_isIn : GoodIn wsX7_isLetter (va_wsS RX7 65 yX7_isIn wsX7_isIn) := goodIn_app (goodIn_of _ (by decide +kernel)) ggX7_isLetter_X7_isIn
theorem dgX7_isLetter_0_ : dchk cX7_isLetter [(0, .iload_n 1, 1), (1, .aload_n 0, 1), (2, .getfield 188, 3), (5, .if_icmp .ge 26, 3), (8, .aload_n 0, 1), (9, .getfield 46, 3), (12, .iload_n 1, 1), (13, .iaload, 1), (14, .i2l, 1), (15, .ldc2_w 192, 3), (18, .ldc2_w 194, 3), (21, .invokestatic 65, 3), (24, .ifCond .eq 7, 3), (27, .iconst 1, 1), (28, .goto 4, 3), (31, .iconst 0, 1), (32, .ireturn, 1)] = true := by decide +kernel
theorem dX7_isLetter_0 : decode cX7_isLetter 0 = .ok (.iload_n 1, 1) := dchk_at dgX7_isLetter_0_ 0 rfl
theorem dX7_isLetter_1 : decode cX7_isLetter 1 = .ok (.aload_n 0, 1) := dchk_at dgX7_isLetter_0_ 1 rfl
theorem dX7_isLetter_2 : decode cX7_isLetter 2 = .ok (.getfield 188, 3) := dchk_at dgX7_isLetter_0_ 2 rfl
theorem dX7_isLetter_5 : decode cX7_isLetter 5 = .ok (.if_icmp .ge 26, 3) := dchk_at dgX7_isLetter_0_ 3 rfl
theorem dX7_isLetter_8 : decode cX7_isLetter 8 = .ok (.aload_n 0, 1) := dchk_at dgX7_isLetter_0_ 4 rfl
theorem dX7_isLetter_9 : decode cX7_isLetter 9 = .ok (.getfield 46, 3) := dchk_at dgX7_isLetter_0_ 5 rfl
theorem dX7_isLetter_12 : decode cX7_isLetter 12 = .ok (.iload_n 1, 1) := dchk_at dgX7_isLetter_0_ 6 rfl
theorem dX7_isLetter_13 : decode cX7_isLetter 13 = .ok (.iaload, 1) := dchk_at dgX7_isLetter_0_ 7 rfl
theorem dX7_isLetter_14 : decode cX7_isLetter 14 = .ok (.i2l, 1) := dchk_at dgX7_isLetter_0_ 8 rfl
theorem dX7_isLetter_15 : decode cX7_isLetter 15 = .ok (.ldc2_w 192, 3) := dchk_at dgX7_isLetter_0_ 9 rfl
theorem dX7_isLetter_18 : decode cX7_isLetter 18 = .ok (.ldc2_w 194, 3) := dchk_at dgX7_isLetter_0_ 10 rfl
theorem dX7_isLetter_21 : decode cX7_isLetter 21 = .ok (.invokestatic 65, 3) := dchk_at dgX7_isLetter_0_ 11 rfl
theorem dX7_isLetter_24 : decode cX7_isLetter 24 = .ok (.ifCond .eq 7, 3) := dchk_at dgX7_isLetter_0_ 12 rfl
theorem dX7_isLetter_27 : decode cX7_isLetter 27 = .ok (.iconst 1, 1) := dchk_at dgX7_isLetter_0_ 13 rfl
theorem dX7_isLetter_28 : decode cX7_isLetter 28 = .ok (.goto 4, 3) := dchk_at dgX7_isLetter_0_ 14 rfl
theorem dX7_isLetter_31 : decode cX7_isLetter 31 = .ok (.iconst 0, 1) := dchk_at dgX7_isLetter_0_ 15 rfl
theorem dX7_isLetter_32 : decode cX7_isLetter 32 = .ok (.ireturn, 1) := dchk_at dgX7_isLetter_0_ 16 rfl
set_option maxRecDepth 20000 in
theorem ggX7_isDigit_X7_isIn : GoodIn wsX7_isDigit wsX7_isIn := goodIn_r _ [8] rfl gw_wsX7_isIn
set_option maxRecDepth 20000 in
theorem gX7_isDigit_X7_isIn : GoodIn wsX7_isDigit (va_wsS RX7 65 yX7_isIn wsX7_isIn) := goodIn_app (goodIn_of _ (by decide +kernel)) ggX7_isDigit_X7_isIn
theorem dgX7_isDigit_0_ : dchk cX7_isDigit [(0, .iload_n 1, 1), (1, .aload_n 0, 1), (2, .getfield 188, 3), (5, .if_icmp .ge 26, 3), (8, .aload_n 0, 1), (9, .getfield 46, 3), (12, .iload_n 1, 1), (13, .iaload, 1), (14, .i2l, 1), (15, .ldc2_w 196, 3), (18, .ldc2_w 198, 3), (21, .invokestatic 65, 3), (24, .ifCond .eq 7, 3), (27, .iconst 1, 1), (28, .goto 4, 3), (31, .iconst 0, 1), (32, .ireturn, 1)] = true := by decide +kernel
theorem dX7_isDigit_0 : decode cX7_isDigit 0 = .ok (.iload_n 1, 1) := dchk_at dgX7_isDigit_0_ 0 rfl
theorem dX7_isDigit_1 : decode cX7_isDigit 1 = .ok (.aload_n 0, 1) := dchk_at dgX7_isDigit_0_ 1 rfl
theorem dX7_isDigit_2 : decode cX7_isDigit 2 = .ok (.getfield 188, 3) := dchk_at dgX7_isDigit_0_ 2 rfl
theorem dX7_isDigit_5 : decode cX7_isDigit 5 = .ok (.if_icmp .ge 26, 3) := dchk_at dgX7_isDigit_0_ 3 rfl
theorem dX7_isDigit_8 : decode cX7_isDigit 8 = .ok (.aload_n 0, 1) := dchk_at dgX7_isDigit_0_ 4 rfl
theorem dX7_isDigit_9 : decode cX7_isDigit 9 = .ok (.getfield 46, 3) := dchk_at dgX7_isDigit_0_ 5 rfl
theorem dX7_isDigit_12 : decode cX7_isDigit 12 = .ok (.iload_n 1, 1) := dchk_at dgX7_isDigit_0_ 6 rfl
theorem dX7_isDigit_13 : decode cX7_isDigit 13 = .ok (.iaload, 1) := dchk_at dgX7_isDigit_0_ 7 rfl
theorem dX7_isDigit_14 : decode cX7_isDigit 14 = .ok (.i2l, 1) := dchk_at dgX7_isDigit_0_ 8 rfl
theorem dX7_isDigit_15 : decode cX7_isDigit 15 = .ok (.ldc2_w 196, 3) := dchk_at dgX7_isDigit_0_ 9 rfl
theorem dX7_isDigit_18 : decode cX7_isDigit 18 = .ok (.ldc2_w 198, 3) := dchk_at dgX7_isDigit_0_ 10 rfl
theorem dX7_isDigit_21 : decode cX7_isDigit 21 = .ok (.invokestatic 65, 3) := dchk_at dgX7_isDigit_0_ 11 rfl
theorem dX7_isDigit_24 : decode cX7_isDigit 24 = .ok (.ifCond .eq 7, 3) := dchk_at dgX7_isDigit_0_ 12 rfl
theorem dX7_isDigit_27 : decode cX7_isDigit 27 = .ok (.iconst 1, 1) := dchk_at dgX7_isDigit_0_ 13 rfl
theorem dX7_isDigit_28 : decode cX7_isDigit 28 = .ok (.goto 4, 3) := dchk_at dgX7_isDigit_0_ 14 rfl
theorem dX7_isDigit_31 : decode cX7_isDigit 31 = .ok (.iconst 0, 1) := dchk_at dgX7_isDigit_0_ 15 rfl
theorem dX7_isDigit_32 : decode cX7_isDigit 32 = .ok (.ireturn, 1) := dchk_at dgX7_isDigit_0_ 16 rfl
set_option maxRecDepth 20000 in
theorem gw_wsX7_isLetter : wsX7_isLetter.all goodWord = true := by decide +kernel
set_option maxRecDepth 20000 in
theorem ggX7_nextToken_X7_isLetter : GoodIn wsX7_nextToken wsX7_isLetter := goodIn_r _ [12, 3, 4, 13, 14, 15, 16, 11, 17, 24, 25, 26, 27, 28, 29, 30, 31, 32, 33, 34, 35, 36, 37, 38, 39, 40, 41, 42, 43, 44, 45, 46, 47, 48, 49, 50, 51, 52, 53, 54] rfl gw_wsX7_isLetter
set_option maxRecDepth 20000 in
theorem gX7_nextToken_X7_isLetter : GoodIn wsX7_nextToken (wsV RX7 209 RX7 yX7_isLetter wsX7_isLetter) := goodIn_app (goodIn_of _ (by decide +kernel)) ggX7_nextToken_X7_isLetter
set_option maxRecDepth 20000 in
theorem gw_wsX7_isDigit : wsX7_isDigit.all goodWord = true := by decide +kernel
set_option maxRecDepth 20000 in
theorem ggX7_nextToken_X7_isDigit : GoodIn wsX7_nextToken wsX7_isDigit := goodIn_r _ [21, 3, 4, 22, 23, 15, 16, 11, 17, 24, 25, 26, 27, 28, 29, 30, 31, 32, 33, 34, 35, 36, 37, 38, 39, 40, 41, 42, 43, 44, 45, 46, 47, 48, 49, 50, 51, 52, 53, 54] rfl gw_wsX7_isDigit
set_option maxRecDepth 20000 in
theorem gX7_nextToken_X7_isDigit : GoodIn wsX7_nextToken (wsV RX7 215 RX7 yX7_isDigit wsX7_isDigit) := goodIn_app (goodIn_of _ (by decide +kernel)) ggX7_nextToken_X7_isDigit
theorem dgX7_nextToken_0_ : dchk cX7_nextToken [(0, .aload_n 0, 1), (1, .getfield 200, 3), (4, .ifCond .le 23, 3), (7, .aload_n 0, 1), (8, .getfield 203, 3), (11, .iconst 1, 1), (12, .if_icmp .eq 11, 3), (15, .aload_n 0, 1), (16, .getfield 203, 3), (19, .iconst 2, 1), (20, .if_icmp .ne 7, 3), (23, .iconst 1, 1), (24, .goto 4, 3), (27, .iconst 0, 1), (28, .istore_n 1, 1), (29, .aload_n 0, 1), (30, .getfield 200, 3), (33, .istore_n 2, 1), (34, .aload_n 0, 1), (35, .getfield 200, 3), (38, .aload_n 0, 1), (39, .getfield 188, 3), (42, .if_icmp .ge 30, 3), (45, .aload_n 0, 1), (46, .getfield 46, 3), (49, .aload_n 0, 1), (50, .getfield 200, 3), (53, .iaload, 1), (54, .bipush 32, 2), (56, .if_icmp .ne 16, 3), (59, .aload_n 0, 1), (60, .dup, 1)] = true := by decide +kernel
theorem dX7_nextToken_0 : decode cX7_nextToken 0 = .ok (.aload_n 0, 1) := dchk_at dgX7_nextToken_0_ 0 rfl
theorem dX7_nextToken_1 : decode cX7_nextToken 1 = .ok (.getfield 200, 3) := dchk_at dgX7_nextToken_0_ 1 rfl
theorem dX7_nextToken_4 : decode cX7_nextToken 4 = .ok (.ifCond .le 23, 3) := dchk_at dgX7_nextToken_0_ 2 rfl
theorem dX7_nextToken_7 : decode cX7_nextToken 7 = .ok (.aload_n 0, 1) := dchk_at dgX7_nextToken_0_ 3 rfl
theorem dX7_nextToken_8 : decode cX7_nextToken 8 = .ok (.getfield 203, 3) := dchk_at dgX7_nextToken_0_ 4 rfl
theorem dX7_nextToken_11 : decode cX7_nextToken 11 = .ok (.iconst 1, 1) := dchk_at dgX7_nextToken_0_ 5 rfl
theorem dX7_nextToken_12 : decode cX7_nextToken 12 = .ok (.if_icmp .eq 11, 3) := dchk_at dgX7_nextToken_0_ 6 rfl
theorem dX7_nextToken_15 : decode cX7_nextToken 15 = .ok (.aload_n 0, 1) := dchk_at dgX7_nextToken_0_ 7 rfl
theorem dX7_nextToken_16 : decode cX7_nextToken 16 = .ok (.getfield 203, 3) := dchk_at dgX7_nextToken_0_ 8 rfl
theorem dX7_nextToken_19 : decode cX7_nextToken 19 = .ok (.iconst 2, 1) := dchk_at dgX7_nextToken_0_ 9 rfl
theorem dX7_nextToken_20 : decode cX7_nextToken 20 = .ok (.if_icmp .ne 7, 3) := dchk_at dgX7_nextToken_0_ 10 rfl
theorem dX7_nextToken_23 : decode cX7_nextToken 23 = .ok (.iconst 1, 1) := dchk_at dgX7_nextToken_0_ 11 rfl
theorem dX7_nextToken_24 : decode cX7_nextToken 24 = .ok (.goto 4, 3) := dchk_at dgX7_nextToken_0_ 12 rfl
theorem dX7_nextToken_27 : decode cX7_nextToken 27 = .ok (.iconst 0, 1) := dchk_at dgX7_nextToken_0_ 13 rfl
theorem dX7_nextToken_28 : decode cX7_nextToken 28 = .ok (.istore_n 1, 1) := dchk_at dgX7_nextToken_0_ 14 rfl
theorem dX7_nextToken_29 : decode cX7_nextToken 29 = .ok (.aload_n 0, 1) := dchk_at dgX7_nextToken_0_ 15 rfl
theorem dX7_nextToken_30 : decode cX7_nextToken 30 = .ok (.getfield 200, 3) := dchk_at dgX7_nextToken_0_ 16 rfl
theorem dX7_nextToken_33 : decode cX7_nextToken 33 = .ok (.istore_n 2, 1) := dchk_at dgX7_nextToken_0_ 17 rfl
theorem dX7_nextToken_34 : decode cX7_nextToken 34 = .ok (.aload_n 0, 1) := dchk_at dgX7_nextToken_0_ 18 rfl
theorem dX7_nextToken_35 : decode cX7_nextToken 35 = .ok (.getfield 200, 3) := dchk_at dgX7_nextToken_0_ 19 rfl
theorem dX7_nextToken_38 : decode cX7_nextToken 38 = .ok (.aload_n 0, 1) := dchk_at dgX7_nextToken_0_ 20 rfl
theorem dX7_nextToken_39 : decode cX7_nextToken 39 = .ok (.getfield 188, 3) := dchk_at dgX7_nextToken_0_ 21 rfl
theorem dX7_nextToken_42 : decode cX7_nextToken 42 = .ok (.if_icmp .ge 30, 3) := dchk_at dgX7_nextToken_0_ 22 rfl
theorem dX7_nextToken_45 : decode cX7_nextToken 45 = .ok (.aload_n 0, 1) := dchk_at dgX7_nextToken_0_ 23 rfl
theorem dX7_nextToken_46 : decode cX7_nextToken 46 = .ok (.getfield 46, 3) := dchk_at dgX7_nextToken_0_ 24 rfl
theorem dX7_nextToken_49 : decode cX7_nextToken 49 = .ok (.aload_n 0, 1) := dchk_at dgX7_nextToken_0_ 25 rfl
theorem dX7_nextToken_50 : decode cX7_nextToken 50 = .ok (.getfield 200, 3) := dchk_at dgX7_nextToken_0_ 26 rfl
theorem dX7_nextToken_53 : decode cX7_nextToken 53 = .ok (.iaload, 1) := dchk_at dgX7_nextToken_0_ 27 rfl
theorem dX7_nextToken_54 : decode cX7_nextToken 54 = .ok (.bipush 32, 2) := dchk_at dgX7_nextToken_0_ 28 rfl
theorem dX7_nextToken_56 : decode cX7_nextToken 56 = .ok (.if_icmp .ne 16, 3) := dchk_at dgX7_nextToken_0_ 29 rfl
theorem dX7_nextToken_59 : decode cX7_nextToken 59 = .ok (.aload_n 0, 1) := dchk_at dgX7_nextToken_0_ 30 rfl
theorem dX7_nextToken_60 : decode cX7_nextToken 60 = .ok (.dup, 1) := dchk_at dgX7_nextToken_0_ 31 rfl
theorem dgX7_nextToken_61_ : dchk cX7_nextToken [(61, .getfield 200, 3), (64, .iconst 1, 1), (65, .iadd, 1), (66, .putfield 200, 3), (69, .goto (-35), 3), (72, .iload_n 1, 1), (73, .ifCond .eq 15, 3), (76, .iload_n 2, 1), (77, .aload_n 0, 1), (78, .getfield 200, 3), (81, .if_icmp .ne 7, 3), (84, .iconst 1, 1), (85, .goto 4, 3), (88, .iconst 0, 1), (89, .istore_n 1, 1), (90, .aload_n 0, 1), (91, .aload_n 0, 1), (92, .getfield 200, 3), (95, .putfield 206, 3), (98, .aload_n 0, 1), (99, .getfield 206, 3), (102, .aload_n 0, 1), (103, .getfield 188, 3), (106, .if_icmp .ne 11, 3), (109, .aload_n 0, 1), (110, .iconst 0, 1), (111, .putfield 203, 3), (114, .goto 225, 3), (117, .aload_n 0, 1), (118, .aload_n 0, 1), (119, .getfield 206, 3), (122, .invokevirtual 209, 3)] = true := by decide +kernel
theorem dX7_nextToken_61 : decode cX7_nextToken 61 = .ok (.getfield 200, 3) := dchk_at dgX7_nextToken_61_ 0 rfl
theorem dX7_nextToken_64 : decode cX7_nextToken 64 = .ok (.iconst 1, 1) := dchk_at dgX7_nextToken_61_ 1 rfl
theorem dX7_nextToken_65 : decode cX7_nextToken 65 = .ok (.iadd, 1) := dchk_at dgX7_nextToken_61_ 2 rfl
theorem dX7_nextToken_66 : decode cX7_nextToken 66 = .ok (.putfield 200, 3) := dchk_at dgX7_nextToken_61_ 3 rfl
theorem dX7_nextToken_69 : decode cX7_nextToken 69 = .ok (.goto (-35), 3) := dchk_at dgX7_nextToken_61_ 4 rfl
theorem dX7_nextToken_72 : decode cX7_nextToken 72 = .ok (.iload_n 1, 1) := dchk_at dgX7_nextToken_61_ 5 rfl
theorem dX7_nextToken_73 : decode cX7_nextToken 73 = .ok (.ifCond .eq 15, 3) := dchk_at dgX7_nextToken_61_ 6 rfl
theorem dX7_nextToken_76 : decode cX7_nextToken 76 = .ok (.iload_n 2, 1) := dchk_at dgX7_nextToken_61_ 7 rfl
theorem dX7_nextToken_77 : decode cX7_nextToken 77 = .ok (.aload_n 0, 1) := dchk_at dgX7_nextToken_61_ 8 rfl
theorem dX7_nextToken_78 : decode cX7_nextToken 78 = .ok (.getfield 200, 3) := dchk_at dgX7_nextToken_61_ 9 rfl
theorem dX7_nextToken_81 : decode cX7_nextToken 81 = .ok (.if_icmp .ne 7, 3) := dchk_at dgX7_nextToken_61_ 10 rfl
theorem dX7_nextToken_84 : decode cX7_nextToken 84 = .ok (.iconst 1, 1) := dchk_at dgX7_nextToken_61_ 11 rfl
theorem dX7_nextToken_85 : decode cX7_nextToken 85 = .ok (.goto 4, 3) := dchk_at dgX7_nextToken_61_ 12 rfl
theorem dX7_nextToken_88 : decode cX7_nextToken 88 = .ok (.iconst 0, 1) := dchk_at dgX7_nextToken_61_ 13 rfl
theorem dX7_nextToken_89 : decode cX7_nextToken 89 = .ok (.istore_n 1, 1) := dchk_at dgX7_nextToken_61_ 14 rfl
theorem dX7_nextToken_90 : decode cX7_nextToken 90 = .ok (.aload_n 0, 1) := dchk_at dgX7_nextToken_61_ 15 rfl
theorem dX7_nextToken_91 : decode cX7_nextToken 91 = .ok (.aload_n 0, 1) := dchk_at dgX7_nextToken_61_ 16 rfl
theorem dX7_nextToken_92 : decode cX7_nextToken 92 = .ok (.getfield 200, 3) := dchk_at dgX7_nextToken_61_ 17 rfl
theorem dX7_nextToken_95 : decode cX7_nextToken 95 = .ok (.putfield 206, 3) := dchk_at dgX7_nextToken_61_ 18 rfl
theorem dX7_nextToken_98 : decode cX7_nextToken 98 = .ok (.aload_n 0, 1) := dchk_at dgX7_nextToken_61_ 19 rfl
theorem dX7_nextToken_99 : decode cX7_nextToken 99 = .ok (.getfield 206, 3) := dchk_at dgX7_nextToken_61_ 20 rfl
theorem dX7_nextToken_102 : decode cX7_nextToken 102 = .ok (.aload_n 0, 1) := dchk_at dgX7_nextToken_61_ 21 rfl
theorem dX7_nextToken_103 : decode cX7_nextToken 103 = .ok (.getfield 188, 3) := dchk_at dgX7_nextToken_61_ 22 rfl
theorem dX7_nextToken_106 : decode cX7_nextToken 106 = .ok (.if_icmp .ne 11, 3) := dchk_at dgX7_nextToken_61_ 23 rfl
theorem dX7_nextToken_109 : decode cX7_nextToken 109 = .ok (.aload_n 0, 1) := dchk_at dgX7_nextToken_61_ 24 rfl
theorem dX7_nextToken_110 : decode cX7_nextToken 110 = .ok (.iconst 0, 1) := dchk_at dgX7_nextToken_61_ 25 rfl
theorem dX7_nextToken_111 : decode cX7_nextToken 111 = .ok (.putfield 203, 3) := dchk_at dgX7_nextToken_61_ 26 rfl
theorem dX7_nextToken_114 : decode cX7_nextToken 114 = .ok (.goto 225, 3) := dchk_at dgX7_nextToken_61_ 27 rfl
theorem dX7_nextToken_117 : decode cX7_nextToken 117 = .ok (.aload_n 0, 1) := dchk_at dgX7_nextToken_61_ 28 rfl
theorem dX7_nextToken_118 : decode cX7_nextToken 118 = .ok (.aload_n 0, 1) := dchk_at dgX7_nextToken_61_ 29 rfl
theorem dX7_nextToken_119 : decode cX7_nextToken 119 = .ok (.getfield 206, 3) := dchk_at dgX7_nextToken_61_ 30 rfl
theorem dX7_nextToken_122 : decode cX7_nextToken 122 = .ok (.invokevirtual 209, 3) := dchk_at dgX7_nextToken_61_ 31 rfl
theorem dgX7_nextToken_125_ : dchk cX7_nextToken [(125, .ifCond .eq 73, 3), (128, .aload_n 0, 1), (129, .aload_n 0, 1), (130, .getfield 200, 3), (133, .invokevirtual 209, 3), (136, .ifCond .eq 16, 3), (139, .aload_n 0, 1), (140, .dup, 1), (141, .getfield 200, 3), (144, .iconst 1, 1), (145, .iadd, 1), (146, .putfield 200, 3), (149, .goto (-21), 3), (152, .aload_n 0, 1), (153, .iload_n 1, 1), (154, .ifCond .eq 7, 3), (157, .iconst 4, 1), (158, .goto 4, 3), (161, .iconst 1, 1), (162, .putfield 203, 3), (165, .aload_n 0, 1), (166, .aload_n 0, 1), (167, .getfield 200, 3), (170, .aload_n 0, 1), (171, .getfield 206, 3), (174, .isub, 1), (175, .iconst 1, 1), (176, .if_icmp .ne 15, 3), (179, .aload_n 0, 1), (180, .getfield 46, 3), (183, .aload_n 0, 1), (184, .getfield 206, 3)] = true := by decide +kernel
theorem dX7_nextToken_125 : decode cX7_nextToken 125 = .ok (.ifCond .eq 73, 3) := dchk_at dgX7_nextToken_125_ 0 rfl
theorem dX7_nextToken_128 : decode cX7_nextToken 128 = .ok (.aload_n 0, 1) := dchk_at dgX7_nextToken_125_ 1 rfl
theorem dX7_nextToken_129 : decode cX7_nextToken 129 = .ok (.aload_n 0, 1) := dchk_at dgX7_nextToken_125_ 2 rfl
theorem dX7_nextToken_130 : decode cX7_nextToken 130 = .ok (.getfield 200, 3) := dchk_at dgX7_nextToken_125_ 3 rfl
theorem dX7_nextToken_133 : decode cX7_nextToken 133 = .ok (.invokevirtual 209, 3) := dchk_at dgX7_nextToken_125_ 4 rfl
theorem dX7_nextToken_136 : decode cX7_nextToken 136 = .ok (.ifCond .eq 16, 3) := dchk_at dgX7_nextToken_125_ 5 rfl
theorem dX7_nextToken_139 : decode cX7_nextToken 139 = .ok (.aload_n 0, 1) := dchk_at dgX7_nextToken_125_ 6 rfl
theorem dX7_nextToken_140 : decode cX7_nextToken 140 = .ok (.dup, 1) := dchk_at dgX7_nextToken_125_ 7 rfl
theorem dX7_nextToken_141 : decode cX7_nextToken 141 = .ok (.getfield 200, 3) := dchk_at dgX7_nextToken_125_ 8 rfl
theorem dX7_nextToken_144 : decode cX7_nextToken 144 = .ok (.iconst 1, 1) := dchk_at dgX7_nextToken_125_ 9 rfl
theorem dX7_nextToken_145 : decode cX7_nextToken 145 = .ok (.iadd, 1) := dchk_at dgX7_nextToken_125_ 10 rfl
theorem dX7_nextToken_146 : decode cX7_nextToken 146 = .ok (.putfield 200, 3) := dchk_at dgX7_nextToken_125_ 11 rfl
theorem dX7_nextToken_149 : decode cX7_nextToken 149 = .ok (.goto (-21), 3) := dchk_at dgX7_nextToken_125_ 12 rfl
theorem dX7_nextToken_152 : decode cX7_nextToken 152 = .ok (.aload_n 0, 1) := dchk_at dgX7_nextToken_125_ 13 rfl
theorem dX7_nextToken_153 : decode cX7_nextToken 153 = .ok (.iload_n 1, 1) := dchk_at dgX7_nextToken_125_ 14 rfl
theorem dX7_nextToken_154 : decode cX7_nextToken 154 = .ok (.ifCond .eq 7, 3) := dchk_at dgX7_nextToken_125_ 15 rfl
theorem dX7_nextToken_157 : decode cX7_nextToken 157 = .ok (.iconst 4, 1) := dchk_at dgX7_nextToken_125_ 16 rfl
theorem dX7_nextToken_158 : decode cX7_nextToken 158 = .ok (.goto 4, 3) := dchk_at dgX7_nextToken_125_ 17 rfl
theorem dX7_nextToken_161 : decode cX7_nextToken 161 = .ok (.iconst 1, 1) := dchk_at dgX7_nextToken_125_ 18 rfl
theorem dX7_nextToken_162 : decode cX7_nextToken 162 = .ok (.putfield 203, 3) := dchk_at dgX7_nextToken_125_ 19 rfl
theorem dX7_nextToken_165 : decode cX7_nextToken 165 = .ok (.aload_n 0, 1) := dchk_at dgX7_nextToken_125_ 20 rfl
theorem dX7_nextToken_166 : decode cX7_nextToken 166 = .ok (.aload_n 0, 1) := dchk_at dgX7_nextToken_125_ 21 rfl
theorem dX7_nextToken_167 : decode cX7_nextToken 167 = .ok (.getfield 200, 3) := dchk_at dgX7_nextToken_125_ 22 rfl
theorem dX7_nextToken_170 : decode cX7_nextToken 170 = .ok (.aload_n 0, 1) := dchk_at dgX7_nextToken_125_ 23 rfl
theorem dX7_nextToken_171 : decode cX7_nextToken 171 = .ok (.getfield 206, 3) := dchk_at dgX7_nextToken_125_ 24 rfl
theorem dX7_nextToken_174 : decode cX7_nextToken 174 = .ok (.isub, 1) := dchk_at dgX7_nextToken_125_ 25 rfl
theorem dX7_nextToken_175 : decode cX7_nextToken 175 = .ok (.iconst 1, 1) := dchk_at dgX7_nextToken_125_ 26 rfl
theorem dX7_nextToken_176 : decode cX7_nextToken 176 = .ok (.if_icmp .ne 15, 3) := dchk_at dgX7_nextToken_125_ 27 rfl
theorem dX7_nextToken_179 : decode cX7_nextToken 179 = .ok (.aload_n 0, 1) := dchk_at dgX7_nextToken_125_ 28 rfl
theorem dX7_nextToken_180 : decode cX7_nextToken 180 = .ok (.getfield 46, 3) := dchk_at dgX7_nextToken_125_ 29 rfl
theorem dX7_nextToken_183 : decode cX7_nextToken 183 = .ok (.aload_n 0, 1) := dchk_at dgX7_nextToken_125_ 30 rfl
theorem dX7_nextToken_184 : decode cX7_nextToken 184 = .ok (.getfield 206, 3) := dchk_at dgX7_nextToken_125_ 31 rfl
theorem dgX7_nextToken_187_ : dchk cX7_nextToken [(187, .iaload, 1), (188, .goto 4, 3), (191, .iconst 0, 1), (192, .putfield 212, 3), (195, .goto 144, 3), (198, .aload_n 0, 1), (199, .aload_n 0, 1), (200, .getfield 206, 3), (203, .invokevirtual 215, 3), (206, .ifCond .eq 105, 3), (209, .aload_n 0, 1), (210, .iconst 0, 1), (211, .putfield 218, 3), (214, .aload_n 0, 1), (215, .aload_n 0, 1), (216, .getfield 200, 3), (219, .invokevirtual 215, 3), (222, .ifCond .eq 60, 3), (225, .aload_n 0, 1), (226, .aload_n 0, 1), (227, .getfield 200, 3), (230, .aload_n 0, 1), (231, .getfield 206, 3), (234, .isub, 1), (235, .iconst 4, 1), (236, .if_icmp .ge 26, 3), (239, .bipush 10, 2), (241, .aload_n 0, 1), (242, .getfield 218, 3), (245, .imul, 1), (246, .aload_n 0, 1), (247, .getfield 46, 3)] = true := by decide +kernel
theorem dX7_nextToken_187 : decode cX7_nextToken 187 = .ok (.iaload, 1) := dchk_at dgX7_nextToken_187_ 0 rfl
theorem dX7_nextToken_188 : decode cX7_nextToken 188 = .ok (.goto 4, 3) := dchk_at dgX7_nextToken_187_ 1 rfl
theorem dX7_nextToken_191 : decode cX7_nextToken 191 = .ok (.iconst 0, 1) := dchk_at dgX7_nextToken_187_ 2 rfl
theorem dX7_nextToken_192 : decode cX7_nextToken 192 = .ok (.putfield 212, 3) := dchk_at dgX7_nextToken_187_ 3 rfl
theorem dX7_nextToken_195 : decode cX7_nextToken 195 = .ok (.goto 144, 3) := dchk_at dgX7_nextToken_187_ 4 rfl
theorem dX7_nextToken_198 : decode cX7_nextToken 198 = .ok (.aload_n 0, 1) := dchk_at dgX7_nextToken_187_ 5 rfl
theorem dX7_nextToken_199 : decode cX7_nextToken 199 = .ok (.aload_n 0, 1) := dchk_at dgX7_nextToken_187_ 6 rfl
theorem dX7_nextToken_200 : decode cX7_nextToken 200 = .ok (.getfield 206, 3) := dchk_at dgX7_nextToken_187_ 7 rfl
theorem dX7_nextToken_203 : decode cX7_nextToken 203 = .ok (.invokevirtual 215, 3) := dchk_at dgX7_nextToken_187_ 8 rfl
theorem dX7_nextToken_206 : decode cX7_nextToken 206 = .ok (.ifCond .eq 105, 3) := dchk_at dgX7_nextToken_187_ 9 rfl
theorem dX7_nextToken_209 : decode cX7_nextToken 209 = .ok (.aload_n 0, 1) := dchk_at dgX7_nextToken_187_ 10 rfl
theorem dX7_nextToken_210 : decode cX7_nextToken 210 = .ok (.iconst 0, 1) := dchk_at dgX7_nextToken_187_ 11 rfl
theorem dX7_nextToken_211 : decode cX7_nextToken 211 = .ok (.putfield 218, 3) := dchk_at dgX7_nextToken_187_ 12 rfl
theorem dX7_nextToken_214 : decode cX7_nextToken 214 = .ok (.aload_n 0, 1) := dchk_at dgX7_nextToken_187_ 13 rfl
theorem dX7_nextToken_215 : decode cX7_nextToken 215 = .ok (.aload_n 0, 1) := dchk_at dgX7_nextToken_187_ 14 rfl
theorem dX7_nextToken_216 : decode cX7_nextToken 216 = .ok (.getfield 200, 3) := dchk_at dgX7_nextToken_187_ 15 rfl
theorem dX7_nextToken_219 : decode cX7_nextToken 219 = .ok (.invokevirtual 215, 3) := dchk_at dgX7_nextToken_187_ 16 rfl
theorem dX7_nextToken_222 : decode cX7_nextToken 222 = .ok (.ifCond .eq 60, 3) := dchk_at dgX7_nextToken_187_ 17 rfl
theorem dX7_nextToken_225 : decode cX7_nextToken 225 = .ok (.aload_n 0, 1) := dchk_at dgX7_nextToken_187_ 18 rfl
theorem dX7_nextToken_226 : decode cX7_nextToken 226 = .ok (.aload_n 0, 1) := dchk_at dgX7_nextToken_187_ 19 rfl
theorem dX7_nextToken_227 : decode cX7_nextToken 227 = .ok (.getfield 200, 3) := dchk_at dgX7_nextToken_187_ 20 rfl
theorem dX7_nextToken_230 : decode cX7_nextToken 230 = .ok (.aload_n 0, 1) := dchk_at dgX7_nextToken_187_ 21 rfl
theorem dX7_nextToken_231 : decode cX7_nextToken 231 = .ok (.getfield 206, 3) := dchk_at dgX7_nextToken_187_ 22 rfl
theorem dX7_nextToken_234 : decode cX7_nextToken 234 = .ok (.isub, 1) := dchk_at dgX7_nextToken_187_ 23 rfl
theorem dX7_nextToken_235 : decode cX7_nextToken 235 = .ok (.iconst 4, 1) := dchk_at dgX7_nextToken_187_ 24 rfl
theorem dX7_nextToken_236 : decode cX7_nextToken 236 = .ok (.if_icmp .ge 26, 3) := dchk_at dgX7_nextToken_187_ 25 rfl
theorem dX7_nextToken_239 : decode cX7_nextToken 239 = .ok (.bipush 10, 2) := dchk_at dgX7_nextToken_187_ 26 rfl
theorem dX7_nextToken_241 : decode cX7_nextToken 241 = .ok (.aload_n 0, 1) := dchk_at dgX7_nextToken_187_ 27 rfl
theorem dX7_nextToken_242 : decode cX7_nextToken 242 = .ok (.getfield 218, 3) := dchk_at dgX7_nextToken_187_ 28 rfl
theorem dX7_nextToken_245 : decode cX7_nextToken 245 = .ok (.imul, 1) := dchk_at dgX7_nextToken_187_ 29 rfl
theorem dX7_nextToken_246 : decode cX7_nextToken 246 = .ok (.aload_n 0, 1) := dchk_at dgX7_nextToken_187_ 30 rfl
theorem dX7_nextToken_247 : decode cX7_nextToken 247 = .ok (.getfield 46, 3) := dchk_at dgX7_nextToken_187_ 31 rfl
theorem dgX7_nextToken_250_ : dchk cX7_nextToken [(250, .aload_n 0, 1), (251, .getfield 200, 3), (254, .iaload, 1), (255, .iadd, 1), (256, .bipush 48, 2), (258, .isub, 1), (259, .goto 7, 3), (262, .aload_n 0, 1), (263, .getfield 218, 3), (266, .putfield 218, 3), (269, .aload_n 0, 1), (270, .dup, 1), (271, .getfield 200, 3), (274, .iconst 1, 1), (275, .iadd, 1), (276, .putfield 200, 3), (279, .goto (-65), 3), (282, .aload_n 0, 1), (283, .iload_n 1, 1), (284, .ifCond .ne 16, 3), (287, .aload_n 0, 1), (288, .getfield 200, 3), (291, .aload_n 0, 1), (292, .getfield 206, 3), (295, .isub, 1), (296, .iconst 4, 1), (297, .if_icmp .le 7, 3), (300, .iconst 4, 1), (301, .goto 4, 3), (304, .iconst 2, 1), (305, .putfield 203, 3), (308, .goto 31, 3)] = true := by decide +kernel
theorem dX7_nextToken_250 : decode cX7_nextToken 250 = .ok (.aload_n 0, 1) := dchk_at dgX7_nextToken_250_ 0 rfl
theorem dX7_nextToken_251 : decode cX7_nextToken 251 = .ok (.getfield 200, 3) := dchk_at dgX7_nextToken_250_ 1 rfl
theorem dX7_nextToken_254 : decode cX7_nextToken 254 = .ok (.iaload, 1) := dchk_at dgX7_nextToken_250_ 2 rfl
theorem dX7_nextToken_255 : decode cX7_nextToken 255 = .ok (.iadd, 1) := dchk_at dgX7_nextToken_250_ 3 rfl
theorem dX7_nextToken_256 : decode cX7_nextToken 256 = .ok (.bipush 48, 2) := dchk_at dgX7_nextToken_250_ 4 rfl
theorem dX7_nextToken_258 : decode cX7_nextToken 258 = .ok (.isub, 1) := dchk_at dgX7_nextToken_250_ 5 rfl
theorem dX7_nextToken_259 : decode cX7_nextToken 259 = .ok (.goto 7, 3) := dchk_at dgX7_nextToken_250_ 6 rfl
theorem dX7_nextToken_262 : decode cX7_nextToken 262 = .ok (.aload_n 0, 1) := dchk_at dgX7_nextToken_250_ 7 rfl
theorem dX7_nextToken_263 : decode cX7_nextToken 263 = .ok (.getfield 218, 3) := dchk_at dgX7_nextToken_250_ 8 rfl
theorem dX7_nextToken_266 : decode cX7_nextToken 266 = .ok (.putfield 218, 3) := dchk_at dgX7_nextToken_250_ 9 rfl
theorem dX7_nextToken_269 : decode cX7_nextToken 269 = .ok (.aload_n 0, 1) := dchk_at dgX7_nextToken_250_ 10 rfl
theorem dX7_nextToken_270 : decode cX7_nextToken 270 = .ok (.dup, 1) := dchk_at dgX7_nextToken_250_ 11 rfl
theorem dX7_nextToken_271 : decode cX7_nextToken 271 = .ok (.getfield 200, 3) := dchk_at dgX7_nextToken_250_ 12 rfl
theorem dX7_nextToken_274 : decode cX7_nextToken 274 = .ok (.iconst 1, 1) := dchk_at dgX7_nextToken_250_ 13 rfl
theorem dX7_nextToken_275 : decode cX7_nextToken 275 = .ok (.iadd, 1) := dchk_at dgX7_nextToken_250_ 14 rfl
theorem dX7_nextToken_276 : decode cX7_nextToken 276 = .ok (.putfield 200, 3) := dchk_at dgX7_nextToken_250_ 15 rfl
theorem dX7_nextToken_279 : decode cX7_nextToken 279 = .ok (.goto (-65), 3) := dchk_at dgX7_nextToken_250_ 16 rfl
theorem dX7_nextToken_282 : decode cX7_nextToken 282 = .ok (.aload_n 0, 1) := dchk_at dgX7_nextToken_250_ 17 rfl
theorem dX7_nextToken_283 : decode cX7_nextToken 283 = .ok (.iload_n 1, 1) := dchk_at dgX7_nextToken_250_ 18 rfl
theorem dX7_nextToken_284 : decode cX7_nextToken 284 = .ok (.ifCond .ne 16, 3) := dchk_at dgX7_nextToken_250_ 19 rfl
theorem dX7_nextToken_287 : decode cX7_nextToken 287 = .ok (.aload_n 0, 1) := dchk_at dgX7_nextToken_250_ 20 rfl
theorem dX7_nextToken_288 : decode cX7_nextToken 288 = .ok (.getfield 200, 3) := dchk_at dgX7_nextToken_250_ 21 rfl
theorem dX7_nextToken_291 : decode cX7_nextToken 291 = .ok (.aload_n 0, 1) := dchk_at dgX7_nextToken_250_ 22 rfl
theorem dX7_nextToken_292 : decode cX7_nextToken 292 = .ok (.getfield 206, 3) := dchk_at dgX7_nextToken_250_ 23 rfl
theorem dX7_nextToken_295 : decode cX7_nextToken 295 = .ok (.isub, 1) := dchk_at dgX7_nextToken_250_ 24 rfl
theorem dX7_nextToken_296 : decode cX7_nextToken 296 = .ok (.iconst 4, 1) := dchk_at dgX7_nextToken_250_ 25 rfl
theorem dX7_nextToken_297 : decode cX7_nextToken 297 = .ok (.if_icmp .le 7, 3) := dchk_at dgX7_nextToken_250_ 26 rfl
theorem dX7_nextToken_300 : decode cX7_nextToken 300 = .ok (.iconst 4, 1) := dchk_at dgX7_nextToken_250_ 27 rfl
theorem dX7_nextToken_301 : decode cX7_nextToken 301 = .ok (.goto 4, 3) := dchk_at dgX7_nextToken_250_ 28 rfl
theorem dX7_nextToken_304 : decode cX7_nextToken 304 = .ok (.iconst 2, 1) := dchk_at dgX7_nextToken_250_ 29 rfl
theorem dX7_nextToken_305 : decode cX7_nextToken 305 = .ok (.putfield 203, 3) := dchk_at dgX7_nextToken_250_ 30 rfl
theorem dX7_nextToken_308 : decode cX7_nextToken 308 = .ok (.goto 31, 3) := dchk_at dgX7_nextToken_250_ 31 rfl
theorem dgX7_nextToken_311_ : dchk cX7_nextToken [(311, .aload_n 0, 1), (312, .iconst 3, 1), (313, .putfield 203, 3), (316, .aload_n 0, 1), (317, .aload_n 0, 1), (318, .getfield 46, 3), (321, .aload_n 0, 1), (322, .getfield 206, 3), (325, .iaload, 1), (326, .putfield 212, 3), (329, .aload_n 0, 1), (330, .dup, 1), (331, .getfield 200, 3), (334, .iconst 1, 1), (335, .iadd, 1), (336, .putfield 200, 3), (339, .return_, 1)] = true := by decide +kernel
theorem dX7_nextToken_311 : decode cX7_nextToken 311 = .ok (.aload_n 0, 1) := dchk_at dgX7_nextToken_311_ 0 rfl
theorem dX7_nextToken_312 : decode cX7_nextToken 312 = .ok (.iconst 3, 1) := dchk_at dgX7_nextToken_311_ 1 rfl
theorem dX7_nextToken_313 : decode cX7_nextToken 313 = .ok (.putfield 203, 3) := dchk_at dgX7_nextToken_311_ 2 rfl
theorem dX7_nextToken_316 : decode cX7_nextToken 316 = .ok (.aload_n 0, 1) := dchk_at dgX7_nextToken_311_ 3 rfl
theorem dX7_nextToken_317 : decode cX7_nextToken 317 = .ok (.aload_n 0, 1) := dchk_at dgX7_nextToken_311_ 4 rfl
theorem dX7_nextToken_318 : decode cX7_nextToken 318 = .ok (.getfield 46, 3) := dchk_at dgX7_nextToken_311_ 5 rfl
theorem dX7_nextToken_321 : decode cX7_nextToken 321 = .ok (.aload_n 0, 1) := dchk_at dgX7_nextToken_311_ 6 rfl
theorem dX7_nextToken_322 : decode cX7_nextToken 322 = .ok (.getfield 206, 3) := dchk_at dgX7_nextToken_311_ 7 rfl
theorem dX7_nextToken_325 : decode cX7_nextToken 325 = .ok (.iaload, 1) := dchk_at dgX7_nextToken_311_ 8 rfl
theorem dX7_nextToken_326 : decode cX7_nextToken 326 = .ok (.putfield 212, 3) := dchk_at dgX7_nextToken_311_ 9 rfl
theorem dX7_nextToken_329 : decode cX7_nextToken 329 = .ok (.aload_n 0, 1) := dchk_at dgX7_nextToken_311_ 10 rfl
theorem dX7_nextToken_330 : decode cX7_nextToken 330 = .ok (.dup, 1) := dchk_at dgX7_nextToken_311_ 11 rfl
theorem dX7_nextToken_331 : decode cX7_nextToken 331 = .ok (.getfield 200, 3) := dchk_at dgX7_nextToken_311_ 12 rfl
theorem dX7_nextToken_334 : decode cX7_nextToken 334 = .ok (.iconst 1, 1) := dchk_at dgX7_nextToken_311_ 13 rfl
theorem dX7_nextToken_335 : decode cX7_nextToken 335 = .ok (.iadd, 1) := dchk_at dgX7_nextToken_311_ 14 rfl
theorem dX7_nextToken_336 : decode cX7_nextToken 336 = .ok (.putfield 200, 3) := dchk_at dgX7_nextToken_311_ 15 rfl
theorem dX7_nextToken_339 : decode cX7_nextToken 339 = .ok (.return_, 1) := dchk_at dgX7_nextToken_311_ 16 rfl
theorem dgX7_isSign_0_ : dchk cX7_isSign [(0, .aload_n 0, 1), (1, .getfield 203, 3), (4, .iconst 3, 1), (5, .if_icmp .ne 15, 3), (8, .aload_n 0, 1), (9, .getfield 212, 3), (12, .iload_n 1, 1), (13, .if_icmp .ne 7, 3), (16, .iconst 1, 1), (17, .goto 4, 3), (20, .iconst 0, 1), (21, .ireturn, 1)] = true := by decide +kernel
theorem dX7_isSign_0 : decode cX7_isSign 0 = .ok (.aload_n 0, 1) := dchk_at dgX7_isSign_0_ 0 rfl
theorem dX7_isSign_1 : decode cX7_isSign 1 = .ok (.getfield 203, 3) := dchk_at dgX7_isSign_0_ 1 rfl
theorem dX7_isSign_4 : decode cX7_isSign 4 = .ok (.iconst 3, 1) := dchk_at dgX7_isSign_0_ 2 rfl
theorem dX7_isSign_5 : decode cX7_isSign 5 = .ok (.if_icmp .ne 15, 3) := dchk_at dgX7_isSign_0_ 3 rfl
theorem dX7_isSign_8 : decode cX7_isSign 8 = .ok (.aload_n 0, 1) := dchk_at dgX7_isSign_0_ 4 rfl
theorem dX7_isSign_9 : decode cX7_isSign 9 = .ok (.getfield 212, 3) := dchk_at dgX7_isSign_0_ 5 rfl
theorem dX7_isSign_12 : decode cX7_isSign 12 = .ok (.iload_n 1, 1) := dchk_at dgX7_isSign_0_ 6 rfl
theorem dX7_isSign_13 : decode cX7_isSign 13 = .ok (.if_icmp .ne 7, 3) := dchk_at dgX7_isSign_0_ 7 rfl
theorem dX7_isSign_16 : decode cX7_isSign 16 = .ok (.iconst 1, 1) := dchk_at dgX7_isSign_0_ 8 rfl
theorem dX7_isSign_17 : decode cX7_isSign 17 = .ok (.goto 4, 3) := dchk_at dgX7_isSign_0_ 9 rfl
theorem dX7_isSign_20 : decode cX7_isSign 20 = .ok (.iconst 0, 1) := dchk_at dgX7_isSign_0_ 10 rfl
theorem dX7_isSign_21 : decode cX7_isSign 21 = .ok (.ireturn, 1) := dchk_at dgX7_isSign_0_ 11 rfl
theorem dgX7_isName_0_ : dchk cX7_isName [(0, .iload_n 0, 1), (1, .lookupswitch 69 #[(0, 27), (1, 51)], 27), (28, .iload_n 1, 1), (29, .bipush 104, 2), (31, .if_icmp .eq 15, 3), (34, .iload_n 1, 1), (35, .bipush 103, 2), (37, .if_icmp .eq 9, 3), (40, .iload_n 1, 1), (41, .bipush 112, 2), (43, .if_icmp .ne 7, 3), (46, .iconst 1, 1), (47, .goto 4, 3), (50, .iconst 0, 1), (51, .ireturn, 1), (52, .iload_n 1, 1), (53, .bipush 99, 2), (55, .if_icmp .eq 9, 3), (58, .iload_n 1, 1), (59, .bipush 116, 2), (61, .if_icmp .ne 7, 3), (64, .iconst 1, 1), (65, .goto 4, 3), (68, .iconst 0, 1), (69, .ireturn, 1), (70, .iload_n 1, 1), (71, .bipush 103, 2), (73, .if_icmp .eq 9, 3), (76, .iload_n 1, 1), (77, .bipush 115, 2), (79, .if_icmp .ne 7, 3), (82, .iconst 1, 1)] = true := by decide +kernel
theorem dX7_isName_0 : decode cX7_isName 0 = .ok (.iload_n 0, 1) := dchk_at dgX7_isName_0_ 0 rfl
theorem dX7_isName_1 : decode cX7_isName 1 = .ok (.lookupswitch 69 #[(0, 27), (1, 51)], 27) := dchk_at dgX7_isName_0_ 1 rfl
theorem dX7_isName_28 : decode cX7_isName 28 = .ok (.iload_n 1, 1) := dchk_at dgX7_isName_0_ 2 rfl
theorem dX7_isName_29 : decode cX7_isName 29 = .ok (.bipush 104, 2) := dchk_at dgX7_isName_0_ 3 rfl
theorem dX7_isName_31 : decode cX7_isName 31 = .ok (.if_icmp .eq 15, 3) := dchk_at dgX7_isName_0_ 4 rfl
theorem dX7_isName_34 : decode cX7_isName 34 = .ok (.iload_n 1, 1) := dchk_at dgX7_isName_0_ 5 rfl
theorem dX7_isName_35 : decode cX7_isName 35 = .ok (.bipush 103, 2) := dchk_at dgX7_isName_0_ 6 rfl
theorem dX7_isName_37 : decode cX7_isName 37 = .ok (.if_icmp .eq 9, 3) := dchk_at dgX7_isName_0_ 7 rfl
theorem dX7_isName_40 : decode cX7_isName 40 = .ok (.iload_n 1, 1) := dchk_at dgX7_isName_0_ 8 rfl
theorem dX7_isName_41 : decode cX7_isName 41 = .ok (.bipush 112, 2) := dchk_at dgX7_isName_0_ 9 rfl
theorem dX7_isName_43 : decode cX7_isName 43 = .ok (.if_icmp .ne 7, 3) := dchk_at dgX7_isName_0_ 10 rfl
theorem dX7_isName_46 : decode cX7_isName 46 = .ok (.iconst 1, 1) := dchk_at dgX7_isName_0_ 11 rfl
theorem dX7_isName_47 : decode cX7_isName 47 = .ok (.goto 4, 3) := dchk_at dgX7_isName_0_ 12 rfl
theorem dX7_isName_50 : decode cX7_isName 50 = .ok (.iconst 0, 1) := dchk_at dgX7_isName_0_ 13 rfl
theorem dX7_isName_51 : decode cX7_isName 51 = .ok (.ireturn, 1) := dchk_at dgX7_isName_0_ 14 rfl
theorem dX7_isName_52 : decode cX7_isName 52 = .ok (.iload_n 1, 1) := dchk_at dgX7_isName_0_ 15 rfl
theorem dX7_isName_53 : decode cX7_isName 53 = .ok (.bipush 99, 2) := dchk_at dgX7_isName_0_ 16 rfl
theorem dX7_isName_55 : decode cX7_isName 55 = .ok (.if_icmp .eq 9, 3) := dchk_at dgX7_isName_0_ 17 rfl
theorem dX7_isName_58 : decode cX7_isName 58 = .ok (.iload_n 1, 1) := dchk_at dgX7_isName_0_ 18 rfl
theorem dX7_isName_59 : decode cX7_isName 59 = .ok (.bipush 116, 2) := dchk_at dgX7_isName_0_ 19 rfl
theorem dX7_isName_61 : decode cX7_isName 61 = .ok (.if_icmp .ne 7, 3) := dchk_at dgX7_isName_0_ 20 rfl
theorem dX7_isName_64 : decode cX7_isName 64 = .ok (.iconst 1, 1) := dchk_at dgX7_isName_0_ 21 rfl
theorem dX7_isName_65 : decode cX7_isName 65 = .ok (.goto 4, 3) := dchk_at dgX7_isName_0_ 22 rfl
theorem dX7_isName_68 : decode cX7_isName 68 = .ok (.iconst 0, 1) := dchk_at dgX7_isName_0_ 23 rfl
theorem dX7_isName_69 : decode cX7_isName 69 = .ok (.ireturn, 1) := dchk_at dgX7_isName_0_ 24 rfl
theorem dX7_isName_70 : decode cX7_isName 70 = .ok (.iload_n 1, 1) := dchk_at dgX7_isName_0_ 25 rfl
theorem dX7_isName_71 : decode cX7_isName 71 = .ok (.bipush 103, 2) := dchk_at dgX7_isName_0_ 26 rfl
theorem dX7_isName_73 : decode cX7_isName 73 = .ok (.if_icmp .eq 9, 3) := dchk_at dgX7_isName_0_ 27 rfl
theorem dX7_isName_76 : decode cX7_isName 76 = .ok (.iload_n 1, 1) := dchk_at dgX7_isName_0_ 28 rfl
theorem dX7_isName_77 : decode cX7_isName 77 = .ok (.bipush 115, 2) := dchk_at dgX7_isName_0_ 29 rfl
theorem dX7_isName_79 : decode cX7_isName 79 = .ok (.if_icmp .ne 7, 3) := dchk_at dgX7_isName_0_ 30 rfl
theorem dX7_isName_82 : decode cX7_isName 82 = .ok (.iconst 1, 1) := dchk_at dgX7_isName_0_ 31 rfl
theorem dgX7_isName_83_ : dchk cX7_isName [(83, .goto 4, 3), (86, .iconst 0, 1), (87, .ireturn, 1)] = true := by decide +kernel
theorem dX7_isName_83 : decode cX7_isName 83 = .ok (.goto 4, 3) := dchk_at dgX7_isName_83_ 0 rfl
theorem dX7_isName_86 : decode cX7_isName 86 = .ok (.iconst 0, 1) := dchk_at dgX7_isName_83_ 1 rfl
theorem dX7_isName_87 : decode cX7_isName 87 = .ok (.ireturn, 1) := dchk_at dgX7_isName_83_ 2 rfl
theorem dgX7_step_0_ : dchk cX7_step [(0, .aload_n 0, 1), (1, .getfield 7, 3), (4, .aload_n 0, 1), (5, .getfield 225, 3), (8, .iconst 2, 1), (9, .aload_n 0, 1), (10, .getfield 228, 3), (13, .imul, 1), (14, .iadd, 1), (15, .iload_n 1, 1), (16, .iastore, 1), (17, .aload_n 0, 1), (18, .getfield 7, 3), (21, .aload_n 0, 1), (22, .getfield 225, 3), (25, .iconst 2, 1), (26, .aload_n 0, 1), (27, .getfield 228, 3), (30, .imul, 1), (31, .iadd, 1), (32, .iconst 1, 1), (33, .iadd, 1), (34, .iload_n 2, 1), (35, .iastore, 1), (36, .aload_n 0, 1), (37, .dup, 1), (38, .getfield 228, 3), (41, .iconst 1, 1), (42, .iadd, 1), (43, .putfield 228, 3), (46, .return_, 1)] = true := by decide +kernel
theorem dX7_step_0 : decode cX7_step 0 = .ok (.aload_n 0, 1) := dchk_at dgX7_step_0_ 0 rfl
theorem dX7_step_1 : decode cX7_step 1 = .ok (.getfield 7, 3) := dchk_at dgX7_step_0_ 1 rfl
theorem dX7_step_4 : decode cX7_step 4 = .ok (.aload_n 0, 1) := dchk_at dgX7_step_0_ 2 rfl
theorem dX7_step_5 : decode cX7_step 5 = .ok (.getfield 225, 3) := dchk_at dgX7_step_0_ 3 rfl
theorem dX7_step_8 : decode cX7_step 8 = .ok (.iconst 2, 1) := dchk_at dgX7_step_0_ 4 rfl
theorem dX7_step_9 : decode cX7_step 9 = .ok (.aload_n 0, 1) := dchk_at dgX7_step_0_ 5 rfl
theorem dX7_step_10 : decode cX7_step 10 = .ok (.getfield 228, 3) := dchk_at dgX7_step_0_ 6 rfl
theorem dX7_step_13 : decode cX7_step 13 = .ok (.imul, 1) := dchk_at dgX7_step_0_ 7 rfl
theorem dX7_step_14 : decode cX7_step 14 = .ok (.iadd, 1) := dchk_at dgX7_step_0_ 8 rfl
theorem dX7_step_15 : decode cX7_step 15 = .ok (.iload_n 1, 1) := dchk_at dgX7_step_0_ 9 rfl
theorem dX7_step_16 : decode cX7_step 16 = .ok (.iastore, 1) := dchk_at dgX7_step_0_ 10 rfl
theorem dX7_step_17 : decode cX7_step 17 = .ok (.aload_n 0, 1) := dchk_at dgX7_step_0_ 11 rfl
theorem dX7_step_18 : decode cX7_step 18 = .ok (.getfield 7, 3) := dchk_at dgX7_step_0_ 12 rfl
theorem dX7_step_21 : decode cX7_step 21 = .ok (.aload_n 0, 1) := dchk_at dgX7_step_0_ 13 rfl
theorem dX7_step_22 : decode cX7_step 22 = .ok (.getfield 225, 3) := dchk_at dgX7_step_0_ 14 rfl
theorem dX7_step_25 : decode cX7_step 25 = .ok (.iconst 2, 1) := dchk_at dgX7_step_0_ 15 rfl
theorem dX7_step_26 : decode cX7_step 26 = .ok (.aload_n 0, 1) := dchk_at dgX7_step_0_ 16 rfl
theorem dX7_step_27 : decode cX7_step 27 = .ok (.getfield 228, 3) := dchk_at dgX7_step_0_ 17 rfl
theorem dX7_step_30 : decode cX7_step 30 = .ok (.imul, 1) := dchk_at dgX7_step_0_ 18 rfl
theorem dX7_step_31 : decode cX7_step 31 = .ok (.iadd, 1) := dchk_at dgX7_step_0_ 19 rfl
theorem dX7_step_32 : decode cX7_step 32 = .ok (.iconst 1, 1) := dchk_at dgX7_step_0_ 20 rfl
theorem dX7_step_33 : decode cX7_step 33 = .ok (.iadd, 1) := dchk_at dgX7_step_0_ 21 rfl
theorem dX7_step_34 : decode cX7_step 34 = .ok (.iload_n 2, 1) := dchk_at dgX7_step_0_ 22 rfl
theorem dX7_step_35 : decode cX7_step 35 = .ok (.iastore, 1) := dchk_at dgX7_step_0_ 23 rfl
theorem dX7_step_36 : decode cX7_step 36 = .ok (.aload_n 0, 1) := dchk_at dgX7_step_0_ 24 rfl
theorem dX7_step_37 : decode cX7_step 37 = .ok (.dup, 1) := dchk_at dgX7_step_0_ 25 rfl
theorem dX7_step_38 : decode cX7_step 38 = .ok (.getfield 228, 3) := dchk_at dgX7_step_0_ 26 rfl
theorem dX7_step_41 : decode cX7_step 41 = .ok (.iconst 1, 1) := dchk_at dgX7_step_0_ 27 rfl
theorem dX7_step_42 : decode cX7_step 42 = .ok (.iadd, 1) := dchk_at dgX7_step_0_ 28 rfl
theorem dX7_step_43 : decode cX7_step 43 = .ok (.putfield 228, 3) := dchk_at dgX7_step_0_ 29 rfl
theorem dX7_step_46 : decode cX7_step 46 = .ok (.return_, 1) := dchk_at dgX7_step_0_ 30 rfl
set_option maxRecDepth 20000 in
theorem gw_wsX7_both : wsX7_both.all goodWord = true := by decide +kernel
set_option maxRecDepth 20000 in
theorem ggX7_either_X7_both : GoodIn wsX7_either wsX7_both := goodIn_r _ [42, 43, 44, 45, 4, 5, 6, 7, 8, 9, 10, 11, 12, 13, 14, 15, 16, 17, 18, 19, 20, 21, 22, 23, 24, 25, 26, 27, 28, 29, 30, 31, 32, 33, 34, 35, 36, 37, 38, 39, 40, 41, 0, 1, 2, 3, 46, 47, 48, 49, 50, 51, 52, 53, 54, 55, 56, 57, 58, 59, 60, 61, 62, 63, 64, 65, 66, 67, 68, 69, 70, 71, 72, 73, 74, 75, 76, 77, 78, 79, 80, 81, 82, 83, 84, 85, 86, 87, 88, 89, 90, 91, 92, 93, 94, 95, 96, 97, 98] rfl gw_wsX7_both
set_option maxRecDepth 20000 in
theorem gX7_either_X7_both : GoodIn wsX7_either (wsV RX7 231 RX7 yX7_both wsX7_both) := goodIn_app (goodIn_of _ (by decide +kernel)) ggX7_either_X7_both
set_option maxRecDepth 20000 in
theorem gw_wsX7_isSign : wsX7_isSign.all goodWord = true := by decide +kernel
set_option maxRecDepth 20000 in
theorem ggX7_either_X7_isSign : GoodIn wsX7_either wsX7_isSign := goodIn_r _ [8, 9, 10, 68, 69, 70, 71, 72, 73, 74, 75, 76, 77, 78, 79, 80, 81, 82, 83, 84, 85, 86, 87, 88, 89, 90, 91, 92, 93, 94, 95, 96, 97, 98] rfl gw_wsX7_isSign
set_option maxRecDepth 20000 in
theorem gX7_either_X7_isSign : GoodIn wsX7_either (wsV RX7 234 RX7 yX7_isSign wsX7_isSign) := goodIn_app (goodIn_of _ (by decide +kernel)) ggX7_either_X7_isSign
set_option maxRecDepth 20000 in
theorem gw_wsX7_nextToken : wsX7_nextToken.all goodWord = true := by decide +kernel
set_option maxRecDepth 20000 in
theorem ggX7_either_X7_nextToken : GoodIn wsX7_either wsX7_nextToken := goodIn_r _ [14, 15, 9, 16, 17, 18, 10, 19, 20, 21, 22, 4, 23, 24, 25, 26, 27, 28, 29, 30, 31, 32, 33, 34, 68, 69, 70, 71, 72, 73, 74, 75, 76, 77, 78, 79, 80, 81, 82, 83, 84, 85, 86, 87, 88, 89, 90, 91, 92, 93, 94, 95, 96, 97, 98] rfl gw_wsX7_nextToken
set_option maxRecDepth 20000 in
theorem gX7_either_X7_nextToken : GoodIn wsX7_either (wsV RX7 237 RX7 yX7_nextToken wsX7_nextToken) := goodIn_app (goodIn_of _ (by decide +kernel)) ggX7_either_X7_nextToken
set_option maxRecDepth 20000 in
theorem gw_wsX7_step : wsX7_step.all goodWord = true := by decide +kernel
set_option maxRecDepth 20000 in
theorem ggX7_either_X7_step : GoodIn wsX7_either wsX7_step := goodIn_r _ [38, 39, 40, 41, 68, 69, 70, 71, 72, 73, 74, 75, 76, 77, 78, 79, 80, 81, 82, 83, 84, 85, 86, 87, 88, 89, 90, 91, 92, 93, 94, 95, 96, 97, 98] rfl gw_wsX7_step
set_option maxRecDepth 20000 in
theorem gX7_either_X7_step : GoodIn wsX7_either (wsV RX7 240 RX7 yX7_step wsX7_step) := goodIn_app (goodIn_of _ (by decide +kernel)) ggX7_either_X7_step
theorem dgX7_either_0_ : dchk cX7_either [(0, .aload_n 0, 1), (1, .iload_n 1, 1), (2, .invokevirtual 231, 3), (5, .ifCond .ne 5, 3), (8, .iconst 0, 1), (9, .ireturn, 1), (10, .aload_n 0, 1), (11, .bipush 124, 2), (13, .invokevirtual 234, 3), (16, .ifCond .eq 27, 3), (19, .aload_n 0, 1), (20, .invokevirtual 237, 3), (23, .aload_n 0, 1), (24, .iload_n 1, 1), (25, .invokevirtual 231, 3), (28, .ifCond .ne 5, 3), (31, .iconst 0, 1), (32, .ireturn, 1), (33, .aload_n 0, 1), (34, .iconst 2, 1), (35, .bipush 124, 2), (37, .invokevirtual 240, 3), (40, .goto (-30), 3), (43, .iconst 1, 1), (44, .ireturn, 1)] = true := by decide +kernel
theorem dX7_either_0 : decode cX7_either 0 = .ok (.aload_n 0, 1) := dchk_at dgX7_either_0_ 0 rfl
theorem dX7_either_1 : decode cX7_either 1 = .ok (.iload_n 1, 1) := dchk_at dgX7_either_0_ 1 rfl
theorem dX7_either_2 : decode cX7_either 2 = .ok (.invokevirtual 231, 3) := dchk_at dgX7_either_0_ 2 rfl
theorem dX7_either_5 : decode cX7_either 5 = .ok (.ifCond .ne 5, 3) := dchk_at dgX7_either_0_ 3 rfl
theorem dX7_either_8 : decode cX7_either 8 = .ok (.iconst 0, 1) := dchk_at dgX7_either_0_ 4 rfl
theorem dX7_either_9 : decode cX7_either 9 = .ok (.ireturn, 1) := dchk_at dgX7_either_0_ 5 rfl
theorem dX7_either_10 : decode cX7_either 10 = .ok (.aload_n 0, 1) := dchk_at dgX7_either_0_ 6 rfl
theorem dX7_either_11 : decode cX7_either 11 = .ok (.bipush 124, 2) := dchk_at dgX7_either_0_ 7 rfl
theorem dX7_either_13 : decode cX7_either 13 = .ok (.invokevirtual 234, 3) := dchk_at dgX7_either_0_ 8 rfl
theorem dX7_either_16 : decode cX7_either 16 = .ok (.ifCond .eq 27, 3) := dchk_at dgX7_either_0_ 9 rfl
theorem dX7_either_19 : decode cX7_either 19 = .ok (.aload_n 0, 1) := dchk_at dgX7_either_0_ 10 rfl
theorem dX7_either_20 : decode cX7_either 20 = .ok (.invokevirtual 237, 3) := dchk_at dgX7_either_0_ 11 rfl
theorem dX7_either_23 : decode cX7_either 23 = .ok (.aload_n 0, 1) := dchk_at dgX7_either_0_ 12 rfl
theorem dX7_either_24 : decode cX7_either 24 = .ok (.iload_n 1, 1) := dchk_at dgX7_either_0_ 13 rfl
theorem dX7_either_25 : decode cX7_either 25 = .ok (.invokevirtual 231, 3) := dchk_at dgX7_either_0_ 14 rfl
theorem dX7_either_28 : decode cX7_either 28 = .ok (.ifCond .ne 5, 3) := dchk_at dgX7_either_0_ 15 rfl
theorem dX7_either_31 : decode cX7_either 31 = .ok (.iconst 0, 1) := dchk_at dgX7_either_0_ 16 rfl
theorem dX7_either_32 : decode cX7_either 32 = .ok (.ireturn, 1) := dchk_at dgX7_either_0_ 17 rfl
theorem dX7_either_33 : decode cX7_either 33 = .ok (.aload_n 0, 1) := dchk_at dgX7_either_0_ 18 rfl
theorem dX7_either_34 : decode cX7_either 34 = .ok (.iconst 2, 1) := dchk_at dgX7_either_0_ 19 rfl
theorem dX7_either_35 : decode cX7_either 35 = .ok (.bipush 124, 2) := dchk_at dgX7_either_0_ 20 rfl
theorem dX7_either_37 : decode cX7_either 37 = .ok (.invokevirtual 240, 3) := dchk_at dgX7_either_0_ 21 rfl
theorem dX7_either_40 : decode cX7_either 40 = .ok (.goto (-30), 3) := dchk_at dgX7_either_0_ 22 rfl
theorem dX7_either_43 : decode cX7_either 43 = .ok (.iconst 1, 1) := dchk_at dgX7_either_0_ 23 rfl
theorem dX7_either_44 : decode cX7_either 44 = .ok (.ireturn, 1) := dchk_at dgX7_either_0_ 24 rfl
set_option maxRecDepth 20000 in
theorem gw_wsX7_test : wsX7_test.all goodWord = true := by decide +kernel
set_option maxRecDepth 20000 in
theorem ggX7_both_X7_test : GoodIn wsX7_both wsX7_test := goodIn_r _ [64, 10, 65, 66, 67, 4, 5, 6, 7, 8, 9, 11, 12, 13, 14, 15, 16, 17, 18, 19, 20, 21, 22, 23, 24, 25, 26, 27, 28, 29, 30, 31, 32, 33, 34, 35, 36, 37, 38, 39, 40, 41, 0, 1, 2, 3, 42, 43, 44, 45, 46, 47, 48, 49, 50, 51, 52, 53, 54, 55, 56, 57, 58, 59, 60, 61, 62, 63, 68, 69, 70, 71, 72, 73, 74, 75, 76, 77, 78, 79, 80, 81, 82, 83, 84, 85, 86, 87, 88, 89, 90, 91, 92, 93, 94, 95, 96, 97, 98] rfl gw_wsX7_test
set_option maxRecDepth 20000 in
theorem gX7_both_X7_test : GoodIn wsX7_both (wsV RX7 244 RX7 yX7_test wsX7_test) := goodIn_app (goodIn_of _ (by decide +kernel)) ggX7_both_X7_test
set_option maxRecDepth 20000 in
theorem ggX7_both_X7_isSign : GoodIn wsX7_both wsX7_isSign := goodIn_r _ [8, 9, 10, 68, 69, 70, 71, 72, 73, 74, 75, 76, 77, 78, 79, 80, 81, 82, 83, 84, 85, 86, 87, 88, 89, 90, 91, 92, 93, 94, 95, 96, 97, 98] rfl gw_wsX7_isSign
set_option maxRecDepth 20000 in
theorem gX7_both_X7_isSign : GoodIn wsX7_both (wsV RX7 234 RX7 yX7_isSign wsX7_isSign) := goodIn_app (goodIn_of _ (by decide +kernel)) ggX7_both_X7_isSign
set_option maxRecDepth 20000 in
theorem ggX7_both_X7_nextToken : GoodIn wsX7_both wsX7_nextToken := goodIn_r _ [14, 15, 9, 16, 17, 18, 10, 19, 20, 21, 22, 4, 23, 24, 25, 26, 27, 28, 29, 30, 31, 32, 33, 34, 68, 69, 70, 71, 72, 73, 74, 75, 76, 77, 78, 79, 80, 81, 82, 83, 84, 85, 86, 87, 88, 89, 90, 91, 92, 93, 94, 95, 96, 97, 98] rfl gw_wsX7_nextToken
set_option maxRecDepth 20000 in
theorem gX7_both_X7_nextToken : GoodIn wsX7_both (wsV RX7 237 RX7 yX7_nextToken wsX7_nextToken) := goodIn_app (goodIn_of _ (by decide +kernel)) ggX7_both_X7_nextToken
set_option maxRecDepth 20000 in
theorem ggX7_both_X7_step : GoodIn wsX7_both wsX7_step := goodIn_r _ [38, 39, 40, 41, 68, 69, 70, 71, 72, 73, 74, 75, 76, 77, 78, 79, 80, 81, 82, 83, 84, 85, 86, 87, 88, 89, 90, 91, 92, 93, 94, 95, 96, 97, 98] rfl gw_wsX7_step
set_option maxRecDepth 20000 in
theorem gX7_both_X7_step : GoodIn wsX7_both (wsV RX7 240 RX7 yX7_step wsX7_step) := goodIn_app (goodIn_of _ (by decide +kernel)) ggX7_both_X7_step
theorem dgX7_both_0_ : dchk cX7_both [(0, .aload_n 0, 1), (1, .iload_n 1, 1), (2, .invokevirtual 244, 3), (5, .ifCond .ne 5, 3), (8, .iconst 0, 1), (9, .ireturn, 1), (10, .aload_n 0, 1), (11, .bipush 38, 2), (13, .invokevirtual 234, 3), (16, .ifCond .eq 27, 3), (19, .aload_n 0, 1), (20, .invokevirtual 237, 3), (23, .aload_n 0, 1), (24, .iload_n 1, 1), (25, .invokevirtual 244, 3), (28, .ifCond .ne 5, 3), (31, .iconst 0, 1), (32, .ireturn, 1), (33, .aload_n 0, 1), (34, .iconst 2, 1), (35, .bipush 38, 2), (37, .invokevirtual 240, 3), (40, .goto (-30), 3), (43, .iconst 1, 1), (44, .ireturn, 1)] = true := by decide +kernel
theorem dX7_both_0 : decode cX7_both 0 = .ok (.aload_n 0, 1) := dchk_at dgX7_both_0_ 0 rfl
theorem dX7_both_1 : decode cX7_both 1 = .ok (.iload_n 1, 1) := dchk_at dgX7_both_0_ 1 rfl
theorem dX7_both_2 : decode cX7_both 2 = .ok (.invokevirtual 244, 3) := dchk_at dgX7_both_0_ 2 rfl
theorem dX7_both_5 : decode cX7_both 5 = .ok (.ifCond .ne 5, 3) := dchk_at dgX7_both_0_ 3 rfl
theorem dX7_both_8 : decode cX7_both 8 = .ok (.iconst 0, 1) := dchk_at dgX7_both_0_ 4 rfl
theorem dX7_both_9 : decode cX7_both 9 = .ok (.ireturn, 1) := dchk_at dgX7_both_0_ 5 rfl
theorem dX7_both_10 : decode cX7_both 10 = .ok (.aload_n 0, 1) := dchk_at dgX7_both_0_ 6 rfl
theorem dX7_both_11 : decode cX7_both 11 = .ok (.bipush 38, 2) := dchk_at dgX7_both_0_ 7 rfl
theorem dX7_both_13 : decode cX7_both 13 = .ok (.invokevirtual 234, 3) := dchk_at dgX7_both_0_ 8 rfl
theorem dX7_both_16 : decode cX7_both 16 = .ok (.ifCond .eq 27, 3) := dchk_at dgX7_both_0_ 9 rfl
theorem dX7_both_19 : decode cX7_both 19 = .ok (.aload_n 0, 1) := dchk_at dgX7_both_0_ 10 rfl
theorem dX7_both_20 : decode cX7_both 20 = .ok (.invokevirtual 237, 3) := dchk_at dgX7_both_0_ 11 rfl
theorem dX7_both_23 : decode cX7_both 23 = .ok (.aload_n 0, 1) := dchk_at dgX7_both_0_ 12 rfl
theorem dX7_both_24 : decode cX7_both 24 = .ok (.iload_n 1, 1) := dchk_at dgX7_both_0_ 13 rfl
theorem dX7_both_25 : decode cX7_both 25 = .ok (.invokevirtual 244, 3) := dchk_at dgX7_both_0_ 14 rfl
theorem dX7_both_28 : decode cX7_both 28 = .ok (.ifCond .ne 5, 3) := dchk_at dgX7_both_0_ 15 rfl
theorem dX7_both_31 : decode cX7_both 31 = .ok (.iconst 0, 1) := dchk_at dgX7_both_0_ 16 rfl
theorem dX7_both_32 : decode cX7_both 32 = .ok (.ireturn, 1) := dchk_at dgX7_both_0_ 17 rfl
theorem dX7_both_33 : decode cX7_both 33 = .ok (.aload_n 0, 1) := dchk_at dgX7_both_0_ 18 rfl
theorem dX7_both_34 : decode cX7_both 34 = .ok (.iconst 2, 1) := dchk_at dgX7_both_0_ 19 rfl
theorem dX7_both_35 : decode cX7_both 35 = .ok (.bipush 38, 2) := dchk_at dgX7_both_0_ 20 rfl
theorem dX7_both_37 : decode cX7_both 37 = .ok (.invokevirtual 240, 3) := dchk_at dgX7_both_0_ 21 rfl
theorem dX7_both_40 : decode cX7_both 40 = .ok (.goto (-30), 3) := dchk_at dgX7_both_0_ 22 rfl
theorem dX7_both_43 : decode cX7_both 43 = .ok (.iconst 1, 1) := dchk_at dgX7_both_0_ 23 rfl
theorem dX7_both_44 : decode cX7_both 44 = .ok (.ireturn, 1) := dchk_at dgX7_both_0_ 24 rfl
set_option maxRecDepth 20000 in
theorem gw_wsX7_sum : wsX7_sum.all goodWord = true := by decide +kernel
set_option maxRecDepth 20000 in
theorem ggX7_test_X7_sum : GoodIn wsX7_test wsX7_sum := goodIn_r _ [63, 1, 64, 65, 66, 5, 6, 7, 8, 9, 10, 11, 12, 13, 14, 15, 16, 17, 18, 19, 20, 21, 22, 23, 24, 25, 26, 27, 28, 29, 30, 31, 32, 33, 34, 35, 36, 37, 38, 39, 40, 41, 42, 43, 44, 45, 46, 47, 48, 49, 50, 51, 52, 53, 54, 55, 56, 57, 58, 59, 60, 61, 62, 67, 0, 2, 3, 4, 68, 69, 70, 71, 72, 73, 74, 75, 76, 77, 78, 79, 80, 81, 82, 83, 84, 85, 86, 87, 88, 89, 90, 91, 92, 93, 94, 95, 96, 97, 98] rfl gw_wsX7_sum
set_option maxRecDepth 20000 in
theorem gX7_test_X7_sum : GoodIn wsX7_test (wsV RX7 247 RX7 yX7_sum wsX7_sum) := goodIn_app (goodIn_of _ (by decide +kernel)) ggX7_test_X7_sum
set_option maxRecDepth 20000 in
theorem ggX7_test_X7_isSign : GoodIn wsX7_test wsX7_isSign := goodIn_r _ [9, 10, 1, 68, 69, 70, 71, 72, 73, 74, 75, 76, 77, 78, 79, 80, 81, 82, 83, 84, 85, 86, 87, 88, 89, 90, 91, 92, 93, 94, 95, 96, 97, 98] rfl gw_wsX7_isSign
set_option maxRecDepth 20000 in
theorem gX7_test_X7_isSign : GoodIn wsX7_test (wsV RX7 234 RX7 yX7_isSign wsX7_isSign) := goodIn_app (goodIn_of _ (by decide +kernel)) ggX7_test_X7_isSign
set_option maxRecDepth 20000 in
theorem ggX7_test_X7_nextToken : GoodIn wsX7_test wsX7_nextToken := goodIn_r _ [14, 15, 10, 16, 17, 18, 1, 19, 20, 21, 22, 5, 23, 24, 25, 26, 27, 28, 29, 30, 31, 32, 33, 34, 68, 69, 70, 71, 72, 73, 74, 75, 76, 77, 78, 79, 80, 81, 82, 83, 84, 85, 86, 87, 88, 89, 90, 91, 92, 93, 94, 95, 96, 97, 98] rfl gw_wsX7_nextToken
set_option maxRecDepth 20000 in
theorem gX7_test_X7_nextToken : GoodIn wsX7_test (wsV RX7 237 RX7 yX7_nextToken wsX7_nextToken) := goodIn_app (goodIn_of _ (by decide +kernel)) ggX7_test_X7_nextToken
set_option maxRecDepth 20000 in
theorem ggX7_test_X7_step : GoodIn wsX7_test wsX7_step := goodIn_r _ [38, 39, 40, 41, 68, 69, 70, 71, 72, 73, 74, 75, 76, 77, 78, 79, 80, 81, 82, 83, 84, 85, 86, 87, 88, 89, 90, 91, 92, 93, 94, 95, 96, 97, 98] rfl gw_wsX7_step
set_option maxRecDepth 20000 in
theorem gX7_test_X7_step : GoodIn wsX7_test (wsV RX7 240 RX7 yX7_step wsX7_step) := goodIn_app (goodIn_of _ (by decide +kernel)) ggX7_test_X7_step
theorem dgX7_test_0_ : dchk cX7_test [(0, .aload_n 0, 1), (1, .iload_n 1, 1), (2, .invokevirtual 247, 3), (5, .ifCond .ne 5, 3), (8, .iconst 0, 1), (9, .ireturn, 1), (10, .aload_n 0, 1), (11, .bipush 60, 2), (13, .invokevirtual 234, 3), (16, .ifCond .ne 21, 3), (19, .aload_n 0, 1), (20, .bipush 61, 2), (22, .invokevirtual 234, 3), (25, .ifCond .ne 12, 3), (28, .aload_n 0, 1), (29, .bipush 62, 2), (31, .invokevirtual 234, 3), (34, .ifCond .eq 28, 3), (37, .aload_n 0, 1), (38, .getfield 212, 3), (41, .istore_n 2, 1), (42, .aload_n 0, 1), (43, .invokevirtual 237, 3), (46, .aload_n 0, 1), (47, .iload_n 1, 1), (48, .invokevirtual 247, 3), (51, .ifCond .ne 5, 3), (54, .iconst 0, 1), (55, .ireturn, 1), (56, .aload_n 0, 1), (57, .iconst 2, 1), (58, .iload_n 2, 1)] = true := by decide +kernel
theorem dX7_test_0 : decode cX7_test 0 = .ok (.aload_n 0, 1) := dchk_at dgX7_test_0_ 0 rfl
theorem dX7_test_1 : decode cX7_test 1 = .ok (.iload_n 1, 1) := dchk_at dgX7_test_0_ 1 rfl
theorem dX7_test_2 : decode cX7_test 2 = .ok (.invokevirtual 247, 3) := dchk_at dgX7_test_0_ 2 rfl
theorem dX7_test_5 : decode cX7_test 5 = .ok (.ifCond .ne 5, 3) := dchk_at dgX7_test_0_ 3 rfl
theorem dX7_test_8 : decode cX7_test 8 = .ok (.iconst 0, 1) := dchk_at dgX7_test_0_ 4 rfl
theorem dX7_test_9 : decode cX7_test 9 = .ok (.ireturn, 1) := dchk_at dgX7_test_0_ 5 rfl
theorem dX7_test_10 : decode cX7_test 10 = .ok (.aload_n 0, 1) := dchk_at dgX7_test_0_ 6 rfl
theorem dX7_test_11 : decode cX7_test 11 = .ok (.bipush 60, 2) := dchk_at dgX7_test_0_ 7 rfl
theorem dX7_test_13 : decode cX7_test 13 = .ok (.invokevirtual 234, 3) := dchk_at dgX7_test_0_ 8 rfl
theorem dX7_test_16 : decode cX7_test 16 = .ok (.ifCond .ne 21, 3) := dchk_at dgX7_test_0_ 9 rfl
theorem dX7_test_19 : decode cX7_test 19 = .ok (.aload_n 0, 1) := dchk_at dgX7_test_0_ 10 rfl
theorem dX7_test_20 : decode cX7_test 20 = .ok (.bipush 61, 2) := dchk_at dgX7_test_0_ 11 rfl
theorem dX7_test_22 : decode cX7_test 22 = .ok (.invokevirtual 234, 3) := dchk_at dgX7_test_0_ 12 rfl
theorem dX7_test_25 : decode cX7_test 25 = .ok (.ifCond .ne 12, 3) := dchk_at dgX7_test_0_ 13 rfl
theorem dX7_test_28 : decode cX7_test 28 = .ok (.aload_n 0, 1) := dchk_at dgX7_test_0_ 14 rfl
theorem dX7_test_29 : decode cX7_test 29 = .ok (.bipush 62, 2) := dchk_at dgX7_test_0_ 15 rfl
theorem dX7_test_31 : decode cX7_test 31 = .ok (.invokevirtual 234, 3) := dchk_at dgX7_test_0_ 16 rfl
theorem dX7_test_34 : decode cX7_test 34 = .ok (.ifCond .eq 28, 3) := dchk_at dgX7_test_0_ 17 rfl
theorem dX7_test_37 : decode cX7_test 37 = .ok (.aload_n 0, 1) := dchk_at dgX7_test_0_ 18 rfl
theorem dX7_test_38 : decode cX7_test 38 = .ok (.getfield 212, 3) := dchk_at dgX7_test_0_ 19 rfl
theorem dX7_test_41 : decode cX7_test 41 = .ok (.istore_n 2, 1) := dchk_at dgX7_test_0_ 20 rfl
theorem dX7_test_42 : decode cX7_test 42 = .ok (.aload_n 0, 1) := dchk_at dgX7_test_0_ 21 rfl
theorem dX7_test_43 : decode cX7_test 43 = .ok (.invokevirtual 237, 3) := dchk_at dgX7_test_0_ 22 rfl
theorem dX7_test_46 : decode cX7_test 46 = .ok (.aload_n 0, 1) := dchk_at dgX7_test_0_ 23 rfl
theorem dX7_test_47 : decode cX7_test 47 = .ok (.iload_n 1, 1) := dchk_at dgX7_test_0_ 24 rfl
theorem dX7_test_48 : decode cX7_test 48 = .ok (.invokevirtual 247, 3) := dchk_at dgX7_test_0_ 25 rfl
theorem dX7_test_51 : decode cX7_test 51 = .ok (.ifCond .ne 5, 3) := dchk_at dgX7_test_0_ 26 rfl
theorem dX7_test_54 : decode cX7_test 54 = .ok (.iconst 0, 1) := dchk_at dgX7_test_0_ 27 rfl
theorem dX7_test_55 : decode cX7_test 55 = .ok (.ireturn, 1) := dchk_at dgX7_test_0_ 28 rfl
theorem dX7_test_56 : decode cX7_test 56 = .ok (.aload_n 0, 1) := dchk_at dgX7_test_0_ 29 rfl
theorem dX7_test_57 : decode cX7_test 57 = .ok (.iconst 2, 1) := dchk_at dgX7_test_0_ 30 rfl
theorem dX7_test_58 : decode cX7_test 58 = .ok (.iload_n 2, 1) := dchk_at dgX7_test_0_ 31 rfl
theorem dgX7_test_59_ : dchk cX7_test [(59, .invokevirtual 240, 3), (62, .iconst 1, 1), (63, .ireturn, 1)] = true := by decide +kernel
theorem dX7_test_59 : decode cX7_test 59 = .ok (.invokevirtual 240, 3) := dchk_at dgX7_test_59_ 0 rfl
theorem dX7_test_62 : decode cX7_test 62 = .ok (.iconst 1, 1) := dchk_at dgX7_test_59_ 1 rfl
theorem dX7_test_63 : decode cX7_test 63 = .ok (.ireturn, 1) := dchk_at dgX7_test_59_ 2 rfl
set_option maxRecDepth 20000 in
theorem gw_wsX7_term : wsX7_term.all goodWord = true := by decide +kernel
set_option maxRecDepth 20000 in
theorem ggX7_sum_X7_term : GoodIn wsX7_sum wsX7_term := goodIn_r _ [63, 1, 57, 58, 59, 5, 6, 7, 8, 9, 10, 11, 12, 13, 14, 15, 16, 17, 18, 19, 20, 21, 22, 23, 24, 25, 26, 27, 28, 29, 30, 31, 32, 33, 34, 35, 36, 37, 38, 39, 40, 41, 42, 43, 44, 45, 46, 47, 48, 49, 50, 51, 52, 53, 54, 55, 56, 60, 61, 62, 0, 2, 3, 4, 64, 65, 66, 67, 68, 69, 70, 71, 72, 73, 74, 75, 76, 77, 78, 79, 80, 81, 82, 83, 84, 85, 86, 87, 88, 89, 90, 91, 92, 93, 94, 95, 96, 97, 98] rfl gw_wsX7_term
set_option maxRecDepth 20000 in
theorem gX7_sum_X7_term : GoodIn wsX7_sum (wsV RX7 250 RX7 yX7_term wsX7_term) := goodIn_app (goodIn_of _ (by decide +kernel)) ggX7_sum_X7_term
set_option maxRecDepth 20000 in
theorem ggX7_sum_X7_isSign : GoodIn wsX7_sum wsX7_isSign := goodIn_r _ [9, 10, 1, 68, 69, 70, 71, 72, 73, 74, 75, 76, 77, 78, 79, 80, 81, 82, 83, 84, 85, 86, 87, 88, 89, 90, 91, 92, 93, 94, 95, 96, 97, 98] rfl gw_wsX7_isSign
set_option maxRecDepth 20000 in
theorem gX7_sum_X7_isSign : GoodIn wsX7_sum (wsV RX7 234 RX7 yX7_isSign wsX7_isSign) := goodIn_app (goodIn_of _ (by decide +kernel)) ggX7_sum_X7_isSign
set_option maxRecDepth 20000 in
theorem ggX7_sum_X7_nextToken : GoodIn wsX7_sum wsX7_nextToken := goodIn_r _ [14, 15, 10, 16, 17, 18, 1, 19, 20, 21, 22, 5, 23, 24, 25, 26, 27, 28, 29, 30, 31, 32, 33, 34, 68, 69, 70, 71, 72, 73, 74, 75, 76, 77, 78, 79, 80, 81, 82, 83, 84, 85, 86, 87, 88, 89, 90, 91, 92, 93, 94, 95, 96, 97, 98] rfl gw_wsX7_nextToken
set_option maxRecDepth 20000 in
theorem gX7_sum_X7_nextToken : GoodIn wsX7_sum (wsV RX7 237 RX7 yX7_nextToken wsX7_nextToken) := goodIn_app (goodIn_of _ (by decide +kernel)) ggX7_sum_X7_nextToken
set_option maxRecDepth 20000 in
theorem ggX7_sum_X7_step : GoodIn wsX7_sum wsX7_step := goodIn_r _ [38, 39, 40, 41, 68, 69, 70, 71, 72, 73, 74, 75, 76, 77, 78, 79, 80, 81, 82, 83, 84, 85, 86, 87, 88, 89, 90, 91, 92, 93, 94, 95, 96, 97, 98] rfl gw_wsX7_step
set_option maxRecDepth 20000 in
theorem gX7_sum_X7_step : GoodIn wsX7_sum (wsV RX7 240 RX7 yX7_step wsX7_step) := goodIn_app (goodIn_of _ (by decide +kernel)) ggX7_sum_X7_step
theorem dgX7_sum_0_ : dchk cX7_sum [(0, .aload_n 0, 1), (1, .iload_n 1, 1), (2, .invokevirtual 250, 3), (5, .ifCond .ne 5, 3), (8, .iconst 0, 1), (9, .ireturn, 1), (10, .aload_n 0, 1), (11, .bipush 43, 2), (13, .invokevirtual 234, 3), (16, .ifCond .ne 12, 3), (19, .aload_n 0, 1), (20, .bipush 45, 2), (22, .invokevirtual 234, 3), (25, .ifCond .eq 31, 3), (28, .aload_n 0, 1), (29, .getfield 212, 3), (32, .istore_n 2, 1), (33, .aload_n 0, 1), (34, .invokevirtual 237, 3), (37, .aload_n 0, 1), (38, .iload_n 1, 1), (39, .invokevirtual 250, 3), (42, .ifCond .ne 5, 3), (45, .iconst 0, 1), (46, .ireturn, 1), (47, .aload_n 0, 1), (48, .iconst 2, 1), (49, .iload_n 2, 1), (50, .invokevirtual 240, 3), (53, .goto (-43), 3), (56, .iconst 1, 1), (57, .ireturn, 1)] = true := by decide +kernel
theorem dX7_sum_0 : decode cX7_sum 0 = .ok (.aload_n 0, 1) := dchk_at dgX7_sum_0_ 0 rfl
theorem dX7_sum_1 : decode cX7_sum 1 = .ok (.iload_n 1, 1) := dchk_at dgX7_sum_0_ 1 rfl
theorem dX7_sum_2 : decode cX7_sum 2 = .ok (.invokevirtual 250, 3) := dchk_at dgX7_sum_0_ 2 rfl
theorem dX7_sum_5 : decode cX7_sum 5 = .ok (.ifCond .ne 5, 3) := dchk_at dgX7_sum_0_ 3 rfl
theorem dX7_sum_8 : decode cX7_sum 8 = .ok (.iconst 0, 1) := dchk_at dgX7_sum_0_ 4 rfl
theorem dX7_sum_9 : decode cX7_sum 9 = .ok (.ireturn, 1) := dchk_at dgX7_sum_0_ 5 rfl
theorem dX7_sum_10 : decode cX7_sum 10 = .ok (.aload_n 0, 1) := dchk_at dgX7_sum_0_ 6 rfl
theorem dX7_sum_11 : decode cX7_sum 11 = .ok (.bipush 43, 2) := dchk_at dgX7_sum_0_ 7 rfl
theorem dX7_sum_13 : decode cX7_sum 13 = .ok (.invokevirtual 234, 3) := dchk_at dgX7_sum_0_ 8 rfl
theorem dX7_sum_16 : decode cX7_sum 16 = .ok (.ifCond .ne 12, 3) := dchk_at dgX7_sum_0_ 9 rfl
theorem dX7_sum_19 : decode cX7_sum 19 = .ok (.aload_n 0, 1) := dchk_at dgX7_sum_0_ 10 rfl
theorem dX7_sum_20 : decode cX7_sum 20 = .ok (.bipush 45, 2) := dchk_at dgX7_sum_0_ 11 rfl
theorem dX7_sum_22 : decode cX7_sum 22 = .ok (.invokevirtual 234, 3) := dchk_at dgX7_sum_0_ 12 rfl
theorem dX7_sum_25 : decode cX7_sum 25 = .ok (.ifCond .eq 31, 3) := dchk_at dgX7_sum_0_ 13 rfl
theorem dX7_sum_28 : decode cX7_sum 28 = .ok (.aload_n 0, 1) := dchk_at dgX7_sum_0_ 14 rfl
theorem dX7_sum_29 : decode cX7_sum 29 = .ok (.getfield 212, 3) := dchk_at dgX7_sum_0_ 15 rfl
theorem dX7_sum_32 : decode cX7_sum 32 = .ok (.istore_n 2, 1) := dchk_at dgX7_sum_0_ 16 rfl
theorem dX7_sum_33 : decode cX7_sum 33 = .ok (.aload_n 0, 1) := dchk_at dgX7_sum_0_ 17 rfl
theorem dX7_sum_34 : decode cX7_sum 34 = .ok (.invokevirtual 237, 3) := dchk_at dgX7_sum_0_ 18 rfl
theorem dX7_sum_37 : decode cX7_sum 37 = .ok (.aload_n 0, 1) := dchk_at dgX7_sum_0_ 19 rfl
theorem dX7_sum_38 : decode cX7_sum 38 = .ok (.iload_n 1, 1) := dchk_at dgX7_sum_0_ 20 rfl
theorem dX7_sum_39 : decode cX7_sum 39 = .ok (.invokevirtual 250, 3) := dchk_at dgX7_sum_0_ 21 rfl
theorem dX7_sum_42 : decode cX7_sum 42 = .ok (.ifCond .ne 5, 3) := dchk_at dgX7_sum_0_ 22 rfl
theorem dX7_sum_45 : decode cX7_sum 45 = .ok (.iconst 0, 1) := dchk_at dgX7_sum_0_ 23 rfl
theorem dX7_sum_46 : decode cX7_sum 46 = .ok (.ireturn, 1) := dchk_at dgX7_sum_0_ 24 rfl
theorem dX7_sum_47 : decode cX7_sum 47 = .ok (.aload_n 0, 1) := dchk_at dgX7_sum_0_ 25 rfl
theorem dX7_sum_48 : decode cX7_sum 48 = .ok (.iconst 2, 1) := dchk_at dgX7_sum_0_ 26 rfl
theorem dX7_sum_49 : decode cX7_sum 49 = .ok (.iload_n 2, 1) := dchk_at dgX7_sum_0_ 27 rfl
theorem dX7_sum_50 : decode cX7_sum 50 = .ok (.invokevirtual 240, 3) := dchk_at dgX7_sum_0_ 28 rfl
theorem dX7_sum_53 : decode cX7_sum 53 = .ok (.goto (-43), 3) := dchk_at dgX7_sum_0_ 29 rfl
theorem dX7_sum_56 : decode cX7_sum 56 = .ok (.iconst 1, 1) := dchk_at dgX7_sum_0_ 30 rfl
theorem dX7_sum_57 : decode cX7_sum 57 = .ok (.ireturn, 1) := dchk_at dgX7_sum_0_ 31 rfl
set_option maxRecDepth 20000 in
theorem gw_wsX7_part0 : wsX7_part0.all goodWord = true := by decide +kernel
set_option maxRecDepth 20000 in
theorem ggX7_term_X7_part0 : GoodIn wsX7_term wsX7_part0 := goodIn_r _ [50, 10, 19, 51, 1, 52, 53, 35, 36, 37, 5, 38, 39, 40, 41, 11, 12, 13, 14, 15, 16, 17, 18, 20, 21, 22, 23, 24, 25, 26, 27, 28, 29, 30, 31, 32, 33, 34, 54, 55, 56, 6, 7, 8, 9, 2, 3, 4, 57, 58, 59, 42, 43, 44, 45, 46, 47, 48, 49, 60, 61, 62, 63, 0, 64, 65, 66, 67, 68, 69, 70, 71, 72, 73, 74, 75, 76, 77, 78, 79, 80, 81, 82, 83, 84, 85, 86, 87, 88, 89, 90, 91, 92, 93, 94, 95, 96, 97, 98] rfl gw_wsX7_part0
set_option maxRecDepth 20000 in
theorem gX7_term_X7_part0 : GoodIn wsX7_term (wsV RX7 253 RX7 yX7_part0 wsX7_part0) := goodIn_app (goodIn_of _ (by decide +kernel)) ggX7_term_X7_part0
set_option maxRecDepth 20000 in
theorem ggX7_term_X7_isSign : GoodIn wsX7_term wsX7_isSign := goodIn_r _ [9, 10, 1, 68, 69, 70, 71, 72, 73, 74, 75, 76, 77, 78, 79, 80, 81, 82, 83, 84, 85, 86, 87, 88, 89, 90, 91, 92, 93, 94, 95, 96, 97, 98] rfl gw_wsX7_isSign
set_option maxRecDepth 20000 in
theorem gX7_term_X7_isSign : GoodIn wsX7_term (wsV RX7 234 RX7 yX7_isSign wsX7_isSign) := goodIn_app (goodIn_of _ (by decide +kernel)) ggX7_term_X7_isSign
set_option maxRecDepth 20000 in
theorem ggX7_term_X7_nextToken : GoodIn wsX7_term wsX7_nextToken := goodIn_r _ [14, 15, 10, 16, 17, 18, 1, 19, 20, 21, 22, 5, 23, 24, 25, 26, 27, 28, 29, 30, 31, 32, 33, 34, 68, 69, 70, 71, 72, 73, 74, 75, 76, 77, 78, 79, 80, 81, 82, 83, 84, 85, 86, 87, 88, 89, 90, 91, 92, 93, 94, 95, 96, 97, 98] rfl gw_wsX7_nextToken
set_option maxRecDepth 20000 in
theorem gX7_term_X7_nextToken : GoodIn wsX7_term (wsV RX7 237 RX7 yX7_nextToken wsX7_nextToken) := goodIn_app (goodIn_of _ (by decide +kernel)) ggX7_term_X7_nextToken
set_option maxRecDepth 20000 in
theorem ggX7_term_X7_step : GoodIn wsX7_term wsX7_step := goodIn_r _ [38, 39, 40, 41, 68, 69, 70, 71, 72, 73, 74, 75, 76, 77, 78, 79, 80, 81, 82, 83, 84, 85, 86, 87, 88, 89, 90, 91, 92, 93, 94, 95, 96, 97, 98] rfl gw_wsX7_step
set_option maxRecDepth 20000 in
theorem gX7_term_X7_step : GoodIn wsX7_term (wsV RX7 240 RX7 yX7_step wsX7_step) := goodIn_app (goodIn_of _ (by decide +kernel)) ggX7_term_X7_step
theorem dgX7_term_0_ : dchk cX7_term [(0, .aload_n 0, 1), (1, .iload_n 1, 1), (2, .invokevirtual 253, 3), (5, .ifCond .ne 5, 3), (8, .iconst 0, 1), (9, .ireturn, 1), (10, .aload_n 0, 1), (11, .bipush 42, 2), (13, .invokevirtual 234, 3), (16, .ifCond .ne 12, 3), (19, .aload_n 0, 1), (20, .bipush 47, 2), (22, .invokevirtual 234, 3), (25, .ifCond .eq 31, 3), (28, .aload_n 0, 1), (29, .getfield 212, 3), (32, .istore_n 2, 1), (33, .aload_n 0, 1), (34, .invokevirtual 237, 3), (37, .aload_n 0, 1), (38, .iload_n 1, 1), (39, .invokevirtual 253, 3), (42, .ifCond .ne 5, 3), (45, .iconst 0, 1), (46, .ireturn, 1), (47, .aload_n 0, 1), (48, .iconst 2, 1), (49, .iload_n 2, 1), (50, .invokevirtual 240, 3), (53, .goto (-43), 3), (56, .iconst 1, 1), (57, .ireturn, 1)] = true := by decide +kernel
theorem dX7_term_0 : decode cX7_term 0 = .ok (.aload_n 0, 1) := dchk_at dgX7_term_0_ 0 rfl
theorem dX7_term_1 : decode cX7_term 1 = .ok (.iload_n 1, 1) := dchk_at dgX7_term_0_ 1 rfl
theorem dX7_term_2 : decode cX7_term 2 = .ok (.invokevirtual 253, 3) := dchk_at dgX7_term_0_ 2 rfl
theorem dX7_term_5 : decode cX7_term 5 = .ok (.ifCond .ne 5, 3) := dchk_at dgX7_term_0_ 3 rfl
theorem dX7_term_8 : decode cX7_term 8 = .ok (.iconst 0, 1) := dchk_at dgX7_term_0_ 4 rfl
theorem dX7_term_9 : decode cX7_term 9 = .ok (.ireturn, 1) := dchk_at dgX7_term_0_ 5 rfl
theorem dX7_term_10 : decode cX7_term 10 = .ok (.aload_n 0, 1) := dchk_at dgX7_term_0_ 6 rfl
theorem dX7_term_11 : decode cX7_term 11 = .ok (.bipush 42, 2) := dchk_at dgX7_term_0_ 7 rfl
theorem dX7_term_13 : decode cX7_term 13 = .ok (.invokevirtual 234, 3) := dchk_at dgX7_term_0_ 8 rfl
theorem dX7_term_16 : decode cX7_term 16 = .ok (.ifCond .ne 12, 3) := dchk_at dgX7_term_0_ 9 rfl
theorem dX7_term_19 : decode cX7_term 19 = .ok (.aload_n 0, 1) := dchk_at dgX7_term_0_ 10 rfl
theorem dX7_term_20 : decode cX7_term 20 = .ok (.bipush 47, 2) := dchk_at dgX7_term_0_ 11 rfl
theorem dX7_term_22 : decode cX7_term 22 = .ok (.invokevirtual 234, 3) := dchk_at dgX7_term_0_ 12 rfl
theorem dX7_term_25 : decode cX7_term 25 = .ok (.ifCond .eq 31, 3) := dchk_at dgX7_term_0_ 13 rfl
theorem dX7_term_28 : decode cX7_term 28 = .ok (.aload_n 0, 1) := dchk_at dgX7_term_0_ 14 rfl
theorem dX7_term_29 : decode cX7_term 29 = .ok (.getfield 212, 3) := dchk_at dgX7_term_0_ 15 rfl
theorem dX7_term_32 : decode cX7_term 32 = .ok (.istore_n 2, 1) := dchk_at dgX7_term_0_ 16 rfl
theorem dX7_term_33 : decode cX7_term 33 = .ok (.aload_n 0, 1) := dchk_at dgX7_term_0_ 17 rfl
theorem dX7_term_34 : decode cX7_term 34 = .ok (.invokevirtual 237, 3) := dchk_at dgX7_term_0_ 18 rfl
theorem dX7_term_37 : decode cX7_term 37 = .ok (.aload_n 0, 1) := dchk_at dgX7_term_0_ 19 rfl
theorem dX7_term_38 : decode cX7_term 38 = .ok (.iload_n 1, 1) := dchk_at dgX7_term_0_ 20 rfl
theorem dX7_term_39 : decode cX7_term 39 = .ok (.invokevirtual 253, 3) := dchk_at dgX7_term_0_ 21 rfl
theorem dX7_term_42 : decode cX7_term 42 = .ok (.ifCond .ne 5, 3) := dchk_at dgX7_term_0_ 22 rfl
theorem dX7_term_45 : decode cX7_term 45 = .ok (.iconst 0, 1) := dchk_at dgX7_term_0_ 23 rfl
theorem dX7_term_46 : decode cX7_term 46 = .ok (.ireturn, 1) := dchk_at dgX7_term_0_ 24 rfl
theorem dX7_term_47 : decode cX7_term 47 = .ok (.aload_n 0, 1) := dchk_at dgX7_term_0_ 25 rfl
theorem dX7_term_48 : decode cX7_term 48 = .ok (.iconst 2, 1) := dchk_at dgX7_term_0_ 26 rfl
theorem dX7_term_49 : decode cX7_term 49 = .ok (.iload_n 2, 1) := dchk_at dgX7_term_0_ 27 rfl
theorem dX7_term_50 : decode cX7_term 50 = .ok (.invokevirtual 240, 3) := dchk_at dgX7_term_0_ 28 rfl
theorem dX7_term_53 : decode cX7_term 53 = .ok (.goto (-43), 3) := dchk_at dgX7_term_0_ 29 rfl
theorem dX7_term_56 : decode cX7_term 56 = .ok (.iconst 1, 1) := dchk_at dgX7_term_0_ 30 rfl
theorem dX7_term_57 : decode cX7_term 57 = .ok (.ireturn, 1) := dchk_at dgX7_term_0_ 31 rfl
set_option maxRecDepth 20000 in
theorem ggX7_part0_X7_step : GoodIn wsX7_part0 wsX7_step := goodIn_r _ [11, 12, 13, 14, 68, 69, 70, 71, 72, 73, 74, 75, 76, 77, 78, 79, 80, 81, 82, 83, 84, 85, 86, 87, 88, 89, 90, 91, 92, 93, 94, 95, 96, 97, 98] rfl gw_wsX7_step
set_option maxRecDepth 20000 in
theorem gX7_part0_X7_step : GoodIn wsX7_part0 (wsV RX7 240 RX7 yX7_step wsX7_step) := goodIn_app (goodIn_of _ (by decide +kernel)) ggX7_part0_X7_step
set_option maxRecDepth 20000 in
theorem ggX7_part0_X7_nextToken : GoodIn wsX7_part0 wsX7_nextToken := goodIn_r _ [18, 19, 1, 20, 21, 22, 4, 2, 23, 24, 25, 10, 26, 27, 28, 29, 30, 31, 32, 33, 34, 35, 36, 37, 68, 69, 70, 71, 72, 73, 74, 75, 76, 77, 78, 79, 80, 81, 82, 83, 84, 85, 86, 87, 88, 89, 90, 91, 92, 93, 94, 95, 96, 97, 98] rfl gw_wsX7_nextToken
set_option maxRecDepth 20000 in
theorem gX7_part0_X7_nextToken : GoodIn wsX7_part0 (wsV RX7 237 RX7 yX7_nextToken wsX7_nextToken) := goodIn_app (goodIn_of _ (by decide +kernel)) ggX7_part0_X7_nextToken
set_option maxRecDepth 20000 in
theorem gw_wsX7_isName : wsX7_isName.all goodWord = true := by decide +kernel
set_option maxRecDepth 20000 in
theorem ggX7_part0_X7_isName : GoodIn wsX7_part0 wsX7_isName := goodIn_r _ [40] rfl gw_wsX7_isName
set_option maxRecDepth 20000 in
theorem gX7_part0_X7_isName : GoodIn wsX7_part0 (va_wsS RX7 259 yX7_isName wsX7_isName) := goodIn_app (goodIn_of _ (by decide +kernel)) ggX7_part0_X7_isName
set_option maxRecDepth 20000 in
theorem ggX7_part0_X7_isSign : GoodIn wsX7_part0 wsX7_isSign := goodIn_r _ [44, 1, 4, 68, 69, 70, 71, 72, 73, 74, 75, 76, 77, 78, 79, 80, 81, 82, 83, 84, 85, 86, 87, 88, 89, 90, 91, 92, 93, 94, 95, 96, 97, 98] rfl gw_wsX7_isSign
set_option maxRecDepth 20000 in
theorem gX7_part0_X7_isSign : GoodIn wsX7_part0 (wsV RX7 234 RX7 yX7_isSign wsX7_isSign) := goodIn_app (goodIn_of _ (by decide +kernel)) ggX7_part0_X7_isSign
set_option maxRecDepth 20000 in
theorem ggX7_part0_X7_part0 : GoodIn wsX7_part0 wsX7_part0 := goodIn_r _ [0, 1, 2, 3, 4, 5, 6, 7, 8, 9, 10, 11, 12, 13, 14, 15, 16, 17, 18, 19, 20, 21, 22, 23, 24, 25, 26, 27, 28, 29, 30, 31, 32, 33, 34, 35, 36, 37, 38, 39, 40, 41, 42, 43, 44, 45, 46, 47, 48, 49, 50, 51, 52, 53, 54, 55, 56, 57, 58, 59, 60, 61, 62, 63, 64, 65, 66, 67, 68, 69, 70, 71, 72, 73, 74, 75, 76, 77, 78, 79, 80, 81, 82, 83, 84, 85, 86, 87, 88, 89, 90, 91, 92, 93, 94, 95, 96, 97, 98] rfl gw_wsX7_part0
set_option maxRecDepth 20000 in
theorem gX7_part0_X7_part0 : GoodIn wsX7_part0 (wsV RX7 253 RX7 yX7_part0 wsX7_part0) := goodIn_app (goodIn_of _ (by decide +kernel)) ggX7_part0_X7_part0
set_option maxRecDepth 20000 in
theorem gw_wsX7_either : wsX7_either.all goodWord = true := by decide +kernel
set_option maxRecDepth 20000 in
theorem ggX7_part0_X7_either : GoodIn wsX7_part0 wsX7_either := goodIn_r _ [55, 56, 57, 58, 10, 41, 42, 43, 44, 1, 4, 15, 16, 17, 18, 19, 20, 21, 22, 2, 23, 24, 25, 26, 27, 28, 29, 30, 31, 32, 33, 34, 35, 36, 37, 7, 8, 9, 11, 12, 13, 14, 51, 52, 53, 54, 0, 3, 5, 6, 38, 39, 40, 45, 46, 47, 48, 49, 50, 59, 60, 61, 62, 63, 64, 65, 66, 67, 68, 69, 70, 71, 72, 73, 74, 75, 76, 77, 78, 79, 80, 81, 82, 83, 84, 85, 86, 87, 88, 89, 90, 91, 92, 93, 94, 95, 96, 97, 98] rfl gw_wsX7_either
set_option maxRecDepth 20000 in
theorem gX7_part0_X7_either : GoodIn wsX7_part0 (wsV RX7 268 RX7 yX7_either wsX7_either) := goodIn_app (goodIn_of _ (by decide +kernel)) ggX7_part0_X7_either
theorem dgX7_part0_0_ : dchk cX7_part0 [(0, .aload_n 0, 1), (1, .getfield 203, 3), (4, .iconst 2, 1), (5, .if_icmp .ne 28, 3), (8, .aload_n 0, 1), (9, .iconst 0, 1), (10, .aload_n 0, 1), (11, .getfield 218, 3), (14, .invokevirtual 240, 3), (17, .aload_n 0, 1), (18, .dup, 1), (19, .getfield 256, 3), (22, .iconst 1, 1), (23, .iadd, 1), (24, .putfield 256, 3), (27, .aload_n 0, 1), (28, .invokevirtual 237, 3), (31, .iconst 1, 1), (32, .ireturn, 1), (33, .aload_n 0, 1), (34, .getfield 203, 3), (37, .iconst 1, 1), (38, .if_icmp .ne 46, 3), (41, .aload_n 0, 1), (42, .getfield 212, 3), (45, .ifCond .eq 39, 3), (48, .iload_n 1, 1), (49, .aload_n 0, 1), (50, .getfield 212, 3), (53, .invokestatic 259, 3), (56, .ifCond .eq 28, 3), (59, .aload_n 0, 1)] = true := by decide +kernel
theorem dX7_part0_0 : decode cX7_part0 0 = .ok (.aload_n 0, 1) := dchk_at dgX7_part0_0_ 0 rfl
theorem dX7_part0_1 : decode cX7_part0 1 = .ok (.getfield 203, 3) := dchk_at dgX7_part0_0_ 1 rfl
theorem dX7_part0_4 : decode cX7_part0 4 = .ok (.iconst 2, 1) := dchk_at dgX7_part0_0_ 2 rfl
theorem dX7_part0_5 : decode cX7_part0 5 = .ok (.if_icmp .ne 28, 3) := dchk_at dgX7_part0_0_ 3 rfl
theorem dX7_part0_8 : decode cX7_part0 8 = .ok (.aload_n 0, 1) := dchk_at dgX7_part0_0_ 4 rfl
theorem dX7_part0_9 : decode cX7_part0 9 = .ok (.iconst 0, 1) := dchk_at dgX7_part0_0_ 5 rfl
theorem dX7_part0_10 : decode cX7_part0 10 = .ok (.aload_n 0, 1) := dchk_at dgX7_part0_0_ 6 rfl
theorem dX7_part0_11 : decode cX7_part0 11 = .ok (.getfield 218, 3) := dchk_at dgX7_part0_0_ 7 rfl
theorem dX7_part0_14 : decode cX7_part0 14 = .ok (.invokevirtual 240, 3) := dchk_at dgX7_part0_0_ 8 rfl
theorem dX7_part0_17 : decode cX7_part0 17 = .ok (.aload_n 0, 1) := dchk_at dgX7_part0_0_ 9 rfl
theorem dX7_part0_18 : decode cX7_part0 18 = .ok (.dup, 1) := dchk_at dgX7_part0_0_ 10 rfl
theorem dX7_part0_19 : decode cX7_part0 19 = .ok (.getfield 256, 3) := dchk_at dgX7_part0_0_ 11 rfl
theorem dX7_part0_22 : decode cX7_part0 22 = .ok (.iconst 1, 1) := dchk_at dgX7_part0_0_ 12 rfl
theorem dX7_part0_23 : decode cX7_part0 23 = .ok (.iadd, 1) := dchk_at dgX7_part0_0_ 13 rfl
theorem dX7_part0_24 : decode cX7_part0 24 = .ok (.putfield 256, 3) := dchk_at dgX7_part0_0_ 14 rfl
theorem dX7_part0_27 : decode cX7_part0 27 = .ok (.aload_n 0, 1) := dchk_at dgX7_part0_0_ 15 rfl
theorem dX7_part0_28 : decode cX7_part0 28 = .ok (.invokevirtual 237, 3) := dchk_at dgX7_part0_0_ 16 rfl
theorem dX7_part0_31 : decode cX7_part0 31 = .ok (.iconst 1, 1) := dchk_at dgX7_part0_0_ 17 rfl
theorem dX7_part0_32 : decode cX7_part0 32 = .ok (.ireturn, 1) := dchk_at dgX7_part0_0_ 18 rfl
theorem dX7_part0_33 : decode cX7_part0 33 = .ok (.aload_n 0, 1) := dchk_at dgX7_part0_0_ 19 rfl
theorem dX7_part0_34 : decode cX7_part0 34 = .ok (.getfield 203, 3) := dchk_at dgX7_part0_0_ 20 rfl
theorem dX7_part0_37 : decode cX7_part0 37 = .ok (.iconst 1, 1) := dchk_at dgX7_part0_0_ 21 rfl
theorem dX7_part0_38 : decode cX7_part0 38 = .ok (.if_icmp .ne 46, 3) := dchk_at dgX7_part0_0_ 22 rfl
theorem dX7_part0_41 : decode cX7_part0 41 = .ok (.aload_n 0, 1) := dchk_at dgX7_part0_0_ 23 rfl
theorem dX7_part0_42 : decode cX7_part0 42 = .ok (.getfield 212, 3) := dchk_at dgX7_part0_0_ 24 rfl
theorem dX7_part0_45 : decode cX7_part0 45 = .ok (.ifCond .eq 39, 3) := dchk_at dgX7_part0_0_ 25 rfl
theorem dX7_part0_48 : decode cX7_part0 48 = .ok (.iload_n 1, 1) := dchk_at dgX7_part0_0_ 26 rfl
theorem dX7_part0_49 : decode cX7_part0 49 = .ok (.aload_n 0, 1) := dchk_at dgX7_part0_0_ 27 rfl
theorem dX7_part0_50 : decode cX7_part0 50 = .ok (.getfield 212, 3) := dchk_at dgX7_part0_0_ 28 rfl
theorem dX7_part0_53 : decode cX7_part0 53 = .ok (.invokestatic 259, 3) := dchk_at dgX7_part0_0_ 29 rfl
theorem dX7_part0_56 : decode cX7_part0 56 = .ok (.ifCond .eq 28, 3) := dchk_at dgX7_part0_0_ 30 rfl
theorem dX7_part0_59 : decode cX7_part0 59 = .ok (.aload_n 0, 1) := dchk_at dgX7_part0_0_ 31 rfl
theorem dgX7_part0_60_ : dchk cX7_part0 [(60, .iconst 1, 1), (61, .aload_n 0, 1), (62, .getfield 212, 3), (65, .invokevirtual 240, 3), (68, .aload_n 0, 1), (69, .dup, 1), (70, .getfield 256, 3), (73, .iconst 1, 1), (74, .iadd, 1), (75, .putfield 256, 3), (78, .aload_n 0, 1), (79, .invokevirtual 237, 3), (82, .iconst 1, 1), (83, .ireturn, 1), (84, .aload_n 0, 1), (85, .bipush 33, 2), (87, .invokevirtual 234, 3), (90, .ifCond .eq 55, 3), (93, .aload_n 0, 1), (94, .getfield 262, 3), (97, .bipush 8, 2), (99, .if_icmp .ge 46, 3), (102, .aload_n 0, 1), (103, .dup, 1), (104, .getfield 262, 3), (107, .iconst 1, 1), (108, .iadd, 1), (109, .putfield 262, 3), (112, .aload_n 0, 1), (113, .invokevirtual 237, 3), (116, .aload_n 0, 1), (117, .iload_n 1, 1)] = true := by decide +kernel
theorem dX7_part0_60 : decode cX7_part0 60 = .ok (.iconst 1, 1) := dchk_at dgX7_part0_60_ 0 rfl
theorem dX7_part0_61 : decode cX7_part0 61 = .ok (.aload_n 0, 1) := dchk_at dgX7_part0_60_ 1 rfl
theorem dX7_part0_62 : decode cX7_part0 62 = .ok (.getfield 212, 3) := dchk_at dgX7_part0_60_ 2 rfl
theorem dX7_part0_65 : decode cX7_part0 65 = .ok (.invokevirtual 240, 3) := dchk_at dgX7_part0_60_ 3 rfl
theorem dX7_part0_68 : decode cX7_part0 68 = .ok (.aload_n 0, 1) := dchk_at dgX7_part0_60_ 4 rfl
theorem dX7_part0_69 : decode cX7_part0 69 = .ok (.dup, 1) := dchk_at dgX7_part0_60_ 5 rfl
theorem dX7_part0_70 : decode cX7_part0 70 = .ok (.getfield 256, 3) := dchk_at dgX7_part0_60_ 6 rfl
theorem dX7_part0_73 : decode cX7_part0 73 = .ok (.iconst 1, 1) := dchk_at dgX7_part0_60_ 7 rfl
theorem dX7_part0_74 : decode cX7_part0 74 = .ok (.iadd, 1) := dchk_at dgX7_part0_60_ 8 rfl
theorem dX7_part0_75 : decode cX7_part0 75 = .ok (.putfield 256, 3) := dchk_at dgX7_part0_60_ 9 rfl
theorem dX7_part0_78 : decode cX7_part0 78 = .ok (.aload_n 0, 1) := dchk_at dgX7_part0_60_ 10 rfl
theorem dX7_part0_79 : decode cX7_part0 79 = .ok (.invokevirtual 237, 3) := dchk_at dgX7_part0_60_ 11 rfl
theorem dX7_part0_82 : decode cX7_part0 82 = .ok (.iconst 1, 1) := dchk_at dgX7_part0_60_ 12 rfl
theorem dX7_part0_83 : decode cX7_part0 83 = .ok (.ireturn, 1) := dchk_at dgX7_part0_60_ 13 rfl
theorem dX7_part0_84 : decode cX7_part0 84 = .ok (.aload_n 0, 1) := dchk_at dgX7_part0_60_ 14 rfl
theorem dX7_part0_85 : decode cX7_part0 85 = .ok (.bipush 33, 2) := dchk_at dgX7_part0_60_ 15 rfl
theorem dX7_part0_87 : decode cX7_part0 87 = .ok (.invokevirtual 234, 3) := dchk_at dgX7_part0_60_ 16 rfl
theorem dX7_part0_90 : decode cX7_part0 90 = .ok (.ifCond .eq 55, 3) := dchk_at dgX7_part0_60_ 17 rfl
theorem dX7_part0_93 : decode cX7_part0 93 = .ok (.aload_n 0, 1) := dchk_at dgX7_part0_60_ 18 rfl
theorem dX7_part0_94 : decode cX7_part0 94 = .ok (.getfield 262, 3) := dchk_at dgX7_part0_60_ 19 rfl
theorem dX7_part0_97 : decode cX7_part0 97 = .ok (.bipush 8, 2) := dchk_at dgX7_part0_60_ 20 rfl
theorem dX7_part0_99 : decode cX7_part0 99 = .ok (.if_icmp .ge 46, 3) := dchk_at dgX7_part0_60_ 21 rfl
theorem dX7_part0_102 : decode cX7_part0 102 = .ok (.aload_n 0, 1) := dchk_at dgX7_part0_60_ 22 rfl
theorem dX7_part0_103 : decode cX7_part0 103 = .ok (.dup, 1) := dchk_at dgX7_part0_60_ 23 rfl
theorem dX7_part0_104 : decode cX7_part0 104 = .ok (.getfield 262, 3) := dchk_at dgX7_part0_60_ 24 rfl
theorem dX7_part0_107 : decode cX7_part0 107 = .ok (.iconst 1, 1) := dchk_at dgX7_part0_60_ 25 rfl
theorem dX7_part0_108 : decode cX7_part0 108 = .ok (.iadd, 1) := dchk_at dgX7_part0_60_ 26 rfl
theorem dX7_part0_109 : decode cX7_part0 109 = .ok (.putfield 262, 3) := dchk_at dgX7_part0_60_ 27 rfl
theorem dX7_part0_112 : decode cX7_part0 112 = .ok (.aload_n 0, 1) := dchk_at dgX7_part0_60_ 28 rfl
theorem dX7_part0_113 : decode cX7_part0 113 = .ok (.invokevirtual 237, 3) := dchk_at dgX7_part0_60_ 29 rfl
theorem dX7_part0_116 : decode cX7_part0 116 = .ok (.aload_n 0, 1) := dchk_at dgX7_part0_60_ 30 rfl
theorem dX7_part0_117 : decode cX7_part0 117 = .ok (.iload_n 1, 1) := dchk_at dgX7_part0_60_ 31 rfl
theorem dgX7_part0_118_ : dchk cX7_part0 [(118, .invokevirtual 253, 3), (121, .ifCond .ne 5, 3), (124, .iconst 0, 1), (125, .ireturn, 1), (126, .aload_n 0, 1), (127, .dup, 1), (128, .getfield 262, 3), (131, .iconst 1, 1), (132, .isub, 1), (133, .putfield 262, 3), (136, .aload_n 0, 1), (137, .iconst 2, 1), (138, .bipush 33, 2), (140, .invokevirtual 240, 3), (143, .iconst 1, 1), (144, .ireturn, 1), (145, .aload_n 0, 1), (146, .bipush 40, 2), (148, .invokevirtual 234, 3), (151, .ifCond .eq 12, 3), (154, .aload_n 0, 1), (155, .getfield 265, 3), (158, .bipush 8, 2), (160, .if_icmp .ne 5, 3), (163, .iconst 0, 1), (164, .ireturn, 1), (165, .aload_n 0, 1), (166, .dup, 1), (167, .getfield 265, 3), (170, .iconst 1, 1), (171, .iadd, 1), (172, .putfield 265, 3)] = true := by decide +kernel
theorem dX7_part0_118 : decode cX7_part0 118 = .ok (.invokevirtual 253, 3) := dchk_at dgX7_part0_118_ 0 rfl
theorem dX7_part0_121 : decode cX7_part0 121 = .ok (.ifCond .ne 5, 3) := dchk_at dgX7_part0_118_ 1 rfl
theorem dX7_part0_124 : decode cX7_part0 124 = .ok (.iconst 0, 1) := dchk_at dgX7_part0_118_ 2 rfl
theorem dX7_part0_125 : decode cX7_part0 125 = .ok (.ireturn, 1) := dchk_at dgX7_part0_118_ 3 rfl
theorem dX7_part0_126 : decode cX7_part0 126 = .ok (.aload_n 0, 1) := dchk_at dgX7_part0_118_ 4 rfl
theorem dX7_part0_127 : decode cX7_part0 127 = .ok (.dup, 1) := dchk_at dgX7_part0_118_ 5 rfl
theorem dX7_part0_128 : decode cX7_part0 128 = .ok (.getfield 262, 3) := dchk_at dgX7_part0_118_ 6 rfl
theorem dX7_part0_131 : decode cX7_part0 131 = .ok (.iconst 1, 1) := dchk_at dgX7_part0_118_ 7 rfl
theorem dX7_part0_132 : decode cX7_part0 132 = .ok (.isub, 1) := dchk_at dgX7_part0_118_ 8 rfl
theorem dX7_part0_133 : decode cX7_part0 133 = .ok (.putfield 262, 3) := dchk_at dgX7_part0_118_ 9 rfl
theorem dX7_part0_136 : decode cX7_part0 136 = .ok (.aload_n 0, 1) := dchk_at dgX7_part0_118_ 10 rfl
theorem dX7_part0_137 : decode cX7_part0 137 = .ok (.iconst 2, 1) := dchk_at dgX7_part0_118_ 11 rfl
theorem dX7_part0_138 : decode cX7_part0 138 = .ok (.bipush 33, 2) := dchk_at dgX7_part0_118_ 12 rfl
theorem dX7_part0_140 : decode cX7_part0 140 = .ok (.invokevirtual 240, 3) := dchk_at dgX7_part0_118_ 13 rfl
theorem dX7_part0_143 : decode cX7_part0 143 = .ok (.iconst 1, 1) := dchk_at dgX7_part0_118_ 14 rfl
theorem dX7_part0_144 : decode cX7_part0 144 = .ok (.ireturn, 1) := dchk_at dgX7_part0_118_ 15 rfl
theorem dX7_part0_145 : decode cX7_part0 145 = .ok (.aload_n 0, 1) := dchk_at dgX7_part0_118_ 16 rfl
theorem dX7_part0_146 : decode cX7_part0 146 = .ok (.bipush 40, 2) := dchk_at dgX7_part0_118_ 17 rfl
theorem dX7_part0_148 : decode cX7_part0 148 = .ok (.invokevirtual 234, 3) := dchk_at dgX7_part0_118_ 18 rfl
theorem dX7_part0_151 : decode cX7_part0 151 = .ok (.ifCond .eq 12, 3) := dchk_at dgX7_part0_118_ 19 rfl
theorem dX7_part0_154 : decode cX7_part0 154 = .ok (.aload_n 0, 1) := dchk_at dgX7_part0_118_ 20 rfl
theorem dX7_part0_155 : decode cX7_part0 155 = .ok (.getfield 265, 3) := dchk_at dgX7_part0_118_ 21 rfl
theorem dX7_part0_158 : decode cX7_part0 158 = .ok (.bipush 8, 2) := dchk_at dgX7_part0_118_ 22 rfl
theorem dX7_part0_160 : decode cX7_part0 160 = .ok (.if_icmp .ne 5, 3) := dchk_at dgX7_part0_118_ 23 rfl
theorem dX7_part0_163 : decode cX7_part0 163 = .ok (.iconst 0, 1) := dchk_at dgX7_part0_118_ 24 rfl
theorem dX7_part0_164 : decode cX7_part0 164 = .ok (.ireturn, 1) := dchk_at dgX7_part0_118_ 25 rfl
theorem dX7_part0_165 : decode cX7_part0 165 = .ok (.aload_n 0, 1) := dchk_at dgX7_part0_118_ 26 rfl
theorem dX7_part0_166 : decode cX7_part0 166 = .ok (.dup, 1) := dchk_at dgX7_part0_118_ 27 rfl
theorem dX7_part0_167 : decode cX7_part0 167 = .ok (.getfield 265, 3) := dchk_at dgX7_part0_118_ 28 rfl
theorem dX7_part0_170 : decode cX7_part0 170 = .ok (.iconst 1, 1) := dchk_at dgX7_part0_118_ 29 rfl
theorem dX7_part0_171 : decode cX7_part0 171 = .ok (.iadd, 1) := dchk_at dgX7_part0_118_ 30 rfl
theorem dX7_part0_172 : decode cX7_part0 172 = .ok (.putfield 265, 3) := dchk_at dgX7_part0_118_ 31 rfl
theorem dgX7_part0_175_ : dchk cX7_part0 [(175, .aload_n 0, 1), (176, .invokevirtual 237, 3), (179, .aload_n 0, 1), (180, .iload_n 1, 1), (181, .invokevirtual 268, 3), (184, .ifCond .eq 12, 3), (187, .aload_n 0, 1), (188, .bipush 41, 2), (190, .invokevirtual 234, 3), (193, .ifCond .ne 5, 3), (196, .iconst 0, 1), (197, .ireturn, 1), (198, .aload_n 0, 1), (199, .dup, 1), (200, .getfield 265, 3), (203, .iconst 1, 1), (204, .isub, 1), (205, .putfield 265, 3), (208, .aload_n 0, 1), (209, .invokevirtual 237, 3), (212, .iconst 1, 1), (213, .ireturn, 1)] = true := by decide +kernel
theorem dX7_part0_175 : decode cX7_part0 175 = .ok (.aload_n 0, 1) := dchk_at dgX7_part0_175_ 0 rfl
theorem dX7_part0_176 : decode cX7_part0 176 = .ok (.invokevirtual 237, 3) := dchk_at dgX7_part0_175_ 1 rfl
theorem dX7_part0_179 : decode cX7_part0 179 = .ok (.aload_n 0, 1) := dchk_at dgX7_part0_175_ 2 rfl
theorem dX7_part0_180 : decode cX7_part0 180 = .ok (.iload_n 1, 1) := dchk_at dgX7_part0_175_ 3 rfl
theorem dX7_part0_181 : decode cX7_part0 181 = .ok (.invokevirtual 268, 3) := dchk_at dgX7_part0_175_ 4 rfl
theorem dX7_part0_184 : decode cX7_part0 184 = .ok (.ifCond .eq 12, 3) := dchk_at dgX7_part0_175_ 5 rfl
theorem dX7_part0_187 : decode cX7_part0 187 = .ok (.aload_n 0, 1) := dchk_at dgX7_part0_175_ 6 rfl
theorem dX7_part0_188 : decode cX7_part0 188 = .ok (.bipush 41, 2) := dchk_at dgX7_part0_175_ 7 rfl
theorem dX7_part0_190 : decode cX7_part0 190 = .ok (.invokevirtual 234, 3) := dchk_at dgX7_part0_175_ 8 rfl
theorem dX7_part0_193 : decode cX7_part0 193 = .ok (.ifCond .ne 5, 3) := dchk_at dgX7_part0_175_ 9 rfl
theorem dX7_part0_196 : decode cX7_part0 196 = .ok (.iconst 0, 1) := dchk_at dgX7_part0_175_ 10 rfl
theorem dX7_part0_197 : decode cX7_part0 197 = .ok (.ireturn, 1) := dchk_at dgX7_part0_175_ 11 rfl
theorem dX7_part0_198 : decode cX7_part0 198 = .ok (.aload_n 0, 1) := dchk_at dgX7_part0_175_ 12 rfl
theorem dX7_part0_199 : decode cX7_part0 199 = .ok (.dup, 1) := dchk_at dgX7_part0_175_ 13 rfl
theorem dX7_part0_200 : decode cX7_part0 200 = .ok (.getfield 265, 3) := dchk_at dgX7_part0_175_ 14 rfl
theorem dX7_part0_203 : decode cX7_part0 203 = .ok (.iconst 1, 1) := dchk_at dgX7_part0_175_ 15 rfl
theorem dX7_part0_204 : decode cX7_part0 204 = .ok (.isub, 1) := dchk_at dgX7_part0_175_ 16 rfl
theorem dX7_part0_205 : decode cX7_part0 205 = .ok (.putfield 265, 3) := dchk_at dgX7_part0_175_ 17 rfl
theorem dX7_part0_208 : decode cX7_part0 208 = .ok (.aload_n 0, 1) := dchk_at dgX7_part0_175_ 18 rfl
theorem dX7_part0_209 : decode cX7_part0 209 = .ok (.invokevirtual 237, 3) := dchk_at dgX7_part0_175_ 19 rfl
theorem dX7_part0_212 : decode cX7_part0 212 = .ok (.iconst 1, 1) := dchk_at dgX7_part0_175_ 20 rfl
theorem dX7_part0_213 : decode cX7_part0 213 = .ok (.ireturn, 1) := dchk_at dgX7_part0_175_ 21 rfl
