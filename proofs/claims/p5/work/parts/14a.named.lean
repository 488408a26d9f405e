set_option maxRecDepth 20000 in
theorem ggX6_without_X6_within : GoodIn wsX6_without wsX6_within := goodIn_r _ [12] rfl gw_wsX6_within
set_option maxRecDepth 20000 in
theorem gX6_without_X6_within : GoodIn wsX6_without (va_wsS RX6 65 yX6_within wsX6_within) := goodIn_app (goodIn_of _ (by decide +kernel)) ggX6_without_X6_within
set_option maxRecDepth 20000 in
theorem ggX6_without_X0_takeOver : GoodIn wsX6_without wsX0_takeOver := goodIn_r _ [17, 18, 19, 20, 21, 22, 23, 24, 25, 26, 27, 28, 29, 30, 31, 32, 33, 34, 35, 36, 37, 38, 39, 157, 158, 159, 160, 161, 162, 163, 164, 165, 166, 167, 168, 169, 170, 171, 172, 173, 174] rfl gw_wsX0_takeOver
set_option maxRecDepth 20000 in
theorem gX6_without_X0_takeOver : GoodIn wsX6_without (wsV RX6 200 RX0 yX0_takeOver wsX0_takeOver) := goodIn_app (goodIn_of _ (by decide +kernel)) ggX6_without_X0_takeOver
set_option maxRecDepth 20000 in
theorem ggX6_without_X6_thinkOn : GoodIn wsX6_without wsX6_thinkOn := goodIn_r _ [43, 5, 44, 45, 46, 16, 47, 26, 48, 49, 50, 51, 18, 19, 52, 23, 53, 54, 55, 56, 57, 58, 59, 60, 22, 61, 62, 63, 64, 24, 65, 66, 67, 68, 69, 70, 71, 72, 73, 74, 75, 76, 34, 77, 36, 78, 79, 80, 81, 21, 82, 83, 10, 11, 12, 84, 85, 86, 87, 88, 89, 90, 91, 92, 93, 94, 95, 96, 97, 98, 99, 100, 101, 102, 103, 104, 105, 106, 107, 108, 109, 110, 111, 112, 113, 114, 115, 116, 117, 118, 119, 120, 121, 122, 123, 124, 125, 126, 127, 128, 129, 130, 131, 132, 28, 27, 133, 134, 135, 136, 25, 29, 137, 138, 139, 140, 30, 141, 142, 143, 144, 145, 146, 147, 148, 149, 150, 151, 152, 153, 154, 155, 156, 157, 158, 159, 160, 161, 162, 163, 164, 165, 166, 167, 168, 169, 170, 171, 172, 173, 174, 175, 176, 177, 178, 179] rfl gw_wsX6_thinkOn
set_option maxRecDepth 20000 in
theorem gX6_without_X6_thinkOn : GoodIn wsX6_without (wsV RX6 204 RX6 yX6_thinkOn wsX6_thinkOn) := goodIn_app (goodIn_of _ (by decide +kernel)) ggX6_without_X6_thinkOn
theorem dgX6_without_0_ : dchk cX6_without [(0, .iload_n 1, 1), (1, .iconst 1, 1), (2, .bipush 60, 2), (4, .invokestatic 65, 3), (7, .ifCond .eq 12, 3), (10, .iload_n 2, 1), (11, .iconst 0, 1), (12, .iconst 1, 1), (13, .invokestatic 65, 3), (16, .ifCond .ne 6, 3), (19, .ldc 69, 2), (21, .ireturn, 1), (22, .aload_n 0, 1), (23, .getfield 39, 3), (26, .getfield 70, 3), (29, .ifCond .ne 6, 3), (32, .ldc 218, 2), (34, .ireturn, 1), (35, .iconst 0, 1), (36, .istore_n 3, 1), (37, .iconst (-1), 1), (38, .istore 4, 2), (40, .iconst 0, 1), (41, .istore 5, 2), (43, .iload 5, 2), (45, .aload_n 0, 1), (46, .getfield 39, 3), (49, .getfield 70, 3), (52, .if_icmp .ge 63, 3), (55, .aload_n 0, 1), (56, .getfield 43, 3), (59, .aload_n 0, 1)] = true := by decide +kernel
theorem dX6_without_0 : decode cX6_without 0 = .ok (.iload_n 1, 1) := dchk_at dgX6_without_0_ 0 rfl
theorem dX6_without_1 : decode cX6_without 1 = .ok (.iconst 1, 1) := dchk_at dgX6_without_0_ 1 rfl
theorem dX6_without_2 : decode cX6_without 2 = .ok (.bipush 60, 2) := dchk_at dgX6_without_0_ 2 rfl
theorem dX6_without_4 : decode cX6_without 4 = .ok (.invokestatic 65, 3) := dchk_at dgX6_without_0_ 3 rfl
theorem dX6_without_7 : decode cX6_without 7 = .ok (.ifCond .eq 12, 3) := dchk_at dgX6_without_0_ 4 rfl
theorem dX6_without_10 : decode cX6_without 10 = .ok (.iload_n 2, 1) := dchk_at dgX6_without_0_ 5 rfl
theorem dX6_without_11 : decode cX6_without 11 = .ok (.iconst 0, 1) := dchk_at dgX6_without_0_ 6 rfl
theorem dX6_without_12 : decode cX6_without 12 = .ok (.iconst 1, 1) := dchk_at dgX6_without_0_ 7 rfl
theorem dX6_without_13 : decode cX6_without 13 = .ok (.invokestatic 65, 3) := dchk_at dgX6_without_0_ 8 rfl
theorem dX6_without_16 : decode cX6_without 16 = .ok (.ifCond .ne 6, 3) := dchk_at dgX6_without_0_ 9 rfl
theorem dX6_without_19 : decode cX6_without 19 = .ok (.ldc 69, 2) := dchk_at dgX6_without_0_ 10 rfl
theorem dX6_without_21 : decode cX6_without 21 = .ok (.ireturn, 1) := dchk_at dgX6_without_0_ 11 rfl
theorem dX6_without_22 : decode cX6_without 22 = .ok (.aload_n 0, 1) := dchk_at dgX6_without_0_ 12 rfl
theorem dX6_without_23 : decode cX6_without 23 = .ok (.getfield 39, 3) := dchk_at dgX6_without_0_ 13 rfl
theorem dX6_without_26 : decode cX6_without 26 = .ok (.getfield 70, 3) := dchk_at dgX6_without_0_ 14 rfl
theorem dX6_without_29 : decode cX6_without 29 = .ok (.ifCond .ne 6, 3) := dchk_at dgX6_without_0_ 15 rfl
theorem dX6_without_32 : decode cX6_without 32 = .ok (.ldc 218, 2) := dchk_at dgX6_without_0_ 16 rfl
theorem dX6_without_34 : decode cX6_without 34 = .ok (.ireturn, 1) := dchk_at dgX6_without_0_ 17 rfl
theorem dX6_without_35 : decode cX6_without 35 = .ok (.iconst 0, 1) := dchk_at dgX6_without_0_ 18 rfl
theorem dX6_without_36 : decode cX6_without 36 = .ok (.istore_n 3, 1) := dchk_at dgX6_without_0_ 19 rfl
theorem dX6_without_37 : decode cX6_without 37 = .ok (.iconst (-1), 1) := dchk_at dgX6_without_0_ 20 rfl
theorem dX6_without_38 : decode cX6_without 38 = .ok (.istore 4, 2) := dchk_at dgX6_without_0_ 21 rfl
theorem dX6_without_40 : decode cX6_without 40 = .ok (.iconst 0, 1) := dchk_at dgX6_without_0_ 22 rfl
theorem dX6_without_41 : decode cX6_without 41 = .ok (.istore 5, 2) := dchk_at dgX6_without_0_ 23 rfl
theorem dX6_without_43 : decode cX6_without 43 = .ok (.iload 5, 2) := dchk_at dgX6_without_0_ 24 rfl
theorem dX6_without_45 : decode cX6_without 45 = .ok (.aload_n 0, 1) := dchk_at dgX6_without_0_ 25 rfl
theorem dX6_without_46 : decode cX6_without 46 = .ok (.getfield 39, 3) := dchk_at dgX6_without_0_ 26 rfl
theorem dX6_without_49 : decode cX6_without 49 = .ok (.getfield 70, 3) := dchk_at dgX6_without_0_ 27 rfl
theorem dX6_without_52 : decode cX6_without 52 = .ok (.if_icmp .ge 63, 3) := dchk_at dgX6_without_0_ 28 rfl
theorem dX6_without_55 : decode cX6_without 55 = .ok (.aload_n 0, 1) := dchk_at dgX6_without_0_ 29 rfl
theorem dX6_without_56 : decode cX6_without 56 = .ok (.getfield 43, 3) := dchk_at dgX6_without_0_ 30 rfl
theorem dX6_without_59 : decode cX6_without 59 = .ok (.aload_n 0, 1) := dchk_at dgX6_without_0_ 31 rfl
theorem dgX6_without_60_ : dchk cX6_without [(60, .getfield 39, 3), (63, .invokevirtual 200, 3), (66, .aload_n 0, 1), (67, .getfield 43, 3), (70, .getfield 83, 3), (73, .iload 5, 2), (75, .aaload, 1), (76, .iconst 0, 1), (77, .putfield 98, 3), (80, .aload_n 0, 1), (81, .iload_n 1, 1), (82, .invokevirtual 204, 3), (85, .aload_n 0, 1), (86, .getfield 43, 3), (89, .getfield 191, 3), (92, .iload 4, 2), (94, .if_icmp .le 15, 3), (97, .iload 5, 2), (99, .istore_n 3, 1), (100, .aload_n 0, 1), (101, .getfield 43, 3), (104, .getfield 191, 3), (107, .istore 4, 2), (109, .iinc 5 1, 3), (112, .goto (-69), 3), (115, .iload_n 2, 1), (116, .ifCond .ne 7, 3), (119, .iload_n 3, 1), (120, .goto 5, 3), (123, .iload 4, 2), (125, .ireturn, 1)] = true := by decide +kernel
theorem dX6_without_60 : decode cX6_without 60 = .ok (.getfield 39, 3) := dchk_at dgX6_without_60_ 0 rfl
theorem dX6_without_63 : decode cX6_without 63 = .ok (.invokevirtual 200, 3) := dchk_at dgX6_without_60_ 1 rfl
theorem dX6_without_66 : decode cX6_without 66 = .ok (.aload_n 0, 1) := dchk_at dgX6_without_60_ 2 rfl
theorem dX6_without_67 : decode cX6_without 67 = .ok (.getfield 43, 3) := dchk_at dgX6_without_60_ 3 rfl
theorem dX6_without_70 : decode cX6_without 70 = .ok (.getfield 83, 3) := dchk_at dgX6_without_60_ 4 rfl
theorem dX6_without_73 : decode cX6_without 73 = .ok (.iload 5, 2) := dchk_at dgX6_without_60_ 5 rfl
theorem dX6_without_75 : decode cX6_without 75 = .ok (.aaload, 1) := dchk_at dgX6_without_60_ 6 rfl
theorem dX6_without_76 : decode cX6_without 76 = .ok (.iconst 0, 1) := dchk_at dgX6_without_60_ 7 rfl
theorem dX6_without_77 : decode cX6_without 77 = .ok (.putfield 98, 3) := dchk_at dgX6_without_60_ 8 rfl
theorem dX6_without_80 : decode cX6_without 80 = .ok (.aload_n 0, 1) := dchk_at dgX6_without_60_ 9 rfl
theorem dX6_without_81 : decode cX6_without 81 = .ok (.iload_n 1, 1) := dchk_at dgX6_without_60_ 10 rfl
theorem dX6_without_82 : decode cX6_without 82 = .ok (.invokevirtual 204, 3) := dchk_at dgX6_without_60_ 11 rfl
theorem dX6_without_85 : decode cX6_without 85 = .ok (.aload_n 0, 1) := dchk_at dgX6_without_60_ 12 rfl
theorem dX6_without_86 : decode cX6_without 86 = .ok (.getfield 43, 3) := dchk_at dgX6_without_60_ 13 rfl
theorem dX6_without_89 : decode cX6_without 89 = .ok (.getfield 191, 3) := dchk_at dgX6_without_60_ 14 rfl
theorem dX6_without_92 : decode cX6_without 92 = .ok (.iload 4, 2) := dchk_at dgX6_without_60_ 15 rfl
theorem dX6_without_94 : decode cX6_without 94 = .ok (.if_icmp .le 15, 3) := dchk_at dgX6_without_60_ 16 rfl
theorem dX6_without_97 : decode cX6_without 97 = .ok (.iload 5, 2) := dchk_at dgX6_without_60_ 17 rfl
theorem dX6_without_99 : decode cX6_without 99 = .ok (.istore_n 3, 1) := dchk_at dgX6_without_60_ 18 rfl
theorem dX6_without_100 : decode cX6_without 100 = .ok (.aload_n 0, 1) := dchk_at dgX6_without_60_ 19 rfl
theorem dX6_without_101 : decode cX6_without 101 = .ok (.getfield 43, 3) := dchk_at dgX6_without_60_ 20 rfl
theorem dX6_without_104 : decode cX6_without 104 = .ok (.getfield 191, 3) := dchk_at dgX6_without_60_ 21 rfl
theorem dX6_without_107 : decode cX6_without 107 = .ok (.istore 4, 2) := dchk_at dgX6_without_60_ 22 rfl
theorem dX6_without_109 : decode cX6_without 109 = .ok (.iinc 5 1, 3) := dchk_at dgX6_without_60_ 23 rfl
theorem dX6_without_112 : decode cX6_without 112 = .ok (.goto (-69), 3) := dchk_at dgX6_without_60_ 24 rfl
theorem dX6_without_115 : decode cX6_without 115 = .ok (.iload_n 2, 1) := dchk_at dgX6_without_60_ 25 rfl
theorem dX6_without_116 : decode cX6_without 116 = .ok (.ifCond .ne 7, 3) := dchk_at dgX6_without_60_ 26 rfl
theorem dX6_without_119 : decode cX6_without 119 = .ok (.iload_n 3, 1) := dchk_at dgX6_without_60_ 27 rfl
theorem dX6_without_120 : decode cX6_without 120 = .ok (.goto 5, 3) := dchk_at dgX6_without_60_ 28 rfl
theorem dX6_without_123 : decode cX6_without 123 = .ok (.iload 4, 2) := dchk_at dgX6_without_60_ 29 rfl
theorem dX6_without_125 : decode cX6_without 125 = .ok (.ireturn, 1) := dchk_at dgX6_without_60_ 30 rfl
