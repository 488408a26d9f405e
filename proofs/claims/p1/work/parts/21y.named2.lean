set_option maxRecDepth 20000 in
theorem ggX6_best_X6_within : GoodIn wsX6_best wsX6_within := goodIn_r _ [10] (by decide +kernel) (by decide +kernel)
set_option maxRecDepth 20000 in
theorem gX6_best_X6_within : GoodIn wsX6_best (va_wsS RX6 65 yX6_within wsX6_within) := goodIn_app (goodIn_of _ (by decide +kernel)) ggX6_best_X6_within
set_option maxRecDepth 20000 in
theorem ggX6_best_X0_takeOver : GoodIn wsX6_best wsX0_takeOver := goodIn_r _ [15, 16, 17, 18, 19, 20, 21, 22, 23, 24, 25, 26, 27, 28, 29, 30, 31, 32, 33, 34, 35, 36, 37, 140, 141, 142, 143, 144, 145, 146, 147, 148, 149, 150, 151, 152, 153, 154, 155, 156, 157] (by decide +kernel) (by decide +kernel)
set_option maxRecDepth 20000 in
theorem gX6_best_X0_takeOver : GoodIn wsX6_best (wsV RX6 200 RX0 yX0_takeOver wsX0_takeOver) := goodIn_app (goodIn_of _ (by decide +kernel)) ggX6_best_X0_takeOver
set_option maxRecDepth 20000 in
theorem ggX6_best_X6_tryHaulings : GoodIn wsX6_best wsX6_tryHaulings := goodIn_r _ [41, 5, 42, 3, 4, 11, 12, 13, 14, 15, 16, 17, 18, 19, 20, 21, 22, 23, 24, 25, 26, 27, 28, 29, 30, 31, 32, 33, 34, 35, 36, 37, 43, 44, 45, 46, 47, 48, 49, 50, 51, 52, 53, 54, 55, 56, 57, 58, 59, 60, 61, 62, 63, 64, 65, 66, 67, 68, 69, 70, 71, 72, 73, 74, 75, 76, 77, 78, 79, 80, 81, 82, 83, 84, 85, 86, 87, 88, 89, 8, 9, 10, 90, 91, 92, 93, 94, 95, 96, 97, 98, 99, 100, 101, 102, 103, 104, 105, 106, 107, 108, 109, 110, 111, 112, 113, 114, 115, 116, 117, 118, 119, 120, 121, 122, 123, 124, 38, 39, 40, 125, 126, 127, 128, 129, 130, 131, 132, 133, 134, 135, 136, 137, 138, 139, 140, 141, 142, 143, 144, 145, 146, 147, 148, 149, 150, 151, 152, 153, 154, 155, 156, 157, 158, 159, 160, 161, 162] (by decide +kernel) (by decide +kernel)
set_option maxRecDepth 20000 in
theorem gX6_best_X6_tryHaulings : GoodIn wsX6_best (wsV RX6 214 RX6 yX6_tryHaulings wsX6_tryHaulings) := goodIn_app (goodIn_of _ (by decide +kernel)) ggX6_best_X6_tryHaulings
theorem dX6_best_0 : decode cX6_best 0 = .ok (.iload_n 1, 1) := by decide +kernel
theorem dX6_best_1 : decode cX6_best 1 = .ok (.iconst 1, 1) := by decide +kernel
theorem dX6_best_2 : decode cX6_best 2 = .ok (.iconst 5, 1) := by decide +kernel
theorem dX6_best_3 : decode cX6_best 3 = .ok (.invokestatic 65, 3) := by decide +kernel
theorem dX6_best_6 : decode cX6_best 6 = .ok (.ifCond .eq 12, 3) := by decide +kernel
theorem dX6_best_9 : decode cX6_best 9 = .ok (.iload_n 2, 1) := by decide +kernel
theorem dX6_best_10 : decode cX6_best 10 = .ok (.iconst 0, 1) := by decide +kernel
theorem dX6_best_11 : decode cX6_best 11 = .ok (.iconst 1, 1) := by decide +kernel
theorem dX6_best_12 : decode cX6_best 12 = .ok (.invokestatic 65, 3) := by decide +kernel
theorem dX6_best_15 : decode cX6_best 15 = .ok (.ifCond .ne 6, 3) := by decide +kernel
theorem dX6_best_18 : decode cX6_best 18 = .ok (.ldc 69, 2) := by decide +kernel
theorem dX6_best_20 : decode cX6_best 20 = .ok (.ireturn, 1) := by decide +kernel
theorem dX6_best_21 : decode cX6_best 21 = .ok (.aload_n 0, 1) := by decide +kernel
theorem dX6_best_22 : decode cX6_best 22 = .ok (.ldc 207, 2) := by decide +kernel
theorem dX6_best_24 : decode cX6_best 24 = .ok (.putfield 208, 3) := by decide +kernel
theorem dX6_best_27 : decode cX6_best 27 = .ok (.aload_n 0, 1) := by decide +kernel
theorem dX6_best_28 : decode cX6_best 28 = .ok (.iconst 0, 1) := by decide +kernel
theorem dX6_best_29 : decode cX6_best 29 = .ok (.putfield 211, 3) := by decide +kernel
theorem dX6_best_32 : decode cX6_best 32 = .ok (.aload_n 0, 1) := by decide +kernel
theorem dX6_best_33 : decode cX6_best 33 = .ok (.getfield 11, 3) := by decide +kernel
theorem dX6_best_36 : decode cX6_best 36 = .ok (.iconst 0, 1) := by decide +kernel
theorem dX6_best_37 : decode cX6_best 37 = .ok (.aaload, 1) := by decide +kernel
theorem dX6_best_38 : decode cX6_best 38 = .ok (.aload_n 0, 1) := by decide +kernel
theorem dX6_best_39 : decode cX6_best 39 = .ok (.getfield 39, 3) := by decide +kernel
theorem dX6_best_42 : decode cX6_best 42 = .ok (.invokevirtual 200, 3) := by decide +kernel
theorem dX6_best_45 : decode cX6_best 45 = .ok (.aload_n 0, 1) := by decide +kernel
theorem dX6_best_46 : decode cX6_best 46 = .ok (.iconst 0, 1) := by decide +kernel
theorem dX6_best_47 : decode cX6_best 47 = .ok (.iload_n 1, 1) := by decide +kernel
theorem dX6_best_48 : decode cX6_best 48 = .ok (.iconst 0, 1) := by decide +kernel
theorem dX6_best_49 : decode cX6_best 49 = .ok (.invokevirtual 214, 3) := by decide +kernel
theorem dX6_best_52 : decode cX6_best 52 = .ok (.iload_n 2, 1) := by decide +kernel
theorem dX6_best_53 : decode cX6_best 53 = .ok (.ifCond .ne 10, 3) := by decide +kernel
theorem dX6_best_56 : decode cX6_best 56 = .ok (.aload_n 0, 1) := by decide +kernel
theorem dX6_best_57 : decode cX6_best 57 = .ok (.getfield 211, 3) := by decide +kernel
theorem dX6_best_60 : decode cX6_best 60 = .ok (.goto 7, 3) := by decide +kernel
theorem dX6_best_63 : decode cX6_best 63 = .ok (.aload_n 0, 1) := by decide +kernel
theorem dX6_best_64 : decode cX6_best 64 = .ok (.getfield 208, 3) := by decide +kernel
theorem dX6_best_67 : decode cX6_best 67 = .ok (.ireturn, 1) := by decide +kernel
set_option maxRecDepth 20000 in
theorem ggX6_tryHaulings_X0_takeOver : GoodIn wsX6_tryHaulings wsX0_takeOver := goodIn_r _ [9, 10, 11, 12, 13, 14, 15, 16, 17, 18, 19, 20, 21, 22, 23, 24, 25, 26, 27, 28, 29, 30, 31, 135, 136, 137, 138, 139, 140, 141, 142, 143, 144, 145, 146, 147, 148, 149, 150, 151, 152] (by decide +kernel) (by decide +kernel)
set_option maxRecDepth 20000 in
theorem gX6_tryHaulings_X0_takeOver : GoodIn wsX6_tryHaulings (wsV RX6 200 RX0 yX0_takeOver wsX0_takeOver) := goodIn_app (goodIn_of _ (by decide +kernel)) ggX6_tryHaulings_X0_takeOver
set_option maxRecDepth 20000 in
theorem ggX6_tryHaulings_X0_passHour : GoodIn wsX6_tryHaulings wsX0_passHour := goodIn_r _ [35, 15, 10, 11, 36, 20, 37, 19, 38, 16, 39, 40, 41, 8, 42, 43, 44, 45, 46, 47, 48, 49, 50, 51, 52, 53, 14, 54, 55, 56, 57, 58, 59, 60, 61, 62, 63, 64, 65, 66, 67, 68, 69, 70, 71, 72, 26, 73, 28, 74, 75, 76, 77, 13, 78, 79, 80, 81, 82, 83, 84, 85, 86, 87, 88, 89, 90, 91, 92, 93, 94, 95, 96, 97, 98, 99, 100, 101, 102, 103, 104, 105, 106, 107, 108, 109, 110, 111, 17, 21, 112, 113, 114, 115, 22, 116, 135, 136, 137, 138, 139, 140, 141, 142, 143, 144, 145, 146, 147, 148, 149, 150, 151, 152, 153, 154, 155, 156, 157] (by decide +kernel) (by decide +kernel)
set_option maxRecDepth 20000 in
theorem gX6_tryHaulings_X0_passHour : GoodIn wsX6_tryHaulings (wsV RX6 188 RX0 yX0_passHour wsX0_passHour) := goodIn_app (goodIn_of _ (by decide +kernel)) ggX6_tryHaulings_X0_passHour
set_option maxRecDepth 20000 in
theorem ggX6_tryHaulings_X6_tryHaulings : GoodIn wsX6_tryHaulings wsX6_tryHaulings := goodIn_r _ [0, 1, 2, 3, 4, 5, 6, 7, 8, 9, 10, 11, 12, 13, 14, 15, 16, 17, 18, 19, 20, 21, 22, 23, 24, 25, 26, 27, 28, 29, 30, 31, 32, 33, 34, 35, 36, 37, 38, 39, 40, 41, 42, 43, 44, 45, 46, 47, 48, 49, 50, 51, 52, 53, 54, 55, 56, 57, 58, 59, 60, 61, 62, 63, 64, 65, 66, 67, 68, 69, 70, 71, 72, 73, 74, 75, 76, 77, 78, 79, 80, 81, 82, 83, 84, 85, 86, 87, 88, 89, 90, 91, 92, 93, 94, 95, 96, 97, 98, 99, 100, 101, 102, 103, 104, 105, 106, 107, 108, 109, 110, 111, 112, 113, 114, 115, 116, 117, 118, 119, 120, 121, 122, 123, 124, 125, 126, 127, 128, 129, 130, 131, 132, 133, 134, 135, 136, 137, 138, 139, 140, 141, 142, 143, 144, 145, 146, 147, 148, 149, 150, 151, 152, 153, 154, 155, 156, 157] (by decide +kernel) (by decide +kernel)
set_option maxRecDepth 20000 in
theorem gX6_tryHaulings_X6_tryHaulings : GoodIn wsX6_tryHaulings (wsV RX6 214 RX6 yX6_tryHaulings wsX6_tryHaulings) := goodIn_app (goodIn_of _ (by decide +kernel)) ggX6_tryHaulings_X6_tryHaulings
theorem dX6_tryHaulings_0 : decode cX6_tryHaulings 0 = .ok (.iload_n 1, 1) := by decide +kernel
theorem dX6_tryHaulings_1 : decode cX6_tryHaulings 1 = .ok (.ifCond .lt 8, 3) := by decide +kernel
theorem dX6_tryHaulings_4 : decode cX6_tryHaulings 4 = .ok (.iload_n 1, 1) := by decide +kernel
theorem dX6_tryHaulings_5 : decode cX6_tryHaulings 5 = .ok (.iconst 5, 1) := by decide +kernel
theorem dX6_tryHaulings_6 : decode cX6_tryHaulings 6 = .ok (.if_icmp .le 4, 3) := by decide +kernel
theorem dX6_tryHaulings_10 : decode cX6_tryHaulings 10 = .ok (.aload_n 0, 1) := by decide +kernel
theorem dX6_tryHaulings_11 : decode cX6_tryHaulings 11 = .ok (.getfield 11, 3) := by decide +kernel
theorem dX6_tryHaulings_14 : decode cX6_tryHaulings 14 = .ok (.iload_n 1, 1) := by decide +kernel
theorem dX6_tryHaulings_15 : decode cX6_tryHaulings 15 = .ok (.aaload, 1) := by decide +kernel
theorem dX6_tryHaulings_16 : decode cX6_tryHaulings 16 = .ok (.astore 4, 2) := by decide +kernel
theorem dX6_tryHaulings_18 : decode cX6_tryHaulings 18 = .ok (.aload 4, 2) := by decide +kernel
theorem dX6_tryHaulings_20 : decode cX6_tryHaulings 20 = .ok (.getfield 179, 3) := by decide +kernel
theorem dX6_tryHaulings_23 : decode cX6_tryHaulings 23 = .ok (.aload_n 0, 1) := by decide +kernel
theorem dX6_tryHaulings_24 : decode cX6_tryHaulings 24 = .ok (.getfield 208, 3) := by decide +kernel
theorem dX6_tryHaulings_27 : decode cX6_tryHaulings 27 = .ok (.if_icmp .lt 4, 3) := by decide +kernel
theorem dX6_tryHaulings_30 : decode cX6_tryHaulings 30 = .ok (.return_, 1) := by decide +kernel
theorem dX6_tryHaulings_31 : decode cX6_tryHaulings 31 = .ok (.iload_n 1, 1) := by decide +kernel
theorem dX6_tryHaulings_32 : decode cX6_tryHaulings 32 = .ok (.iload_n 2, 1) := by decide +kernel
theorem dX6_tryHaulings_33 : decode cX6_tryHaulings 33 = .ok (.if_icmp .ge 8, 3) := by decide +kernel
theorem dX6_tryHaulings_36 : decode cX6_tryHaulings 36 = .ok (.iload_n 1, 1) := by decide +kernel
theorem dX6_tryHaulings_37 : decode cX6_tryHaulings 37 = .ok (.iconst 5, 1) := by decide +kernel
theorem dX6_tryHaulings_38 : decode cX6_tryHaulings 38 = .ok (.if_icmp .ne 18, 3) := by decide +kernel
theorem dX6_tryHaulings_41 : decode cX6_tryHaulings 41 = .ok (.aload_n 0, 1) := by decide +kernel
theorem dX6_tryHaulings_42 : decode cX6_tryHaulings 42 = .ok (.aload 4, 2) := by decide +kernel
theorem dX6_tryHaulings_44 : decode cX6_tryHaulings 44 = .ok (.getfield 179, 3) := by decide +kernel
theorem dX6_tryHaulings_47 : decode cX6_tryHaulings 47 = .ok (.putfield 208, 3) := by decide +kernel
theorem dX6_tryHaulings_50 : decode cX6_tryHaulings 50 = .ok (.aload_n 0, 1) := by decide +kernel
theorem dX6_tryHaulings_51 : decode cX6_tryHaulings 51 = .ok (.iload_n 3, 1) := by decide +kernel
theorem dX6_tryHaulings_52 : decode cX6_tryHaulings 52 = .ok (.putfield 211, 3) := by decide +kernel
theorem dX6_tryHaulings_55 : decode cX6_tryHaulings 55 = .ok (.return_, 1) := by decide +kernel
theorem dX6_tryHaulings_56 : decode cX6_tryHaulings 56 = .ok (.iconst 0, 1) := by decide +kernel
theorem dX6_tryHaulings_57 : decode cX6_tryHaulings 57 = .ok (.istore 5, 2) := by decide +kernel
theorem dX6_tryHaulings_59 : decode cX6_tryHaulings 59 = .ok (.iload 5, 2) := by decide +kernel
theorem dX6_tryHaulings_61 : decode cX6_tryHaulings 61 = .ok (.iconst 3, 1) := by decide +kernel
theorem dX6_tryHaulings_62 : decode cX6_tryHaulings 62 = .ok (.if_icmp .ge 49, 3) := by decide +kernel
theorem dX6_tryHaulings_65 : decode cX6_tryHaulings 65 = .ok (.aload_n 0, 1) := by decide +kernel
theorem dX6_tryHaulings_66 : decode cX6_tryHaulings 66 = .ok (.getfield 11, 3) := by decide +kernel
theorem dX6_tryHaulings_69 : decode cX6_tryHaulings 69 = .ok (.iload_n 1, 1) := by decide +kernel
theorem dX6_tryHaulings_70 : decode cX6_tryHaulings 70 = .ok (.iconst 1, 1) := by decide +kernel
theorem dX6_tryHaulings_71 : decode cX6_tryHaulings 71 = .ok (.iadd, 1) := by decide +kernel
theorem dX6_tryHaulings_72 : decode cX6_tryHaulings 72 = .ok (.aaload, 1) := by decide +kernel
theorem dX6_tryHaulings_73 : decode cX6_tryHaulings 73 = .ok (.aload 4, 2) := by decide +kernel
theorem dX6_tryHaulings_75 : decode cX6_tryHaulings 75 = .ok (.invokevirtual 200, 3) := by decide +kernel
theorem dX6_tryHaulings_78 : decode cX6_tryHaulings 78 = .ok (.aload_n 0, 1) := by decide +kernel
theorem dX6_tryHaulings_79 : decode cX6_tryHaulings 79 = .ok (.getfield 11, 3) := by decide +kernel
theorem dX6_tryHaulings_82 : decode cX6_tryHaulings 82 = .ok (.iload_n 1, 1) := by decide +kernel
theorem dX6_tryHaulings_83 : decode cX6_tryHaulings 83 = .ok (.iconst 1, 1) := by decide +kernel
theorem dX6_tryHaulings_84 : decode cX6_tryHaulings 84 = .ok (.iadd, 1) := by decide +kernel
theorem dX6_tryHaulings_85 : decode cX6_tryHaulings 85 = .ok (.aaload, 1) := by decide +kernel
theorem dX6_tryHaulings_86 : decode cX6_tryHaulings 86 = .ok (.iload 5, 2) := by decide +kernel
theorem dX6_tryHaulings_88 : decode cX6_tryHaulings 88 = .ok (.invokevirtual 188, 3) := by decide +kernel
theorem dX6_tryHaulings_91 : decode cX6_tryHaulings 91 = .ok (.aload_n 0, 1) := by decide +kernel
theorem dX6_tryHaulings_92 : decode cX6_tryHaulings 92 = .ok (.iload_n 1, 1) := by decide +kernel
theorem dX6_tryHaulings_93 : decode cX6_tryHaulings 93 = .ok (.iconst 1, 1) := by decide +kernel
theorem dX6_tryHaulings_94 : decode cX6_tryHaulings 94 = .ok (.iadd, 1) := by decide +kernel
theorem dX6_tryHaulings_95 : decode cX6_tryHaulings 95 = .ok (.iload_n 2, 1) := by decide +kernel
theorem dX6_tryHaulings_96 : decode cX6_tryHaulings 96 = .ok (.iload_n 3, 1) := by decide +kernel
theorem dX6_tryHaulings_97 : decode cX6_tryHaulings 97 = .ok (.iconst 3, 1) := by decide +kernel
theorem dX6_tryHaulings_98 : decode cX6_tryHaulings 98 = .ok (.imul, 1) := by decide +kernel
theorem dX6_tryHaulings_99 : decode cX6_tryHaulings 99 = .ok (.iload 5, 2) := by decide +kernel
theorem dX6_tryHaulings_101 : decode cX6_tryHaulings 101 = .ok (.iadd, 1) := by decide +kernel
theorem dX6_tryHaulings_102 : decode cX6_tryHaulings 102 = .ok (.invokevirtual 214, 3) := by decide +kernel
theorem dX6_tryHaulings_105 : decode cX6_tryHaulings 105 = .ok (.iinc 5 1, 3) := by decide +kernel
theorem dX6_tryHaulings_108 : decode cX6_tryHaulings 108 = .ok (.goto (-49), 3) := by decide +kernel
theorem dX6_tryHaulings_111 : decode cX6_tryHaulings 111 = .ok (.return_, 1) := by decide +kernel
