set_option maxRecDepth 20000 in
theorem gw_wsX4_init : wsX4_init.all goodWord = true := by decide +kernel
set_option maxRecDepth 20000 in
theorem ggX0_init_X4_init : GoodIn wsX0_init wsX4_init := goodIn_r _ [17, 18, 2, 3] rfl gw_wsX4_init
set_option maxRecDepth 20000 in
theorem gX0_init_X4_init_n39 : GoodIn wsX0_init (wsX4_init) := ggX0_init_X4_init
theorem dgX0_init_0_ : dchk cX0_init [(0, .aload_n 0, 1), (1, .invokespecial 3, 3), (4, .aload_n 0, 1), (5, .bipush 9, 2), (7, .anewarray 9, 3), (10, .putfield 11, 3), (13, .aload_n 0, 1), (14, .iconst 3, 1), (15, .newarray .int, 2), (17, .dup, 1), (18, .iconst 0, 1), (19, .ldc 17, 2), (21, .iastore, 1), (22, .dup, 1), (23, .iconst 1, 1), (24, .ldc 17, 2), (26, .iastore, 1), (27, .dup, 1), (28, .iconst 2, 1), (29, .ldc 17, 2), (31, .iastore, 1), (32, .putfield 18, 3), (35, .aload_n 0, 1), (36, .iconst 3, 1), (37, .putfield 22, 3), (40, .aload_n 0, 1), (41, .bipush 10, 2), (43, .putfield 26, 3), (46, .aload_n 0, 1), (47, .iconst 0, 1), (48, .putfield 29, 3), (51, .aload_n 0, 1)] = true := by decide +kernel
theorem dX0_init_0 : decode cX0_init 0 = .ok (.aload_n 0, 1) := dchk_at dgX0_init_0_ 0 rfl
theorem dX0_init_1 : decode cX0_init 1 = .ok (.invokespecial 3, 3) := dchk_at dgX0_init_0_ 1 rfl
theorem dX0_init_4 : decode cX0_init 4 = .ok (.aload_n 0, 1) := dchk_at dgX0_init_0_ 2 rfl
theorem dX0_init_5 : decode cX0_init 5 = .ok (.bipush 9, 2) := dchk_at dgX0_init_0_ 3 rfl
theorem dX0_init_7 : decode cX0_init 7 = .ok (.anewarray 9, 3) := dchk_at dgX0_init_0_ 4 rfl
theorem dX0_init_10 : decode cX0_init 10 = .ok (.putfield 11, 3) := dchk_at dgX0_init_0_ 5 rfl
theorem dX0_init_13 : decode cX0_init 13 = .ok (.aload_n 0, 1) := dchk_at dgX0_init_0_ 6 rfl
theorem dX0_init_14 : decode cX0_init 14 = .ok (.iconst 3, 1) := dchk_at dgX0_init_0_ 7 rfl
theorem dX0_init_15 : decode cX0_init 15 = .ok (.newarray .int, 2) := dchk_at dgX0_init_0_ 8 rfl
theorem dX0_init_17 : decode cX0_init 17 = .ok (.dup, 1) := dchk_at dgX0_init_0_ 9 rfl
theorem dX0_init_18 : decode cX0_init 18 = .ok (.iconst 0, 1) := dchk_at dgX0_init_0_ 10 rfl
theorem dX0_init_19 : decode cX0_init 19 = .ok (.ldc 17, 2) := dchk_at dgX0_init_0_ 11 rfl
theorem dX0_init_21 : decode cX0_init 21 = .ok (.iastore, 1) := dchk_at dgX0_init_0_ 12 rfl
theorem dX0_init_22 : decode cX0_init 22 = .ok (.dup, 1) := dchk_at dgX0_init_0_ 13 rfl
theorem dX0_init_23 : decode cX0_init 23 = .ok (.iconst 1, 1) := dchk_at dgX0_init_0_ 14 rfl
theorem dX0_init_24 : decode cX0_init 24 = .ok (.ldc 17, 2) := dchk_at dgX0_init_0_ 15 rfl
theorem dX0_init_26 : decode cX0_init 26 = .ok (.iastore, 1) := dchk_at dgX0_init_0_ 16 rfl
theorem dX0_init_27 : decode cX0_init 27 = .ok (.dup, 1) := dchk_at dgX0_init_0_ 17 rfl
theorem dX0_init_28 : decode cX0_init 28 = .ok (.iconst 2, 1) := dchk_at dgX0_init_0_ 18 rfl
theorem dX0_init_29 : decode cX0_init 29 = .ok (.ldc 17, 2) := dchk_at dgX0_init_0_ 19 rfl
theorem dX0_init_31 : decode cX0_init 31 = .ok (.iastore, 1) := dchk_at dgX0_init_0_ 20 rfl
theorem dX0_init_32 : decode cX0_init 32 = .ok (.putfield 18, 3) := dchk_at dgX0_init_0_ 21 rfl
theorem dX0_init_35 : decode cX0_init 35 = .ok (.aload_n 0, 1) := dchk_at dgX0_init_0_ 22 rfl
theorem dX0_init_36 : decode cX0_init 36 = .ok (.iconst 3, 1) := dchk_at dgX0_init_0_ 23 rfl
theorem dX0_init_37 : decode cX0_init 37 = .ok (.putfield 22, 3) := dchk_at dgX0_init_0_ 24 rfl
theorem dX0_init_40 : decode cX0_init 40 = .ok (.aload_n 0, 1) := dchk_at dgX0_init_0_ 25 rfl
theorem dX0_init_41 : decode cX0_init 41 = .ok (.bipush 10, 2) := dchk_at dgX0_init_0_ 26 rfl
theorem dX0_init_43 : decode cX0_init 43 = .ok (.putfield 26, 3) := dchk_at dgX0_init_0_ 27 rfl
theorem dX0_init_46 : decode cX0_init 46 = .ok (.aload_n 0, 1) := dchk_at dgX0_init_0_ 28 rfl
theorem dX0_init_47 : decode cX0_init 47 = .ok (.iconst 0, 1) := dchk_at dgX0_init_0_ 29 rfl
theorem dX0_init_48 : decode cX0_init 48 = .ok (.putfield 29, 3) := dchk_at dgX0_init_0_ 30 rfl
theorem dX0_init_51 : decode cX0_init 51 = .ok (.aload_n 0, 1) := dchk_at dgX0_init_0_ 31 rfl
theorem dgX0_init_52_ : dchk cX0_init [(52, .iconst 1, 1), (53, .putfield 32, 3), (56, .aload_n 0, 1), (57, .aload_n 1, 1), (58, .putfield 35, 3), (61, .iconst 0, 1), (62, .istore_n 2, 1), (63, .iload_n 2, 1), (64, .bipush 9, 2), (66, .if_icmp .ge 22, 3), (69, .aload_n 0, 1), (70, .getfield 11, 3), (73, .iload_n 2, 1), (74, .new 9, 3), (77, .dup, 1), (78, .invokespecial 39, 3), (81, .aastore, 1), (82, .iinc 2 1, 3), (85, .goto (-22), 3), (88, .return_, 1)] = true := by decide +kernel
theorem dX0_init_52 : decode cX0_init 52 = .ok (.iconst 1, 1) := dchk_at dgX0_init_52_ 0 rfl
theorem dX0_init_53 : decode cX0_init 53 = .ok (.putfield 32, 3) := dchk_at dgX0_init_52_ 1 rfl
theorem dX0_init_56 : decode cX0_init 56 = .ok (.aload_n 0, 1) := dchk_at dgX0_init_52_ 2 rfl
theorem dX0_init_57 : decode cX0_init 57 = .ok (.aload_n 1, 1) := dchk_at dgX0_init_52_ 3 rfl
theorem dX0_init_58 : decode cX0_init 58 = .ok (.putfield 35, 3) := dchk_at dgX0_init_52_ 4 rfl
theorem dX0_init_61 : decode cX0_init 61 = .ok (.iconst 0, 1) := dchk_at dgX0_init_52_ 5 rfl
theorem dX0_init_62 : decode cX0_init 62 = .ok (.istore_n 2, 1) := dchk_at dgX0_init_52_ 6 rfl
theorem dX0_init_63 : decode cX0_init 63 = .ok (.iload_n 2, 1) := dchk_at dgX0_init_52_ 7 rfl
theorem dX0_init_64 : decode cX0_init 64 = .ok (.bipush 9, 2) := dchk_at dgX0_init_52_ 8 rfl
theorem dX0_init_66 : decode cX0_init 66 = .ok (.if_icmp .ge 22, 3) := dchk_at dgX0_init_52_ 9 rfl
theorem dX0_init_69 : decode cX0_init 69 = .ok (.aload_n 0, 1) := dchk_at dgX0_init_52_ 10 rfl
theorem dX0_init_70 : decode cX0_init 70 = .ok (.getfield 11, 3) := dchk_at dgX0_init_52_ 11 rfl
theorem dX0_init_73 : decode cX0_init 73 = .ok (.iload_n 2, 1) := dchk_at dgX0_init_52_ 12 rfl
theorem dX0_init_74 : decode cX0_init 74 = .ok (.new 9, 3) := dchk_at dgX0_init_52_ 13 rfl
theorem dX0_init_77 : decode cX0_init 77 = .ok (.dup, 1) := dchk_at dgX0_init_52_ 14 rfl
theorem dX0_init_78 : decode cX0_init 78 = .ok (.invokespecial 39, 3) := dchk_at dgX0_init_52_ 15 rfl
theorem dX0_init_81 : decode cX0_init 81 = .ok (.aastore, 1) := dchk_at dgX0_init_52_ 16 rfl
theorem dX0_init_82 : decode cX0_init 82 = .ok (.iinc 2 1, 3) := dchk_at dgX0_init_52_ 17 rfl
theorem dX0_init_85 : decode cX0_init 85 = .ok (.goto (-22), 3) := dchk_at dgX0_init_52_ 18 rfl
theorem dX0_init_88 : decode cX0_init 88 = .ok (.return_, 1) := dchk_at dgX0_init_52_ 19 rfl
set_option maxRecDepth 20000 in
theorem gw_wsX5_init : wsX5_init.all goodWord = true := by decide +kernel
set_option maxRecDepth 20000 in
theorem ggX1_init_X5_init : GoodIn wsX1_init wsX5_init := goodIn_r _ [10, 11, 2, 3, 12, 13, 14, 15, 16, 17, 18, 19] rfl gw_wsX5_init
set_option maxRecDepth 20000 in
theorem gX1_init_X5_init_n11 : GoodIn wsX1_init (wsX5_init) := ggX1_init_X5_init
theorem dgX1_init_0_ : dchk cX1_init [(0, .aload_n 0, 1), (1, .invokespecial 3, 3), (4, .aload_n 0, 1), (5, .new 9, 3), (8, .dup, 1), (9, .invokespecial 11, 3), (12, .putfield 12, 3), (15, .aload_n 0, 1), (16, .aload_n 1, 1), (17, .putfield 18, 3), (20, .return_, 1)] = true := by decide +kernel
theorem dX1_init_0 : decode cX1_init 0 = .ok (.aload_n 0, 1) := dchk_at dgX1_init_0_ 0 rfl
theorem dX1_init_1 : decode cX1_init 1 = .ok (.invokespecial 3, 3) := dchk_at dgX1_init_0_ 1 rfl
theorem dX1_init_4 : decode cX1_init 4 = .ok (.aload_n 0, 1) := dchk_at dgX1_init_0_ 2 rfl
theorem dX1_init_5 : decode cX1_init 5 = .ok (.new 9, 3) := dchk_at dgX1_init_0_ 3 rfl
theorem dX1_init_8 : decode cX1_init 8 = .ok (.dup, 1) := dchk_at dgX1_init_0_ 4 rfl
theorem dX1_init_9 : decode cX1_init 9 = .ok (.invokespecial 11, 3) := dchk_at dgX1_init_0_ 5 rfl
theorem dX1_init_12 : decode cX1_init 12 = .ok (.putfield 12, 3) := dchk_at dgX1_init_0_ 6 rfl
theorem dX1_init_15 : decode cX1_init 15 = .ok (.aload_n 0, 1) := dchk_at dgX1_init_0_ 7 rfl
theorem dX1_init_16 : decode cX1_init 16 = .ok (.aload_n 1, 1) := dchk_at dgX1_init_0_ 8 rfl
theorem dX1_init_17 : decode cX1_init 17 = .ok (.putfield 18, 3) := dchk_at dgX1_init_0_ 9 rfl
theorem dX1_init_20 : decode cX1_init 20 = .ok (.return_, 1) := dchk_at dgX1_init_0_ 10 rfl
theorem dgX2_init_0_ : dchk cX2_init [(0, .aload_n 0, 1), (1, .invokespecial 3, 3), (4, .aload_n 0, 1), (5, .iconst (-1), 1), (6, .putfield 9, 3), (9, .aload_n 0, 1), (10, .bipush 24, 2), (12, .newarray .int, 2), (14, .putfield 15, 3), (17, .return_, 1)] = true := by decide +kernel
theorem dX2_init_0 : decode cX2_init 0 = .ok (.aload_n 0, 1) := dchk_at dgX2_init_0_ 0 rfl
theorem dX2_init_1 : decode cX2_init 1 = .ok (.invokespecial 3, 3) := dchk_at dgX2_init_0_ 1 rfl
theorem dX2_init_4 : decode cX2_init 4 = .ok (.aload_n 0, 1) := dchk_at dgX2_init_0_ 2 rfl
theorem dX2_init_5 : decode cX2_init 5 = .ok (.iconst (-1), 1) := dchk_at dgX2_init_0_ 3 rfl
theorem dX2_init_6 : decode cX2_init 6 = .ok (.putfield 9, 3) := dchk_at dgX2_init_0_ 4 rfl
theorem dX2_init_9 : decode cX2_init 9 = .ok (.aload_n 0, 1) := dchk_at dgX2_init_0_ 5 rfl
theorem dX2_init_10 : decode cX2_init 10 = .ok (.bipush 24, 2) := dchk_at dgX2_init_0_ 6 rfl
theorem dX2_init_12 : decode cX2_init 12 = .ok (.newarray .int, 2) := dchk_at dgX2_init_0_ 7 rfl
theorem dX2_init_14 : decode cX2_init 14 = .ok (.putfield 15, 3) := dchk_at dgX2_init_0_ 8 rfl
theorem dX2_init_17 : decode cX2_init 17 = .ok (.return_, 1) := dchk_at dgX2_init_0_ 9 rfl
set_option maxRecDepth 20000 in
theorem ggX3_init_X4_init : GoodIn wsX3_init wsX4_init := goodIn_r _ [14, 15, 2, 3] rfl gw_wsX4_init
set_option maxRecDepth 20000 in
theorem gX3_init_X4_init_n17 : GoodIn wsX3_init (wsX4_init) := ggX3_init_X4_init
set_option maxRecDepth 20000 in
theorem gw_wsX2_init : wsX2_init.all goodWord = true := by decide +kernel
set_option maxRecDepth 20000 in
theorem ggX3_init_X2_init : GoodIn wsX3_init wsX2_init := goodIn_r _ [17, 18, 2, 3, 19, 20, 21, 30, 31, 32] rfl gw_wsX2_init
set_option maxRecDepth 20000 in
theorem gX3_init_X2_init_n24 : GoodIn wsX3_init (wsX2_init) := ggX3_init_X2_init
theorem dgX3_init_0_ : dchk cX3_init [(0, .aload_n 0, 1), (1, .invokespecial 3, 3), (4, .aload_n 0, 1), (5, .iconst 0, 1), (6, .putfield 9, 3), (9, .aload_n 0, 1), (10, .new 15, 3), (13, .dup, 1), (14, .invokespecial 17, 3), (17, .putfield 18, 3), (20, .aload_n 0, 1), (21, .new 22, 3), (24, .dup, 1), (25, .invokespecial 24, 3), (28, .putfield 25, 3), (31, .return_, 1)] = true := by decide +kernel
theorem dX3_init_0 : decode cX3_init 0 = .ok (.aload_n 0, 1) := dchk_at dgX3_init_0_ 0 rfl
theorem dX3_init_1 : decode cX3_init 1 = .ok (.invokespecial 3, 3) := dchk_at dgX3_init_0_ 1 rfl
theorem dX3_init_4 : decode cX3_init 4 = .ok (.aload_n 0, 1) := dchk_at dgX3_init_0_ 2 rfl
theorem dX3_init_5 : decode cX3_init 5 = .ok (.iconst 0, 1) := dchk_at dgX3_init_0_ 3 rfl
theorem dX3_init_6 : decode cX3_init 6 = .ok (.putfield 9, 3) := dchk_at dgX3_init_0_ 4 rfl
theorem dX3_init_9 : decode cX3_init 9 = .ok (.aload_n 0, 1) := dchk_at dgX3_init_0_ 5 rfl
theorem dX3_init_10 : decode cX3_init 10 = .ok (.new 15, 3) := dchk_at dgX3_init_0_ 6 rfl
theorem dX3_init_13 : decode cX3_init 13 = .ok (.dup, 1) := dchk_at dgX3_init_0_ 7 rfl
theorem dX3_init_14 : decode cX3_init 14 = .ok (.invokespecial 17, 3) := dchk_at dgX3_init_0_ 8 rfl
theorem dX3_init_17 : decode cX3_init 17 = .ok (.putfield 18, 3) := dchk_at dgX3_init_0_ 9 rfl
theorem dX3_init_20 : decode cX3_init 20 = .ok (.aload_n 0, 1) := dchk_at dgX3_init_0_ 10 rfl
theorem dX3_init_21 : decode cX3_init 21 = .ok (.new 22, 3) := dchk_at dgX3_init_0_ 11 rfl
theorem dX3_init_24 : decode cX3_init 24 = .ok (.dup, 1) := dchk_at dgX3_init_0_ 12 rfl
theorem dX3_init_25 : decode cX3_init 25 = .ok (.invokespecial 24, 3) := dchk_at dgX3_init_0_ 13 rfl
theorem dX3_init_28 : decode cX3_init 28 = .ok (.putfield 25, 3) := dchk_at dgX3_init_0_ 14 rfl
theorem dX3_init_31 : decode cX3_init 31 = .ok (.return_, 1) := dchk_at dgX3_init_0_ 15 rfl
theorem dgX4_init_0_ : dchk cX4_init [(0, .aload_n 0, 1), (1, .invokespecial 3, 3), (4, .return_, 1)] = true := by decide +kernel
theorem dX4_init_0 : decode cX4_init 0 = .ok (.aload_n 0, 1) := dchk_at dgX4_init_0_ 0 rfl
theorem dX4_init_1 : decode cX4_init 1 = .ok (.invokespecial 3, 3) := dchk_at dgX4_init_0_ 1 rfl
theorem dX4_init_4 : decode cX4_init 4 = .ok (.return_, 1) := dchk_at dgX4_init_0_ 2 rfl
theorem dgX5_init_0_ : dchk cX5_init [(0, .aload_n 0, 1), (1, .invokespecial 3, 3), (4, .aload_n 0, 1), (5, .bipush 96, 2), (7, .newarray .int, 2), (9, .putfield 9, 3), (12, .aload_n 0, 1), (13, .bipush 96, 2), (15, .newarray .int, 2), (17, .putfield 15, 3), (20, .return_, 1)] = true := by decide +kernel
theorem dX5_init_0 : decode cX5_init 0 = .ok (.aload_n 0, 1) := dchk_at dgX5_init_0_ 0 rfl
theorem dX5_init_1 : decode cX5_init 1 = .ok (.invokespecial 3, 3) := dchk_at dgX5_init_0_ 1 rfl
theorem dX5_init_4 : decode cX5_init 4 = .ok (.aload_n 0, 1) := dchk_at dgX5_init_0_ 2 rfl
theorem dX5_init_5 : decode cX5_init 5 = .ok (.bipush 96, 2) := dchk_at dgX5_init_0_ 3 rfl
theorem dX5_init_7 : decode cX5_init 7 = .ok (.newarray .int, 2) := dchk_at dgX5_init_0_ 4 rfl
theorem dX5_init_9 : decode cX5_init 9 = .ok (.putfield 9, 3) := dchk_at dgX5_init_0_ 5 rfl
theorem dX5_init_12 : decode cX5_init 12 = .ok (.aload_n 0, 1) := dchk_at dgX5_init_0_ 6 rfl
theorem dX5_init_13 : decode cX5_init 13 = .ok (.bipush 96, 2) := dchk_at dgX5_init_0_ 7 rfl
theorem dX5_init_15 : decode cX5_init 15 = .ok (.newarray .int, 2) := dchk_at dgX5_init_0_ 8 rfl
theorem dX5_init_17 : decode cX5_init 17 = .ok (.putfield 15, 3) := dchk_at dgX5_init_0_ 9 rfl
theorem dX5_init_20 : decode cX5_init 20 = .ok (.return_, 1) := dchk_at dgX5_init_0_ 10 rfl
set_option maxRecDepth 20000 in
theorem ggX6_init_X5_init : GoodIn wsX6_init wsX5_init := goodIn_r _ [31, 32, 2, 3, 10, 33, 34, 88, 89, 90, 91, 92] rfl gw_wsX5_init
set_option maxRecDepth 20000 in
theorem gX6_init_X5_init_n33 : GoodIn wsX6_init (wsX5_init) := ggX6_init_X5_init
set_option maxRecDepth 20000 in
theorem gw_wsX0_init : wsX0_init.all goodWord = true := by decide +kernel
set_option maxRecDepth 20000 in
theorem ggX6_init_X0_init : GoodIn wsX6_init wsX0_init := goodIn_r _ [37, 38, 2, 3, 39, 40, 10, 41, 42, 43, 44, 45, 46, 47, 48, 49, 50, 51, 52, 93, 94, 95, 96, 97, 98, 99, 100, 101, 102, 103, 104, 105, 106, 122, 123, 124, 125] rfl gw_wsX0_init
set_option maxRecDepth 20000 in
theorem gX6_init_X0_init : GoodIn wsX6_init (wsX0_init) := ggX6_init_X0_init
set_option maxRecDepth 20000 in
theorem ggX6_init_X2_init : GoodIn wsX6_init wsX2_init := goodIn_r _ [54, 55, 2, 3, 56, 10, 57, 107, 108, 109] rfl gw_wsX2_init
set_option maxRecDepth 20000 in
theorem gX6_init_X2_init_n37 : GoodIn wsX6_init (wsX2_init) := ggX6_init_X2_init
set_option maxRecDepth 20000 in
theorem gw_wsX3_init : wsX3_init.all goodWord = true := by decide +kernel
set_option maxRecDepth 20000 in
theorem ggX6_init_X3_init : GoodIn wsX6_init wsX3_init := goodIn_r _ [59, 60, 2, 3, 61, 62, 48, 49, 63, 64, 17, 18, 65, 50, 51, 52, 53, 54, 55, 56, 10, 57, 110, 111, 112, 113, 122, 123, 124, 125, 107, 108, 109] rfl gw_wsX3_init
set_option maxRecDepth 20000 in
theorem gX6_init_X3_init_n38 : GoodIn wsX6_init (wsX3_init) := ggX6_init_X3_init
set_option maxRecDepth 20000 in
theorem gw_wsX1_init : wsX1_init.all goodWord = true := by decide +kernel
set_option maxRecDepth 20000 in
theorem ggX6_init_X1_init : GoodIn wsX6_init wsX1_init := goodIn_r _ [68, 69, 2, 3, 70, 13, 14, 71, 72, 30, 31, 32, 10, 33, 34, 88, 89, 90, 91, 92, 114, 115, 116, 117, 118, 119, 120, 121] rfl gw_wsX1_init
set_option maxRecDepth 20000 in
theorem gX6_init_X1_init : GoodIn wsX6_init (wsX1_init) := ggX6_init_X1_init
theorem dgX6_init_0_ : dchk cX6_init [(0, .aload_n 0, 1), (1, .invokespecial 1, 3), (4, .aload_n 0, 1), (5, .bipush 6, 2), (7, .anewarray 9, 3), (10, .putfield 11, 3), (13, .aload_n 0, 1), (14, .iconst 4, 1), (15, .anewarray 15, 3), (18, .putfield 17, 3), (21, .aload_n 0, 1), (22, .iconst 5, 1), (23, .anewarray 21, 3), (26, .putfield 23, 3), (29, .aload_n 0, 1), (30, .bipush 60, 2), (32, .newarray .int, 2), (34, .putfield 27, 3), (37, .bipush 14, 2), (39, .anewarray 31, 3), (42, .astore_n 1, 1), (43, .iconst 0, 1), (44, .istore_n 2, 1), (45, .iload_n 2, 1), (46, .bipush 14, 2), (48, .if_icmp .ge 19, 3), (51, .aload_n 1, 1), (52, .iload_n 2, 1), (53, .new 31, 3), (56, .dup, 1), (57, .invokespecial 33, 3), (60, .aastore, 1)] = true := by decide +kernel
theorem dX6_init_0 : decode cX6_init 0 = .ok (.aload_n 0, 1) := dchk_at dgX6_init_0_ 0 rfl
theorem dX6_init_1 : decode cX6_init 1 = .ok (.invokespecial 1, 3) := dchk_at dgX6_init_0_ 1 rfl
theorem dX6_init_4 : decode cX6_init 4 = .ok (.aload_n 0, 1) := dchk_at dgX6_init_0_ 2 rfl
theorem dX6_init_5 : decode cX6_init 5 = .ok (.bipush 6, 2) := dchk_at dgX6_init_0_ 3 rfl
theorem dX6_init_7 : decode cX6_init 7 = .ok (.anewarray 9, 3) := dchk_at dgX6_init_0_ 4 rfl
theorem dX6_init_10 : decode cX6_init 10 = .ok (.putfield 11, 3) := dchk_at dgX6_init_0_ 5 rfl
theorem dX6_init_13 : decode cX6_init 13 = .ok (.aload_n 0, 1) := dchk_at dgX6_init_0_ 6 rfl
theorem dX6_init_14 : decode cX6_init 14 = .ok (.iconst 4, 1) := dchk_at dgX6_init_0_ 7 rfl
theorem dX6_init_15 : decode cX6_init 15 = .ok (.anewarray 15, 3) := dchk_at dgX6_init_0_ 8 rfl
theorem dX6_init_18 : decode cX6_init 18 = .ok (.putfield 17, 3) := dchk_at dgX6_init_0_ 9 rfl
theorem dX6_init_21 : decode cX6_init 21 = .ok (.aload_n 0, 1) := dchk_at dgX6_init_0_ 10 rfl
theorem dX6_init_22 : decode cX6_init 22 = .ok (.iconst 5, 1) := dchk_at dgX6_init_0_ 11 rfl
theorem dX6_init_23 : decode cX6_init 23 = .ok (.anewarray 21, 3) := dchk_at dgX6_init_0_ 12 rfl
theorem dX6_init_26 : decode cX6_init 26 = .ok (.putfield 23, 3) := dchk_at dgX6_init_0_ 13 rfl
theorem dX6_init_29 : decode cX6_init 29 = .ok (.aload_n 0, 1) := dchk_at dgX6_init_0_ 14 rfl
theorem dX6_init_30 : decode cX6_init 30 = .ok (.bipush 60, 2) := dchk_at dgX6_init_0_ 15 rfl
theorem dX6_init_32 : decode cX6_init 32 = .ok (.newarray .int, 2) := dchk_at dgX6_init_0_ 16 rfl
theorem dX6_init_34 : decode cX6_init 34 = .ok (.putfield 27, 3) := dchk_at dgX6_init_0_ 17 rfl
theorem dX6_init_37 : decode cX6_init 37 = .ok (.bipush 14, 2) := dchk_at dgX6_init_0_ 18 rfl
theorem dX6_init_39 : decode cX6_init 39 = .ok (.anewarray 31, 3) := dchk_at dgX6_init_0_ 19 rfl
theorem dX6_init_42 : decode cX6_init 42 = .ok (.astore_n 1, 1) := dchk_at dgX6_init_0_ 20 rfl
theorem dX6_init_43 : decode cX6_init 43 = .ok (.iconst 0, 1) := dchk_at dgX6_init_0_ 21 rfl
theorem dX6_init_44 : decode cX6_init 44 = .ok (.istore_n 2, 1) := dchk_at dgX6_init_0_ 22 rfl
theorem dX6_init_45 : decode cX6_init 45 = .ok (.iload_n 2, 1) := dchk_at dgX6_init_0_ 23 rfl
theorem dX6_init_46 : decode cX6_init 46 = .ok (.bipush 14, 2) := dchk_at dgX6_init_0_ 24 rfl
theorem dX6_init_48 : decode cX6_init 48 = .ok (.if_icmp .ge 19, 3) := dchk_at dgX6_init_0_ 25 rfl
theorem dX6_init_51 : decode cX6_init 51 = .ok (.aload_n 1, 1) := dchk_at dgX6_init_0_ 26 rfl
theorem dX6_init_52 : decode cX6_init 52 = .ok (.iload_n 2, 1) := dchk_at dgX6_init_0_ 27 rfl
theorem dX6_init_53 : decode cX6_init 53 = .ok (.new 31, 3) := dchk_at dgX6_init_0_ 28 rfl
theorem dX6_init_56 : decode cX6_init 56 = .ok (.dup, 1) := dchk_at dgX6_init_0_ 29 rfl
theorem dX6_init_57 : decode cX6_init 57 = .ok (.invokespecial 33, 3) := dchk_at dgX6_init_0_ 30 rfl
theorem dX6_init_60 : decode cX6_init 60 = .ok (.aastore, 1) := dchk_at dgX6_init_0_ 31 rfl
theorem dgX6_init_61_ : dchk cX6_init [(61, .iinc 2 1, 3), (64, .goto (-19), 3), (67, .bipush 96, 2), (69, .newarray .int, 2), (71, .astore_n 2, 1), (72, .iconst 0, 1), (73, .istore_n 3, 1), (74, .iload_n 3, 1), (75, .iconst 5, 1), (76, .if_icmp .gt 23, 3), (79, .aload_n 0, 1), (80, .getfield 11, 3), (83, .iload_n 3, 1), (84, .new 9, 3), (87, .dup, 1), (88, .aload_n 1, 1), (89, .invokespecial 34, 3), (92, .aastore, 1), (93, .iinc 3 1, 3), (96, .goto (-22), 3), (99, .iconst 0, 1), (100, .istore_n 3, 1), (101, .iload_n 3, 1), (102, .iconst 4, 1), (103, .if_icmp .ge 22, 3), (106, .aload_n 0, 1), (107, .getfield 17, 3), (110, .iload_n 3, 1), (111, .new 15, 3), (114, .dup, 1), (115, .invokespecial 37, 3), (118, .aastore, 1)] = true := by decide +kernel
theorem dX6_init_61 : decode cX6_init 61 = .ok (.iinc 2 1, 3) := dchk_at dgX6_init_61_ 0 rfl
theorem dX6_init_64 : decode cX6_init 64 = .ok (.goto (-19), 3) := dchk_at dgX6_init_61_ 1 rfl
theorem dX6_init_67 : decode cX6_init 67 = .ok (.bipush 96, 2) := dchk_at dgX6_init_61_ 2 rfl
theorem dX6_init_69 : decode cX6_init 69 = .ok (.newarray .int, 2) := dchk_at dgX6_init_61_ 3 rfl
theorem dX6_init_71 : decode cX6_init 71 = .ok (.astore_n 2, 1) := dchk_at dgX6_init_61_ 4 rfl
theorem dX6_init_72 : decode cX6_init 72 = .ok (.iconst 0, 1) := dchk_at dgX6_init_61_ 5 rfl
theorem dX6_init_73 : decode cX6_init 73 = .ok (.istore_n 3, 1) := dchk_at dgX6_init_61_ 6 rfl
theorem dX6_init_74 : decode cX6_init 74 = .ok (.iload_n 3, 1) := dchk_at dgX6_init_61_ 7 rfl
theorem dX6_init_75 : decode cX6_init 75 = .ok (.iconst 5, 1) := dchk_at dgX6_init_61_ 8 rfl
theorem dX6_init_76 : decode cX6_init 76 = .ok (.if_icmp .gt 23, 3) := dchk_at dgX6_init_61_ 9 rfl
theorem dX6_init_79 : decode cX6_init 79 = .ok (.aload_n 0, 1) := dchk_at dgX6_init_61_ 10 rfl
theorem dX6_init_80 : decode cX6_init 80 = .ok (.getfield 11, 3) := dchk_at dgX6_init_61_ 11 rfl
theorem dX6_init_83 : decode cX6_init 83 = .ok (.iload_n 3, 1) := dchk_at dgX6_init_61_ 12 rfl
theorem dX6_init_84 : decode cX6_init 84 = .ok (.new 9, 3) := dchk_at dgX6_init_61_ 13 rfl
theorem dX6_init_87 : decode cX6_init 87 = .ok (.dup, 1) := dchk_at dgX6_init_61_ 14 rfl
theorem dX6_init_88 : decode cX6_init 88 = .ok (.aload_n 1, 1) := dchk_at dgX6_init_61_ 15 rfl
theorem dX6_init_89 : decode cX6_init 89 = .ok (.invokespecial 34, 3) := dchk_at dgX6_init_61_ 16 rfl
theorem dX6_init_92 : decode cX6_init 92 = .ok (.aastore, 1) := dchk_at dgX6_init_61_ 17 rfl
theorem dX6_init_93 : decode cX6_init 93 = .ok (.iinc 3 1, 3) := dchk_at dgX6_init_61_ 18 rfl
theorem dX6_init_96 : decode cX6_init 96 = .ok (.goto (-22), 3) := dchk_at dgX6_init_61_ 19 rfl
theorem dX6_init_99 : decode cX6_init 99 = .ok (.iconst 0, 1) := dchk_at dgX6_init_61_ 20 rfl
theorem dX6_init_100 : decode cX6_init 100 = .ok (.istore_n 3, 1) := dchk_at dgX6_init_61_ 21 rfl
theorem dX6_init_101 : decode cX6_init 101 = .ok (.iload_n 3, 1) := dchk_at dgX6_init_61_ 22 rfl
theorem dX6_init_102 : decode cX6_init 102 = .ok (.iconst 4, 1) := dchk_at dgX6_init_61_ 23 rfl
theorem dX6_init_103 : decode cX6_init 103 = .ok (.if_icmp .ge 22, 3) := dchk_at dgX6_init_61_ 24 rfl
theorem dX6_init_106 : decode cX6_init 106 = .ok (.aload_n 0, 1) := dchk_at dgX6_init_61_ 25 rfl
theorem dX6_init_107 : decode cX6_init 107 = .ok (.getfield 17, 3) := dchk_at dgX6_init_61_ 26 rfl
theorem dX6_init_110 : decode cX6_init 110 = .ok (.iload_n 3, 1) := dchk_at dgX6_init_61_ 27 rfl
theorem dX6_init_111 : decode cX6_init 111 = .ok (.new 15, 3) := dchk_at dgX6_init_61_ 28 rfl
theorem dX6_init_114 : decode cX6_init 114 = .ok (.dup, 1) := dchk_at dgX6_init_61_ 29 rfl
theorem dX6_init_115 : decode cX6_init 115 = .ok (.invokespecial 37, 3) := dchk_at dgX6_init_61_ 30 rfl
theorem dX6_init_118 : decode cX6_init 118 = .ok (.aastore, 1) := dchk_at dgX6_init_61_ 31 rfl
theorem dgX6_init_119_ : dchk cX6_init [(119, .iinc 3 1, 3), (122, .goto (-21), 3), (125, .iconst 0, 1), (126, .istore_n 3, 1), (127, .iload_n 3, 1), (128, .iconst 5, 1), (129, .if_icmp .ge 22, 3), (132, .aload_n 0, 1), (133, .getfield 23, 3), (136, .iload_n 3, 1), (137, .new 21, 3), (140, .dup, 1), (141, .invokespecial 38, 3), (144, .aastore, 1), (145, .iinc 3 1, 3), (148, .goto (-21), 3), (151, .aload_n 0, 1), (152, .new 9, 3), (155, .dup, 1), (156, .aload_n 1, 1), (157, .invokespecial 34, 3), (160, .putfield 39, 3), (163, .aload_n 0, 1), (164, .new 9, 3), (167, .dup, 1), (168, .aload_n 1, 1), (169, .invokespecial 34, 3), (172, .putfield 43, 3), (175, .aload_n 0, 1), (176, .new 9, 3), (179, .dup, 1), (180, .aload_n 1, 1)] = true := by decide +kernel
theorem dX6_init_119 : decode cX6_init 119 = .ok (.iinc 3 1, 3) := dchk_at dgX6_init_119_ 0 rfl
theorem dX6_init_122 : decode cX6_init 122 = .ok (.goto (-21), 3) := dchk_at dgX6_init_119_ 1 rfl
theorem dX6_init_125 : decode cX6_init 125 = .ok (.iconst 0, 1) := dchk_at dgX6_init_119_ 2 rfl
theorem dX6_init_126 : decode cX6_init 126 = .ok (.istore_n 3, 1) := dchk_at dgX6_init_119_ 3 rfl
theorem dX6_init_127 : decode cX6_init 127 = .ok (.iload_n 3, 1) := dchk_at dgX6_init_119_ 4 rfl
theorem dX6_init_128 : decode cX6_init 128 = .ok (.iconst 5, 1) := dchk_at dgX6_init_119_ 5 rfl
theorem dX6_init_129 : decode cX6_init 129 = .ok (.if_icmp .ge 22, 3) := dchk_at dgX6_init_119_ 6 rfl
theorem dX6_init_132 : decode cX6_init 132 = .ok (.aload_n 0, 1) := dchk_at dgX6_init_119_ 7 rfl
theorem dX6_init_133 : decode cX6_init 133 = .ok (.getfield 23, 3) := dchk_at dgX6_init_119_ 8 rfl
theorem dX6_init_136 : decode cX6_init 136 = .ok (.iload_n 3, 1) := dchk_at dgX6_init_119_ 9 rfl
theorem dX6_init_137 : decode cX6_init 137 = .ok (.new 21, 3) := dchk_at dgX6_init_119_ 10 rfl
theorem dX6_init_140 : decode cX6_init 140 = .ok (.dup, 1) := dchk_at dgX6_init_119_ 11 rfl
theorem dX6_init_141 : decode cX6_init 141 = .ok (.invokespecial 38, 3) := dchk_at dgX6_init_119_ 12 rfl
theorem dX6_init_144 : decode cX6_init 144 = .ok (.aastore, 1) := dchk_at dgX6_init_119_ 13 rfl
theorem dX6_init_145 : decode cX6_init 145 = .ok (.iinc 3 1, 3) := dchk_at dgX6_init_119_ 14 rfl
theorem dX6_init_148 : decode cX6_init 148 = .ok (.goto (-21), 3) := dchk_at dgX6_init_119_ 15 rfl
theorem dX6_init_151 : decode cX6_init 151 = .ok (.aload_n 0, 1) := dchk_at dgX6_init_119_ 16 rfl
theorem dX6_init_152 : decode cX6_init 152 = .ok (.new 9, 3) := dchk_at dgX6_init_119_ 17 rfl
theorem dX6_init_155 : decode cX6_init 155 = .ok (.dup, 1) := dchk_at dgX6_init_119_ 18 rfl
theorem dX6_init_156 : decode cX6_init 156 = .ok (.aload_n 1, 1) := dchk_at dgX6_init_119_ 19 rfl
theorem dX6_init_157 : decode cX6_init 157 = .ok (.invokespecial 34, 3) := dchk_at dgX6_init_119_ 20 rfl
theorem dX6_init_160 : decode cX6_init 160 = .ok (.putfield 39, 3) := dchk_at dgX6_init_119_ 21 rfl
theorem dX6_init_163 : decode cX6_init 163 = .ok (.aload_n 0, 1) := dchk_at dgX6_init_119_ 22 rfl
theorem dX6_init_164 : decode cX6_init 164 = .ok (.new 9, 3) := dchk_at dgX6_init_119_ 23 rfl
theorem dX6_init_167 : decode cX6_init 167 = .ok (.dup, 1) := dchk_at dgX6_init_119_ 24 rfl
theorem dX6_init_168 : decode cX6_init 168 = .ok (.aload_n 1, 1) := dchk_at dgX6_init_119_ 25 rfl
theorem dX6_init_169 : decode cX6_init 169 = .ok (.invokespecial 34, 3) := dchk_at dgX6_init_119_ 26 rfl
theorem dX6_init_172 : decode cX6_init 172 = .ok (.putfield 43, 3) := dchk_at dgX6_init_119_ 27 rfl
theorem dX6_init_175 : decode cX6_init 175 = .ok (.aload_n 0, 1) := dchk_at dgX6_init_119_ 28 rfl
theorem dX6_init_176 : decode cX6_init 176 = .ok (.new 9, 3) := dchk_at dgX6_init_119_ 29 rfl
theorem dX6_init_179 : decode cX6_init 179 = .ok (.dup, 1) := dchk_at dgX6_init_119_ 30 rfl
theorem dX6_init_180 : decode cX6_init 180 = .ok (.aload_n 1, 1) := dchk_at dgX6_init_119_ 31 rfl
theorem dgX6_init_181_ : dchk cX6_init [(181, .invokespecial 34, 3), (184, .putfield 46, 3), (187, .aload_n 0, 1), (188, .new 49, 3), (191, .dup, 1), (192, .aload_n 2, 1), (193, .invokespecial 51, 3), (196, .putfield 54, 3), (199, .aload_n 0, 1), (200, .aload_n 1, 1), (201, .putfield 58, 3), (204, .aload_n 0, 1), (205, .aload_n 2, 1), (206, .putfield 62, 3), (209, .return_, 1)] = true := by decide +kernel
theorem dX6_init_181 : decode cX6_init 181 = .ok (.invokespecial 34, 3) := dchk_at dgX6_init_181_ 0 rfl
theorem dX6_init_184 : decode cX6_init 184 = .ok (.putfield 46, 3) := dchk_at dgX6_init_181_ 1 rfl
theorem dX6_init_187 : decode cX6_init 187 = .ok (.aload_n 0, 1) := dchk_at dgX6_init_181_ 2 rfl
theorem dX6_init_188 : decode cX6_init 188 = .ok (.new 49, 3) := dchk_at dgX6_init_181_ 3 rfl
theorem dX6_init_191 : decode cX6_init 191 = .ok (.dup, 1) := dchk_at dgX6_init_181_ 4 rfl
theorem dX6_init_192 : decode cX6_init 192 = .ok (.aload_n 2, 1) := dchk_at dgX6_init_181_ 5 rfl
theorem dX6_init_193 : decode cX6_init 193 = .ok (.invokespecial 51, 3) := dchk_at dgX6_init_181_ 6 rfl
theorem dX6_init_196 : decode cX6_init 196 = .ok (.putfield 54, 3) := dchk_at dgX6_init_181_ 7 rfl
theorem dX6_init_199 : decode cX6_init 199 = .ok (.aload_n 0, 1) := dchk_at dgX6_init_181_ 8 rfl
theorem dX6_init_200 : decode cX6_init 200 = .ok (.aload_n 1, 1) := dchk_at dgX6_init_181_ 9 rfl
theorem dX6_init_201 : decode cX6_init 201 = .ok (.putfield 58, 3) := dchk_at dgX6_init_181_ 10 rfl
theorem dX6_init_204 : decode cX6_init 204 = .ok (.aload_n 0, 1) := dchk_at dgX6_init_181_ 11 rfl
theorem dX6_init_205 : decode cX6_init 205 = .ok (.aload_n 2, 1) := dchk_at dgX6_init_181_ 12 rfl
theorem dX6_init_206 : decode cX6_init 206 = .ok (.putfield 62, 3) := dchk_at dgX6_init_181_ 13 rfl
theorem dX6_init_209 : decode cX6_init 209 = .ok (.return_, 1) := dchk_at dgX6_init_181_ 14 rfl
theorem dgX7_init_0_ : dchk cX7_init [(0, .aload_n 0, 1), (1, .invokespecial 1, 3), (4, .aload_n 0, 1), (5, .sipush 3047, 3), (8, .newarray .int, 2), (10, .putfield 7, 3), (13, .aload_n 0, 1), (14, .sipush 3047, 3), (17, .newarray .int, 2), (19, .putfield 13, 3), (22, .aload_n 0, 1), (23, .sipush 3047, 3), (26, .newarray .int, 2), (28, .putfield 16, 3), (31, .aload_n 0, 1), (32, .iconst 4, 1), (33, .newarray .int, 2), (35, .putfield 19, 3), (38, .aload_n 0, 1), (39, .iconst 4, 1), (40, .newarray .int, 2), (42, .putfield 22, 3), (45, .aload_n 0, 1), (46, .bipush 96, 2), (48, .newarray .int, 2), (50, .putfield 25, 3), (53, .aload_n 0, 1), (54, .iconst 5, 1), (55, .newarray .int, 2), (57, .putfield 28, 3), (60, .aload_n 0, 1), (61, .iconst 5, 1)] = true := by decide +kernel
theorem dX7_init_0 : decode cX7_init 0 = .ok (.aload_n 0, 1) := dchk_at dgX7_init_0_ 0 rfl
theorem dX7_init_1 : decode cX7_init 1 = .ok (.invokespecial 1, 3) := dchk_at dgX7_init_0_ 1 rfl
theorem dX7_init_4 : decode cX7_init 4 = .ok (.aload_n 0, 1) := dchk_at dgX7_init_0_ 2 rfl
theorem dX7_init_5 : decode cX7_init 5 = .ok (.sipush 3047, 3) := dchk_at dgX7_init_0_ 3 rfl
theorem dX7_init_8 : decode cX7_init 8 = .ok (.newarray .int, 2) := dchk_at dgX7_init_0_ 4 rfl
theorem dX7_init_10 : decode cX7_init 10 = .ok (.putfield 7, 3) := dchk_at dgX7_init_0_ 5 rfl
theorem dX7_init_13 : decode cX7_init 13 = .ok (.aload_n 0, 1) := dchk_at dgX7_init_0_ 6 rfl
theorem dX7_init_14 : decode cX7_init 14 = .ok (.sipush 3047, 3) := dchk_at dgX7_init_0_ 7 rfl
theorem dX7_init_17 : decode cX7_init 17 = .ok (.newarray .int, 2) := dchk_at dgX7_init_0_ 8 rfl
theorem dX7_init_19 : decode cX7_init 19 = .ok (.putfield 13, 3) := dchk_at dgX7_init_0_ 9 rfl
theorem dX7_init_22 : decode cX7_init 22 = .ok (.aload_n 0, 1) := dchk_at dgX7_init_0_ 10 rfl
theorem dX7_init_23 : decode cX7_init 23 = .ok (.sipush 3047, 3) := dchk_at dgX7_init_0_ 11 rfl
theorem dX7_init_26 : decode cX7_init 26 = .ok (.newarray .int, 2) := dchk_at dgX7_init_0_ 12 rfl
theorem dX7_init_28 : decode cX7_init 28 = .ok (.putfield 16, 3) := dchk_at dgX7_init_0_ 13 rfl
theorem dX7_init_31 : decode cX7_init 31 = .ok (.aload_n 0, 1) := dchk_at dgX7_init_0_ 14 rfl
theorem dX7_init_32 : decode cX7_init 32 = .ok (.iconst 4, 1) := dchk_at dgX7_init_0_ 15 rfl
theorem dX7_init_33 : decode cX7_init 33 = .ok (.newarray .int, 2) := dchk_at dgX7_init_0_ 16 rfl
theorem dX7_init_35 : decode cX7_init 35 = .ok (.putfield 19, 3) := dchk_at dgX7_init_0_ 17 rfl
theorem dX7_init_38 : decode cX7_init 38 = .ok (.aload_n 0, 1) := dchk_at dgX7_init_0_ 18 rfl
theorem dX7_init_39 : decode cX7_init 39 = .ok (.iconst 4, 1) := dchk_at dgX7_init_0_ 19 rfl
theorem dX7_init_40 : decode cX7_init 40 = .ok (.newarray .int, 2) := dchk_at dgX7_init_0_ 20 rfl
theorem dX7_init_42 : decode cX7_init 42 = .ok (.putfield 22, 3) := dchk_at dgX7_init_0_ 21 rfl
theorem dX7_init_45 : decode cX7_init 45 = .ok (.aload_n 0, 1) := dchk_at dgX7_init_0_ 22 rfl
theorem dX7_init_46 : decode cX7_init 46 = .ok (.bipush 96, 2) := dchk_at dgX7_init_0_ 23 rfl
theorem dX7_init_48 : decode cX7_init 48 = .ok (.newarray .int, 2) := dchk_at dgX7_init_0_ 24 rfl
theorem dX7_init_50 : decode cX7_init 50 = .ok (.putfield 25, 3) := dchk_at dgX7_init_0_ 25 rfl
theorem dX7_init_53 : decode cX7_init 53 = .ok (.aload_n 0, 1) := dchk_at dgX7_init_0_ 26 rfl
theorem dX7_init_54 : decode cX7_init 54 = .ok (.iconst 5, 1) := dchk_at dgX7_init_0_ 27 rfl
theorem dX7_init_55 : decode cX7_init 55 = .ok (.newarray .int, 2) := dchk_at dgX7_init_0_ 28 rfl
theorem dX7_init_57 : decode cX7_init 57 = .ok (.putfield 28, 3) := dchk_at dgX7_init_0_ 29 rfl
theorem dX7_init_60 : decode cX7_init 60 = .ok (.aload_n 0, 1) := dchk_at dgX7_init_0_ 30 rfl
theorem dX7_init_61 : decode cX7_init 61 = .ok (.iconst 5, 1) := dchk_at dgX7_init_0_ 31 rfl
theorem dgX7_init_62_ : dchk cX7_init [(62, .newarray .int, 2), (64, .putfield 31, 3), (67, .aload_n 0, 1), (68, .iconst 5, 1), (69, .newarray .int, 2), (71, .putfield 34, 3), (74, .aload_n 0, 1), (75, .iconst 5, 1), (76, .newarray .int, 2), (78, .putfield 37, 3), (81, .aload_n 0, 1), (82, .bipush 120, 2), (84, .newarray .int, 2), (86, .putfield 40, 3), (89, .aload_n 0, 1), (90, .bipush 47, 2), (92, .newarray .int, 2), (94, .putfield 43, 3), (97, .aload_n 0, 1), (98, .bipush 96, 2), (100, .newarray .int, 2), (102, .putfield 46, 3), (105, .aload_n 0, 1), (106, .sipush 128, 3), (109, .newarray .int, 2), (111, .putfield 49, 3), (114, .aload_n 0, 1), (115, .bipush 100, 2), (117, .newarray .int, 2), (119, .putfield 52, 3), (122, .aload_n 0, 1), (123, .bipush 24, 2)] = true := by decide +kernel
theorem dX7_init_62 : decode cX7_init 62 = .ok (.newarray .int, 2) := dchk_at dgX7_init_62_ 0 rfl
theorem dX7_init_64 : decode cX7_init 64 = .ok (.putfield 31, 3) := dchk_at dgX7_init_62_ 1 rfl
theorem dX7_init_67 : decode cX7_init 67 = .ok (.aload_n 0, 1) := dchk_at dgX7_init_62_ 2 rfl
theorem dX7_init_68 : decode cX7_init 68 = .ok (.iconst 5, 1) := dchk_at dgX7_init_62_ 3 rfl
theorem dX7_init_69 : decode cX7_init 69 = .ok (.newarray .int, 2) := dchk_at dgX7_init_62_ 4 rfl
theorem dX7_init_71 : decode cX7_init 71 = .ok (.putfield 34, 3) := dchk_at dgX7_init_62_ 5 rfl
theorem dX7_init_74 : decode cX7_init 74 = .ok (.aload_n 0, 1) := dchk_at dgX7_init_62_ 6 rfl
theorem dX7_init_75 : decode cX7_init 75 = .ok (.iconst 5, 1) := dchk_at dgX7_init_62_ 7 rfl
theorem dX7_init_76 : decode cX7_init 76 = .ok (.newarray .int, 2) := dchk_at dgX7_init_62_ 8 rfl
theorem dX7_init_78 : decode cX7_init 78 = .ok (.putfield 37, 3) := dchk_at dgX7_init_62_ 9 rfl
theorem dX7_init_81 : decode cX7_init 81 = .ok (.aload_n 0, 1) := dchk_at dgX7_init_62_ 10 rfl
theorem dX7_init_82 : decode cX7_init 82 = .ok (.bipush 120, 2) := dchk_at dgX7_init_62_ 11 rfl
theorem dX7_init_84 : decode cX7_init 84 = .ok (.newarray .int, 2) := dchk_at dgX7_init_62_ 12 rfl
theorem dX7_init_86 : decode cX7_init 86 = .ok (.putfield 40, 3) := dchk_at dgX7_init_62_ 13 rfl
theorem dX7_init_89 : decode cX7_init 89 = .ok (.aload_n 0, 1) := dchk_at dgX7_init_62_ 14 rfl
theorem dX7_init_90 : decode cX7_init 90 = .ok (.bipush 47, 2) := dchk_at dgX7_init_62_ 15 rfl
theorem dX7_init_92 : decode cX7_init 92 = .ok (.newarray .int, 2) := dchk_at dgX7_init_62_ 16 rfl
theorem dX7_init_94 : decode cX7_init 94 = .ok (.putfield 43, 3) := dchk_at dgX7_init_62_ 17 rfl
theorem dX7_init_97 : decode cX7_init 97 = .ok (.aload_n 0, 1) := dchk_at dgX7_init_62_ 18 rfl
theorem dX7_init_98 : decode cX7_init 98 = .ok (.bipush 96, 2) := dchk_at dgX7_init_62_ 19 rfl
theorem dX7_init_100 : decode cX7_init 100 = .ok (.newarray .int, 2) := dchk_at dgX7_init_62_ 20 rfl
theorem dX7_init_102 : decode cX7_init 102 = .ok (.putfield 46, 3) := dchk_at dgX7_init_62_ 21 rfl
theorem dX7_init_105 : decode cX7_init 105 = .ok (.aload_n 0, 1) := dchk_at dgX7_init_62_ 22 rfl
theorem dX7_init_106 : decode cX7_init 106 = .ok (.sipush 128, 3) := dchk_at dgX7_init_62_ 23 rfl
theorem dX7_init_109 : decode cX7_init 109 = .ok (.newarray .int, 2) := dchk_at dgX7_init_62_ 24 rfl
theorem dX7_init_111 : decode cX7_init 111 = .ok (.putfield 49, 3) := dchk_at dgX7_init_62_ 25 rfl
theorem dX7_init_114 : decode cX7_init 114 = .ok (.aload_n 0, 1) := dchk_at dgX7_init_62_ 26 rfl
theorem dX7_init_115 : decode cX7_init 115 = .ok (.bipush 100, 2) := dchk_at dgX7_init_62_ 27 rfl
theorem dX7_init_117 : decode cX7_init 117 = .ok (.newarray .int, 2) := dchk_at dgX7_init_62_ 28 rfl
theorem dX7_init_119 : decode cX7_init 119 = .ok (.putfield 52, 3) := dchk_at dgX7_init_62_ 29 rfl
theorem dX7_init_122 : decode cX7_init 122 = .ok (.aload_n 0, 1) := dchk_at dgX7_init_62_ 30 rfl
theorem dX7_init_123 : decode cX7_init 123 = .ok (.bipush 24, 2) := dchk_at dgX7_init_62_ 31 rfl
theorem dgX7_init_125_ : dchk cX7_init [(125, .newarray .int, 2), (127, .putfield 55, 3), (130, .aload_n 0, 1), (131, .bipush 60, 2), (133, .newarray .int, 2), (135, .putfield 58, 3), (138, .aload_n 0, 1), (139, .bipush 60, 2), (141, .newarray .int, 2), (143, .putfield 61, 3), (146, .aload_n 0, 1), (147, .getfield 7, 3), (150, .bipush 6, 2), (152, .iconst 1, 1), (153, .iastore, 1), (154, .aload_n 0, 1), (155, .getfield 7, 3), (158, .bipush 8, 2), (160, .iconst 3, 1), (161, .iastore, 1), (162, .aload_n 0, 1), (163, .getfield 7, 3), (166, .bipush 9, 2), (168, .bipush 10, 2), (170, .iastore, 1), (171, .iconst 0, 1), (172, .istore_n 1, 1), (173, .iload_n 1, 1), (174, .iconst 4, 1), (175, .if_icmp .ge 16, 3), (178, .aload_n 0, 1), (179, .getfield 19, 3)] = true := by decide +kernel
theorem dX7_init_125 : decode cX7_init 125 = .ok (.newarray .int, 2) := dchk_at dgX7_init_125_ 0 rfl
theorem dX7_init_127 : decode cX7_init 127 = .ok (.putfield 55, 3) := dchk_at dgX7_init_125_ 1 rfl
theorem dX7_init_130 : decode cX7_init 130 = .ok (.aload_n 0, 1) := dchk_at dgX7_init_125_ 2 rfl
theorem dX7_init_131 : decode cX7_init 131 = .ok (.bipush 60, 2) := dchk_at dgX7_init_125_ 3 rfl
theorem dX7_init_133 : decode cX7_init 133 = .ok (.newarray .int, 2) := dchk_at dgX7_init_125_ 4 rfl
theorem dX7_init_135 : decode cX7_init 135 = .ok (.putfield 58, 3) := dchk_at dgX7_init_125_ 5 rfl
theorem dX7_init_138 : decode cX7_init 138 = .ok (.aload_n 0, 1) := dchk_at dgX7_init_125_ 6 rfl
theorem dX7_init_139 : decode cX7_init 139 = .ok (.bipush 60, 2) := dchk_at dgX7_init_125_ 7 rfl
theorem dX7_init_141 : decode cX7_init 141 = .ok (.newarray .int, 2) := dchk_at dgX7_init_125_ 8 rfl
theorem dX7_init_143 : decode cX7_init 143 = .ok (.putfield 61, 3) := dchk_at dgX7_init_125_ 9 rfl
theorem dX7_init_146 : decode cX7_init 146 = .ok (.aload_n 0, 1) := dchk_at dgX7_init_125_ 10 rfl
theorem dX7_init_147 : decode cX7_init 147 = .ok (.getfield 7, 3) := dchk_at dgX7_init_125_ 11 rfl
theorem dX7_init_150 : decode cX7_init 150 = .ok (.bipush 6, 2) := dchk_at dgX7_init_125_ 12 rfl
theorem dX7_init_152 : decode cX7_init 152 = .ok (.iconst 1, 1) := dchk_at dgX7_init_125_ 13 rfl
theorem dX7_init_153 : decode cX7_init 153 = .ok (.iastore, 1) := dchk_at dgX7_init_125_ 14 rfl
theorem dX7_init_154 : decode cX7_init 154 = .ok (.aload_n 0, 1) := dchk_at dgX7_init_125_ 15 rfl
theorem dX7_init_155 : decode cX7_init 155 = .ok (.getfield 7, 3) := dchk_at dgX7_init_125_ 16 rfl
theorem dX7_init_158 : decode cX7_init 158 = .ok (.bipush 8, 2) := dchk_at dgX7_init_125_ 17 rfl
theorem dX7_init_160 : decode cX7_init 160 = .ok (.iconst 3, 1) := dchk_at dgX7_init_125_ 18 rfl
theorem dX7_init_161 : decode cX7_init 161 = .ok (.iastore, 1) := dchk_at dgX7_init_125_ 19 rfl
theorem dX7_init_162 : decode cX7_init 162 = .ok (.aload_n 0, 1) := dchk_at dgX7_init_125_ 20 rfl
theorem dX7_init_163 : decode cX7_init 163 = .ok (.getfield 7, 3) := dchk_at dgX7_init_125_ 21 rfl
theorem dX7_init_166 : decode cX7_init 166 = .ok (.bipush 9, 2) := dchk_at dgX7_init_125_ 22 rfl
theorem dX7_init_168 : decode cX7_init 168 = .ok (.bipush 10, 2) := dchk_at dgX7_init_125_ 23 rfl
theorem dX7_init_170 : decode cX7_init 170 = .ok (.iastore, 1) := dchk_at dgX7_init_125_ 24 rfl
theorem dX7_init_171 : decode cX7_init 171 = .ok (.iconst 0, 1) := dchk_at dgX7_init_125_ 25 rfl
theorem dX7_init_172 : decode cX7_init 172 = .ok (.istore_n 1, 1) := dchk_at dgX7_init_125_ 26 rfl
theorem dX7_init_173 : decode cX7_init 173 = .ok (.iload_n 1, 1) := dchk_at dgX7_init_125_ 27 rfl
theorem dX7_init_174 : decode cX7_init 174 = .ok (.iconst 4, 1) := dchk_at dgX7_init_125_ 28 rfl
theorem dX7_init_175 : decode cX7_init 175 = .ok (.if_icmp .ge 16, 3) := dchk_at dgX7_init_125_ 29 rfl
theorem dX7_init_178 : decode cX7_init 178 = .ok (.aload_n 0, 1) := dchk_at dgX7_init_125_ 30 rfl
theorem dX7_init_179 : decode cX7_init 179 = .ok (.getfield 19, 3) := dchk_at dgX7_init_125_ 31 rfl
theorem dgX7_init_182_ : dchk cX7_init [(182, .iload_n 1, 1), (183, .iconst (-1), 1), (184, .iastore, 1), (185, .iinc 1 1, 3), (188, .goto (-15), 3), (191, .return_, 1)] = true := by decide +kernel
theorem dX7_init_182 : decode cX7_init 182 = .ok (.iload_n 1, 1) := dchk_at dgX7_init_182_ 0 rfl
theorem dX7_init_183 : decode cX7_init 183 = .ok (.iconst (-1), 1) := dchk_at dgX7_init_182_ 1 rfl
theorem dX7_init_184 : decode cX7_init 184 = .ok (.iastore, 1) := dchk_at dgX7_init_182_ 2 rfl
theorem dX7_init_185 : decode cX7_init 185 = .ok (.iinc 1 1, 3) := dchk_at dgX7_init_182_ 3 rfl
theorem dX7_init_188 : decode cX7_init 188 = .ok (.goto (-15), 3) := dchk_at dgX7_init_182_ 4 rfl
theorem dX7_init_191 : decode cX7_init 191 = .ok (.return_, 1) := dchk_at dgX7_init_182_ 5 rfl
