set_option maxRecDepth 20000 in
theorem gw_wsX4_init : wsX4_init.all goodWord = true := by decide +kernel
set_option maxRecDepth 20000 in
theorem ggX0_init_X4_init : GoodIn wsX0_init wsX4_init := goodIn_r _ [17, 18, 2, 3] rfl gw_wsX4_init
set_option maxRecDepth 20000 in
theorem gX0_init_X4_init_n39 : GoodIn wsX0_init (wsX4_init) := ggX0_init_X4_init
theorem dX0_init_0 : decode cX0_init 0 = .ok (.aload_n 0, 1) := zk42 (by decide +kernel)
theorem dX0_init_1 : decode cX0_init 1 = .ok (.invokespecial 3, 3) := zk183 0 3 (by decide +kernel)
theorem dX0_init_4 : decode cX0_init 4 = .ok (.aload_n 0, 1) := zk42 (by decide +kernel)
theorem dX0_init_5 : decode cX0_init 5 = .ok (.bipush 9, 2) := zk16 9 rfl (by decide +kernel)
theorem dX0_init_7 : decode cX0_init 7 = .ok (.anewarray 9, 3) := zk189 0 9 (by decide +kernel)
theorem dX0_init_10 : decode cX0_init 10 = .ok (.putfield 11, 3) := zk181 0 11 (by decide +kernel)
theorem dX0_init_13 : decode cX0_init 13 = .ok (.aload_n 0, 1) := zk42 (by decide +kernel)
theorem dX0_init_14 : decode cX0_init 14 = .ok (.iconst 3, 1) := zk6 (by decide +kernel)
theorem dX0_init_15 : decode cX0_init 15 = .ok (.newarray .int, 2) := by decide +kernel
theorem dX0_init_17 : decode cX0_init 17 = .ok (.dup, 1) := zk89 (by decide +kernel)
theorem dX0_init_18 : decode cX0_init 18 = .ok (.iconst 0, 1) := zk3 (by decide +kernel)
theorem dX0_init_19 : decode cX0_init 19 = .ok (.ldc 17, 2) := zk18 17 (by decide +kernel)
theorem dX0_init_21 : decode cX0_init 21 = .ok (.iastore, 1) := zk79 (by decide +kernel)
theorem dX0_init_22 : decode cX0_init 22 = .ok (.dup, 1) := zk89 (by decide +kernel)
theorem dX0_init_23 : decode cX0_init 23 = .ok (.iconst 1, 1) := zk4 (by decide +kernel)
theorem dX0_init_24 : decode cX0_init 24 = .ok (.ldc 17, 2) := zk18 17 (by decide +kernel)
theorem dX0_init_26 : decode cX0_init 26 = .ok (.iastore, 1) := zk79 (by decide +kernel)
theorem dX0_init_27 : decode cX0_init 27 = .ok (.dup, 1) := zk89 (by decide +kernel)
theorem dX0_init_28 : decode cX0_init 28 = .ok (.iconst 2, 1) := zk5 (by decide +kernel)
theorem dX0_init_29 : decode cX0_init 29 = .ok (.ldc 17, 2) := zk18 17 (by decide +kernel)
theorem dX0_init_31 : decode cX0_init 31 = .ok (.iastore, 1) := zk79 (by decide +kernel)
theorem dX0_init_32 : decode cX0_init 32 = .ok (.putfield 18, 3) := zk181 0 18 (by decide +kernel)
theorem dX0_init_35 : decode cX0_init 35 = .ok (.aload_n 0, 1) := zk42 (by decide +kernel)
theorem dX0_init_36 : decode cX0_init 36 = .ok (.iconst 3, 1) := zk6 (by decide +kernel)
theorem dX0_init_37 : decode cX0_init 37 = .ok (.putfield 22, 3) := zk181 0 22 (by decide +kernel)
theorem dX0_init_40 : decode cX0_init 40 = .ok (.aload_n 0, 1) := zk42 (by decide +kernel)
theorem dX0_init_41 : decode cX0_init 41 = .ok (.bipush 10, 2) := zk16 10 rfl (by decide +kernel)
theorem dX0_init_43 : decode cX0_init 43 = .ok (.putfield 26, 3) := zk181 0 26 (by decide +kernel)
theorem dX0_init_46 : decode cX0_init 46 = .ok (.aload_n 0, 1) := zk42 (by decide +kernel)
theorem dX0_init_47 : decode cX0_init 47 = .ok (.iconst 0, 1) := zk3 (by decide +kernel)
theorem dX0_init_48 : decode cX0_init 48 = .ok (.putfield 29, 3) := zk181 0 29 (by decide +kernel)
theorem dX0_init_51 : decode cX0_init 51 = .ok (.aload_n 0, 1) := zk42 (by decide +kernel)
theorem dX0_init_52 : decode cX0_init 52 = .ok (.iconst 1, 1) := zk4 (by decide +kernel)
theorem dX0_init_53 : decode cX0_init 53 = .ok (.putfield 32, 3) := zk181 0 32 (by decide +kernel)
theorem dX0_init_56 : decode cX0_init 56 = .ok (.aload_n 0, 1) := zk42 (by decide +kernel)
theorem dX0_init_57 : decode cX0_init 57 = .ok (.aload_n 1, 1) := zk43 (by decide +kernel)
theorem dX0_init_58 : decode cX0_init 58 = .ok (.putfield 35, 3) := zk181 0 35 (by decide +kernel)
theorem dX0_init_61 : decode cX0_init 61 = .ok (.iconst 0, 1) := zk3 (by decide +kernel)
theorem dX0_init_62 : decode cX0_init 62 = .ok (.istore_n 2, 1) := zk61 (by decide +kernel)
theorem dX0_init_63 : decode cX0_init 63 = .ok (.iload_n 2, 1) := zk28 (by decide +kernel)
theorem dX0_init_64 : decode cX0_init 64 = .ok (.bipush 9, 2) := zk16 9 rfl (by decide +kernel)
theorem dX0_init_66 : decode cX0_init 66 = .ok (.if_icmp .ge 22, 3) := zk162 0 22 rfl (by decide +kernel)
theorem dX0_init_69 : decode cX0_init 69 = .ok (.aload_n 0, 1) := zk42 (by decide +kernel)
theorem dX0_init_70 : decode cX0_init 70 = .ok (.getfield 11, 3) := zk180 0 11 (by decide +kernel)
theorem dX0_init_73 : decode cX0_init 73 = .ok (.iload_n 2, 1) := zk28 (by decide +kernel)
theorem dX0_init_74 : decode cX0_init 74 = .ok (.new 9, 3) := zk187 0 9 (by decide +kernel)
theorem dX0_init_77 : decode cX0_init 77 = .ok (.dup, 1) := zk89 (by decide +kernel)
theorem dX0_init_78 : decode cX0_init 78 = .ok (.invokespecial 39, 3) := zk183 0 39 (by decide +kernel)
theorem dX0_init_81 : decode cX0_init 81 = .ok (.aastore, 1) := zk83 (by decide +kernel)
theorem dX0_init_82 : decode cX0_init 82 = .ok (.iinc 2 1, 3) := by decide +kernel
theorem dX0_init_85 : decode cX0_init 85 = .ok (.goto (-22), 3) := zk167 255 234 rfl (by decide +kernel)
theorem dX0_init_88 : decode cX0_init 88 = .ok (.return_, 1) := zk177 (by decide +kernel)
set_option maxRecDepth 20000 in
theorem gw_wsX5_init : wsX5_init.all goodWord = true := by decide +kernel
set_option maxRecDepth 20000 in
theorem ggX1_init_X5_init : GoodIn wsX1_init wsX5_init := goodIn_r _ [10, 11, 2, 3, 12, 13, 14, 15, 16, 17, 18, 19] rfl gw_wsX5_init
set_option maxRecDepth 20000 in
theorem gX1_init_X5_init_n11 : GoodIn wsX1_init (wsX5_init) := ggX1_init_X5_init
theorem dX1_init_0 : decode cX1_init 0 = .ok (.aload_n 0, 1) := zk42 (by decide +kernel)
theorem dX1_init_1 : decode cX1_init 1 = .ok (.invokespecial 3, 3) := zk183 0 3 (by decide +kernel)
theorem dX1_init_4 : decode cX1_init 4 = .ok (.aload_n 0, 1) := zk42 (by decide +kernel)
theorem dX1_init_5 : decode cX1_init 5 = .ok (.new 9, 3) := zk187 0 9 (by decide +kernel)
theorem dX1_init_8 : decode cX1_init 8 = .ok (.dup, 1) := zk89 (by decide +kernel)
theorem dX1_init_9 : decode cX1_init 9 = .ok (.invokespecial 11, 3) := zk183 0 11 (by decide +kernel)
theorem dX1_init_12 : decode cX1_init 12 = .ok (.putfield 12, 3) := zk181 0 12 (by decide +kernel)
theorem dX1_init_15 : decode cX1_init 15 = .ok (.aload_n 0, 1) := zk42 (by decide +kernel)
theorem dX1_init_16 : decode cX1_init 16 = .ok (.aload_n 1, 1) := zk43 (by decide +kernel)
theorem dX1_init_17 : decode cX1_init 17 = .ok (.putfield 18, 3) := zk181 0 18 (by decide +kernel)
theorem dX1_init_20 : decode cX1_init 20 = .ok (.return_, 1) := zk177 (by decide +kernel)
theorem dX2_init_0 : decode cX2_init 0 = .ok (.aload_n 0, 1) := zk42 (by decide +kernel)
theorem dX2_init_1 : decode cX2_init 1 = .ok (.invokespecial 3, 3) := zk183 0 3 (by decide +kernel)
theorem dX2_init_4 : decode cX2_init 4 = .ok (.aload_n 0, 1) := zk42 (by decide +kernel)
theorem dX2_init_5 : decode cX2_init 5 = .ok (.iconst (-1), 1) := zk2 (by decide +kernel)
theorem dX2_init_6 : decode cX2_init 6 = .ok (.putfield 9, 3) := zk181 0 9 (by decide +kernel)
theorem dX2_init_9 : decode cX2_init 9 = .ok (.aload_n 0, 1) := zk42 (by decide +kernel)
theorem dX2_init_10 : decode cX2_init 10 = .ok (.bipush 24, 2) := zk16 24 rfl (by decide +kernel)
theorem dX2_init_12 : decode cX2_init 12 = .ok (.newarray .int, 2) := by decide +kernel
theorem dX2_init_14 : decode cX2_init 14 = .ok (.putfield 15, 3) := zk181 0 15 (by decide +kernel)
theorem dX2_init_17 : decode cX2_init 17 = .ok (.return_, 1) := zk177 (by decide +kernel)
set_option maxRecDepth 20000 in
theorem ggX3_init_X4_init : GoodIn wsX3_init wsX4_init := goodIn_r _ [14, 15, 2, 3] rfl gw_wsX4_init
set_option maxRecDepth 20000 in
theorem gX3_init_X4_init_n17 : GoodIn wsX3_init (wsX4_init) := ggX3_init_X4_init
set_option maxRecDepth 20000 in
theorem gw_wsX2_init : wsX2_init.all goodWord = true := by decide +kernel
set_option maxRecDepth 20000 in
theorem ggX3_init_X2_init : GoodIn wsX3_init wsX2_init := goodIn_r _ [17, 18, 2, 3, 19, 20, 21, 30, 31, 32] rfl gw_wsX2_init
set_option maxRecDepth 20000 in
theorem gX3_init_X2_init_n24 : GoodIn wsX3_init (wsX2_init) := ggX3_init_X2_init
theorem dX3_init_0 : decode cX3_init 0 = .ok (.aload_n 0, 1) := zk42 (by decide +kernel)
theorem dX3_init_1 : decode cX3_init 1 = .ok (.invokespecial 3, 3) := zk183 0 3 (by decide +kernel)
theorem dX3_init_4 : decode cX3_init 4 = .ok (.aload_n 0, 1) := zk42 (by decide +kernel)
theorem dX3_init_5 : decode cX3_init 5 = .ok (.iconst 0, 1) := zk3 (by decide +kernel)
theorem dX3_init_6 : decode cX3_init 6 = .ok (.putfield 9, 3) := zk181 0 9 (by decide +kernel)
theorem dX3_init_9 : decode cX3_init 9 = .ok (.aload_n 0, 1) := zk42 (by decide +kernel)
theorem dX3_init_10 : decode cX3_init 10 = .ok (.new 15, 3) := zk187 0 15 (by decide +kernel)
theorem dX3_init_13 : decode cX3_init 13 = .ok (.dup, 1) := zk89 (by decide +kernel)
theorem dX3_init_14 : decode cX3_init 14 = .ok (.invokespecial 17, 3) := zk183 0 17 (by decide +kernel)
theorem dX3_init_17 : decode cX3_init 17 = .ok (.putfield 18, 3) := zk181 0 18 (by decide +kernel)
theorem dX3_init_20 : decode cX3_init 20 = .ok (.aload_n 0, 1) := zk42 (by decide +kernel)
theorem dX3_init_21 : decode cX3_init 21 = .ok (.new 22, 3) := zk187 0 22 (by decide +kernel)
theorem dX3_init_24 : decode cX3_init 24 = .ok (.dup, 1) := zk89 (by decide +kernel)
theorem dX3_init_25 : decode cX3_init 25 = .ok (.invokespecial 24, 3) := zk183 0 24 (by decide +kernel)
theorem dX3_init_28 : decode cX3_init 28 = .ok (.putfield 25, 3) := zk181 0 25 (by decide +kernel)
theorem dX3_init_31 : decode cX3_init 31 = .ok (.return_, 1) := zk177 (by decide +kernel)
theorem dX4_init_0 : decode cX4_init 0 = .ok (.aload_n 0, 1) := zk42 (by decide +kernel)
theorem dX4_init_1 : decode cX4_init 1 = .ok (.invokespecial 3, 3) := zk183 0 3 (by decide +kernel)
theorem dX4_init_4 : decode cX4_init 4 = .ok (.return_, 1) := zk177 (by decide +kernel)
theorem dX5_init_0 : decode cX5_init 0 = .ok (.aload_n 0, 1) := zk42 (by decide +kernel)
theorem dX5_init_1 : decode cX5_init 1 = .ok (.invokespecial 3, 3) := zk183 0 3 (by decide +kernel)
theorem dX5_init_4 : decode cX5_init 4 = .ok (.aload_n 0, 1) := zk42 (by decide +kernel)
theorem dX5_init_5 : decode cX5_init 5 = .ok (.bipush 96, 2) := zk16 96 rfl (by decide +kernel)
theorem dX5_init_7 : decode cX5_init 7 = .ok (.newarray .int, 2) := by decide +kernel
theorem dX5_init_9 : decode cX5_init 9 = .ok (.putfield 9, 3) := zk181 0 9 (by decide +kernel)
theorem dX5_init_12 : decode cX5_init 12 = .ok (.aload_n 0, 1) := zk42 (by decide +kernel)
theorem dX5_init_13 : decode cX5_init 13 = .ok (.bipush 96, 2) := zk16 96 rfl (by decide +kernel)
theorem dX5_init_15 : decode cX5_init 15 = .ok (.newarray .int, 2) := by decide +kernel
theorem dX5_init_17 : decode cX5_init 17 = .ok (.putfield 15, 3) := zk181 0 15 (by decide +kernel)
theorem dX5_init_20 : decode cX5_init 20 = .ok (.return_, 1) := zk177 (by decide +kernel)
def bs_wsX6_init : List (List Cond) := [[.code yX6_init cX6_init 4 none], wsX6_init_r1, wsX6_init_r2, wsX6_init_r3, wsX60, wsX50, wsX00, wsX20, wsX30, wsX10, wsX40]
theorem bse_wsX6_init : wsX6_init = bs_wsX6_init.flatten := by
  unfold wsX6_init bs_wsX6_init
  simp only [List.flatten_cons, List.flatten_nil, List.append_nil, List.append_assoc, List.cons_append, List.nil_append]
set_option maxRecDepth 20000 in
theorem ggX6_init_X5_init : GoodIn wsX6_init wsX5_init := goodIn_pc bs_wsX6_init bse_wsX6_init _ [(2, [6, 7]), (1, [1, 2, 9]), (2, [8, 9]), (5, [0, 1, 2, 3, 4])] rfl gw_wsX5_init
set_option maxRecDepth 20000 in
theorem gX6_init_X5_init_n33 : GoodIn wsX6_init (wsX5_init) := ggX6_init_X5_init
set_option maxRecDepth 20000 in
theorem gw_wsX0_init : wsX0_init.all goodWord = true := by decide +kernel
set_option maxRecDepth 20000 in
theorem ggX6_init_X0_init : GoodIn wsX6_init wsX0_init := goodIn_pc bs_wsX6_init bse_wsX6_init _ [(2, [12, 13]), (1, [1, 2]), (2, [14, 15]), (1, [9]), (2, [16, 17, 18, 19, 20, 21, 22, 23]), (3, [0, 1, 2, 3]), (6, [0, 1, 2, 3, 4, 5, 6, 7, 8, 9, 10, 11, 12, 13]), (10, [0, 1, 2, 3])] rfl gw_wsX0_init
set_option maxRecDepth 20000 in
theorem gX6_init_X0_init : GoodIn wsX6_init (wsX0_init) := ggX6_init_X0_init
set_option maxRecDepth 20000 in
theorem ggX6_init_X2_init : GoodIn wsX6_init wsX2_init := goodIn_pc bs_wsX6_init bse_wsX6_init _ [(3, [5, 6]), (1, [1, 2]), (3, [7]), (1, [9]), (3, [8]), (7, [0, 1, 2])] rfl gw_wsX2_init
set_option maxRecDepth 20000 in
theorem gX6_init_X2_init_n37 : GoodIn wsX6_init (wsX2_init) := ggX6_init_X2_init
set_option maxRecDepth 20000 in
theorem gw_wsX3_init : wsX3_init.all goodWord = true := by decide +kernel
set_option maxRecDepth 20000 in
theorem ggX6_init_X3_init : GoodIn wsX6_init wsX3_init := goodIn_pc bs_wsX6_init bse_wsX6_init _ [(3, [10, 11]), (1, [1, 2]), (3, [12, 13]), (2, [23]), (3, [0, 14, 15]), (1, [16, 17]), (3, [16, 1, 2, 3, 4, 5, 6, 7]), (1, [9]), (3, [8]), (8, [0, 1, 2, 3]), (10, [0, 1, 2, 3]), (7, [0, 1, 2])] rfl gw_wsX3_init
set_option maxRecDepth 20000 in
theorem gX6_init_X3_init_n38 : GoodIn wsX6_init (wsX3_init) := ggX6_init_X3_init
set_option maxRecDepth 20000 in
theorem gw_wsX1_init : wsX1_init.all goodWord = true := by decide +kernel
set_option maxRecDepth 20000 in
theorem ggX6_init_X1_init : GoodIn wsX6_init wsX1_init := goodIn_pc bs_wsX6_init bse_wsX6_init _ [(3, [19, 20]), (1, [1, 2]), (3, [21]), (1, [12, 13]), (3, [22, 23]), (2, [5, 6, 7]), (1, [9]), (2, [8, 9]), (5, [0, 1, 2, 3, 4]), (9, [0, 1, 2, 3, 4, 5, 6, 7])] rfl gw_wsX1_init
set_option maxRecDepth 20000 in
theorem gX6_init_X1_init : GoodIn wsX6_init (wsX1_init) := ggX6_init_X1_init
theorem dX6_init_0 : decode cX6_init 0 = .ok (.aload_n 0, 1) := zk42 (by decide +kernel)
theorem dX6_init_1 : decode cX6_init 1 = .ok (.invokespecial 1, 3) := zk183 0 1 (by decide +kernel)
theorem dX6_init_4 : decode cX6_init 4 = .ok (.aload_n 0, 1) := zk42 (by decide +kernel)
theorem dX6_init_5 : decode cX6_init 5 = .ok (.bipush 6, 2) := zk16 6 rfl (by decide +kernel)
theorem dX6_init_7 : decode cX6_init 7 = .ok (.anewarray 9, 3) := zk189 0 9 (by decide +kernel)
theorem dX6_init_10 : decode cX6_init 10 = .ok (.putfield 11, 3) := zk181 0 11 (by decide +kernel)
theorem dX6_init_13 : decode cX6_init 13 = .ok (.aload_n 0, 1) := zk42 (by decide +kernel)
theorem dX6_init_14 : decode cX6_init 14 = .ok (.iconst 4, 1) := zk7 (by decide +kernel)
theorem dX6_init_15 : decode cX6_init 15 = .ok (.anewarray 15, 3) := zk189 0 15 (by decide +kernel)
theorem dX6_init_18 : decode cX6_init 18 = .ok (.putfield 17, 3) := zk181 0 17 (by decide +kernel)
theorem dX6_init_21 : decode cX6_init 21 = .ok (.aload_n 0, 1) := zk42 (by decide +kernel)
theorem dX6_init_22 : decode cX6_init 22 = .ok (.iconst 5, 1) := zk8 (by decide +kernel)
theorem dX6_init_23 : decode cX6_init 23 = .ok (.anewarray 21, 3) := zk189 0 21 (by decide +kernel)
theorem dX6_init_26 : decode cX6_init 26 = .ok (.putfield 23, 3) := zk181 0 23 (by decide +kernel)
theorem dX6_init_29 : decode cX6_init 29 = .ok (.aload_n 0, 1) := zk42 (by decide +kernel)
theorem dX6_init_30 : decode cX6_init 30 = .ok (.bipush 60, 2) := zk16 60 rfl (by decide +kernel)
theorem dX6_init_32 : decode cX6_init 32 = .ok (.newarray .int, 2) := by decide +kernel
theorem dX6_init_34 : decode cX6_init 34 = .ok (.putfield 27, 3) := zk181 0 27 (by decide +kernel)
theorem dX6_init_37 : decode cX6_init 37 = .ok (.bipush 14, 2) := zk16 14 rfl (by decide +kernel)
theorem dX6_init_39 : decode cX6_init 39 = .ok (.anewarray 31, 3) := zk189 0 31 (by decide +kernel)
theorem dX6_init_42 : decode cX6_init 42 = .ok (.astore_n 1, 1) := zk76 (by decide +kernel)
theorem dX6_init_43 : decode cX6_init 43 = .ok (.iconst 0, 1) := zk3 (by decide +kernel)
theorem dX6_init_44 : decode cX6_init 44 = .ok (.istore_n 2, 1) := zk61 (by decide +kernel)
theorem dX6_init_45 : decode cX6_init 45 = .ok (.iload_n 2, 1) := zk28 (by decide +kernel)
theorem dX6_init_46 : decode cX6_init 46 = .ok (.bipush 14, 2) := zk16 14 rfl (by decide +kernel)
theorem dX6_init_48 : decode cX6_init 48 = .ok (.if_icmp .ge 19, 3) := zk162 0 19 rfl (by decide +kernel)
theorem dX6_init_51 : decode cX6_init 51 = .ok (.aload_n 1, 1) := zk43 (by decide +kernel)
theorem dX6_init_52 : decode cX6_init 52 = .ok (.iload_n 2, 1) := zk28 (by decide +kernel)
theorem dX6_init_53 : decode cX6_init 53 = .ok (.new 31, 3) := zk187 0 31 (by decide +kernel)
theorem dX6_init_56 : decode cX6_init 56 = .ok (.dup, 1) := zk89 (by decide +kernel)
theorem dX6_init_57 : decode cX6_init 57 = .ok (.invokespecial 33, 3) := zk183 0 33 (by decide +kernel)
theorem dX6_init_60 : decode cX6_init 60 = .ok (.aastore, 1) := zk83 (by decide +kernel)
theorem dX6_init_61 : decode cX6_init 61 = .ok (.iinc 2 1, 3) := by decide +kernel
theorem dX6_init_64 : decode cX6_init 64 = .ok (.goto (-19), 3) := zk167 255 237 rfl (by decide +kernel)
theorem dX6_init_67 : decode cX6_init 67 = .ok (.bipush 96, 2) := zk16 96 rfl (by decide +kernel)
theorem dX6_init_69 : decode cX6_init 69 = .ok (.newarray .int, 2) := by decide +kernel
theorem dX6_init_71 : decode cX6_init 71 = .ok (.astore_n 2, 1) := zk77 (by decide +kernel)
theorem dX6_init_72 : decode cX6_init 72 = .ok (.iconst 0, 1) := zk3 (by decide +kernel)
theorem dX6_init_73 : decode cX6_init 73 = .ok (.istore_n 3, 1) := zk62 (by decide +kernel)
theorem dX6_init_74 : decode cX6_init 74 = .ok (.iload_n 3, 1) := zk29 (by decide +kernel)
theorem dX6_init_75 : decode cX6_init 75 = .ok (.iconst 5, 1) := zk8 (by decide +kernel)
theorem dX6_init_76 : decode cX6_init 76 = .ok (.if_icmp .gt 23, 3) := zk163 0 23 rfl (by decide +kernel)
theorem dX6_init_79 : decode cX6_init 79 = .ok (.aload_n 0, 1) := zk42 (by decide +kernel)
theorem dX6_init_80 : decode cX6_init 80 = .ok (.getfield 11, 3) := zk180 0 11 (by decide +kernel)
theorem dX6_init_83 : decode cX6_init 83 = .ok (.iload_n 3, 1) := zk29 (by decide +kernel)
theorem dX6_init_84 : decode cX6_init 84 = .ok (.new 9, 3) := zk187 0 9 (by decide +kernel)
theorem dX6_init_87 : decode cX6_init 87 = .ok (.dup, 1) := zk89 (by decide +kernel)
theorem dX6_init_88 : decode cX6_init 88 = .ok (.aload_n 1, 1) := zk43 (by decide +kernel)
theorem dX6_init_89 : decode cX6_init 89 = .ok (.invokespecial 34, 3) := zk183 0 34 (by decide +kernel)
theorem dX6_init_92 : decode cX6_init 92 = .ok (.aastore, 1) := zk83 (by decide +kernel)
theorem dX6_init_93 : decode cX6_init 93 = .ok (.iinc 3 1, 3) := by decide +kernel
theorem dX6_init_96 : decode cX6_init 96 = .ok (.goto (-22), 3) := zk167 255 234 rfl (by decide +kernel)
theorem dX6_init_99 : decode cX6_init 99 = .ok (.iconst 0, 1) := zk3 (by decide +kernel)
theorem dX6_init_100 : decode cX6_init 100 = .ok (.istore_n 3, 1) := zk62 (by decide +kernel)
theorem dX6_init_101 : decode cX6_init 101 = .ok (.iload_n 3, 1) := zk29 (by decide +kernel)
theorem dX6_init_102 : decode cX6_init 102 = .ok (.iconst 4, 1) := zk7 (by decide +kernel)
theorem dX6_init_103 : decode cX6_init 103 = .ok (.if_icmp .ge 22, 3) := zk162 0 22 rfl (by decide +kernel)
theorem dX6_init_106 : decode cX6_init 106 = .ok (.aload_n 0, 1) := zk42 (by decide +kernel)
theorem dX6_init_107 : decode cX6_init 107 = .ok (.getfield 17, 3) := zk180 0 17 (by decide +kernel)
theorem dX6_init_110 : decode cX6_init 110 = .ok (.iload_n 3, 1) := zk29 (by decide +kernel)
theorem dX6_init_111 : decode cX6_init 111 = .ok (.new 15, 3) := zk187 0 15 (by decide +kernel)
theorem dX6_init_114 : decode cX6_init 114 = .ok (.dup, 1) := zk89 (by decide +kernel)
theorem dX6_init_115 : decode cX6_init 115 = .ok (.invokespecial 37, 3) := zk183 0 37 (by decide +kernel)
theorem dX6_init_118 : decode cX6_init 118 = .ok (.aastore, 1) := zk83 (by decide +kernel)
theorem dX6_init_119 : decode cX6_init 119 = .ok (.iinc 3 1, 3) := by decide +kernel
theorem dX6_init_122 : decode cX6_init 122 = .ok (.goto (-21), 3) := zk167 255 235 rfl (by decide +kernel)
theorem dX6_init_125 : decode cX6_init 125 = .ok (.iconst 0, 1) := zk3 (by decide +kernel)
theorem dX6_init_126 : decode cX6_init 126 = .ok (.istore_n 3, 1) := zk62 (by decide +kernel)
theorem dX6_init_127 : decode cX6_init 127 = .ok (.iload_n 3, 1) := zk29 (by decide +kernel)
theorem dX6_init_128 : decode cX6_init 128 = .ok (.iconst 5, 1) := zk8 (by decide +kernel)
theorem dX6_init_129 : decode cX6_init 129 = .ok (.if_icmp .ge 22, 3) := zk162 0 22 rfl (by decide +kernel)
theorem dX6_init_132 : decode cX6_init 132 = .ok (.aload_n 0, 1) := zk42 (by decide +kernel)
theorem dX6_init_133 : decode cX6_init 133 = .ok (.getfield 23, 3) := zk180 0 23 (by decide +kernel)
theorem dX6_init_136 : decode cX6_init 136 = .ok (.iload_n 3, 1) := zk29 (by decide +kernel)
theorem dX6_init_137 : decode cX6_init 137 = .ok (.new 21, 3) := zk187 0 21 (by decide +kernel)
theorem dX6_init_140 : decode cX6_init 140 = .ok (.dup, 1) := zk89 (by decide +kernel)
theorem dX6_init_141 : decode cX6_init 141 = .ok (.invokespecial 38, 3) := zk183 0 38 (by decide +kernel)
theorem dX6_init_144 : decode cX6_init 144 = .ok (.aastore, 1) := zk83 (by decide +kernel)
theorem dX6_init_145 : decode cX6_init 145 = .ok (.iinc 3 1, 3) := by decide +kernel
theorem dX6_init_148 : decode cX6_init 148 = .ok (.goto (-21), 3) := zk167 255 235 rfl (by decide +kernel)
theorem dX6_init_151 : decode cX6_init 151 = .ok (.aload_n 0, 1) := zk42 (by decide +kernel)
theorem dX6_init_152 : decode cX6_init 152 = .ok (.new 9, 3) := zk187 0 9 (by decide +kernel)
theorem dX6_init_155 : decode cX6_init 155 = .ok (.dup, 1) := zk89 (by decide +kernel)
theorem dX6_init_156 : decode cX6_init 156 = .ok (.aload_n 1, 1) := zk43 (by decide +kernel)
theorem dX6_init_157 : decode cX6_init 157 = .ok (.invokespecial 34, 3) := zk183 0 34 (by decide +kernel)
theorem dX6_init_160 : decode cX6_init 160 = .ok (.putfield 39, 3) := zk181 0 39 (by decide +kernel)
theorem dX6_init_163 : decode cX6_init 163 = .ok (.aload_n 0, 1) := zk42 (by decide +kernel)
theorem dX6_init_164 : decode cX6_init 164 = .ok (.new 9, 3) := zk187 0 9 (by decide +kernel)
theorem dX6_init_167 : decode cX6_init 167 = .ok (.dup, 1) := zk89 (by decide +kernel)
theorem dX6_init_168 : decode cX6_init 168 = .ok (.aload_n 1, 1) := zk43 (by decide +kernel)
theorem dX6_init_169 : decode cX6_init 169 = .ok (.invokespecial 34, 3) := zk183 0 34 (by decide +kernel)
theorem dX6_init_172 : decode cX6_init 172 = .ok (.putfield 43, 3) := zk181 0 43 (by decide +kernel)
theorem dX6_init_175 : decode cX6_init 175 = .ok (.aload_n 0, 1) := zk42 (by decide +kernel)
theorem dX6_init_176 : decode cX6_init 176 = .ok (.new 9, 3) := zk187 0 9 (by decide +kernel)
theorem dX6_init_179 : decode cX6_init 179 = .ok (.dup, 1) := zk89 (by decide +kernel)
theorem dX6_init_180 : decode cX6_init 180 = .ok (.aload_n 1, 1) := zk43 (by decide +kernel)
theorem dX6_init_181 : decode cX6_init 181 = .ok (.invokespecial 34, 3) := zk183 0 34 (by decide +kernel)
theorem dX6_init_184 : decode cX6_init 184 = .ok (.putfield 46, 3) := zk181 0 46 (by decide +kernel)
theorem dX6_init_187 : decode cX6_init 187 = .ok (.aload_n 0, 1) := zk42 (by decide +kernel)
theorem dX6_init_188 : decode cX6_init 188 = .ok (.new 49, 3) := zk187 0 49 (by decide +kernel)
theorem dX6_init_191 : decode cX6_init 191 = .ok (.dup, 1) := zk89 (by decide +kernel)
theorem dX6_init_192 : decode cX6_init 192 = .ok (.aload_n 2, 1) := zk44 (by decide +kernel)
theorem dX6_init_193 : decode cX6_init 193 = .ok (.invokespecial 51, 3) := zk183 0 51 (by decide +kernel)
theorem dX6_init_196 : decode cX6_init 196 = .ok (.putfield 54, 3) := zk181 0 54 (by decide +kernel)
theorem dX6_init_199 : decode cX6_init 199 = .ok (.aload_n 0, 1) := zk42 (by decide +kernel)
theorem dX6_init_200 : decode cX6_init 200 = .ok (.aload_n 1, 1) := zk43 (by decide +kernel)
theorem dX6_init_201 : decode cX6_init 201 = .ok (.putfield 58, 3) := zk181 0 58 (by decide +kernel)
theorem dX6_init_204 : decode cX6_init 204 = .ok (.aload_n 0, 1) := zk42 (by decide +kernel)
theorem dX6_init_205 : decode cX6_init 205 = .ok (.aload_n 2, 1) := zk44 (by decide +kernel)
theorem dX6_init_206 : decode cX6_init 206 = .ok (.putfield 62, 3) := zk181 0 62 (by decide +kernel)
theorem dX6_init_209 : decode cX6_init 209 = .ok (.return_, 1) := zk177 (by decide +kernel)
theorem dX7_init_0 : decode cX7_init 0 = .ok (.aload_n 0, 1) := zk42 (by decide +kernel)
theorem dX7_init_1 : decode cX7_init 1 = .ok (.invokespecial 1, 3) := zk183 0 1 (by decide +kernel)
theorem dX7_init_4 : decode cX7_init 4 = .ok (.aload_n 0, 1) := zk42 (by decide +kernel)
theorem dX7_init_5 : decode cX7_init 5 = .ok (.sipush 3047, 3) := zk17 11 231 rfl (by decide +kernel)
theorem dX7_init_8 : decode cX7_init 8 = .ok (.newarray .int, 2) := by decide +kernel
theorem dX7_init_10 : decode cX7_init 10 = .ok (.putfield 7, 3) := zk181 0 7 (by decide +kernel)
theorem dX7_init_13 : decode cX7_init 13 = .ok (.aload_n 0, 1) := zk42 (by decide +kernel)
theorem dX7_init_14 : decode cX7_init 14 = .ok (.sipush 3047, 3) := zk17 11 231 rfl (by decide +kernel)
theorem dX7_init_17 : decode cX7_init 17 = .ok (.newarray .int, 2) := by decide +kernel
theorem dX7_init_19 : decode cX7_init 19 = .ok (.putfield 13, 3) := zk181 0 13 (by decide +kernel)
theorem dX7_init_22 : decode cX7_init 22 = .ok (.aload_n 0, 1) := zk42 (by decide +kernel)
theorem dX7_init_23 : decode cX7_init 23 = .ok (.sipush 3047, 3) := zk17 11 231 rfl (by decide +kernel)
theorem dX7_init_26 : decode cX7_init 26 = .ok (.newarray .int, 2) := by decide +kernel
theorem dX7_init_28 : decode cX7_init 28 = .ok (.putfield 16, 3) := zk181 0 16 (by decide +kernel)
theorem dX7_init_31 : decode cX7_init 31 = .ok (.aload_n 0, 1) := zk42 (by decide +kernel)
theorem dX7_init_32 : decode cX7_init 32 = .ok (.iconst 4, 1) := zk7 (by decide +kernel)
theorem dX7_init_33 : decode cX7_init 33 = .ok (.newarray .int, 2) := by decide +kernel
theorem dX7_init_35 : decode cX7_init 35 = .ok (.putfield 19, 3) := zk181 0 19 (by decide +kernel)
theorem dX7_init_38 : decode cX7_init 38 = .ok (.aload_n 0, 1) := zk42 (by decide +kernel)
theorem dX7_init_39 : decode cX7_init 39 = .ok (.iconst 4, 1) := zk7 (by decide +kernel)
theorem dX7_init_40 : decode cX7_init 40 = .ok (.newarray .int, 2) := by decide +kernel
theorem dX7_init_42 : decode cX7_init 42 = .ok (.putfield 22, 3) := zk181 0 22 (by decide +kernel)
theorem dX7_init_45 : decode cX7_init 45 = .ok (.aload_n 0, 1) := zk42 (by decide +kernel)
theorem dX7_init_46 : decode cX7_init 46 = .ok (.bipush 96, 2) := zk16 96 rfl (by decide +kernel)
theorem dX7_init_48 : decode cX7_init 48 = .ok (.newarray .int, 2) := by decide +kernel
theorem dX7_init_50 : decode cX7_init 50 = .ok (.putfield 25, 3) := zk181 0 25 (by decide +kernel)
theorem dX7_init_53 : decode cX7_init 53 = .ok (.aload_n 0, 1) := zk42 (by decide +kernel)
theorem dX7_init_54 : decode cX7_init 54 = .ok (.iconst 5, 1) := zk8 (by decide +kernel)
theorem dX7_init_55 : decode cX7_init 55 = .ok (.newarray .int, 2) := by decide +kernel
theorem dX7_init_57 : decode cX7_init 57 = .ok (.putfield 28, 3) := zk181 0 28 (by decide +kernel)
theorem dX7_init_60 : decode cX7_init 60 = .ok (.aload_n 0, 1) := zk42 (by decide +kernel)
theorem dX7_init_61 : decode cX7_init 61 = .ok (.iconst 5, 1) := zk8 (by decide +kernel)
theorem dX7_init_62 : decode cX7_init 62 = .ok (.newarray .int, 2) := by decide +kernel
theorem dX7_init_64 : decode cX7_init 64 = .ok (.putfield 31, 3) := zk181 0 31 (by decide +kernel)
theorem dX7_init_67 : decode cX7_init 67 = .ok (.aload_n 0, 1) := zk42 (by decide +kernel)
theorem dX7_init_68 : decode cX7_init 68 = .ok (.iconst 5, 1) := zk8 (by decide +kernel)
theorem dX7_init_69 : decode cX7_init 69 = .ok (.newarray .int, 2) := by decide +kernel
theorem dX7_init_71 : decode cX7_init 71 = .ok (.putfield 34, 3) := zk181 0 34 (by decide +kernel)
theorem dX7_init_74 : decode cX7_init 74 = .ok (.aload_n 0, 1) := zk42 (by decide +kernel)
theorem dX7_init_75 : decode cX7_init 75 = .ok (.iconst 5, 1) := zk8 (by decide +kernel)
theorem dX7_init_76 : decode cX7_init 76 = .ok (.newarray .int, 2) := by decide +kernel
theorem dX7_init_78 : decode cX7_init 78 = .ok (.putfield 37, 3) := zk181 0 37 (by decide +kernel)
theorem dX7_init_81 : decode cX7_init 81 = .ok (.aload_n 0, 1) := zk42 (by decide +kernel)
theorem dX7_init_82 : decode cX7_init 82 = .ok (.bipush 120, 2) := zk16 120 rfl (by decide +kernel)
theorem dX7_init_84 : decode cX7_init 84 = .ok (.newarray .int, 2) := by decide +kernel
theorem dX7_init_86 : decode cX7_init 86 = .ok (.putfield 40, 3) := zk181 0 40 (by decide +kernel)
theorem dX7_init_89 : decode cX7_init 89 = .ok (.aload_n 0, 1) := zk42 (by decide +kernel)
theorem dX7_init_90 : decode cX7_init 90 = .ok (.bipush 47, 2) := zk16 47 rfl (by decide +kernel)
theorem dX7_init_92 : decode cX7_init 92 = .ok (.newarray .int, 2) := by decide +kernel
theorem dX7_init_94 : decode cX7_init 94 = .ok (.putfield 43, 3) := zk181 0 43 (by decide +kernel)
theorem dX7_init_97 : decode cX7_init 97 = .ok (.aload_n 0, 1) := zk42 (by decide +kernel)
theorem dX7_init_98 : decode cX7_init 98 = .ok (.bipush 96, 2) := zk16 96 rfl (by decide +kernel)
theorem dX7_init_100 : decode cX7_init 100 = .ok (.newarray .int, 2) := by decide +kernel
theorem dX7_init_102 : decode cX7_init 102 = .ok (.putfield 46, 3) := zk181 0 46 (by decide +kernel)
theorem dX7_init_105 : decode cX7_init 105 = .ok (.aload_n 0, 1) := zk42 (by decide +kernel)
theorem dX7_init_106 : decode cX7_init 106 = .ok (.sipush 128, 3) := zk17 0 128 rfl (by decide +kernel)
theorem dX7_init_109 : decode cX7_init 109 = .ok (.newarray .int, 2) := by decide +kernel
theorem dX7_init_111 : decode cX7_init 111 = .ok (.putfield 49, 3) := zk181 0 49 (by decide +kernel)
theorem dX7_init_114 : decode cX7_init 114 = .ok (.aload_n 0, 1) := zk42 (by decide +kernel)
theorem dX7_init_115 : decode cX7_init 115 = .ok (.bipush 100, 2) := zk16 100 rfl (by decide +kernel)
theorem dX7_init_117 : decode cX7_init 117 = .ok (.newarray .int, 2) := by decide +kernel
theorem dX7_init_119 : decode cX7_init 119 = .ok (.putfield 52, 3) := zk181 0 52 (by decide +kernel)
theorem dX7_init_122 : decode cX7_init 122 = .ok (.aload_n 0, 1) := zk42 (by decide +kernel)
theorem dX7_init_123 : decode cX7_init 123 = .ok (.bipush 24, 2) := zk16 24 rfl (by decide +kernel)
theorem dX7_init_125 : decode cX7_init 125 = .ok (.newarray .int, 2) := by decide +kernel
theorem dX7_init_127 : decode cX7_init 127 = .ok (.putfield 55, 3) := zk181 0 55 (by decide +kernel)
theorem dX7_init_130 : decode cX7_init 130 = .ok (.aload_n 0, 1) := zk42 (by decide +kernel)
theorem dX7_init_131 : decode cX7_init 131 = .ok (.bipush 60, 2) := zk16 60 rfl (by decide +kernel)
theorem dX7_init_133 : decode cX7_init 133 = .ok (.newarray .int, 2) := by decide +kernel
theorem dX7_init_135 : decode cX7_init 135 = .ok (.putfield 58, 3) := zk181 0 58 (by decide +kernel)
theorem dX7_init_138 : decode cX7_init 138 = .ok (.aload_n 0, 1) := zk42 (by decide +kernel)
theorem dX7_init_139 : decode cX7_init 139 = .ok (.bipush 60, 2) := zk16 60 rfl (by decide +kernel)
theorem dX7_init_141 : decode cX7_init 141 = .ok (.newarray .int, 2) := by decide +kernel
theorem dX7_init_143 : decode cX7_init 143 = .ok (.putfield 61, 3) := zk181 0 61 (by decide +kernel)
theorem dX7_init_146 : decode cX7_init 146 = .ok (.aload_n 0, 1) := zk42 (by decide +kernel)
theorem dX7_init_147 : decode cX7_init 147 = .ok (.getfield 7, 3) := zk180 0 7 (by decide +kernel)
theorem dX7_init_150 : decode cX7_init 150 = .ok (.bipush 6, 2) := zk16 6 rfl (by decide +kernel)
theorem dX7_init_152 : decode cX7_init 152 = .ok (.iconst 1, 1) := zk4 (by decide +kernel)
theorem dX7_init_153 : decode cX7_init 153 = .ok (.iastore, 1) := zk79 (by decide +kernel)
theorem dX7_init_154 : decode cX7_init 154 = .ok (.aload_n 0, 1) := zk42 (by decide +kernel)
theorem dX7_init_155 : decode cX7_init 155 = .ok (.getfield 7, 3) := zk180 0 7 (by decide +kernel)
theorem dX7_init_158 : decode cX7_init 158 = .ok (.bipush 8, 2) := zk16 8 rfl (by decide +kernel)
theorem dX7_init_160 : decode cX7_init 160 = .ok (.iconst 3, 1) := zk6 (by decide +kernel)
theorem dX7_init_161 : decode cX7_init 161 = .ok (.iastore, 1) := zk79 (by decide +kernel)
theorem dX7_init_162 : decode cX7_init 162 = .ok (.aload_n 0, 1) := zk42 (by decide +kernel)
theorem dX7_init_163 : decode cX7_init 163 = .ok (.getfield 7, 3) := zk180 0 7 (by decide +kernel)
theorem dX7_init_166 : decode cX7_init 166 = .ok (.bipush 9, 2) := zk16 9 rfl (by decide +kernel)
theorem dX7_init_168 : decode cX7_init 168 = .ok (.bipush 10, 2) := zk16 10 rfl (by decide +kernel)
theorem dX7_init_170 : decode cX7_init 170 = .ok (.iastore, 1) := zk79 (by decide +kernel)
theorem dX7_init_171 : decode cX7_init 171 = .ok (.iconst 0, 1) := zk3 (by decide +kernel)
theorem dX7_init_172 : decode cX7_init 172 = .ok (.istore_n 1, 1) := zk60 (by decide +kernel)
theorem dX7_init_173 : decode cX7_init 173 = .ok (.iload_n 1, 1) := zk27 (by decide +kernel)
theorem dX7_init_174 : decode cX7_init 174 = .ok (.iconst 4, 1) := zk7 (by decide +kernel)
theorem dX7_init_175 : decode cX7_init 175 = .ok (.if_icmp .ge 16, 3) := zk162 0 16 rfl (by decide +kernel)
theorem dX7_init_178 : decode cX7_init 178 = .ok (.aload_n 0, 1) := zk42 (by decide +kernel)
theorem dX7_init_179 : decode cX7_init 179 = .ok (.getfield 19, 3) := zk180 0 19 (by decide +kernel)
theorem dX7_init_182 : decode cX7_init 182 = .ok (.iload_n 1, 1) := zk27 (by decide +kernel)
theorem dX7_init_183 : decode cX7_init 183 = .ok (.iconst (-1), 1) := zk2 (by decide +kernel)
theorem dX7_init_184 : decode cX7_init 184 = .ok (.iastore, 1) := zk79 (by decide +kernel)
theorem dX7_init_185 : decode cX7_init 185 = .ok (.iinc 1 1, 3) := by decide +kernel
theorem dX7_init_188 : decode cX7_init 188 = .ok (.goto (-15), 3) := zk167 255 241 rfl (by decide +kernel)
theorem dX7_init_191 : decode cX7_init 191 = .ok (.return_, 1) := zk177 (by decide +kernel)
