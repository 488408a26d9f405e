set_option maxRecDepth 20000 in
theorem gw_wsX4_takeOver : wsX4_takeOver.all goodWord = true := by decide +kernel
set_option maxRecDepth 20000 in
theorem ggX0_takeOver_X4_takeOver : GoodIn wsX0_takeOver wsX4_takeOver := goodIn_r _ [18, 19, 20, 21, 22, 37, 38, 39, 40] rfl gw_wsX4_takeOver
set_option maxRecDepth 20000 in
theorem gX0_takeOver_X4_takeOver : GoodIn wsX0_takeOver (wsV RX0 43 RX4 yX4_takeOver wsX4_takeOver) := goodIn_app (goodIn_r _ [14, 15, 16, 17] rfl (by decide +kernel)) ggX0_takeOver_X4_takeOver
theorem dX0_takeOver_0 : decode cX0_takeOver 0 = .ok (.aload_n 0, 1) := zk42 (by decide +kernel)
theorem dX0_takeOver_1 : decode cX0_takeOver 1 = .ok (.aload_n 1, 1) := zk43 (by decide +kernel)
theorem dX0_takeOver_2 : decode cX0_takeOver 2 = .ok (.getfield 40, 3) := zk180 0 40 (by decide +kernel)
theorem dX0_takeOver_5 : decode cX0_takeOver 5 = .ok (.putfield 40, 3) := zk181 0 40 (by decide +kernel)
theorem dX0_takeOver_8 : decode cX0_takeOver 8 = .ok (.iconst 0, 1) := zk3 (by decide +kernel)
theorem dX0_takeOver_9 : decode cX0_takeOver 9 = .ok (.istore_n 2, 1) := zk61 (by decide +kernel)
theorem dX0_takeOver_10 : decode cX0_takeOver 10 = .ok (.iload_n 2, 1) := zk28 (by decide +kernel)
theorem dX0_takeOver_11 : decode cX0_takeOver 11 = .ok (.aload_n 0, 1) := zk42 (by decide +kernel)
theorem dX0_takeOver_12 : decode cX0_takeOver 12 = .ok (.getfield 40, 3) := zk180 0 40 (by decide +kernel)
theorem dX0_takeOver_15 : decode cX0_takeOver 15 = .ok (.if_icmp .ge 24, 3) := zk162 0 24 rfl (by decide +kernel)
theorem dX0_takeOver_18 : decode cX0_takeOver 18 = .ok (.aload_n 0, 1) := zk42 (by decide +kernel)
theorem dX0_takeOver_19 : decode cX0_takeOver 19 = .ok (.getfield 11, 3) := zk180 0 11 (by decide +kernel)
theorem dX0_takeOver_22 : decode cX0_takeOver 22 = .ok (.iload_n 2, 1) := zk28 (by decide +kernel)
theorem dX0_takeOver_23 : decode cX0_takeOver 23 = .ok (.aaload, 1) := zk50 (by decide +kernel)
theorem dX0_takeOver_24 : decode cX0_takeOver 24 = .ok (.aload_n 1, 1) := zk43 (by decide +kernel)
theorem dX0_takeOver_25 : decode cX0_takeOver 25 = .ok (.getfield 11, 3) := zk180 0 11 (by decide +kernel)
theorem dX0_takeOver_28 : decode cX0_takeOver 28 = .ok (.iload_n 2, 1) := zk28 (by decide +kernel)
theorem dX0_takeOver_29 : decode cX0_takeOver 29 = .ok (.aaload, 1) := zk50 (by decide +kernel)
theorem dX0_takeOver_30 : decode cX0_takeOver 30 = .ok (.invokevirtual 43, 3) := zk182 0 43 (by decide +kernel)
theorem dX0_takeOver_33 : decode cX0_takeOver 33 = .ok (.iinc 2 1, 3) := by decide +kernel
theorem dX0_takeOver_36 : decode cX0_takeOver 36 = .ok (.goto (-26), 3) := zk167 255 230 rfl (by decide +kernel)
theorem dX0_takeOver_39 : decode cX0_takeOver 39 = .ok (.aload_n 0, 1) := zk42 (by decide +kernel)
theorem dX0_takeOver_40 : decode cX0_takeOver 40 = .ok (.aload_n 1, 1) := zk43 (by decide +kernel)
theorem dX0_takeOver_41 : decode cX0_takeOver 41 = .ok (.getfield 47, 3) := zk180 0 47 (by decide +kernel)
theorem dX0_takeOver_44 : decode cX0_takeOver 44 = .ok (.putfield 47, 3) := zk181 0 47 (by decide +kernel)
theorem dX0_takeOver_47 : decode cX0_takeOver 47 = .ok (.iconst 0, 1) := zk3 (by decide +kernel)
theorem dX0_takeOver_48 : decode cX0_takeOver 48 = .ok (.istore_n 2, 1) := zk61 (by decide +kernel)
theorem dX0_takeOver_49 : decode cX0_takeOver 49 = .ok (.iload_n 2, 1) := zk28 (by decide +kernel)
theorem dX0_takeOver_50 : decode cX0_takeOver 50 = .ok (.iconst 3, 1) := zk6 (by decide +kernel)
theorem dX0_takeOver_51 : decode cX0_takeOver 51 = .ok (.if_icmp .ge 21, 3) := zk162 0 21 rfl (by decide +kernel)
theorem dX0_takeOver_54 : decode cX0_takeOver 54 = .ok (.aload_n 0, 1) := zk42 (by decide +kernel)
theorem dX0_takeOver_55 : decode cX0_takeOver 55 = .ok (.getfield 18, 3) := zk180 0 18 (by decide +kernel)
theorem dX0_takeOver_58 : decode cX0_takeOver 58 = .ok (.iload_n 2, 1) := zk28 (by decide +kernel)
theorem dX0_takeOver_59 : decode cX0_takeOver 59 = .ok (.aload_n 1, 1) := zk43 (by decide +kernel)
theorem dX0_takeOver_60 : decode cX0_takeOver 60 = .ok (.getfield 18, 3) := zk180 0 18 (by decide +kernel)
theorem dX0_takeOver_63 : decode cX0_takeOver 63 = .ok (.iload_n 2, 1) := zk28 (by decide +kernel)
theorem dX0_takeOver_64 : decode cX0_takeOver 64 = .ok (.iaload, 1) := zk46 (by decide +kernel)
theorem dX0_takeOver_65 : decode cX0_takeOver 65 = .ok (.iastore, 1) := zk79 (by decide +kernel)
theorem dX0_takeOver_66 : decode cX0_takeOver 66 = .ok (.iinc 2 1, 3) := by decide +kernel
theorem dX0_takeOver_69 : decode cX0_takeOver 69 = .ok (.goto (-20), 3) := zk167 255 236 rfl (by decide +kernel)
theorem dX0_takeOver_72 : decode cX0_takeOver 72 = .ok (.aload_n 0, 1) := zk42 (by decide +kernel)
theorem dX0_takeOver_73 : decode cX0_takeOver 73 = .ok (.aload_n 1, 1) := zk43 (by decide +kernel)
theorem dX0_takeOver_74 : decode cX0_takeOver 74 = .ok (.getfield 22, 3) := zk180 0 22 (by decide +kernel)
theorem dX0_takeOver_77 : decode cX0_takeOver 77 = .ok (.putfield 22, 3) := zk181 0 22 (by decide +kernel)
theorem dX0_takeOver_80 : decode cX0_takeOver 80 = .ok (.aload_n 0, 1) := zk42 (by decide +kernel)
theorem dX0_takeOver_81 : decode cX0_takeOver 81 = .ok (.aload_n 1, 1) := zk43 (by decide +kernel)
theorem dX0_takeOver_82 : decode cX0_takeOver 82 = .ok (.getfield 50, 3) := zk180 0 50 (by decide +kernel)
theorem dX0_takeOver_85 : decode cX0_takeOver 85 = .ok (.putfield 50, 3) := zk181 0 50 (by decide +kernel)
theorem dX0_takeOver_88 : decode cX0_takeOver 88 = .ok (.aload_n 0, 1) := zk42 (by decide +kernel)
theorem dX0_takeOver_89 : decode cX0_takeOver 89 = .ok (.aload_n 1, 1) := zk43 (by decide +kernel)
theorem dX0_takeOver_90 : decode cX0_takeOver 90 = .ok (.getfield 53, 3) := zk180 0 53 (by decide +kernel)
theorem dX0_takeOver_93 : decode cX0_takeOver 93 = .ok (.putfield 53, 3) := zk181 0 53 (by decide +kernel)
theorem dX0_takeOver_96 : decode cX0_takeOver 96 = .ok (.aload_n 0, 1) := zk42 (by decide +kernel)
theorem dX0_takeOver_97 : decode cX0_takeOver 97 = .ok (.aload_n 1, 1) := zk43 (by decide +kernel)
theorem dX0_takeOver_98 : decode cX0_takeOver 98 = .ok (.getfield 26, 3) := zk180 0 26 (by decide +kernel)
theorem dX0_takeOver_101 : decode cX0_takeOver 101 = .ok (.putfield 26, 3) := zk181 0 26 (by decide +kernel)
theorem dX0_takeOver_104 : decode cX0_takeOver 104 = .ok (.aload_n 0, 1) := zk42 (by decide +kernel)
theorem dX0_takeOver_105 : decode cX0_takeOver 105 = .ok (.aload_n 1, 1) := zk43 (by decide +kernel)
theorem dX0_takeOver_106 : decode cX0_takeOver 106 = .ok (.getfield 29, 3) := zk180 0 29 (by decide +kernel)
theorem dX0_takeOver_109 : decode cX0_takeOver 109 = .ok (.putfield 29, 3) := zk181 0 29 (by decide +kernel)
theorem dX0_takeOver_112 : decode cX0_takeOver 112 = .ok (.aload_n 0, 1) := zk42 (by decide +kernel)
theorem dX0_takeOver_113 : decode cX0_takeOver 113 = .ok (.aload_n 1, 1) := zk43 (by decide +kernel)
theorem dX0_takeOver_114 : decode cX0_takeOver 114 = .ok (.getfield 56, 3) := zk180 0 56 (by decide +kernel)
theorem dX0_takeOver_117 : decode cX0_takeOver 117 = .ok (.putfield 56, 3) := zk181 0 56 (by decide +kernel)
theorem dX0_takeOver_120 : decode cX0_takeOver 120 = .ok (.aload_n 0, 1) := zk42 (by decide +kernel)
theorem dX0_takeOver_121 : decode cX0_takeOver 121 = .ok (.aload_n 1, 1) := zk43 (by decide +kernel)
theorem dX0_takeOver_122 : decode cX0_takeOver 122 = .ok (.getfield 59, 3) := zk180 0 59 (by decide +kernel)
theorem dX0_takeOver_125 : decode cX0_takeOver 125 = .ok (.putfield 59, 3) := zk181 0 59 (by decide +kernel)
theorem dX0_takeOver_128 : decode cX0_takeOver 128 = .ok (.aload_n 0, 1) := zk42 (by decide +kernel)
theorem dX0_takeOver_129 : decode cX0_takeOver 129 = .ok (.aload_n 1, 1) := zk43 (by decide +kernel)
theorem dX0_takeOver_130 : decode cX0_takeOver 130 = .ok (.getfield 62, 3) := zk180 0 62 (by decide +kernel)
theorem dX0_takeOver_133 : decode cX0_takeOver 133 = .ok (.putfield 62, 3) := zk181 0 62 (by decide +kernel)
theorem dX0_takeOver_136 : decode cX0_takeOver 136 = .ok (.aload_n 0, 1) := zk42 (by decide +kernel)
theorem dX0_takeOver_137 : decode cX0_takeOver 137 = .ok (.aload_n 1, 1) := zk43 (by decide +kernel)
theorem dX0_takeOver_138 : decode cX0_takeOver 138 = .ok (.getfield 32, 3) := zk180 0 32 (by decide +kernel)
theorem dX0_takeOver_141 : decode cX0_takeOver 141 = .ok (.putfield 32, 3) := zk181 0 32 (by decide +kernel)
theorem dX0_takeOver_144 : decode cX0_takeOver 144 = .ok (.return_, 1) := zk177 (by decide +kernel)
theorem dX0_open_0 : decode cX0_open 0 = .ok (.aload_n 0, 1) := zk42 (by decide +kernel)
theorem dX0_open_1 : decode cX0_open 1 = .ok (.getfield 40, 3) := zk180 0 40 (by decide +kernel)
theorem dX0_open_4 : decode cX0_open 4 = .ok (.bipush 9, 2) := zk16 9 rfl (by decide +kernel)
theorem dX0_open_6 : decode cX0_open 6 = .ok (.if_icmp .lt 6, 3) := zk161 0 6 rfl (by decide +kernel)
theorem dX0_open_9 : decode cX0_open 9 = .ok (.ldc 65, 2) := zk18 65 (by decide +kernel)
theorem dX0_open_11 : decode cX0_open 11 = .ok (.ireturn, 1) := zk172 (by decide +kernel)
theorem dX0_open_12 : decode cX0_open 12 = .ok (.aload_n 0, 1) := zk42 (by decide +kernel)
theorem dX0_open_13 : decode cX0_open 13 = .ok (.getfield 11, 3) := zk180 0 11 (by decide +kernel)
theorem dX0_open_16 : decode cX0_open 16 = .ok (.aload_n 0, 1) := zk42 (by decide +kernel)
theorem dX0_open_17 : decode cX0_open 17 = .ok (.getfield 40, 3) := zk180 0 40 (by decide +kernel)
theorem dX0_open_20 : decode cX0_open 20 = .ok (.aaload, 1) := zk50 (by decide +kernel)
theorem dX0_open_21 : decode cX0_open 21 = .ok (.astore 4, 2) := zk58 4 (by decide +kernel)
theorem dX0_open_23 : decode cX0_open 23 = .ok (.aload 4, 2) := zk25 4 (by decide +kernel)
theorem dX0_open_25 : decode cX0_open 25 = .ok (.iload_n 1, 1) := zk27 (by decide +kernel)
theorem dX0_open_26 : decode cX0_open 26 = .ok (.putfield 66, 3) := zk181 0 66 (by decide +kernel)
theorem dX0_open_29 : decode cX0_open 29 = .ok (.aload 4, 2) := zk25 4 (by decide +kernel)
theorem dX0_open_31 : decode cX0_open 31 = .ok (.iload_n 2, 1) := zk28 (by decide +kernel)
theorem dX0_open_32 : decode cX0_open 32 = .ok (.putfield 69, 3) := zk181 0 69 (by decide +kernel)
theorem dX0_open_35 : decode cX0_open 35 = .ok (.aload 4, 2) := zk25 4 (by decide +kernel)
theorem dX0_open_37 : decode cX0_open 37 = .ok (.bipush 100, 2) := zk16 100 rfl (by decide +kernel)
theorem dX0_open_39 : decode cX0_open 39 = .ok (.putfield 72, 3) := zk181 0 72 (by decide +kernel)
theorem dX0_open_42 : decode cX0_open 42 = .ok (.aload 4, 2) := zk25 4 (by decide +kernel)
theorem dX0_open_44 : decode cX0_open 44 = .ok (.iload_n 3, 1) := zk29 (by decide +kernel)
theorem dX0_open_45 : decode cX0_open 45 = .ok (.putfield 75, 3) := zk181 0 75 (by decide +kernel)
theorem dX0_open_48 : decode cX0_open 48 = .ok (.aload_n 0, 1) := zk42 (by decide +kernel)
theorem dX0_open_49 : decode cX0_open 49 = .ok (.dup, 1) := zk89 (by decide +kernel)
theorem dX0_open_50 : decode cX0_open 50 = .ok (.getfield 40, 3) := zk180 0 40 (by decide +kernel)
theorem dX0_open_53 : decode cX0_open 53 = .ok (.iconst 1, 1) := zk4 (by decide +kernel)
theorem dX0_open_54 : decode cX0_open 54 = .ok (.iadd, 1) := zk96 (by decide +kernel)
theorem dX0_open_55 : decode cX0_open 55 = .ok (.putfield 40, 3) := zk181 0 40 (by decide +kernel)
theorem dX0_open_58 : decode cX0_open 58 = .ok (.aload_n 0, 1) := zk42 (by decide +kernel)
theorem dX0_open_59 : decode cX0_open 59 = .ok (.getfield 40, 3) := zk180 0 40 (by decide +kernel)
theorem dX0_open_62 : decode cX0_open 62 = .ok (.iconst 1, 1) := zk4 (by decide +kernel)
theorem dX0_open_63 : decode cX0_open 63 = .ok (.isub, 1) := zk100 (by decide +kernel)
theorem dX0_open_64 : decode cX0_open 64 = .ok (.ireturn, 1) := zk172 (by decide +kernel)
set_option maxRecDepth 20000 in
theorem ggX0_shadedSet_X0_shades : GoodIn wsX0_shadedSet wsX0_shades := goodIn_r _ [8, 9, 10, 11, 12, 7, 13, 14, 15, 16, 17, 18, 19, 20, 21, 22, 23, 24, 25, 26, 27, 28, 29, 30, 31, 32, 33] rfl gw_wsX0_shades
set_option maxRecDepth 20000 in
theorem gX0_shadedSet_X0_shades : GoodIn wsX0_shadedSet (wsV RX0 105 RX0 yX0_shades wsX0_shades) := goodIn_app (goodIn_r _ [4, 5, 6, 7] rfl (by decide +kernel)) ggX0_shadedSet_X0_shades
theorem dX0_shadedSet_0 : decode cX0_shadedSet 0 = .ok (.iconst 0, 1) := zk3 (by decide +kernel)
theorem dX0_shadedSet_1 : decode cX0_shadedSet 1 = .ok (.istore_n 1, 1) := zk60 (by decide +kernel)
theorem dX0_shadedSet_2 : decode cX0_shadedSet 2 = .ok (.iconst 0, 1) := zk3 (by decide +kernel)
theorem dX0_shadedSet_3 : decode cX0_shadedSet 3 = .ok (.istore_n 2, 1) := zk61 (by decide +kernel)
theorem dX0_shadedSet_4 : decode cX0_shadedSet 4 = .ok (.iload_n 2, 1) := zk28 (by decide +kernel)
theorem dX0_shadedSet_5 : decode cX0_shadedSet 5 = .ok (.aload_n 0, 1) := zk42 (by decide +kernel)
theorem dX0_shadedSet_6 : decode cX0_shadedSet 6 = .ok (.getfield 40, 3) := zk180 0 40 (by decide +kernel)
theorem dX0_shadedSet_9 : decode cX0_shadedSet 9 = .ok (.if_icmp .ge 31, 3) := zk162 0 31 rfl (by decide +kernel)
theorem dX0_shadedSet_12 : decode cX0_shadedSet 12 = .ok (.aload_n 0, 1) := zk42 (by decide +kernel)
theorem dX0_shadedSet_13 : decode cX0_shadedSet 13 = .ok (.aload_n 0, 1) := zk42 (by decide +kernel)
theorem dX0_shadedSet_14 : decode cX0_shadedSet 14 = .ok (.getfield 11, 3) := zk180 0 11 (by decide +kernel)
theorem dX0_shadedSet_17 : decode cX0_shadedSet 17 = .ok (.iload_n 2, 1) := zk28 (by decide +kernel)
theorem dX0_shadedSet_18 : decode cX0_shadedSet 18 = .ok (.aaload, 1) := zk50 (by decide +kernel)
theorem dX0_shadedSet_19 : decode cX0_shadedSet 19 = .ok (.getfield 69, 3) := zk180 0 69 (by decide +kernel)
theorem dX0_shadedSet_22 : decode cX0_shadedSet 22 = .ok (.invokevirtual 105, 3) := zk182 0 105 (by decide +kernel)
theorem dX0_shadedSet_25 : decode cX0_shadedSet 25 = .ok (.ifCond .eq 9, 3) := zk153 0 9 rfl (by decide +kernel)
theorem dX0_shadedSet_28 : decode cX0_shadedSet 28 = .ok (.iload_n 1, 1) := zk27 (by decide +kernel)
theorem dX0_shadedSet_29 : decode cX0_shadedSet 29 = .ok (.iconst 1, 1) := zk4 (by decide +kernel)
theorem dX0_shadedSet_30 : decode cX0_shadedSet 30 = .ok (.iload_n 2, 1) := zk28 (by decide +kernel)
theorem dX0_shadedSet_31 : decode cX0_shadedSet 31 = .ok (.ishl, 1) := zk120 (by decide +kernel)
theorem dX0_shadedSet_32 : decode cX0_shadedSet 32 = .ok (.ior, 1) := zk128 (by decide +kernel)
theorem dX0_shadedSet_33 : decode cX0_shadedSet 33 = .ok (.istore_n 1, 1) := zk60 (by decide +kernel)
theorem dX0_shadedSet_34 : decode cX0_shadedSet 34 = .ok (.iinc 2 1, 3) := by decide +kernel
theorem dX0_shadedSet_37 : decode cX0_shadedSet 37 = .ok (.goto (-33), 3) := zk167 255 223 rfl (by decide +kernel)
theorem dX0_shadedSet_40 : decode cX0_shadedSet 40 = .ok (.iload_n 1, 1) := zk27 (by decide +kernel)
theorem dX0_shadedSet_41 : decode cX0_shadedSet 41 = .ok (.ireturn, 1) := zk172 (by decide +kernel)
set_option maxRecDepth 20000 in
theorem ggX0_widen_X0_lastFirst : GoodIn wsX0_widen wsX0_lastFirst := goodIn_r _ [7, 1, 18, 19, 20, 21, 22, 23, 24, 25, 26, 27, 28, 29, 30, 31] rfl gw_wsX0_lastFirst
set_option maxRecDepth 20000 in
theorem gX0_widen_X0_lastFirst : GoodIn wsX0_widen (wsV RX0 117 RX0 yX0_lastFirst wsX0_lastFirst) := goodIn_app (goodIn_r _ [3, 4, 5, 6] rfl (by decide +kernel)) ggX0_widen_X0_lastFirst
set_option maxRecDepth 20000 in
theorem ggX0_widen_X6_held : GoodIn wsX0_widen wsX6_held := goodIn_r _ [10, 11, 12, 13, 14, 15, 16, 17] rfl gw_wsX6_held
set_option maxRecDepth 20000 in
theorem gX0_widen_X6_held_n120 : GoodIn wsX0_widen (wsX6_held) := ggX0_widen_X6_held
theorem dX0_widen_0 : decode cX0_widen 0 = .ok (.aload_n 0, 1) := zk42 (by decide +kernel)
theorem dX0_widen_1 : decode cX0_widen 1 = .ok (.iload_n 1, 1) := zk27 (by decide +kernel)
theorem dX0_widen_2 : decode cX0_widen 2 = .ok (.putfield 22, 3) := zk181 0 22 (by decide +kernel)
theorem dX0_widen_5 : decode cX0_widen 5 = .ok (.aload_n 0, 1) := zk42 (by decide +kernel)
theorem dX0_widen_6 : decode cX0_widen 6 = .ok (.aload_n 0, 1) := zk42 (by decide +kernel)
theorem dX0_widen_7 : decode cX0_widen 7 = .ok (.getfield 50, 3) := zk180 0 50 (by decide +kernel)
theorem dX0_widen_10 : decode cX0_widen 10 = .ok (.iconst 0, 1) := zk3 (by decide +kernel)
theorem dX0_widen_11 : decode cX0_widen 11 = .ok (.aload_n 0, 1) := zk42 (by decide +kernel)
theorem dX0_widen_12 : decode cX0_widen 12 = .ok (.invokevirtual 117, 3) := zk182 0 117 (by decide +kernel)
theorem dX0_widen_15 : decode cX0_widen 15 = .ok (.invokestatic 120, 3) := zk184 0 120 (by decide +kernel)
theorem dX0_widen_18 : decode cX0_widen 18 = .ok (.putfield 50, 3) := zk181 0 50 (by decide +kernel)
theorem dX0_widen_21 : decode cX0_widen 21 = .ok (.return_, 1) := zk177 (by decide +kernel)
def bs_wsX0_passHour : List (List Cond) := [[.code yX0_passHour cX0_passHour 5 none], wsX0_passHour_r1, wsX0_passHour_r2, wsX0_passHour_r3, wsX0_passHour_r4, wsX00, wsX40, wsX50]
theorem bse_wsX0_passHour : wsX0_passHour = bs_wsX0_passHour.flatten := by
  unfold wsX0_passHour bs_wsX0_passHour
  simp only [List.flatten_cons, List.flatten_nil, List.append_nil, List.append_assoc, List.cons_append, List.nil_append]
set_option maxRecDepth 20000 in
theorem ggX0_passHour_X0_hauledTo : GoodIn wsX0_passHour wsX0_hauledTo := goodIn_pc bs_wsX0_passHour bse_wsX0_passHour _ [(1, [13, 0, 14, 15, 16, 17, 18, 19, 20, 21, 22, 23, 12]), (2, [0, 1]), (5, [0, 1, 2, 3, 4, 5, 6, 7, 8, 9, 10, 11, 12, 13])] rfl gw_wsX0_hauledTo
set_option maxRecDepth 20000 in
theorem gX0_passHour_X0_hauledTo : GoodIn wsX0_passHour (wsV RX0 153 RX0 yX0_hauledTo wsX0_hauledTo) := goodIn_app (goodIn_pc bs_wsX0_passHour bse_wsX0_passHour _ [(1, [9, 10, 11, 12])] rfl (by decide +kernel)) ggX0_passHour_X0_hauledTo
set_option maxRecDepth 20000 in
theorem ggX0_passHour_X0_lossOf : GoodIn wsX0_passHour wsX0_lossOf := goodIn_pc bs_wsX0_passHour bse_wsX0_passHour _ [(2, [5]), (1, [3, 5, 18, 19, 16, 20]), (2, [6, 7, 8]), (1, [12]), (2, [9]), (1, [0]), (2, [10, 11, 12, 13, 1, 14, 15, 16, 17]), (1, [8]), (2, [18, 19, 20, 21, 22, 23]), (3, [0, 1, 2, 3, 4, 5]), (1, [7]), (3, [6, 7, 8, 9, 10, 11, 12, 13, 14, 15, 16, 17, 18, 19, 20, 21, 22, 23]), (4, [0, 1, 2, 3, 4, 5, 6]), (1, [15, 17]), (4, [7, 8, 9, 10]), (6, [0, 1, 2, 3]), (5, [0, 1, 2, 3, 4, 5, 6, 7, 8, 9, 10, 11, 12, 13]), (7, [0, 1, 2, 3, 4])] rfl gw_wsX0_lossOf
set_option maxRecDepth 20000 in
theorem gX0_passHour_X0_lossOf : GoodIn wsX0_passHour (wsV RX0 150 RX0 yX0_lossOf wsX0_lossOf) := goodIn_app (goodIn_pc bs_wsX0_passHour bse_wsX0_passHour _ [(2, [2, 3, 4]), (1, [12])] rfl (by decide +kernel)) ggX0_passHour_X0_lossOf
set_option maxRecDepth 20000 in
theorem ggX0_passHour_X0_shades : GoodIn wsX0_passHour wsX0_shades := goodIn_pc bs_wsX0_passHour bse_wsX0_passHour _ [(2, [9]), (1, [0]), (2, [10, 11, 12]), (1, [12]), (2, [13, 1, 14, 15, 16, 17]), (1, [8]), (5, [0, 1, 2, 3, 4, 5, 6, 7, 8, 9, 10, 11, 12, 13])] rfl gw_wsX0_shades
set_option maxRecDepth 20000 in
theorem gX0_passHour_X0_shades : GoodIn wsX0_passHour (wsV RX0 105 RX0 yX0_shades wsX0_shades) := goodIn_app (goodIn_pc bs_wsX0_passHour bse_wsX0_passHour _ [(2, [6, 7, 8]), (1, [12])] rfl (by decide +kernel)) ggX0_passHour_X0_shades
set_option maxRecDepth 20000 in
theorem gw_wsX0_blow : wsX0_blow.all goodWord = true := by decide +kernel
set_option maxRecDepth 20000 in
theorem ggX0_passHour_X0_blow : GoodIn wsX0_passHour wsX0_blow := goodIn_pc bs_wsX0_passHour bse_wsX0_passHour _ [(4, [14, 15]), (1, [0]), (4, [16, 17, 18, 19]), (1, [12]), (4, [20, 21, 22]), (1, [21, 22, 23]), (2, [0, 1]), (4, [3]), (3, [7]), (4, [4, 5]), (1, [19, 16, 20]), (4, [6]), (1, [15, 17]), (5, [0, 1, 2, 3, 4, 5, 6, 7, 8, 9, 10, 11, 12, 13])] rfl gw_wsX0_blow
set_option maxRecDepth 20000 in
theorem gX0_passHour_X0_blow : GoodIn wsX0_passHour (wsV RX0 162 RX0 yX0_blow wsX0_blow) := goodIn_app (goodIn_pc bs_wsX0_passHour bse_wsX0_passHour _ [(4, [11, 12, 13]), (1, [12])] rfl (by decide +kernel)) ggX0_passHour_X0_blow
theorem dX0_passHour_0 : decode cX0_passHour 0 = .ok (.aload_n 0, 1) := zk42 (by decide +kernel)
theorem dX0_passHour_1 : decode cX0_passHour 1 = .ok (.aload_n 0, 1) := zk42 (by decide +kernel)
theorem dX0_passHour_2 : decode cX0_passHour 2 = .ok (.iload_n 1, 1) := zk27 (by decide +kernel)
theorem dX0_passHour_3 : decode cX0_passHour 3 = .ok (.invokevirtual 153, 3) := zk182 0 153 (by decide +kernel)
theorem dX0_passHour_6 : decode cX0_passHour 6 = .ok (.putfield 50, 3) := zk181 0 50 (by decide +kernel)
theorem dX0_passHour_9 : decode cX0_passHour 9 = .ok (.iconst 0, 1) := zk3 (by decide +kernel)
theorem dX0_passHour_10 : decode cX0_passHour 10 = .ok (.istore_n 2, 1) := zk61 (by decide +kernel)
theorem dX0_passHour_11 : decode cX0_passHour 11 = .ok (.iload_n 2, 1) := zk28 (by decide +kernel)
theorem dX0_passHour_12 : decode cX0_passHour 12 = .ok (.aload_n 0, 1) := zk42 (by decide +kernel)
theorem dX0_passHour_13 : decode cX0_passHour 13 = .ok (.getfield 40, 3) := zk180 0 40 (by decide +kernel)
theorem dX0_passHour_16 : decode cX0_passHour 16 = .ok (.if_icmp .ge 69, 3) := zk162 0 69 rfl (by decide +kernel)
theorem dX0_passHour_19 : decode cX0_passHour 19 = .ok (.aload_n 0, 1) := zk42 (by decide +kernel)
theorem dX0_passHour_20 : decode cX0_passHour 20 = .ok (.getfield 11, 3) := zk180 0 11 (by decide +kernel)
theorem dX0_passHour_23 : decode cX0_passHour 23 = .ok (.iload_n 2, 1) := zk28 (by decide +kernel)
theorem dX0_passHour_24 : decode cX0_passHour 24 = .ok (.aaload, 1) := zk50 (by decide +kernel)
theorem dX0_passHour_25 : decode cX0_passHour 25 = .ok (.astore_n 3, 1) := zk78 (by decide +kernel)
theorem dX0_passHour_26 : decode cX0_passHour 26 = .ok (.aload_n 0, 1) := zk42 (by decide +kernel)
theorem dX0_passHour_27 : decode cX0_passHour 27 = .ok (.aload_n 3, 1) := zk45 (by decide +kernel)
theorem dX0_passHour_28 : decode cX0_passHour 28 = .ok (.invokevirtual 150, 3) := zk182 0 150 (by decide +kernel)
theorem dX0_passHour_31 : decode cX0_passHour 31 = .ok (.istore 4, 2) := zk54 4 (by decide +kernel)
theorem dX0_passHour_33 : decode cX0_passHour 33 = .ok (.aload_n 3, 1) := zk45 (by decide +kernel)
theorem dX0_passHour_34 : decode cX0_passHour 34 = .ok (.dup, 1) := zk89 (by decide +kernel)
theorem dX0_passHour_35 : decode cX0_passHour 35 = .ok (.getfield 72, 3) := zk180 0 72 (by decide +kernel)
theorem dX0_passHour_38 : decode cX0_passHour 38 = .ok (.iload 4, 2) := zk21 4 (by decide +kernel)
theorem dX0_passHour_40 : decode cX0_passHour 40 = .ok (.isub, 1) := zk100 (by decide +kernel)
theorem dX0_passHour_41 : decode cX0_passHour 41 = .ok (.putfield 72, 3) := zk181 0 72 (by decide +kernel)
theorem dX0_passHour_44 : decode cX0_passHour 44 = .ok (.aload_n 0, 1) := zk42 (by decide +kernel)
theorem dX0_passHour_45 : decode cX0_passHour 45 = .ok (.dup, 1) := zk89 (by decide +kernel)
theorem dX0_passHour_46 : decode cX0_passHour 46 = .ok (.getfield 59, 3) := zk180 0 59 (by decide +kernel)
theorem dX0_passHour_49 : decode cX0_passHour 49 = .ok (.iload 4, 2) := zk21 4 (by decide +kernel)
theorem dX0_passHour_51 : decode cX0_passHour 51 = .ok (.iadd, 1) := zk96 (by decide +kernel)
theorem dX0_passHour_52 : decode cX0_passHour 52 = .ok (.putfield 59, 3) := zk181 0 59 (by decide +kernel)
theorem dX0_passHour_55 : decode cX0_passHour 55 = .ok (.aload_n 0, 1) := zk42 (by decide +kernel)
theorem dX0_passHour_56 : decode cX0_passHour 56 = .ok (.aload_n 3, 1) := zk45 (by decide +kernel)
theorem dX0_passHour_57 : decode cX0_passHour 57 = .ok (.getfield 69, 3) := zk180 0 69 (by decide +kernel)
theorem dX0_passHour_60 : decode cX0_passHour 60 = .ok (.invokevirtual 105, 3) := zk182 0 105 (by decide +kernel)
theorem dX0_passHour_63 : decode cX0_passHour 63 = .ok (.ifCond .eq 16, 3) := zk153 0 16 rfl (by decide +kernel)
theorem dX0_passHour_66 : decode cX0_passHour 66 = .ok (.aload_n 0, 1) := zk42 (by decide +kernel)
theorem dX0_passHour_67 : decode cX0_passHour 67 = .ok (.dup, 1) := zk89 (by decide +kernel)
theorem dX0_passHour_68 : decode cX0_passHour 68 = .ok (.getfield 56, 3) := zk180 0 56 (by decide +kernel)
theorem dX0_passHour_71 : decode cX0_passHour 71 = .ok (.aload_n 3, 1) := zk45 (by decide +kernel)
theorem dX0_passHour_72 : decode cX0_passHour 72 = .ok (.getfield 75, 3) := zk180 0 75 (by decide +kernel)
theorem dX0_passHour_75 : decode cX0_passHour 75 = .ok (.iadd, 1) := zk96 (by decide +kernel)
theorem dX0_passHour_76 : decode cX0_passHour 76 = .ok (.putfield 56, 3) := zk181 0 56 (by decide +kernel)
theorem dX0_passHour_79 : decode cX0_passHour 79 = .ok (.iinc 2 1, 3) := by decide +kernel
theorem dX0_passHour_82 : decode cX0_passHour 82 = .ok (.goto (-71), 3) := zk167 255 185 rfl (by decide +kernel)
theorem dX0_passHour_85 : decode cX0_passHour 85 = .ok (.aload_n 0, 1) := zk42 (by decide +kernel)
theorem dX0_passHour_86 : decode cX0_passHour 86 = .ok (.invokevirtual 162, 3) := zk182 0 162 (by decide +kernel)
theorem dX0_passHour_89 : decode cX0_passHour 89 = .ok (.aload_n 0, 1) := zk42 (by decide +kernel)
theorem dX0_passHour_90 : decode cX0_passHour 90 = .ok (.dup, 1) := zk89 (by decide +kernel)
theorem dX0_passHour_91 : decode cX0_passHour 91 = .ok (.getfield 53, 3) := zk180 0 53 (by decide +kernel)
theorem dX0_passHour_94 : decode cX0_passHour 94 = .ok (.iconst 1, 1) := zk4 (by decide +kernel)
theorem dX0_passHour_95 : decode cX0_passHour 95 = .ok (.iadd, 1) := zk96 (by decide +kernel)
theorem dX0_passHour_96 : decode cX0_passHour 96 = .ok (.putfield 53, 3) := zk181 0 53 (by decide +kernel)
theorem dX0_passHour_99 : decode cX0_passHour 99 = .ok (.return_, 1) := zk177 (by decide +kernel)
def bs_wsX1_readText : List (List Cond) := [[.code yX1_readText cX1_readText 3 (some .int)], wsX1_readText_r1, wsX1_readText_r2, wsX1_readText_r3, wsX1_readText_r4, wsX1_readText_r5, wsX1_readText_r6, wsX1_readText_r7, wsX1_readText_r8, wsX1_readText_r9, wsX10, wsX50]
theorem bse_wsX1_readText : wsX1_readText = bs_wsX1_readText.flatten := by
  unfold wsX1_readText bs_wsX1_readText
  simp only [List.flatten_cons, List.flatten_nil, List.append_nil, List.append_assoc, List.cons_append, List.nil_append]
set_option maxRecDepth 20000 in
theorem ggX1_readText_X6_held : GoodIn wsX1_readText wsX6_held := goodIn_pc bs_wsX1_readText bse_wsX1_readText _ [(1, [10, 11, 12, 13, 14, 15, 16, 17])] rfl gw_wsX6_held
set_option maxRecDepth 20000 in
theorem gX1_readText_X6_held_n22 : GoodIn wsX1_readText (wsX6_held) := ggX1_readText_X6_held
set_option maxRecDepth 20000 in
theorem gw_wsX1_advance : wsX1_advance.all goodWord = true := by decide +kernel
set_option maxRecDepth 20000 in
theorem ggX1_readText_X1_advance : GoodIn wsX1_readText wsX1_advance := goodIn_pc bs_wsX1_readText bse_wsX1_readText _ [(1, [22, 1, 2, 6, 0, 23]), (2, [0, 1, 2]), (1, [21]), (2, [3]), (10, [0, 1, 2, 3, 4, 5, 6, 7])] rfl gw_wsX1_advance
set_option maxRecDepth 20000 in
theorem gX1_readText_X1_advance : GoodIn wsX1_readText (wsV RX1 42 RX1 yX1_advance wsX1_advance) := goodIn_app (goodIn_pc bs_wsX1_readText bse_wsX1_readText _ [(1, [18, 19, 20, 21])] rfl (by decide +kernel)) ggX1_readText_X1_advance
set_option maxRecDepth 20000 in
theorem gw_wsX1_keyHere : wsX1_keyHere.all goodWord = true := by decide +kernel
set_option maxRecDepth 20000 in
theorem ggX1_readText_X1_keyHere : GoodIn wsX1_readText wsX1_keyHere := goodIn_pc bs_wsX1_readText bse_wsX1_readText _ [(2, [7]), (1, [5]), (2, [8, 9, 10]), (1, [21]), (2, [11]), (1, [1, 2, 6, 23]), (2, [12, 13, 14, 15, 16, 17, 18, 19, 20, 21, 22, 23, 0, 1, 2, 3]), (1, [0]), (3, [0, 1, 2, 3, 4, 5, 6, 7, 8, 9, 10, 11, 12, 13, 14, 15, 16, 17, 18, 19, 20, 21, 22, 23]), (4, [0, 1, 2, 3, 4, 5, 6, 7, 8, 9, 10, 11, 12]), (10, [0, 1, 2, 3, 4, 5, 6, 7])] rfl gw_wsX1_keyHere
set_option maxRecDepth 20000 in
theorem gX1_readText_X1_keyHere : GoodIn wsX1_readText (wsV RX1 45 RX1 yX1_keyHere wsX1_keyHere) := goodIn_app (goodIn_pc bs_wsX1_readText bse_wsX1_readText _ [(2, [4, 5, 6]), (1, [21])] rfl (by decide +kernel)) ggX1_readText_X1_keyHere
set_option maxRecDepth 20000 in
theorem gw_wsX5_begin : wsX5_begin.all goodWord = true := by decide +kernel
set_option maxRecDepth 20000 in
theorem ggX1_readText_X5_begin : GoodIn wsX1_readText wsX5_begin := goodIn_pc bs_wsX1_readText bse_wsX1_readText _ [(4, [17, 18, 19, 20]), (11, [0, 1, 2, 3, 4])] rfl gw_wsX5_begin
set_option maxRecDepth 20000 in
theorem gX1_readText_X5_begin : GoodIn wsX1_readText (wsV RX1 53 RX5 yX5_begin wsX5_begin) := goodIn_app (goodIn_pc bs_wsX1_readText bse_wsX1_readText _ [(4, [13, 14, 15, 16])] rfl (by decide +kernel)) ggX1_readText_X5_begin
set_option maxRecDepth 20000 in
theorem gw_wsX1_readLevel : wsX1_readLevel.all goodWord = true := by decide +kernel
set_option maxRecDepth 20000 in
theorem ggX1_readText_X1_readLevel : GoodIn wsX1_readText wsX1_readLevel := goodIn_pc bs_wsX1_readText bse_wsX1_readText _ [(5, [0]), (1, [7]), (5, [1, 2, 3]), (1, [21]), (4, [21, 22, 23]), (5, [4, 5, 6, 7]), (1, [1, 6, 23, 5]), (5, [8]), (1, [9]), (5, [9, 10, 11, 12]), (1, [18, 19, 20, 22, 2, 0]), (2, [0, 1, 2, 3]), (5, [13, 14, 15]), (4, [16]), (5, [16]), (4, [20]), (5, [17, 18]), (1, [3]), (5, [19]), (1, [4]), (5, [20, 21, 22, 23]), (6, [0, 1, 2, 3, 4]), (4, [19]), (6, [5, 6, 7, 8, 9, 10, 11, 12, 13, 14, 15, 16]), (2, [15]), (6, [17, 18, 19, 20, 21]), (2, [17]), (3, [4, 5, 6, 7]), (2, [22, 23]), (6, [22]), (2, [13, 14, 16, 18, 19, 20, 21]), (6, [23]), (7, [0]), (3, [10]), (7, [1, 2]), (1, [16, 13, 17]), (7, [3]), (1, [12, 14]), (7, [4, 5, 6, 7, 8, 9, 10, 11]), (3, [22]), (7, [12, 13, 14, 15, 16, 17, 18, 19, 20, 21]), (4, [3, 4, 5]), (7, [22, 23]), (8, [0]), (3, [15]), (8, [1, 2]), (3, [18]), (8, [3, 4, 5, 6]), (4, [7, 8, 9, 10, 11, 12]), (8, [7, 8, 9, 10, 11, 12, 13, 14, 15, 16, 17, 18, 19, 20, 21, 22, 23]), (9, [0, 1, 2, 3]), (10, [0, 1, 2, 3, 4, 5, 6, 7]), (11, [0, 1, 2, 3, 4])] rfl gw_wsX1_readLevel
set_option maxRecDepth 20000 in
theorem gX1_readText_X1_readLevel : GoodIn wsX1_readText (wsV RX1 57 RX1 yX1_readLevel wsX1_readLevel) := goodIn_app (goodIn_pc bs_wsX1_readText bse_wsX1_readText _ [(4, [21, 22, 23]), (1, [21])] rfl (by decide +kernel)) ggX1_readText_X1_readLevel
theorem dX1_readText_0 : decode cX1_readText 0 = .ok (.aload_n 0, 1) := zk42 (by decide +kernel)
theorem dX1_readText_1 : decode cX1_readText 1 = .ok (.iload_n 1, 1) := zk27 (by decide +kernel)
theorem dX1_readText_2 : decode cX1_readText 2 = .ok (.iconst 0, 1) := zk3 (by decide +kernel)
theorem dX1_readText_3 : decode cX1_readText 3 = .ok (.bipush 96, 2) := zk16 96 rfl (by decide +kernel)
theorem dX1_readText_5 : decode cX1_readText 5 = .ok (.invokestatic 22, 3) := zk184 0 22 (by decide +kernel)
theorem dX1_readText_8 : decode cX1_readText 8 = .ok (.putfield 26, 3) := zk181 0 26 (by decide +kernel)
theorem dX1_readText_11 : decode cX1_readText 11 = .ok (.aload_n 0, 1) := zk42 (by decide +kernel)
theorem dX1_readText_12 : decode cX1_readText 12 = .ok (.iconst 0, 1) := zk3 (by decide +kernel)
theorem dX1_readText_13 : decode cX1_readText 13 = .ok (.putfield 30, 3) := zk181 0 30 (by decide +kernel)
theorem dX1_readText_16 : decode cX1_readText 16 = .ok (.aload_n 0, 1) := zk42 (by decide +kernel)
theorem dX1_readText_17 : decode cX1_readText 17 = .ok (.iconst 0, 1) := zk3 (by decide +kernel)
theorem dX1_readText_18 : decode cX1_readText 18 = .ok (.putfield 33, 3) := zk181 0 33 (by decide +kernel)
theorem dX1_readText_21 : decode cX1_readText 21 = .ok (.aload_n 0, 1) := zk42 (by decide +kernel)
theorem dX1_readText_22 : decode cX1_readText 22 = .ok (.iconst 0, 1) := zk3 (by decide +kernel)
theorem dX1_readText_23 : decode cX1_readText 23 = .ok (.putfield 36, 3) := zk181 0 36 (by decide +kernel)
theorem dX1_readText_26 : decode cX1_readText 26 = .ok (.aload_n 0, 1) := zk42 (by decide +kernel)
theorem dX1_readText_27 : decode cX1_readText 27 = .ok (.iconst 0, 1) := zk3 (by decide +kernel)
theorem dX1_readText_28 : decode cX1_readText 28 = .ok (.putfield 39, 3) := zk181 0 39 (by decide +kernel)
theorem dX1_readText_31 : decode cX1_readText 31 = .ok (.aload_n 0, 1) := zk42 (by decide +kernel)
theorem dX1_readText_32 : decode cX1_readText 32 = .ok (.invokevirtual 42, 3) := zk182 0 42 (by decide +kernel)
theorem dX1_readText_35 : decode cX1_readText 35 = .ok (.aload_n 0, 1) := zk42 (by decide +kernel)
theorem dX1_readText_36 : decode cX1_readText 36 = .ok (.invokevirtual 45, 3) := zk182 0 45 (by decide +kernel)
theorem dX1_readText_39 : decode cX1_readText 39 = .ok (.istore_n 2, 1) := zk61 (by decide +kernel)
theorem dX1_readText_40 : decode cX1_readText 40 = .ok (.iload_n 2, 1) := zk28 (by decide +kernel)
theorem dX1_readText_41 : decode cX1_readText 41 = .ok (.ldc 49, 2) := zk18 49 (by decide +kernel)
theorem dX1_readText_43 : decode cX1_readText 43 = .ok (.if_icmp .ne 8, 3) := zk160 0 8 rfl (by decide +kernel)
theorem dX1_readText_46 : decode cX1_readText 46 = .ok (.aload_n 0, 1) := zk42 (by decide +kernel)
theorem dX1_readText_47 : decode cX1_readText 47 = .ok (.getfield 50, 3) := zk180 0 50 (by decide +kernel)
theorem dX1_readText_50 : decode cX1_readText 50 = .ok (.ireturn, 1) := zk172 (by decide +kernel)
theorem dX1_readText_51 : decode cX1_readText 51 = .ok (.aload_n 0, 1) := zk42 (by decide +kernel)
theorem dX1_readText_52 : decode cX1_readText 52 = .ok (.getfield 12, 3) := zk180 0 12 (by decide +kernel)
theorem dX1_readText_55 : decode cX1_readText 55 = .ok (.iload_n 2, 1) := zk28 (by decide +kernel)
theorem dX1_readText_56 : decode cX1_readText 56 = .ok (.invokevirtual 53, 3) := zk182 0 53 (by decide +kernel)
theorem dX1_readText_59 : decode cX1_readText 59 = .ok (.aload_n 0, 1) := zk42 (by decide +kernel)
theorem dX1_readText_60 : decode cX1_readText 60 = .ok (.invokevirtual 42, 3) := zk182 0 42 (by decide +kernel)
theorem dX1_readText_63 : decode cX1_readText 63 = .ok (.aload_n 0, 1) := zk42 (by decide +kernel)
theorem dX1_readText_64 : decode cX1_readText 64 = .ok (.iconst 0, 1) := zk3 (by decide +kernel)
theorem dX1_readText_65 : decode cX1_readText 65 = .ok (.invokevirtual 57, 3) := zk182 0 57 (by decide +kernel)
theorem dX1_readText_68 : decode cX1_readText 68 = .ok (.ifCond .eq 15, 3) := zk153 0 15 rfl (by decide +kernel)
theorem dX1_readText_71 : decode cX1_readText 71 = .ok (.aload_n 0, 1) := zk42 (by decide +kernel)
theorem dX1_readText_72 : decode cX1_readText 72 = .ok (.getfield 30, 3) := zk180 0 30 (by decide +kernel)
theorem dX1_readText_75 : decode cX1_readText 75 = .ok (.ifCond .ne 8, 3) := zk154 0 8 rfl (by decide +kernel)
theorem dX1_readText_78 : decode cX1_readText 78 = .ok (.ldc 49, 2) := zk18 49 (by decide +kernel)
theorem dX1_readText_80 : decode cX1_readText 80 = .ok (.goto 7, 3) := zk167 0 7 rfl (by decide +kernel)
theorem dX1_readText_83 : decode cX1_readText 83 = .ok (.aload_n 0, 1) := zk42 (by decide +kernel)
theorem dX1_readText_84 : decode cX1_readText 84 = .ok (.getfield 50, 3) := zk180 0 50 (by decide +kernel)
theorem dX1_readText_87 : decode cX1_readText 87 = .ok (.ireturn, 1) := zk172 (by decide +kernel)
set_option maxRecDepth 20000 in
theorem gw_wsX1_sortAt : wsX1_sortAt.all goodWord = true := by decide +kernel
set_option maxRecDepth 20000 in
theorem ggX1_advance_X1_sortAt : GoodIn wsX1_advance wsX1_sortAt := goodIn_r _ [10, 4, 5, 11, 12, 13, 14, 15, 16, 17, 18] rfl gw_wsX1_sortAt
set_option maxRecDepth 20000 in
theorem gX1_advance_X1_sortAt : GoodIn wsX1_advance (wsV RX1 61 RX1 yX1_sortAt wsX1_sortAt) := goodIn_app (goodIn_r _ [6, 7, 8, 9] rfl (by decide +kernel)) ggX1_advance_X1_sortAt
theorem dX1_advance_0 : decode cX1_advance 0 = .ok (.aload_n 0, 1) := zk42 (by decide +kernel)
theorem dX1_advance_1 : decode cX1_advance 1 = .ok (.getfield 30, 3) := zk180 0 30 (by decide +kernel)
theorem dX1_advance_4 : decode cX1_advance 4 = .ok (.iconst 1, 1) := zk4 (by decide +kernel)
theorem dX1_advance_5 : decode cX1_advance 5 = .ok (.if_icmp .eq 11, 3) := zk159 0 11 rfl (by decide +kernel)
theorem dX1_advance_8 : decode cX1_advance 8 = .ok (.aload_n 0, 1) := zk42 (by decide +kernel)
theorem dX1_advance_9 : decode cX1_advance 9 = .ok (.getfield 30, 3) := zk180 0 30 (by decide +kernel)
theorem dX1_advance_12 : decode cX1_advance 12 = .ok (.iconst 2, 1) := zk5 (by decide +kernel)
theorem dX1_advance_13 : decode cX1_advance 13 = .ok (.if_icmp .ne 7, 3) := zk160 0 7 rfl (by decide +kernel)
theorem dX1_advance_16 : decode cX1_advance 16 = .ok (.iconst 1, 1) := zk4 (by decide +kernel)
theorem dX1_advance_17 : decode cX1_advance 17 = .ok (.goto 4, 3) := zk167 0 4 rfl (by decide +kernel)
theorem dX1_advance_20 : decode cX1_advance 20 = .ok (.iconst 0, 1) := zk3 (by decide +kernel)
theorem dX1_advance_21 : decode cX1_advance 21 = .ok (.istore_n 1, 1) := zk60 (by decide +kernel)
theorem dX1_advance_22 : decode cX1_advance 22 = .ok (.aload_n 0, 1) := zk42 (by decide +kernel)
theorem dX1_advance_23 : decode cX1_advance 23 = .ok (.getfield 33, 3) := zk180 0 33 (by decide +kernel)
theorem dX1_advance_26 : decode cX1_advance 26 = .ok (.istore_n 2, 1) := zk61 (by decide +kernel)
theorem dX1_advance_27 : decode cX1_advance 27 = .ok (.aload_n 0, 1) := zk42 (by decide +kernel)
theorem dX1_advance_28 : decode cX1_advance 28 = .ok (.aload_n 0, 1) := zk42 (by decide +kernel)
theorem dX1_advance_29 : decode cX1_advance 29 = .ok (.getfield 33, 3) := zk180 0 33 (by decide +kernel)
theorem dX1_advance_32 : decode cX1_advance 32 = .ok (.putfield 50, 3) := zk181 0 50 (by decide +kernel)
theorem dX1_advance_35 : decode cX1_advance 35 = .ok (.aload_n 0, 1) := zk42 (by decide +kernel)
theorem dX1_advance_36 : decode cX1_advance 36 = .ok (.getfield 50, 3) := zk180 0 50 (by decide +kernel)
theorem dX1_advance_39 : decode cX1_advance 39 = .ok (.aload_n 0, 1) := zk42 (by decide +kernel)
theorem dX1_advance_40 : decode cX1_advance 40 = .ok (.getfield 26, 3) := zk180 0 26 (by decide +kernel)
theorem dX1_advance_43 : decode cX1_advance 43 = .ok (.if_icmp .ge 30, 3) := zk162 0 30 rfl (by decide +kernel)
theorem dX1_advance_46 : decode cX1_advance 46 = .ok (.aload_n 0, 1) := zk42 (by decide +kernel)
theorem dX1_advance_47 : decode cX1_advance 47 = .ok (.getfield 18, 3) := zk180 0 18 (by decide +kernel)
theorem dX1_advance_50 : decode cX1_advance 50 = .ok (.aload_n 0, 1) := zk42 (by decide +kernel)
theorem dX1_advance_51 : decode cX1_advance 51 = .ok (.getfield 50, 3) := zk180 0 50 (by decide +kernel)
theorem dX1_advance_54 : decode cX1_advance 54 = .ok (.iaload, 1) := zk46 (by decide +kernel)
theorem dX1_advance_55 : decode cX1_advance 55 = .ok (.bipush 32, 2) := zk16 32 rfl (by decide +kernel)
theorem dX1_advance_57 : decode cX1_advance 57 = .ok (.if_icmp .ne 16, 3) := zk160 0 16 rfl (by decide +kernel)
theorem dX1_advance_60 : decode cX1_advance 60 = .ok (.aload_n 0, 1) := zk42 (by decide +kernel)
theorem dX1_advance_61 : decode cX1_advance 61 = .ok (.dup, 1) := zk89 (by decide +kernel)
theorem dX1_advance_62 : decode cX1_advance 62 = .ok (.getfield 50, 3) := zk180 0 50 (by decide +kernel)
theorem dX1_advance_65 : decode cX1_advance 65 = .ok (.iconst 1, 1) := zk4 (by decide +kernel)
theorem dX1_advance_66 : decode cX1_advance 66 = .ok (.iadd, 1) := zk96 (by decide +kernel)
theorem dX1_advance_67 : decode cX1_advance 67 = .ok (.putfield 50, 3) := zk181 0 50 (by decide +kernel)
theorem dX1_advance_70 : decode cX1_advance 70 = .ok (.goto (-35), 3) := zk167 255 221 rfl (by decide +kernel)
theorem dX1_advance_73 : decode cX1_advance 73 = .ok (.aload_n 0, 1) := zk42 (by decide +kernel)
theorem dX1_advance_74 : decode cX1_advance 74 = .ok (.aload_n 0, 1) := zk42 (by decide +kernel)
theorem dX1_advance_75 : decode cX1_advance 75 = .ok (.getfield 50, 3) := zk180 0 50 (by decide +kernel)
theorem dX1_advance_78 : decode cX1_advance 78 = .ok (.putfield 33, 3) := zk181 0 33 (by decide +kernel)
theorem dX1_advance_81 : decode cX1_advance 81 = .ok (.aload_n 0, 1) := zk42 (by decide +kernel)
theorem dX1_advance_82 : decode cX1_advance 82 = .ok (.aload_n 0, 1) := zk42 (by decide +kernel)
theorem dX1_advance_83 : decode cX1_advance 83 = .ok (.aload_n 0, 1) := zk42 (by decide +kernel)
theorem dX1_advance_84 : decode cX1_advance 84 = .ok (.getfield 50, 3) := zk180 0 50 (by decide +kernel)
theorem dX1_advance_87 : decode cX1_advance 87 = .ok (.invokevirtual 61, 3) := zk182 0 61 (by decide +kernel)
theorem dX1_advance_90 : decode cX1_advance 90 = .ok (.putfield 30, 3) := zk181 0 30 (by decide +kernel)
theorem dX1_advance_93 : decode cX1_advance 93 = .ok (.aload_n 0, 1) := zk42 (by decide +kernel)
theorem dX1_advance_94 : decode cX1_advance 94 = .ok (.getfield 30, 3) := zk180 0 30 (by decide +kernel)
theorem dX1_advance_97 : decode cX1_advance 97 = .ok (.ifCond .ne 4, 3) := zk154 0 4 rfl (by decide +kernel)
theorem dX1_advance_100 : decode cX1_advance 100 = .ok (.return_, 1) := zk177 (by decide +kernel)
theorem dX1_advance_101 : decode cX1_advance 101 = .ok (.aload_n 0, 1) := zk42 (by decide +kernel)
theorem dX1_advance_102 : decode cX1_advance 102 = .ok (.dup, 1) := zk89 (by decide +kernel)
theorem dX1_advance_103 : decode cX1_advance 103 = .ok (.getfield 33, 3) := zk180 0 33 (by decide +kernel)
theorem dX1_advance_106 : decode cX1_advance 106 = .ok (.iconst 1, 1) := zk4 (by decide +kernel)
theorem dX1_advance_107 : decode cX1_advance 107 = .ok (.iadd, 1) := zk96 (by decide +kernel)
theorem dX1_advance_108 : decode cX1_advance 108 = .ok (.putfield 33, 3) := zk181 0 33 (by decide +kernel)
theorem dX1_advance_111 : decode cX1_advance 111 = .ok (.aload_n 0, 1) := zk42 (by decide +kernel)
theorem dX1_advance_112 : decode cX1_advance 112 = .ok (.getfield 30, 3) := zk180 0 30 (by decide +kernel)
theorem dX1_advance_115 : decode cX1_advance 115 = .ok (.iconst 3, 1) := zk6 (by decide +kernel)
theorem dX1_advance_116 : decode cX1_advance 116 = .ok (.if_icmp .eq 42, 3) := zk159 0 42 rfl (by decide +kernel)
theorem dX1_advance_119 : decode cX1_advance 119 = .ok (.aload_n 0, 1) := zk42 (by decide +kernel)
theorem dX1_advance_120 : decode cX1_advance 120 = .ok (.getfield 33, 3) := zk180 0 33 (by decide +kernel)
theorem dX1_advance_123 : decode cX1_advance 123 = .ok (.aload_n 0, 1) := zk42 (by decide +kernel)
theorem dX1_advance_124 : decode cX1_advance 124 = .ok (.getfield 26, 3) := zk180 0 26 (by decide +kernel)
theorem dX1_advance_127 : decode cX1_advance 127 = .ok (.if_icmp .ge 31, 3) := zk162 0 31 rfl (by decide +kernel)
theorem dX1_advance_130 : decode cX1_advance 130 = .ok (.aload_n 0, 1) := zk42 (by decide +kernel)
theorem dX1_advance_131 : decode cX1_advance 131 = .ok (.aload_n 0, 1) := zk42 (by decide +kernel)
theorem dX1_advance_132 : decode cX1_advance 132 = .ok (.getfield 33, 3) := zk180 0 33 (by decide +kernel)
theorem dX1_advance_135 : decode cX1_advance 135 = .ok (.invokevirtual 61, 3) := zk182 0 61 (by decide +kernel)
theorem dX1_advance_138 : decode cX1_advance 138 = .ok (.aload_n 0, 1) := zk42 (by decide +kernel)
theorem dX1_advance_139 : decode cX1_advance 139 = .ok (.getfield 30, 3) := zk180 0 30 (by decide +kernel)
theorem dX1_advance_142 : decode cX1_advance 142 = .ok (.if_icmp .ne 16, 3) := zk160 0 16 rfl (by decide +kernel)
theorem dX1_advance_145 : decode cX1_advance 145 = .ok (.aload_n 0, 1) := zk42 (by decide +kernel)
theorem dX1_advance_146 : decode cX1_advance 146 = .ok (.dup, 1) := zk89 (by decide +kernel)
theorem dX1_advance_147 : decode cX1_advance 147 = .ok (.getfield 33, 3) := zk180 0 33 (by decide +kernel)
theorem dX1_advance_150 : decode cX1_advance 150 = .ok (.iconst 1, 1) := zk4 (by decide +kernel)
theorem dX1_advance_151 : decode cX1_advance 151 = .ok (.iadd, 1) := zk96 (by decide +kernel)
theorem dX1_advance_152 : decode cX1_advance 152 = .ok (.putfield 33, 3) := zk181 0 33 (by decide +kernel)
theorem dX1_advance_155 : decode cX1_advance 155 = .ok (.goto (-44), 3) := zk167 255 212 rfl (by decide +kernel)
theorem dX1_advance_158 : decode cX1_advance 158 = .ok (.iload_n 1, 1) := zk27 (by decide +kernel)
theorem dX1_advance_159 : decode cX1_advance 159 = .ok (.ifCond .eq 23, 3) := zk153 0 23 rfl (by decide +kernel)
theorem dX1_advance_162 : decode cX1_advance 162 = .ok (.aload_n 0, 1) := zk42 (by decide +kernel)
theorem dX1_advance_163 : decode cX1_advance 163 = .ok (.getfield 30, 3) := zk180 0 30 (by decide +kernel)
theorem dX1_advance_166 : decode cX1_advance 166 = .ok (.iconst 3, 1) := zk6 (by decide +kernel)
theorem dX1_advance_167 : decode cX1_advance 167 = .ok (.if_icmp .eq 15, 3) := zk159 0 15 rfl (by decide +kernel)
theorem dX1_advance_170 : decode cX1_advance 170 = .ok (.aload_n 0, 1) := zk42 (by decide +kernel)
theorem dX1_advance_171 : decode cX1_advance 171 = .ok (.getfield 50, 3) := zk180 0 50 (by decide +kernel)
theorem dX1_advance_174 : decode cX1_advance 174 = .ok (.iload_n 2, 1) := zk28 (by decide +kernel)
theorem dX1_advance_175 : decode cX1_advance 175 = .ok (.if_icmp .ne 7, 3) := zk160 0 7 rfl (by decide +kernel)
theorem dX1_advance_178 : decode cX1_advance 178 = .ok (.iconst 1, 1) := zk4 (by decide +kernel)
theorem dX1_advance_179 : decode cX1_advance 179 = .ok (.goto 4, 3) := zk167 0 4 rfl (by decide +kernel)
theorem dX1_advance_182 : decode cX1_advance 182 = .ok (.iconst 0, 1) := zk3 (by decide +kernel)
theorem dX1_advance_183 : decode cX1_advance 183 = .ok (.istore_n 3, 1) := zk62 (by decide +kernel)
theorem dX1_advance_184 : decode cX1_advance 184 = .ok (.aload_n 0, 1) := zk42 (by decide +kernel)
theorem dX1_advance_185 : decode cX1_advance 185 = .ok (.getfield 30, 3) := zk180 0 30 (by decide +kernel)
theorem dX1_advance_188 : decode cX1_advance 188 = .ok (.iconst 2, 1) := zk5 (by decide +kernel)
theorem dX1_advance_189 : decode cX1_advance 189 = .ok (.if_icmp .ne 20, 3) := zk160 0 20 rfl (by decide +kernel)
theorem dX1_advance_192 : decode cX1_advance 192 = .ok (.aload_n 0, 1) := zk42 (by decide +kernel)
theorem dX1_advance_193 : decode cX1_advance 193 = .ok (.getfield 33, 3) := zk180 0 33 (by decide +kernel)
theorem dX1_advance_196 : decode cX1_advance 196 = .ok (.aload_n 0, 1) := zk42 (by decide +kernel)
theorem dX1_advance_197 : decode cX1_advance 197 = .ok (.getfield 50, 3) := zk180 0 50 (by decide +kernel)
theorem dX1_advance_200 : decode cX1_advance 200 = .ok (.isub, 1) := zk100 (by decide +kernel)
theorem dX1_advance_201 : decode cX1_advance 201 = .ok (.iconst 4, 1) := zk7 (by decide +kernel)
theorem dX1_advance_202 : decode cX1_advance 202 = .ok (.if_icmp .le 7, 3) := zk164 0 7 rfl (by decide +kernel)
theorem dX1_advance_205 : decode cX1_advance 205 = .ok (.iconst 1, 1) := zk4 (by decide +kernel)
theorem dX1_advance_206 : decode cX1_advance 206 = .ok (.goto 4, 3) := zk167 0 4 rfl (by decide +kernel)
theorem dX1_advance_209 : decode cX1_advance 209 = .ok (.iconst 0, 1) := zk3 (by decide +kernel)
theorem dX1_advance_210 : decode cX1_advance 210 = .ok (.istore 4, 2) := zk54 4 (by decide +kernel)
theorem dX1_advance_212 : decode cX1_advance 212 = .ok (.iload_n 3, 1) := zk29 (by decide +kernel)
theorem dX1_advance_213 : decode cX1_advance 213 = .ok (.ifCond .ne 8, 3) := zk154 0 8 rfl (by decide +kernel)
theorem dX1_advance_216 : decode cX1_advance 216 = .ok (.iload 4, 2) := zk21 4 (by decide +kernel)
theorem dX1_advance_218 : decode cX1_advance 218 = .ok (.ifCond .eq 8, 3) := zk153 0 8 rfl (by decide +kernel)
theorem dX1_advance_221 : decode cX1_advance 221 = .ok (.aload_n 0, 1) := zk42 (by decide +kernel)
theorem dX1_advance_222 : decode cX1_advance 222 = .ok (.iconst 4, 1) := zk7 (by decide +kernel)
theorem dX1_advance_223 : decode cX1_advance 223 = .ok (.putfield 30, 3) := zk181 0 30 (by decide +kernel)
theorem dX1_advance_226 : decode cX1_advance 226 = .ok (.return_, 1) := zk177 (by decide +kernel)
theorem dX1_sortAt_0 : decode cX1_sortAt 0 = .ok (.iload_n 1, 1) := zk27 (by decide +kernel)
theorem dX1_sortAt_1 : decode cX1_sortAt 1 = .ok (.ifCond .lt 11, 3) := zk155 0 11 rfl (by decide +kernel)
theorem dX1_sortAt_4 : decode cX1_sortAt 4 = .ok (.iload_n 1, 1) := zk27 (by decide +kernel)
theorem dX1_sortAt_5 : decode cX1_sortAt 5 = .ok (.aload_n 0, 1) := zk42 (by decide +kernel)
theorem dX1_sortAt_6 : decode cX1_sortAt 6 = .ok (.getfield 26, 3) := zk180 0 26 (by decide +kernel)
theorem dX1_sortAt_9 : decode cX1_sortAt 9 = .ok (.if_icmp .lt 5, 3) := zk161 0 5 rfl (by decide +kernel)
theorem dX1_sortAt_12 : decode cX1_sortAt 12 = .ok (.iconst 0, 1) := zk3 (by decide +kernel)
theorem dX1_sortAt_13 : decode cX1_sortAt 13 = .ok (.ireturn, 1) := zk172 (by decide +kernel)
theorem dX1_sortAt_14 : decode cX1_sortAt 14 = .ok (.aload_n 0, 1) := zk42 (by decide +kernel)
theorem dX1_sortAt_15 : decode cX1_sortAt 15 = .ok (.getfield 18, 3) := zk180 0 18 (by decide +kernel)
theorem dX1_sortAt_18 : decode cX1_sortAt 18 = .ok (.iload_n 1, 1) := zk27 (by decide +kernel)
theorem dX1_sortAt_19 : decode cX1_sortAt 19 = .ok (.iaload, 1) := zk46 (by decide +kernel)
theorem dX1_sortAt_20 : decode cX1_sortAt 20 = .ok (.istore_n 2, 1) := zk61 (by decide +kernel)
theorem dX1_sortAt_21 : decode cX1_sortAt 21 = .ok (.iload_n 2, 1) := zk28 (by decide +kernel)
theorem dX1_sortAt_22 : decode cX1_sortAt 22 = .ok (.bipush 97, 2) := zk16 97 rfl (by decide +kernel)
theorem dX1_sortAt_24 : decode cX1_sortAt 24 = .ok (.if_icmp .lt 11, 3) := zk161 0 11 rfl (by decide +kernel)
theorem dX1_sortAt_27 : decode cX1_sortAt 27 = .ok (.iload_n 2, 1) := zk28 (by decide +kernel)
theorem dX1_sortAt_28 : decode cX1_sortAt 28 = .ok (.bipush 122, 2) := zk16 122 rfl (by decide +kernel)
theorem dX1_sortAt_30 : decode cX1_sortAt 30 = .ok (.if_icmp .gt 5, 3) := zk163 0 5 rfl (by decide +kernel)
theorem dX1_sortAt_33 : decode cX1_sortAt 33 = .ok (.iconst 1, 1) := zk4 (by decide +kernel)
theorem dX1_sortAt_34 : decode cX1_sortAt 34 = .ok (.ireturn, 1) := zk172 (by decide +kernel)
theorem dX1_sortAt_35 : decode cX1_sortAt 35 = .ok (.iload_n 2, 1) := zk28 (by decide +kernel)
theorem dX1_sortAt_36 : decode cX1_sortAt 36 = .ok (.bipush 48, 2) := zk16 48 rfl (by decide +kernel)
theorem dX1_sortAt_38 : decode cX1_sortAt 38 = .ok (.if_icmp .lt 13, 3) := zk161 0 13 rfl (by decide +kernel)
theorem dX1_sortAt_41 : decode cX1_sortAt 41 = .ok (.iload_n 2, 1) := zk28 (by decide +kernel)
theorem dX1_sortAt_42 : decode cX1_sortAt 42 = .ok (.bipush 57, 2) := zk16 57 rfl (by decide +kernel)
theorem dX1_sortAt_44 : decode cX1_sortAt 44 = .ok (.if_icmp .gt 7, 3) := zk163 0 7 rfl (by decide +kernel)
theorem dX1_sortAt_47 : decode cX1_sortAt 47 = .ok (.iconst 2, 1) := zk5 (by decide +kernel)
theorem dX1_sortAt_48 : decode cX1_sortAt 48 = .ok (.goto 4, 3) := zk167 0 4 rfl (by decide +kernel)
theorem dX1_sortAt_51 : decode cX1_sortAt 51 = .ok (.iconst 3, 1) := zk6 (by decide +kernel)
theorem dX1_sortAt_52 : decode cX1_sortAt 52 = .ok (.ireturn, 1) := zk172 (by decide +kernel)
set_option maxRecDepth 20000 in
theorem gw_wsX1_isWord : wsX1_isWord.all goodWord = true := by decide +kernel
def bs_wsX1_keyHere : List (List Cond) := [[.code yX1_keyHere cX1_keyHere 1 (some .int)], wsX1_keyHere_r1, wsX1_keyHere_r2, wsX1_keyHere_r3, wsX10]
theorem bse_wsX1_keyHere : wsX1_keyHere = bs_wsX1_keyHere.flatten := by
  unfold wsX1_keyHere bs_wsX1_keyHere
  simp only [List.flatten_cons, List.flatten_nil, List.append_nil, List.append_assoc, List.cons_append, List.nil_append]
set_option maxRecDepth 20000 in
theorem ggX1_keyHere_X1_isWord : GoodIn wsX1_keyHere wsX1_isWord := goodIn_pc bs_wsX1_keyHere bse_wsX1_keyHere _ [(1, [5, 6, 7, 8, 9, 10, 11, 12, 13, 14, 15, 16, 17, 18, 19, 20, 21, 22, 23]), (2, [0]), (1, [4]), (2, [1, 2, 3, 4, 5, 6, 7, 8, 9, 10, 11, 12, 13, 14, 15, 16, 17, 18, 19, 20, 21, 22, 23]), (3, [0, 1, 2, 3, 4, 5, 6, 7, 8, 9, 10, 11, 12, 13, 14, 15]), (4, [0, 1, 2, 3, 4, 5, 6, 7])] rfl gw_wsX1_isWord
set_option maxRecDepth 20000 in
theorem gX1_keyHere_X1_isWord : GoodIn wsX1_keyHere (wsV RX1 67 RX1 yX1_isWord wsX1_isWord) := goodIn_app (goodIn_pc bs_wsX1_keyHere bse_wsX1_keyHere _ [(1, [1, 2, 3, 4])] rfl (by decide +kernel)) ggX1_keyHere_X1_isWord
theorem dX1_keyHere_0 : decode cX1_keyHere 0 = .ok (.aload_n 0, 1) := zk42 (by decide +kernel)
theorem dX1_keyHere_1 : decode cX1_keyHere 1 = .ok (.ldc 65, 2) := zk18 65 (by decide +kernel)
theorem dX1_keyHere_3 : decode cX1_keyHere 3 = .ok (.invokevirtual 67, 3) := zk182 0 67 (by decide +kernel)
theorem dX1_keyHere_6 : decode cX1_keyHere 6 = .ok (.ifCond .eq 5, 3) := zk153 0 5 rfl (by decide +kernel)
theorem dX1_keyHere_9 : decode cX1_keyHere 9 = .ok (.iconst 0, 1) := zk3 (by decide +kernel)
theorem dX1_keyHere_10 : decode cX1_keyHere 10 = .ok (.ireturn, 1) := zk172 (by decide +kernel)
theorem dX1_keyHere_11 : decode cX1_keyHere 11 = .ok (.aload_n 0, 1) := zk42 (by decide +kernel)
theorem dX1_keyHere_12 : decode cX1_keyHere 12 = .ok (.ldc 71, 2) := zk18 71 (by decide +kernel)
theorem dX1_keyHere_14 : decode cX1_keyHere 14 = .ok (.invokevirtual 67, 3) := zk182 0 67 (by decide +kernel)
theorem dX1_keyHere_17 : decode cX1_keyHere 17 = .ok (.ifCond .eq 5, 3) := zk153 0 5 rfl (by decide +kernel)
theorem dX1_keyHere_20 : decode cX1_keyHere 20 = .ok (.iconst 1, 1) := zk4 (by decide +kernel)
theorem dX1_keyHere_21 : decode cX1_keyHere 21 = .ok (.ireturn, 1) := zk172 (by decide +kernel)
theorem dX1_keyHere_22 : decode cX1_keyHere 22 = .ok (.aload_n 0, 1) := zk42 (by decide +kernel)
theorem dX1_keyHere_23 : decode cX1_keyHere 23 = .ok (.ldc 73, 2) := zk18 73 (by decide +kernel)
theorem dX1_keyHere_25 : decode cX1_keyHere 25 = .ok (.invokevirtual 67, 3) := zk182 0 67 (by decide +kernel)
theorem dX1_keyHere_28 : decode cX1_keyHere 28 = .ok (.ifCond .eq 7, 3) := zk153 0 7 rfl (by decide +kernel)
theorem dX1_keyHere_31 : decode cX1_keyHere 31 = .ok (.iconst 2, 1) := zk5 (by decide +kernel)
theorem dX1_keyHere_32 : decode cX1_keyHere 32 = .ok (.goto 5, 3) := zk167 0 5 rfl (by decide +kernel)
theorem dX1_keyHere_35 : decode cX1_keyHere 35 = .ok (.ldc 49, 2) := zk18 49 (by decide +kernel)
theorem dX1_keyHere_37 : decode cX1_keyHere 37 = .ok (.ireturn, 1) := zk172 (by decide +kernel)
def bs_wsX1_isWord : List (List Cond) := [[.code yX1_isWord cX1_isWord 3 (some .boolean)], wsX1_isWord_r1, wsX1_isWord_r2, wsX1_isWord_r3, wsX10]
theorem bse_wsX1_isWord : wsX1_isWord = bs_wsX1_isWord.flatten := by
  unfold wsX1_isWord bs_wsX1_isWord
  simp only [List.flatten_cons, List.flatten_nil, List.append_nil, List.append_assoc, List.cons_append, List.nil_append]
set_option maxRecDepth 20000 in
theorem ggX1_isWord_J0_length_8abf5 : GoodIn wsX1_isWord wsJ0_length_8abf5 := goodIn_pc bs_wsX1_isWord bse_wsX1_isWord _ [(1, [8, 9, 10, 11, 12, 7, 13, 14, 15])] rfl gw_wsJ0_length_8abf5
set_option maxRecDepth 20000 in
theorem gX1_isWord_J0_length_8abf5 : GoodIn wsX1_isWord (wsV RX1 75 RJ0 yJ0_length_8abf5 wsJ0_length_8abf5) := goodIn_app (goodIn_pc bs_wsX1_isWord bse_wsX1_isWord _ [(1, [4, 5, 6, 7])] rfl (by decide +kernel)) ggX1_isWord_J0_length_8abf5
set_option maxRecDepth 20000 in
theorem ggX1_isWord_X1_sortAt : GoodIn wsX1_isWord wsX1_sortAt := goodIn_pc bs_wsX1_isWord bse_wsX1_isWord _ [(1, [20, 21, 3]), (4, [0, 1, 2, 3, 4, 5, 6, 7])] rfl gw_wsX1_sortAt
set_option maxRecDepth 20000 in
theorem gX1_isWord_X1_sortAt : GoodIn wsX1_isWord (wsV RX1 61 RX1 yX1_sortAt wsX1_sortAt) := goodIn_app (goodIn_pc bs_wsX1_isWord bse_wsX1_isWord _ [(1, [16, 17, 18, 19])] rfl (by decide +kernel)) ggX1_isWord_X1_sortAt
set_option maxRecDepth 20000 in
theorem gw_wsJ0_charAt_5068e : wsJ0_charAt_5068e.all goodWord = true := by decide +kernel
set_option maxRecDepth 20000 in
theorem ggX1_isWord_J0_charAt_5068e : GoodIn wsX1_isWord wsJ0_charAt_5068e := goodIn_pc bs_wsX1_isWord bse_wsX1_isWord _ [(2, [1]), (1, [9]), (2, [2, 3, 4]), (1, [7]), (2, [5]), (1, [14, 15]), (2, [6, 7, 8, 9, 10, 11, 12, 13, 14, 15, 16, 17, 18, 19, 20, 21, 22, 23]), (3, [0, 1, 2, 3, 4, 5, 6, 7, 8, 9, 10])] rfl gw_wsJ0_charAt_5068e
set_option maxRecDepth 20000 in
theorem gX1_isWord_J0_charAt_5068e : GoodIn wsX1_isWord (wsV RX1 80 RJ0 yJ0_charAt_5068e wsJ0_charAt_5068e) := goodIn_app (goodIn_pc bs_wsX1_isWord bse_wsX1_isWord _ [(1, [22, 23]), (2, [0]), (1, [7])] rfl (by decide +kernel)) ggX1_isWord_J0_charAt_5068e
theorem dX1_isWord_0 : decode cX1_isWord 0 = .ok (.aload_n 0, 1) := zk42 (by decide +kernel)
theorem dX1_isWord_1 : decode cX1_isWord 1 = .ok (.getfield 30, 3) := zk180 0 30 (by decide +kernel)
theorem dX1_isWord_4 : decode cX1_isWord 4 = .ok (.iconst 1, 1) := zk4 (by decide +kernel)
theorem dX1_isWord_5 : decode cX1_isWord 5 = .ok (.if_icmp .ne 19, 3) := zk160 0 19 rfl (by decide +kernel)
theorem dX1_isWord_8 : decode cX1_isWord 8 = .ok (.aload_n 0, 1) := zk42 (by decide +kernel)
theorem dX1_isWord_9 : decode cX1_isWord 9 = .ok (.getfield 33, 3) := zk180 0 33 (by decide +kernel)
theorem dX1_isWord_12 : decode cX1_isWord 12 = .ok (.aload_n 0, 1) := zk42 (by decide +kernel)
theorem dX1_isWord_13 : decode cX1_isWord 13 = .ok (.getfield 50, 3) := zk180 0 50 (by decide +kernel)
theorem dX1_isWord_16 : decode cX1_isWord 16 = .ok (.isub, 1) := zk100 (by decide +kernel)
theorem dX1_isWord_17 : decode cX1_isWord 17 = .ok (.aload_n 1, 1) := zk43 (by decide +kernel)
theorem dX1_isWord_18 : decode cX1_isWord 18 = .ok (.invokevirtual 75, 3) := zk182 0 75 (by decide +kernel)
theorem dX1_isWord_21 : decode cX1_isWord 21 = .ok (.if_icmp .eq 5, 3) := zk159 0 5 rfl (by decide +kernel)
theorem dX1_isWord_24 : decode cX1_isWord 24 = .ok (.iconst 0, 1) := zk3 (by decide +kernel)
theorem dX1_isWord_25 : decode cX1_isWord 25 = .ok (.ireturn, 1) := zk172 (by decide +kernel)
theorem dX1_isWord_26 : decode cX1_isWord 26 = .ok (.iconst 0, 1) := zk3 (by decide +kernel)
theorem dX1_isWord_27 : decode cX1_isWord 27 = .ok (.istore_n 2, 1) := zk61 (by decide +kernel)
theorem dX1_isWord_28 : decode cX1_isWord 28 = .ok (.iload_n 2, 1) := zk28 (by decide +kernel)
theorem dX1_isWord_29 : decode cX1_isWord 29 = .ok (.aload_n 1, 1) := zk43 (by decide +kernel)
theorem dX1_isWord_30 : decode cX1_isWord 30 = .ok (.invokevirtual 75, 3) := zk182 0 75 (by decide +kernel)
theorem dX1_isWord_33 : decode cX1_isWord 33 = .ok (.if_icmp .ge 44, 3) := zk162 0 44 rfl (by decide +kernel)
theorem dX1_isWord_36 : decode cX1_isWord 36 = .ok (.aload_n 0, 1) := zk42 (by decide +kernel)
theorem dX1_isWord_37 : decode cX1_isWord 37 = .ok (.aload_n 0, 1) := zk42 (by decide +kernel)
theorem dX1_isWord_38 : decode cX1_isWord 38 = .ok (.getfield 50, 3) := zk180 0 50 (by decide +kernel)
theorem dX1_isWord_41 : decode cX1_isWord 41 = .ok (.iload_n 2, 1) := zk28 (by decide +kernel)
theorem dX1_isWord_42 : decode cX1_isWord 42 = .ok (.iadd, 1) := zk96 (by decide +kernel)
theorem dX1_isWord_43 : decode cX1_isWord 43 = .ok (.invokevirtual 61, 3) := zk182 0 61 (by decide +kernel)
theorem dX1_isWord_46 : decode cX1_isWord 46 = .ok (.iconst 1, 1) := zk4 (by decide +kernel)
theorem dX1_isWord_47 : decode cX1_isWord 47 = .ok (.if_icmp .ne 22, 3) := zk160 0 22 rfl (by decide +kernel)
theorem dX1_isWord_50 : decode cX1_isWord 50 = .ok (.aload_n 0, 1) := zk42 (by decide +kernel)
theorem dX1_isWord_51 : decode cX1_isWord 51 = .ok (.getfield 18, 3) := zk180 0 18 (by decide +kernel)
theorem dX1_isWord_54 : decode cX1_isWord 54 = .ok (.aload_n 0, 1) := zk42 (by decide +kernel)
theorem dX1_isWord_55 : decode cX1_isWord 55 = .ok (.getfield 50, 3) := zk180 0 50 (by decide +kernel)
theorem dX1_isWord_58 : decode cX1_isWord 58 = .ok (.iload_n 2, 1) := zk28 (by decide +kernel)
theorem dX1_isWord_59 : decode cX1_isWord 59 = .ok (.iadd, 1) := zk96 (by decide +kernel)
theorem dX1_isWord_60 : decode cX1_isWord 60 = .ok (.iaload, 1) := zk46 (by decide +kernel)
theorem dX1_isWord_61 : decode cX1_isWord 61 = .ok (.aload_n 1, 1) := zk43 (by decide +kernel)
theorem dX1_isWord_62 : decode cX1_isWord 62 = .ok (.iload_n 2, 1) := zk28 (by decide +kernel)
theorem dX1_isWord_63 : decode cX1_isWord 63 = .ok (.invokevirtual 80, 3) := zk182 0 80 (by decide +kernel)
theorem dX1_isWord_66 : decode cX1_isWord 66 = .ok (.if_icmp .eq 5, 3) := zk159 0 5 rfl (by decide +kernel)
theorem dX1_isWord_69 : decode cX1_isWord 69 = .ok (.iconst 0, 1) := zk3 (by decide +kernel)
theorem dX1_isWord_70 : decode cX1_isWord 70 = .ok (.ireturn, 1) := zk172 (by decide +kernel)
theorem dX1_isWord_71 : decode cX1_isWord 71 = .ok (.iinc 2 1, 3) := by decide +kernel
theorem dX1_isWord_74 : decode cX1_isWord 74 = .ok (.goto (-46), 3) := zk167 255 210 rfl (by decide +kernel)
theorem dX1_isWord_77 : decode cX1_isWord 77 = .ok (.iconst 1, 1) := zk4 (by decide +kernel)
theorem dX1_isWord_78 : decode cX1_isWord 78 = .ok (.ireturn, 1) := zk172 (by decide +kernel)
set_option maxRecDepth 20000 in
theorem ggX1_signHere_X6_within : GoodIn wsX1_signHere wsX6_within := goodIn_r _ [7] rfl gw_wsX6_within
set_option maxRecDepth 20000 in
theorem gX1_signHere_X6_within_n84 : GoodIn wsX1_signHere (wsX6_within) := ggX1_signHere_X6_within
theorem dX1_signHere_0 : decode cX1_signHere 0 = .ok (.aload_n 0, 1) := zk42 (by decide +kernel)
theorem dX1_signHere_1 : decode cX1_signHere 1 = .ok (.getfield 30, 3) := zk180 0 30 (by decide +kernel)
theorem dX1_signHere_4 : decode cX1_signHere 4 = .ok (.iconst 3, 1) := zk6 (by decide +kernel)
theorem dX1_signHere_5 : decode cX1_signHere 5 = .ok (.if_icmp .ne 28, 3) := zk160 0 28 rfl (by decide +kernel)
theorem dX1_signHere_8 : decode cX1_signHere 8 = .ok (.aload_n 0, 1) := zk42 (by decide +kernel)
theorem dX1_signHere_9 : decode cX1_signHere 9 = .ok (.getfield 50, 3) := zk180 0 50 (by decide +kernel)
theorem dX1_signHere_12 : decode cX1_signHere 12 = .ok (.iconst 0, 1) := zk3 (by decide +kernel)
theorem dX1_signHere_13 : decode cX1_signHere 13 = .ok (.bipush 95, 2) := zk16 95 rfl (by decide +kernel)
theorem dX1_signHere_15 : decode cX1_signHere 15 = .ok (.invokestatic 84, 3) := zk184 0 84 (by decide +kernel)
theorem dX1_signHere_18 : decode cX1_signHere 18 = .ok (.ifCond .eq 15, 3) := zk153 0 15 rfl (by decide +kernel)
theorem dX1_signHere_21 : decode cX1_signHere 21 = .ok (.aload_n 0, 1) := zk42 (by decide +kernel)
theorem dX1_signHere_22 : decode cX1_signHere 22 = .ok (.getfield 18, 3) := zk180 0 18 (by decide +kernel)
theorem dX1_signHere_25 : decode cX1_signHere 25 = .ok (.aload_n 0, 1) := zk42 (by decide +kernel)
theorem dX1_signHere_26 : decode cX1_signHere 26 = .ok (.getfield 50, 3) := zk180 0 50 (by decide +kernel)
theorem dX1_signHere_29 : decode cX1_signHere 29 = .ok (.iaload, 1) := zk46 (by decide +kernel)
theorem dX1_signHere_30 : decode cX1_signHere 30 = .ok (.goto 5, 3) := zk167 0 5 rfl (by decide +kernel)
theorem dX1_signHere_33 : decode cX1_signHere 33 = .ok (.ldc 49, 2) := zk18 49 (by decide +kernel)
theorem dX1_signHere_35 : decode cX1_signHere 35 = .ok (.ireturn, 1) := zk172 (by decide +kernel)
set_option maxRecDepth 20000 in
theorem gw_wsX1_readPiece : wsX1_readPiece.all goodWord = true := by decide +kernel
def bs_wsX1_readLevel : List (List Cond) := [[.code yX1_readLevel cX1_readLevel 4 (some .boolean)], wsX1_readLevel_r1, wsX1_readLevel_r2, wsX1_readLevel_r3, wsX1_readLevel_r4, wsX1_readLevel_r5, wsX1_readLevel_r6, wsX1_readLevel_r7, wsX10, wsX50]
theorem bse_wsX1_readLevel : wsX1_readLevel = bs_wsX1_readLevel.flatten := by
  unfold wsX1_readLevel bs_wsX1_readLevel
  simp only [List.flatten_cons, List.flatten_nil, List.append_nil, List.append_assoc, List.cons_append, List.nil_append]
set_option maxRecDepth 20000 in
theorem ggX1_readLevel_X1_readPiece : GoodIn wsX1_readLevel wsX1_readPiece := goodIn_pc bs_wsX1_readLevel bse_wsX1_readLevel _ [(2, [19]), (1, [12]), (2, [20, 21, 22]), (1, [4]), (2, [23]), (1, [13]), (2, [2, 3]), (1, [14, 0]), (3, [0, 1, 2]), (2, [11]), (3, [3, 4, 5]), (2, [9, 10, 12, 13, 14]), (1, [22, 23]), (2, [0, 1, 4, 5, 6, 7]), (3, [6, 7, 8, 9, 10, 11, 12, 13, 14, 15, 16, 17, 18, 19, 20, 21, 22, 23]), (4, [0, 1, 2, 3, 4, 5, 6, 7, 8, 9, 10, 11, 12, 13, 14, 15, 16, 17, 18, 19, 20, 21, 22, 23]), (5, [0, 1, 2, 3, 4, 5, 6, 7, 8, 9, 10, 11, 12, 13, 14, 15, 16, 17, 18, 19, 20, 21, 22, 23]), (6, [0, 1, 2, 3, 4, 5, 6, 7, 8, 9, 10, 11, 12, 13, 14, 15, 16, 17, 18, 19, 20, 21, 22, 23]), (7, [0, 1, 2, 3, 4, 5, 6]), (1, [8, 9, 10, 11, 15, 16, 17, 18]), (7, [7, 8, 9, 10, 11, 12]), (2, [15, 16]), (1, [5, 6, 7]), (0, [0]), (1, [1, 2, 3, 19, 20, 21]), (2, [8, 17, 18]), (8, [0, 1, 2, 3, 4, 5, 6, 7]), (9, [0, 1, 2, 3, 4])] rfl gw_wsX1_readPiece
set_option maxRecDepth 20000 in
theorem gX1_readLevel_X1_readPiece : GoodIn wsX1_readLevel (wsV RX1 88 RX1 yX1_readPiece wsX1_readPiece) := goodIn_app (goodIn_pc bs_wsX1_readLevel bse_wsX1_readLevel _ [(1, [1, 2, 3, 4])] rfl (by decide +kernel)) ggX1_readLevel_X1_readPiece
set_option maxRecDepth 20000 in
theorem ggX1_readLevel_X1_readLevel : GoodIn wsX1_readLevel wsX1_readLevel := goodIn_pc bs_wsX1_readLevel bse_wsX1_readLevel _ [(0, [0]), (1, [0, 1, 2, 3, 4, 5, 6, 7, 8, 9, 10, 11, 12, 13, 14, 15, 16, 17, 18, 19, 20, 21, 22, 23]), (2, [0, 1, 2, 3, 4, 5, 6, 7, 8, 9, 10, 11, 12, 13, 14, 15, 16, 17, 18, 19, 20, 21, 22, 23]), (3, [0, 1, 2, 3, 4, 5, 6, 7, 8, 9, 10, 11, 12, 13, 14, 15, 16, 17, 18, 19, 20, 21, 22, 23]), (4, [0, 1, 2, 3, 4, 5, 6, 7, 8, 9, 10, 11, 12, 13, 14, 15, 16, 17, 18, 19, 20, 21, 22, 23]), (5, [0, 1, 2, 3, 4, 5, 6, 7, 8, 9, 10, 11, 12, 13, 14, 15, 16, 17, 18, 19, 20, 21, 22, 23]), (6, [0, 1, 2, 3, 4, 5, 6, 7, 8, 9, 10, 11, 12, 13, 14, 15, 16, 17, 18, 19, 20, 21, 22, 23]), (7, [0, 1, 2, 3, 4, 5, 6, 7, 8, 9, 10, 11, 12]), (8, [0, 1, 2, 3, 4, 5, 6, 7]), (9, [0, 1, 2, 3, 4])] rfl gw_wsX1_readLevel
set_option maxRecDepth 20000 in
theorem gX1_readLevel_X1_readLevel : GoodIn wsX1_readLevel (wsV RX1 57 RX1 yX1_readLevel wsX1_readLevel) := goodIn_app (goodIn_pc bs_wsX1_readLevel bse_wsX1_readLevel _ [(1, [5, 6, 7, 4])] rfl (by decide +kernel)) ggX1_readLevel_X1_readLevel
set_option maxRecDepth 20000 in
theorem gw_wsX1_signHere : wsX1_signHere.all goodWord = true := by decide +kernel
set_option maxRecDepth 20000 in
theorem ggX1_readLevel_X1_signHere : GoodIn wsX1_readLevel wsX1_signHere := goodIn_pc bs_wsX1_readLevel bse_wsX1_readLevel _ [(1, [11, 12, 13, 14, 15, 16, 17, 18]), (8, [0, 1, 2, 3, 4, 5, 6, 7])] rfl gw_wsX1_signHere
set_option maxRecDepth 20000 in
theorem gX1_readLevel_X1_signHere : GoodIn wsX1_readLevel (wsV RX1 92 RX1 yX1_signHere wsX1_signHere) := goodIn_app (goodIn_pc bs_wsX1_readLevel bse_wsX1_readLevel _ [(1, [8, 9, 10, 4])] rfl (by decide +kernel)) ggX1_readLevel_X1_signHere
set_option maxRecDepth 20000 in
theorem gw_wsX1_levelOf : wsX1_levelOf.all goodWord = true := by decide +kernel
set_option maxRecDepth 20000 in
theorem ggX1_readLevel_X1_levelOf : GoodIn wsX1_readLevel wsX1_levelOf := goodIn_pc bs_wsX1_readLevel bse_wsX1_readLevel _ [(1, [21, 15])] rfl gw_wsX1_levelOf
set_option maxRecDepth 20000 in
theorem gX1_readLevel_X1_levelOf : GoodIn wsX1_readLevel (va_wsS RX1 95 yX1_levelOf wsX1_levelOf) := goodIn_app (goodIn_pc bs_wsX1_readLevel bse_wsX1_readLevel _ [(1, [19, 20, 4])] rfl (by decide +kernel)) ggX1_readLevel_X1_levelOf
set_option maxRecDepth 20000 in
theorem ggX1_readLevel_X1_advance : GoodIn wsX1_readLevel wsX1_advance := goodIn_pc bs_wsX1_readLevel bse_wsX1_readLevel _ [(2, [1]), (1, [12]), (2, [2]), (1, [13]), (2, [3]), (1, [14]), (2, [4, 5, 6]), (1, [4]), (2, [7]), (8, [0, 1, 2, 3, 4, 5, 6, 7])] rfl gw_wsX1_advance
set_option maxRecDepth 20000 in
theorem gX1_readLevel_X1_advance : GoodIn wsX1_readLevel (wsV RX1 42 RX1 yX1_advance wsX1_advance) := goodIn_app (goodIn_pc bs_wsX1_readLevel bse_wsX1_readLevel _ [(1, [22, 23]), (2, [0]), (1, [4])] rfl (by decide +kernel)) ggX1_readLevel_X1_advance
set_option maxRecDepth 20000 in
theorem gw_wsX5_addStep : wsX5_addStep.all goodWord = true := by decide +kernel
set_option maxRecDepth 20000 in
theorem ggX1_readLevel_X5_addStep : GoodIn wsX1_readLevel wsX5_addStep := goodIn_pc bs_wsX1_readLevel bse_wsX1_readLevel _ [(2, [12, 13, 14]), (9, [0, 1, 2, 3, 4])] rfl gw_wsX5_addStep
set_option maxRecDepth 20000 in
theorem gX1_readLevel_X5_addStep : GoodIn wsX1_readLevel (wsV RX1 98 RX5 yX5_addStep wsX5_addStep) := goodIn_app (goodIn_pc bs_wsX1_readLevel bse_wsX1_readLevel _ [(2, [8, 9, 10, 11])] rfl (by decide +kernel)) ggX1_readLevel_X5_addStep
theorem dX1_readLevel_0 : decode cX1_readLevel 0 = .ok (.iload_n 1, 1) := zk27 (by decide +kernel)
theorem dX1_readLevel_1 : decode cX1_readLevel 1 = .ok (.iconst 4, 1) := zk7 (by decide +kernel)
theorem dX1_readLevel_2 : decode cX1_readLevel 2 = .ok (.if_icmp .le 8, 3) := zk164 0 8 rfl (by decide +kernel)
theorem dX1_readLevel_5 : decode cX1_readLevel 5 = .ok (.aload_n 0, 1) := zk42 (by decide +kernel)
theorem dX1_readLevel_6 : decode cX1_readLevel 6 = .ok (.invokevirtual 88, 3) := zk182 0 88 (by decide +kernel)
theorem dX1_readLevel_9 : decode cX1_readLevel 9 = .ok (.ireturn, 1) := zk172 (by decide +kernel)
theorem dX1_readLevel_10 : decode cX1_readLevel 10 = .ok (.aload_n 0, 1) := zk42 (by decide +kernel)
theorem dX1_readLevel_11 : decode cX1_readLevel 11 = .ok (.iload_n 1, 1) := zk27 (by decide +kernel)
theorem dX1_readLevel_12 : decode cX1_readLevel 12 = .ok (.iconst 1, 1) := zk4 (by decide +kernel)
theorem dX1_readLevel_13 : decode cX1_readLevel 13 = .ok (.iadd, 1) := zk96 (by decide +kernel)
theorem dX1_readLevel_14 : decode cX1_readLevel 14 = .ok (.invokevirtual 57, 3) := zk182 0 57 (by decide +kernel)
theorem dX1_readLevel_17 : decode cX1_readLevel 17 = .ok (.ifCond .ne 5, 3) := zk154 0 5 rfl (by decide +kernel)
theorem dX1_readLevel_20 : decode cX1_readLevel 20 = .ok (.iconst 0, 1) := zk3 (by decide +kernel)
theorem dX1_readLevel_21 : decode cX1_readLevel 21 = .ok (.ireturn, 1) := zk172 (by decide +kernel)
theorem dX1_readLevel_22 : decode cX1_readLevel 22 = .ok (.iconst 0, 1) := zk3 (by decide +kernel)
theorem dX1_readLevel_23 : decode cX1_readLevel 23 = .ok (.istore_n 2, 1) := zk61 (by decide +kernel)
theorem dX1_readLevel_24 : decode cX1_readLevel 24 = .ok (.iload_n 2, 1) := zk28 (by decide +kernel)
theorem dX1_readLevel_25 : decode cX1_readLevel 25 = .ok (.bipush 96, 2) := zk16 96 rfl (by decide +kernel)
theorem dX1_readLevel_27 : decode cX1_readLevel 27 = .ok (.if_icmp .ge 59, 3) := zk162 0 59 rfl (by decide +kernel)
theorem dX1_readLevel_30 : decode cX1_readLevel 30 = .ok (.aload_n 0, 1) := zk42 (by decide +kernel)
theorem dX1_readLevel_31 : decode cX1_readLevel 31 = .ok (.invokevirtual 92, 3) := zk182 0 92 (by decide +kernel)
theorem dX1_readLevel_34 : decode cX1_readLevel 34 = .ok (.istore_n 3, 1) := zk62 (by decide +kernel)
theorem dX1_readLevel_35 : decode cX1_readLevel 35 = .ok (.iload_n 3, 1) := zk29 (by decide +kernel)
theorem dX1_readLevel_36 : decode cX1_readLevel 36 = .ok (.invokestatic 95, 3) := zk184 0 95 (by decide +kernel)
theorem dX1_readLevel_39 : decode cX1_readLevel 39 = .ok (.iload_n 1, 1) := zk27 (by decide +kernel)
theorem dX1_readLevel_40 : decode cX1_readLevel 40 = .ok (.if_icmp .eq 5, 3) := zk159 0 5 rfl (by decide +kernel)
theorem dX1_readLevel_43 : decode cX1_readLevel 43 = .ok (.iconst 1, 1) := zk4 (by decide +kernel)
theorem dX1_readLevel_44 : decode cX1_readLevel 44 = .ok (.ireturn, 1) := zk172 (by decide +kernel)
theorem dX1_readLevel_45 : decode cX1_readLevel 45 = .ok (.aload_n 0, 1) := zk42 (by decide +kernel)
theorem dX1_readLevel_46 : decode cX1_readLevel 46 = .ok (.invokevirtual 42, 3) := zk182 0 42 (by decide +kernel)
theorem dX1_readLevel_49 : decode cX1_readLevel 49 = .ok (.aload_n 0, 1) := zk42 (by decide +kernel)
theorem dX1_readLevel_50 : decode cX1_readLevel 50 = .ok (.iload_n 1, 1) := zk27 (by decide +kernel)
theorem dX1_readLevel_51 : decode cX1_readLevel 51 = .ok (.iconst 1, 1) := zk4 (by decide +kernel)
theorem dX1_readLevel_52 : decode cX1_readLevel 52 = .ok (.iadd, 1) := zk96 (by decide +kernel)
theorem dX1_readLevel_53 : decode cX1_readLevel 53 = .ok (.invokevirtual 57, 3) := zk182 0 57 (by decide +kernel)
theorem dX1_readLevel_56 : decode cX1_readLevel 56 = .ok (.ifCond .ne 5, 3) := zk154 0 5 rfl (by decide +kernel)
theorem dX1_readLevel_59 : decode cX1_readLevel 59 = .ok (.iconst 0, 1) := zk3 (by decide +kernel)
theorem dX1_readLevel_60 : decode cX1_readLevel 60 = .ok (.ireturn, 1) := zk172 (by decide +kernel)
theorem dX1_readLevel_61 : decode cX1_readLevel 61 = .ok (.aload_n 0, 1) := zk42 (by decide +kernel)
theorem dX1_readLevel_62 : decode cX1_readLevel 62 = .ok (.getfield 12, 3) := zk180 0 12 (by decide +kernel)
theorem dX1_readLevel_65 : decode cX1_readLevel 65 = .ok (.sipush (-1000), 3) := zk17 252 24 rfl (by decide +kernel)
theorem dX1_readLevel_68 : decode cX1_readLevel 68 = .ok (.iload_n 3, 1) := zk29 (by decide +kernel)
theorem dX1_readLevel_69 : decode cX1_readLevel 69 = .ok (.isub, 1) := zk100 (by decide +kernel)
theorem dX1_readLevel_70 : decode cX1_readLevel 70 = .ok (.invokevirtual 98, 3) := zk182 0 98 (by decide +kernel)
theorem dX1_readLevel_73 : decode cX1_readLevel 73 = .ok (.iload_n 1, 1) := zk27 (by decide +kernel)
theorem dX1_readLevel_74 : decode cX1_readLevel 74 = .ok (.iconst 2, 1) := zk5 (by decide +kernel)
theorem dX1_readLevel_75 : decode cX1_readLevel 75 = .ok (.if_icmp .ne 5, 3) := zk160 0 5 rfl (by decide +kernel)
theorem dX1_readLevel_78 : decode cX1_readLevel 78 = .ok (.iconst 1, 1) := zk4 (by decide +kernel)
theorem dX1_readLevel_79 : decode cX1_readLevel 79 = .ok (.ireturn, 1) := zk172 (by decide +kernel)
theorem dX1_readLevel_80 : decode cX1_readLevel 80 = .ok (.iinc 2 1, 3) := by decide +kernel
theorem dX1_readLevel_83 : decode cX1_readLevel 83 = .ok (.goto (-59), 3) := zk167 255 197 rfl (by decide +kernel)
theorem dX1_readLevel_86 : decode cX1_readLevel 86 = .ok (.iconst 1, 1) := zk4 (by decide +kernel)
theorem dX1_readLevel_87 : decode cX1_readLevel 87 = .ok (.ireturn, 1) := zk172 (by decide +kernel)
theorem dX1_levelOf_0 : decode cX1_levelOf 0 = .ok (.iload_n 0, 1) := zk26 (by decide +kernel)
theorem dX1_levelOf_1 : decode cX1_levelOf 1 = .ok (.lookupswitch 101 #[(38, 85), (42, 97), (43, 93), (45, 95), (47, 99), (60, 87), (61, 89), (62, 91), (124, 83)], 83) := by decide +kernel
theorem dX1_levelOf_84 : decode cX1_levelOf 84 = .ok (.iconst 0, 1) := zk3 (by decide +kernel)
theorem dX1_levelOf_85 : decode cX1_levelOf 85 = .ok (.ireturn, 1) := zk172 (by decide +kernel)
theorem dX1_levelOf_86 : decode cX1_levelOf 86 = .ok (.iconst 1, 1) := zk4 (by decide +kernel)
theorem dX1_levelOf_87 : decode cX1_levelOf 87 = .ok (.ireturn, 1) := zk172 (by decide +kernel)
theorem dX1_levelOf_88 : decode cX1_levelOf 88 = .ok (.iconst 2, 1) := zk5 (by decide +kernel)
theorem dX1_levelOf_89 : decode cX1_levelOf 89 = .ok (.ireturn, 1) := zk172 (by decide +kernel)
theorem dX1_levelOf_90 : decode cX1_levelOf 90 = .ok (.iconst 2, 1) := zk5 (by decide +kernel)
theorem dX1_levelOf_91 : decode cX1_levelOf 91 = .ok (.ireturn, 1) := zk172 (by decide +kernel)
theorem dX1_levelOf_92 : decode cX1_levelOf 92 = .ok (.iconst 2, 1) := zk5 (by decide +kernel)
theorem dX1_levelOf_93 : decode cX1_levelOf 93 = .ok (.ireturn, 1) := zk172 (by decide +kernel)
theorem dX1_levelOf_94 : decode cX1_levelOf 94 = .ok (.iconst 3, 1) := zk6 (by decide +kernel)
theorem dX1_levelOf_95 : decode cX1_levelOf 95 = .ok (.ireturn, 1) := zk172 (by decide +kernel)
theorem dX1_levelOf_96 : decode cX1_levelOf 96 = .ok (.iconst 3, 1) := zk6 (by decide +kernel)
theorem dX1_levelOf_97 : decode cX1_levelOf 97 = .ok (.ireturn, 1) := zk172 (by decide +kernel)
theorem dX1_levelOf_98 : decode cX1_levelOf 98 = .ok (.iconst 4, 1) := zk7 (by decide +kernel)
theorem dX1_levelOf_99 : decode cX1_levelOf 99 = .ok (.ireturn, 1) := zk172 (by decide +kernel)
theorem dX1_levelOf_100 : decode cX1_levelOf 100 = .ok (.iconst 4, 1) := zk7 (by decide +kernel)
theorem dX1_levelOf_101 : decode cX1_levelOf 101 = .ok (.ireturn, 1) := zk172 (by decide +kernel)
theorem dX1_levelOf_102 : decode cX1_levelOf 102 = .ok (.ldc 49, 2) := zk18 49 (by decide +kernel)
theorem dX1_levelOf_104 : decode cX1_levelOf 104 = .ok (.ireturn, 1) := zk172 (by decide +kernel)
set_option maxRecDepth 20000 in
theorem gw_wsX1_readNumber : wsX1_readNumber.all goodWord = true := by decide +kernel
def bs_wsX1_readPiece : List (List Cond) := [[.code yX1_readPiece cX1_readPiece 1 (some .boolean)], wsX1_readPiece_r1, wsX1_readPiece_r2, wsX1_readPiece_r3, wsX1_readPiece_r4, wsX1_readPiece_r5, wsX1_readPiece_r6, wsX1_readPiece_r7, wsX10, wsX50]
theorem bse_wsX1_readPiece : wsX1_readPiece = bs_wsX1_readPiece.flatten := by
  unfold wsX1_readPiece bs_wsX1_readPiece
  simp only [List.flatten_cons, List.flatten_nil, List.append_nil, List.append_assoc, List.cons_append, List.nil_append]
set_option maxRecDepth 20000 in
theorem ggX1_readPiece_X1_readNumber : GoodIn wsX1_readPiece wsX1_readNumber := goodIn_pc bs_wsX1_readPiece bse_wsX1_readPiece _ [(1, [5, 6, 7, 8, 9, 10, 11, 12, 13, 14, 15, 16, 17, 18, 19, 20, 21, 22, 23]), (2, [0, 1]), (1, [4]), (2, [2]), (1, [0]), (2, [3, 4, 5, 6]), (8, [0, 1, 2, 3, 4, 5, 6, 7]), (9, [0, 1, 2, 3, 4])] rfl gw_wsX1_readNumber
set_option maxRecDepth 20000 in
theorem gX1_readPiece_X1_readNumber : GoodIn wsX1_readPiece (wsV RX1 101 RX1 yX1_readNumber wsX1_readNumber) := goodIn_app (goodIn_pc bs_wsX1_readPiece bse_wsX1_readPiece _ [(1, [1, 2, 3, 4])] rfl (by decide +kernel)) ggX1_readPiece_X1_readNumber
set_option maxRecDepth 20000 in
theorem gw_wsX1_readName : wsX1_readName.all goodWord = true := by decide +kernel
set_option maxRecDepth 20000 in
theorem ggX1_readPiece_X1_readName : GoodIn wsX1_readPiece wsX1_readName := goodIn_pc bs_wsX1_readPiece bse_wsX1_readPiece _ [(2, [10]), (1, [7, 6, 8, 10]), (2, [11]), (1, [9]), (2, [12, 13]), (1, [4]), (2, [14, 15, 16, 17, 18, 19, 20, 21, 22, 23]), (3, [0, 1, 2, 3, 4, 5, 6, 7, 8, 9, 10, 11, 12, 13, 14, 15, 16, 17, 18, 19, 20, 21, 22, 23]), (4, [0, 1, 2, 3, 4, 5, 6, 7, 8, 9, 10, 11, 12, 13, 14, 15, 16, 17, 18, 19, 20, 21, 22, 23]), (5, [0, 1, 2, 3, 4, 5, 6, 7, 8, 9, 10, 11, 12, 13, 14, 15, 16, 17, 18, 19, 20, 21, 22, 23]), (6, [0, 1, 2, 3, 4, 5, 6, 7]), (1, [11, 12, 13, 14, 15, 16, 17, 18, 19, 20, 21, 22, 23]), (2, [0, 1, 2]), (1, [0]), (2, [3, 4, 5, 6]), (8, [0, 1, 2, 3, 4, 5, 6, 7]), (9, [0, 1, 2, 3, 4])] rfl gw_wsX1_readName
set_option maxRecDepth 20000 in
theorem gX1_readPiece_X1_readName : GoodIn wsX1_readPiece (wsV RX1 104 RX1 yX1_readName wsX1_readName) := goodIn_app (goodIn_pc bs_wsX1_readPiece bse_wsX1_readPiece _ [(2, [7, 8, 9]), (1, [4])] rfl (by decide +kernel)) ggX1_readPiece_X1_readName
set_option maxRecDepth 20000 in
theorem ggX1_readPiece_X1_signHere : GoodIn wsX1_readPiece wsX1_signHere := goodIn_pc bs_wsX1_readPiece bse_wsX1_readPiece _ [(6, [11]), (1, [0, 6, 9]), (6, [12, 13, 14, 15]), (8, [0, 1, 2, 3, 4, 5, 6, 7])] rfl gw_wsX1_signHere
set_option maxRecDepth 20000 in
theorem gX1_readPiece_X1_signHere : GoodIn wsX1_readPiece (wsV RX1 92 RX1 yX1_signHere wsX1_signHere) := goodIn_app (goodIn_pc bs_wsX1_readPiece bse_wsX1_readPiece _ [(6, [8, 9, 10]), (1, [4])] rfl (by decide +kernel)) ggX1_readPiece_X1_signHere
set_option maxRecDepth 20000 in
theorem gw_wsX1_readNot : wsX1_readNot.all goodWord = true := by decide +kernel
set_option maxRecDepth 20000 in
theorem ggX1_readPiece_X1_readNot : GoodIn wsX1_readPiece wsX1_readNot := goodIn_pc bs_wsX1_readPiece bse_wsX1_readPiece _ [(7, [11, 12]), (1, [10, 23]), (2, [0, 1]), (1, [4]), (2, [2]), (1, [0, 7, 6, 8, 9]), (2, [3, 4, 5, 6]), (7, [4, 5, 6, 10]), (1, [18, 19, 14, 20, 21, 22]), (6, [22, 23]), (7, [0, 1, 2]), (6, [8, 9, 10, 11, 12, 13, 14, 15]), (7, [3, 7, 8, 9]), (0, [0]), (1, [1, 2, 3, 5, 11, 12, 13, 15, 16, 17]), (2, [7, 8, 9, 10, 11, 12, 13, 14, 15, 16, 17, 18, 19, 20, 21, 22, 23]), (3, [0, 1, 2, 3, 4, 5, 6, 7, 8, 9, 10, 11, 12, 13, 14, 15, 16, 17, 18, 19, 20, 21, 22, 23]), (4, [0, 1, 2, 3, 4, 5, 6, 7, 8, 9, 10, 11, 12, 13, 14, 15, 16, 17, 18, 19, 20, 21, 22, 23]), (5, [0, 1, 2, 3, 4, 5, 6, 7, 8, 9, 10, 11, 12, 13, 14, 15, 16, 17, 18, 19, 20, 21, 22, 23]), (6, [0, 1, 2, 3, 4, 5, 6, 7, 16, 17, 18, 19, 20, 21]), (8, [0, 1, 2, 3, 4, 5, 6, 7]), (9, [0, 1, 2, 3, 4])] rfl gw_wsX1_readNot
set_option maxRecDepth 20000 in
theorem gX1_readPiece_X1_readNot : GoodIn wsX1_readPiece (wsV RX1 107 RX1 yX1_readNot wsX1_readNot) := goodIn_app (goodIn_pc bs_wsX1_readPiece bse_wsX1_readPiece _ [(6, [16, 17, 18]), (1, [4])] rfl (by decide +kernel)) ggX1_readPiece_X1_readNot
set_option maxRecDepth 20000 in
theorem gw_wsX1_readBracket : wsX1_readBracket.all goodWord = true := by decide +kernel
set_option maxRecDepth 20000 in
theorem ggX1_readPiece_X1_readBracket : GoodIn wsX1_readPiece wsX1_readBracket := goodIn_pc bs_wsX1_readPiece bse_wsX1_readPiece _ [(6, [22, 23]), (1, [23]), (2, [0, 1]), (1, [4]), (2, [2]), (1, [0, 7, 6, 8, 9]), (2, [3, 4, 5, 6]), (7, [0, 1, 2]), (6, [8, 9, 10, 11, 12, 13, 14, 15]), (7, [3]), (1, [10]), (7, [4, 5, 6, 7, 8, 9, 10]), (1, [18, 19, 14, 20, 21, 22]), (7, [11, 12]), (0, [0]), (1, [1, 2, 3, 5, 11, 12, 13, 15, 16, 17]), (2, [7, 8, 9, 10, 11, 12, 13, 14, 15, 16, 17, 18, 19, 20, 21, 22, 23]), (3, [0, 1, 2, 3, 4, 5, 6, 7, 8, 9, 10, 11, 12, 13, 14, 15, 16, 17, 18, 19, 20, 21, 22, 23]), (4, [0, 1, 2, 3, 4, 5, 6, 7, 8, 9, 10, 11, 12, 13, 14, 15, 16, 17, 18, 19, 20, 21, 22, 23]), (5, [0, 1, 2, 3, 4, 5, 6, 7, 8, 9, 10, 11, 12, 13, 14, 15, 16, 17, 18, 19, 20, 21, 22, 23]), (6, [0, 1, 2, 3, 4, 5, 6, 7, 16, 17, 18, 19, 20, 21]), (8, [0, 1, 2, 3, 4, 5, 6, 7]), (9, [0, 1, 2, 3, 4])] rfl gw_wsX1_readBracket
set_option maxRecDepth 20000 in
theorem gX1_readPiece_X1_readBracket : GoodIn wsX1_readPiece (wsV RX1 110 RX1 yX1_readBracket wsX1_readBracket) := goodIn_app (goodIn_pc bs_wsX1_readPiece bse_wsX1_readPiece _ [(6, [19, 20, 21]), (1, [4])] rfl (by decide +kernel)) ggX1_readPiece_X1_readBracket
theorem dX1_readPiece_0 : decode cX1_readPiece 0 = .ok (.aload_n 0, 1) := zk42 (by decide +kernel)
theorem dX1_readPiece_1 : decode cX1_readPiece 1 = .ok (.getfield 30, 3) := zk180 0 30 (by decide +kernel)
theorem dX1_readPiece_4 : decode cX1_readPiece 4 = .ok (.lookupswitch 38 #[(1, 33), (2, 28)], 28) := by decide +kernel
theorem dX1_readPiece_32 : decode cX1_readPiece 32 = .ok (.aload_n 0, 1) := zk42 (by decide +kernel)
theorem dX1_readPiece_33 : decode cX1_readPiece 33 = .ok (.invokevirtual 101, 3) := zk182 0 101 (by decide +kernel)
theorem dX1_readPiece_36 : decode cX1_readPiece 36 = .ok (.ireturn, 1) := zk172 (by decide +kernel)
theorem dX1_readPiece_37 : decode cX1_readPiece 37 = .ok (.aload_n 0, 1) := zk42 (by decide +kernel)
theorem dX1_readPiece_38 : decode cX1_readPiece 38 = .ok (.invokevirtual 104, 3) := zk182 0 104 (by decide +kernel)
theorem dX1_readPiece_41 : decode cX1_readPiece 41 = .ok (.ireturn, 1) := zk172 (by decide +kernel)
theorem dX1_readPiece_42 : decode cX1_readPiece 42 = .ok (.aload_n 0, 1) := zk42 (by decide +kernel)
theorem dX1_readPiece_43 : decode cX1_readPiece 43 = .ok (.invokevirtual 92, 3) := zk182 0 92 (by decide +kernel)
theorem dX1_readPiece_46 : decode cX1_readPiece 46 = .ok (.lookupswitch 36 #[(33, 26), (40, 31)], 26) := by decide +kernel
theorem dX1_readPiece_72 : decode cX1_readPiece 72 = .ok (.aload_n 0, 1) := zk42 (by decide +kernel)
theorem dX1_readPiece_73 : decode cX1_readPiece 73 = .ok (.invokevirtual 107, 3) := zk182 0 107 (by decide +kernel)
theorem dX1_readPiece_76 : decode cX1_readPiece 76 = .ok (.ireturn, 1) := zk172 (by decide +kernel)
theorem dX1_readPiece_77 : decode cX1_readPiece 77 = .ok (.aload_n 0, 1) := zk42 (by decide +kernel)
theorem dX1_readPiece_78 : decode cX1_readPiece 78 = .ok (.invokevirtual 110, 3) := zk182 0 110 (by decide +kernel)
theorem dX1_readPiece_81 : decode cX1_readPiece 81 = .ok (.ireturn, 1) := zk172 (by decide +kernel)
theorem dX1_readPiece_82 : decode cX1_readPiece 82 = .ok (.iconst 0, 1) := zk3 (by decide +kernel)
theorem dX1_readPiece_83 : decode cX1_readPiece 83 = .ok (.ireturn, 1) := zk172 (by decide +kernel)
set_option maxRecDepth 20000 in
theorem gw_wsX5_addLeaf : wsX5_addLeaf.all goodWord = true := by decide +kernel
def bs_wsX1_readNumber : List (List Cond) := [[.code yX1_readNumber cX1_readNumber 3 (some .boolean)], wsX1_readNumber_r1, wsX1_readNumber_r2, wsX10, wsX50]
theorem bse_wsX1_readNumber : wsX1_readNumber = bs_wsX1_readNumber.flatten := by
  unfold wsX1_readNumber bs_wsX1_readNumber
  simp only [List.flatten_cons, List.flatten_nil, List.append_nil, List.append_assoc, List.cons_append, List.nil_append]
set_option maxRecDepth 20000 in
theorem ggX1_readNumber_X5_addLeaf : GoodIn wsX1_readNumber wsX5_addLeaf := goodIn_pc bs_wsX1_readNumber bse_wsX1_readNumber _ [(1, [9, 10, 11, 12, 13, 8, 14, 15, 16]), (4, [0, 1, 2, 3, 4])] rfl gw_wsX5_addLeaf
set_option maxRecDepth 20000 in
theorem gX1_readNumber_X5_addLeaf : GoodIn wsX1_readNumber (wsV RX1 113 RX5 yX5_addLeaf wsX5_addLeaf) := goodIn_app (goodIn_pc bs_wsX1_readNumber bse_wsX1_readNumber _ [(1, [5, 6, 7, 8])] rfl (by decide +kernel)) ggX1_readNumber_X5_addLeaf
set_option maxRecDepth 20000 in
theorem ggX1_readNumber_X1_advance : GoodIn wsX1_readNumber wsX1_advance := goodIn_pc bs_wsX1_readNumber bse_wsX1_readNumber _ [(1, [21, 22, 1, 0, 2, 3, 23]), (2, [0, 1]), (1, [20]), (2, [2]), (3, [0, 1, 2, 3, 4, 5, 6, 7])] rfl gw_wsX1_advance
set_option maxRecDepth 20000 in
theorem gX1_readNumber_X1_advance : GoodIn wsX1_readNumber (wsV RX1 42 RX1 yX1_advance wsX1_advance) := goodIn_app (goodIn_pc bs_wsX1_readNumber bse_wsX1_readNumber _ [(1, [17, 18, 19, 20])] rfl (by decide +kernel)) ggX1_readNumber_X1_advance
theorem dX1_readNumber_0 : decode cX1_readNumber 0 = .ok (.iconst 0, 1) := zk3 (by decide +kernel)
theorem dX1_readNumber_1 : decode cX1_readNumber 1 = .ok (.istore_n 1, 1) := zk60 (by decide +kernel)
theorem dX1_readNumber_2 : decode cX1_readNumber 2 = .ok (.aload_n 0, 1) := zk42 (by decide +kernel)
theorem dX1_readNumber_3 : decode cX1_readNumber 3 = .ok (.getfield 50, 3) := zk180 0 50 (by decide +kernel)
theorem dX1_readNumber_6 : decode cX1_readNumber 6 = .ok (.istore_n 2, 1) := zk61 (by decide +kernel)
theorem dX1_readNumber_7 : decode cX1_readNumber 7 = .ok (.iload_n 2, 1) := zk28 (by decide +kernel)
theorem dX1_readNumber_8 : decode cX1_readNumber 8 = .ok (.aload_n 0, 1) := zk42 (by decide +kernel)
theorem dX1_readNumber_9 : decode cX1_readNumber 9 = .ok (.getfield 33, 3) := zk180 0 33 (by decide +kernel)
theorem dX1_readNumber_12 : decode cX1_readNumber 12 = .ok (.if_icmp .ge 32, 3) := zk162 0 32 rfl (by decide +kernel)
theorem dX1_readNumber_15 : decode cX1_readNumber 15 = .ok (.iload_n 2, 1) := zk28 (by decide +kernel)
theorem dX1_readNumber_16 : decode cX1_readNumber 16 = .ok (.aload_n 0, 1) := zk42 (by decide +kernel)
theorem dX1_readNumber_17 : decode cX1_readNumber 17 = .ok (.getfield 26, 3) := zk180 0 26 (by decide +kernel)
theorem dX1_readNumber_20 : decode cX1_readNumber 20 = .ok (.if_icmp .ge 24, 3) := zk162 0 24 rfl (by decide +kernel)
theorem dX1_readNumber_23 : decode cX1_readNumber 23 = .ok (.iload_n 1, 1) := zk27 (by decide +kernel)
theorem dX1_readNumber_24 : decode cX1_readNumber 24 = .ok (.bipush 10, 2) := zk16 10 rfl (by decide +kernel)
theorem dX1_readNumber_26 : decode cX1_readNumber 26 = .ok (.imul, 1) := zk104 (by decide +kernel)
theorem dX1_readNumber_27 : decode cX1_readNumber 27 = .ok (.aload_n 0, 1) := zk42 (by decide +kernel)
theorem dX1_readNumber_28 : decode cX1_readNumber 28 = .ok (.getfield 18, 3) := zk180 0 18 (by decide +kernel)
theorem dX1_readNumber_31 : decode cX1_readNumber 31 = .ok (.iload_n 2, 1) := zk28 (by decide +kernel)
theorem dX1_readNumber_32 : decode cX1_readNumber 32 = .ok (.iaload, 1) := zk46 (by decide +kernel)
theorem dX1_readNumber_33 : decode cX1_readNumber 33 = .ok (.iadd, 1) := zk96 (by decide +kernel)
theorem dX1_readNumber_34 : decode cX1_readNumber 34 = .ok (.bipush 48, 2) := zk16 48 rfl (by decide +kernel)
theorem dX1_readNumber_36 : decode cX1_readNumber 36 = .ok (.isub, 1) := zk100 (by decide +kernel)
theorem dX1_readNumber_37 : decode cX1_readNumber 37 = .ok (.istore_n 1, 1) := zk60 (by decide +kernel)
theorem dX1_readNumber_38 : decode cX1_readNumber 38 = .ok (.iinc 2 1, 3) := by decide +kernel
theorem dX1_readNumber_41 : decode cX1_readNumber 41 = .ok (.goto (-34), 3) := zk167 255 222 rfl (by decide +kernel)
theorem dX1_readNumber_44 : decode cX1_readNumber 44 = .ok (.aload_n 0, 1) := zk42 (by decide +kernel)
theorem dX1_readNumber_45 : decode cX1_readNumber 45 = .ok (.getfield 12, 3) := zk180 0 12 (by decide +kernel)
theorem dX1_readNumber_48 : decode cX1_readNumber 48 = .ok (.iload_n 1, 1) := zk27 (by decide +kernel)
theorem dX1_readNumber_49 : decode cX1_readNumber 49 = .ok (.invokevirtual 113, 3) := zk182 0 113 (by decide +kernel)
theorem dX1_readNumber_52 : decode cX1_readNumber 52 = .ok (.aload_n 0, 1) := zk42 (by decide +kernel)
theorem dX1_readNumber_53 : decode cX1_readNumber 53 = .ok (.invokevirtual 42, 3) := zk182 0 42 (by decide +kernel)
theorem dX1_readNumber_56 : decode cX1_readNumber 56 = .ok (.iconst 1, 1) := zk4 (by decide +kernel)
theorem dX1_readNumber_57 : decode cX1_readNumber 57 = .ok (.ireturn, 1) := zk172 (by decide +kernel)
set_option maxRecDepth 20000 in
theorem gw_wsX1_namesOf : wsX1_namesOf.all goodWord = true := by decide +kernel
def bs_wsX1_readName : List (List Cond) := [[.code yX1_readName cX1_readName 2 (some .boolean)], wsX1_readName_r1, wsX1_readName_r2, wsX1_readName_r3, wsX1_readName_r4, wsX1_readName_r5, wsX10, wsX50]
theorem bse_wsX1_readName : wsX1_readName = bs_wsX1_readName.flatten := by
  unfold wsX1_readName bs_wsX1_readName
  simp only [List.flatten_cons, List.flatten_nil, List.append_nil, List.append_assoc, List.cons_append, List.nil_append]
set_option maxRecDepth 20000 in
theorem ggX1_readName_X1_namesOf : GoodIn wsX1_readName wsX1_namesOf := goodIn_pc bs_wsX1_readName bse_wsX1_readName _ [(1, [9])] rfl gw_wsX1_namesOf
set_option maxRecDepth 20000 in
theorem gX1_readName_X1_namesOf : GoodIn wsX1_readName (va_wsS RX1 119 yX1_namesOf wsX1_namesOf) := goodIn_app (goodIn_pc bs_wsX1_readName bse_wsX1_readName _ [(1, [6, 7, 8])] rfl (by decide +kernel)) ggX1_readName_X1_namesOf
set_option maxRecDepth 20000 in
theorem gw_wsJ0_indexOf_0f7a4 : wsJ0_indexOf_0f7a4.all goodWord = true := by decide +kernel
set_option maxRecDepth 20000 in
theorem ggX1_readName_J0_indexOf_0f7a4 : GoodIn wsX1_readName wsJ0_indexOf_0f7a4 := goodIn_pc bs_wsX1_readName bse_wsX1_readName _ [(1, [14, 15, 16, 17, 13, 18, 19, 20, 21, 22, 23]), (2, [0, 1, 2, 3, 4, 5, 6, 7, 8, 9, 10, 11, 12, 13, 14, 15, 16, 17, 18, 19, 20, 21, 22, 23]), (3, [0, 1, 2, 3, 4, 5, 6, 7, 8, 9, 10, 11, 12, 13, 14, 15, 16, 17, 18, 19, 20, 21, 22, 23]), (4, [0, 1, 2, 3, 4, 5, 6, 7, 8, 9, 10, 11, 12, 13, 14, 15, 16, 17, 18, 19, 20, 21, 22, 23]), (5, [0, 1, 2])] rfl gw_wsJ0_indexOf_0f7a4
set_option maxRecDepth 20000 in
theorem gX1_readName_J0_indexOf_0f7a4 : GoodIn wsX1_readName (wsV RX1 123 RJ0 yJ0_indexOf_0f7a4 wsJ0_indexOf_0f7a4) := goodIn_app (goodIn_pc bs_wsX1_readName bse_wsX1_readName _ [(1, [10, 11, 12, 13])] rfl (by decide +kernel)) ggX1_readName_J0_indexOf_0f7a4
set_option maxRecDepth 20000 in
theorem ggX1_readName_X5_addLeaf : GoodIn wsX1_readName wsX5_addLeaf := goodIn_pc bs_wsX1_readName bse_wsX1_readName _ [(5, [7, 8, 9, 10, 11, 6, 12, 13, 14]), (7, [0, 1, 2, 3, 4])] rfl gw_wsX5_addLeaf
set_option maxRecDepth 20000 in
theorem gX1_readName_X5_addLeaf : GoodIn wsX1_readName (wsV RX1 113 RX5 yX5_addLeaf wsX5_addLeaf) := goodIn_app (goodIn_pc bs_wsX1_readName bse_wsX1_readName _ [(5, [3, 4, 5, 6])] rfl (by decide +kernel)) ggX1_readName_X5_addLeaf
set_option maxRecDepth 20000 in
theorem ggX1_readName_X1_advance : GoodIn wsX1_readName wsX1_advance := goodIn_pc bs_wsX1_readName bse_wsX1_readName _ [(5, [18, 19]), (1, [0, 1, 2, 5]), (5, [20, 21, 22]), (1, [8]), (5, [23]), (6, [0, 1, 2, 3, 4, 5, 6, 7])] rfl gw_wsX1_advance
set_option maxRecDepth 20000 in
theorem gX1_readName_X1_advance : GoodIn wsX1_readName (wsV RX1 42 RX1 yX1_advance wsX1_advance) := goodIn_app (goodIn_pc bs_wsX1_readName bse_wsX1_readName _ [(5, [15, 16, 17]), (1, [8])] rfl (by decide +kernel)) ggX1_readName_X1_advance
theorem dX1_readName_0 : decode cX1_readName 0 = .ok (.aload_n 0, 1) := zk42 (by decide +kernel)
theorem dX1_readName_1 : decode cX1_readName 1 = .ok (.getfield 33, 3) := zk180 0 33 (by decide +kernel)
theorem dX1_readName_4 : decode cX1_readName 4 = .ok (.aload_n 0, 1) := zk42 (by decide +kernel)
theorem dX1_readName_5 : decode cX1_readName 5 = .ok (.getfield 50, 3) := zk180 0 50 (by decide +kernel)
theorem dX1_readName_8 : decode cX1_readName 8 = .ok (.isub, 1) := zk100 (by decide +kernel)
theorem dX1_readName_9 : decode cX1_readName 9 = .ok (.iconst 1, 1) := zk4 (by decide +kernel)
theorem dX1_readName_10 : decode cX1_readName 10 = .ok (.if_icmp .ne 40, 3) := zk160 0 40 rfl (by decide +kernel)
theorem dX1_readName_13 : decode cX1_readName 13 = .ok (.aload_n 0, 1) := zk42 (by decide +kernel)
theorem dX1_readName_14 : decode cX1_readName 14 = .ok (.getfield 50, 3) := zk180 0 50 (by decide +kernel)
theorem dX1_readName_17 : decode cX1_readName 17 = .ok (.aload_n 0, 1) := zk42 (by decide +kernel)
theorem dX1_readName_18 : decode cX1_readName 18 = .ok (.getfield 26, 3) := zk180 0 26 (by decide +kernel)
theorem dX1_readName_21 : decode cX1_readName 21 = .ok (.if_icmp .ge 29, 3) := zk162 0 29 rfl (by decide +kernel)
theorem dX1_readName_24 : decode cX1_readName 24 = .ok (.aload_n 0, 1) := zk42 (by decide +kernel)
theorem dX1_readName_25 : decode cX1_readName 25 = .ok (.getfield 12, 3) := zk180 0 12 (by decide +kernel)
theorem dX1_readName_28 : decode cX1_readName 28 = .ok (.getfield 116, 3) := zk180 0 116 (by decide +kernel)
theorem dX1_readName_31 : decode cX1_readName 31 = .ok (.invokestatic 119, 3) := zk184 0 119 (by decide +kernel)
theorem dX1_readName_34 : decode cX1_readName 34 = .ok (.aload_n 0, 1) := zk42 (by decide +kernel)
theorem dX1_readName_35 : decode cX1_readName 35 = .ok (.getfield 18, 3) := zk180 0 18 (by decide +kernel)
theorem dX1_readName_38 : decode cX1_readName 38 = .ok (.aload_n 0, 1) := zk42 (by decide +kernel)
theorem dX1_readName_39 : decode cX1_readName 39 = .ok (.getfield 50, 3) := zk180 0 50 (by decide +kernel)
theorem dX1_readName_42 : decode cX1_readName 42 = .ok (.iaload, 1) := zk46 (by decide +kernel)
theorem dX1_readName_43 : decode cX1_readName 43 = .ok (.i2c, 1) := zk146 (by decide +kernel)
theorem dX1_readName_44 : decode cX1_readName 44 = .ok (.invokevirtual 123, 3) := zk182 0 123 (by decide +kernel)
theorem dX1_readName_47 : decode cX1_readName 47 = .ok (.goto 4, 3) := zk167 0 4 rfl (by decide +kernel)
theorem dX1_readName_50 : decode cX1_readName 50 = .ok (.iconst (-1), 1) := zk2 (by decide +kernel)
theorem dX1_readName_51 : decode cX1_readName 51 = .ok (.istore_n 1, 1) := zk60 (by decide +kernel)
theorem dX1_readName_52 : decode cX1_readName 52 = .ok (.iload_n 1, 1) := zk27 (by decide +kernel)
theorem dX1_readName_53 : decode cX1_readName 53 = .ok (.ifCond .ge 5, 3) := zk156 0 5 rfl (by decide +kernel)
theorem dX1_readName_56 : decode cX1_readName 56 = .ok (.iconst 0, 1) := zk3 (by decide +kernel)
theorem dX1_readName_57 : decode cX1_readName 57 = .ok (.ireturn, 1) := zk172 (by decide +kernel)
theorem dX1_readName_58 : decode cX1_readName 58 = .ok (.aload_n 0, 1) := zk42 (by decide +kernel)
theorem dX1_readName_59 : decode cX1_readName 59 = .ok (.getfield 12, 3) := zk180 0 12 (by decide +kernel)
theorem dX1_readName_62 : decode cX1_readName 62 = .ok (.iconst (-1), 1) := zk2 (by decide +kernel)
theorem dX1_readName_63 : decode cX1_readName 63 = .ok (.iload_n 1, 1) := zk27 (by decide +kernel)
theorem dX1_readName_64 : decode cX1_readName 64 = .ok (.isub, 1) := zk100 (by decide +kernel)
theorem dX1_readName_65 : decode cX1_readName 65 = .ok (.invokevirtual 113, 3) := zk182 0 113 (by decide +kernel)
theorem dX1_readName_68 : decode cX1_readName 68 = .ok (.aload_n 0, 1) := zk42 (by decide +kernel)
theorem dX1_readName_69 : decode cX1_readName 69 = .ok (.invokevirtual 42, 3) := zk182 0 42 (by decide +kernel)
theorem dX1_readName_72 : decode cX1_readName 72 = .ok (.iconst 1, 1) := zk4 (by decide +kernel)
theorem dX1_readName_73 : decode cX1_readName 73 = .ok (.ireturn, 1) := zk172 (by decide +kernel)
theorem dX1_namesOf_0 : decode cX1_namesOf 0 = .ok (.iload_n 0, 1) := zk26 (by decide +kernel)
theorem dX1_namesOf_1 : decode cX1_namesOf 1 = .ok (.lookupswitch 33 #[(0, 27), (1, 30)], 27) := by decide +kernel
theorem dX1_namesOf_28 : decode cX1_namesOf 28 = .ok (.ldc 126, 2) := zk18 126 (by decide +kernel)
theorem dX1_namesOf_30 : decode cX1_namesOf 30 = .ok (.areturn, 1) := zk176 (by decide +kernel)
theorem dX1_namesOf_31 : decode cX1_namesOf 31 = .ok (.ldc 128, 2) := zk18 128 (by decide +kernel)
theorem dX1_namesOf_33 : decode cX1_namesOf 33 = .ok (.areturn, 1) := zk176 (by decide +kernel)
theorem dX1_namesOf_34 : decode cX1_namesOf 34 = .ok (.ldc 130, 2) := zk18 130 (by decide +kernel)
theorem dX1_namesOf_36 : decode cX1_namesOf 36 = .ok (.areturn, 1) := zk176 (by decide +kernel)
def bs_wsX1_readNot : List (List Cond) := [[.code yX1_readNot cX1_readNot 1 (some .boolean)], wsX1_readNot_r1, wsX1_readNot_r2, wsX1_readNot_r3, wsX1_readNot_r4, wsX1_readNot_r5, wsX1_readNot_r6, wsX1_readNot_r7, wsX10, wsX50]
theorem bse_wsX1_readNot : wsX1_readNot = bs_wsX1_readNot.flatten := by
  unfold wsX1_readNot bs_wsX1_readNot
  simp only [List.flatten_cons, List.flatten_nil, List.append_nil, List.append_assoc, List.cons_append, List.nil_append]
set_option maxRecDepth 20000 in
theorem ggX1_readNot_X1_advance : GoodIn wsX1_readNot wsX1_advance := goodIn_pc bs_wsX1_readNot bse_wsX1_readNot _ [(1, [6, 7, 8, 9, 10, 11, 12, 13, 14, 5, 15]), (8, [0, 1, 2, 3, 4, 5, 6, 7])] rfl gw_wsX1_advance
set_option maxRecDepth 20000 in
theorem gX1_readNot_X1_advance : GoodIn wsX1_readNot (wsV RX1 42 RX1 yX1_advance wsX1_advance) := goodIn_app (goodIn_pc bs_wsX1_readNot bse_wsX1_readNot _ [(1, [2, 3, 4, 5])] rfl (by decide +kernel)) ggX1_readNot_X1_advance
set_option maxRecDepth 20000 in
theorem ggX1_readNot_X1_readPiece : GoodIn wsX1_readNot wsX1_readPiece := goodIn_pc bs_wsX1_readNot bse_wsX1_readNot _ [(2, [19]), (1, [7]), (2, [20, 21, 22]), (1, [5]), (2, [23]), (1, [9, 8, 10, 11, 1]), (3, [0, 1, 2]), (1, [22]), (3, [3, 4, 5]), (1, [20, 21, 23]), (2, [0, 1]), (1, [2, 3, 4, 6, 12, 13, 14, 15]), (3, [6, 7, 8, 9, 10, 11, 12, 13, 14, 15, 16, 17, 18, 19, 20, 21, 22, 23]), (4, [0, 1, 2, 3, 4, 5, 6, 7, 8, 9, 10, 11, 12, 13, 14, 15, 16, 17, 18, 19, 20, 21, 22, 23]), (5, [0, 1, 2, 3, 4, 5, 6, 7, 8, 9, 10, 11, 12, 13, 14, 15, 16, 17, 18, 19, 20, 21, 22, 23]), (6, [0, 1, 2, 3, 4, 5, 6, 7, 8, 9, 10, 11, 12, 13, 14, 15, 16, 17, 18, 19, 20, 21, 22, 23]), (7, [0, 1, 2, 3, 4, 5, 6]), (2, [7, 8, 9, 10, 11, 12, 13, 14]), (7, [7, 8, 9, 10, 11, 12]), (2, [2, 3, 4, 5, 6, 15]), (1, [16, 17, 18]), (2, [16, 17, 18]), (1, [19]), (0, [0]), (1, [0]), (8, [0, 1, 2, 3, 4, 5, 6, 7]), (9, [0, 1, 2, 3, 4])] rfl gw_wsX1_readPiece
set_option maxRecDepth 20000 in
theorem gX1_readNot_X1_readPiece : GoodIn wsX1_readNot (wsV RX1 88 RX1 yX1_readPiece wsX1_readPiece) := goodIn_app (goodIn_pc bs_wsX1_readNot bse_wsX1_readNot _ [(1, [16, 17, 18, 5])] rfl (by decide +kernel)) ggX1_readNot_X1_readPiece
set_option maxRecDepth 20000 in
theorem ggX1_readNot_X5_addStep : GoodIn wsX1_readNot wsX5_addStep := goodIn_pc bs_wsX1_readNot bse_wsX1_readNot _ [(1, [23]), (2, [0, 1]), (9, [0, 1, 2, 3, 4])] rfl gw_wsX5_addStep
set_option maxRecDepth 20000 in
theorem gX1_readNot_X5_addStep : GoodIn wsX1_readNot (wsV RX1 98 RX5 yX5_addStep wsX5_addStep) := goodIn_app (goodIn_pc bs_wsX1_readNot bse_wsX1_readNot _ [(1, [19, 20, 21, 22])] rfl (by decide +kernel)) ggX1_readNot_X5_addStep
theorem dX1_readNot_0 : decode cX1_readNot 0 = .ok (.aload_n 0, 1) := zk42 (by decide +kernel)
theorem dX1_readNot_1 : decode cX1_readNot 1 = .ok (.getfield 39, 3) := zk180 0 39 (by decide +kernel)
theorem dX1_readNot_4 : decode cX1_readNot 4 = .ok (.bipush 8, 2) := zk16 8 rfl (by decide +kernel)
theorem dX1_readNot_6 : decode cX1_readNot 6 = .ok (.if_icmp .lt 5, 3) := zk161 0 5 rfl (by decide +kernel)
theorem dX1_readNot_9 : decode cX1_readNot 9 = .ok (.iconst 0, 1) := zk3 (by decide +kernel)
theorem dX1_readNot_10 : decode cX1_readNot 10 = .ok (.ireturn, 1) := zk172 (by decide +kernel)
theorem dX1_readNot_11 : decode cX1_readNot 11 = .ok (.aload_n 0, 1) := zk42 (by decide +kernel)
theorem dX1_readNot_12 : decode cX1_readNot 12 = .ok (.dup, 1) := zk89 (by decide +kernel)
theorem dX1_readNot_13 : decode cX1_readNot 13 = .ok (.getfield 39, 3) := zk180 0 39 (by decide +kernel)
theorem dX1_readNot_16 : decode cX1_readNot 16 = .ok (.iconst 1, 1) := zk4 (by decide +kernel)
theorem dX1_readNot_17 : decode cX1_readNot 17 = .ok (.iadd, 1) := zk96 (by decide +kernel)
theorem dX1_readNot_18 : decode cX1_readNot 18 = .ok (.putfield 39, 3) := zk181 0 39 (by decide +kernel)
theorem dX1_readNot_21 : decode cX1_readNot 21 = .ok (.aload_n 0, 1) := zk42 (by decide +kernel)
theorem dX1_readNot_22 : decode cX1_readNot 22 = .ok (.invokevirtual 42, 3) := zk182 0 42 (by decide +kernel)
theorem dX1_readNot_25 : decode cX1_readNot 25 = .ok (.aload_n 0, 1) := zk42 (by decide +kernel)
theorem dX1_readNot_26 : decode cX1_readNot 26 = .ok (.invokevirtual 88, 3) := zk182 0 88 (by decide +kernel)
theorem dX1_readNot_29 : decode cX1_readNot 29 = .ok (.ifCond .ne 5, 3) := zk154 0 5 rfl (by decide +kernel)
theorem dX1_readNot_32 : decode cX1_readNot 32 = .ok (.iconst 0, 1) := zk3 (by decide +kernel)
theorem dX1_readNot_33 : decode cX1_readNot 33 = .ok (.ireturn, 1) := zk172 (by decide +kernel)
theorem dX1_readNot_34 : decode cX1_readNot 34 = .ok (.aload_n 0, 1) := zk42 (by decide +kernel)
theorem dX1_readNot_35 : decode cX1_readNot 35 = .ok (.dup, 1) := zk89 (by decide +kernel)
theorem dX1_readNot_36 : decode cX1_readNot 36 = .ok (.getfield 39, 3) := zk180 0 39 (by decide +kernel)
theorem dX1_readNot_39 : decode cX1_readNot 39 = .ok (.iconst 1, 1) := zk4 (by decide +kernel)
theorem dX1_readNot_40 : decode cX1_readNot 40 = .ok (.isub, 1) := zk100 (by decide +kernel)
theorem dX1_readNot_41 : decode cX1_readNot 41 = .ok (.putfield 39, 3) := zk181 0 39 (by decide +kernel)
theorem dX1_readNot_44 : decode cX1_readNot 44 = .ok (.aload_n 0, 1) := zk42 (by decide +kernel)
theorem dX1_readNot_45 : decode cX1_readNot 45 = .ok (.getfield 12, 3) := zk180 0 12 (by decide +kernel)
theorem dX1_readNot_48 : decode cX1_readNot 48 = .ok (.sipush (-1033), 3) := zk17 251 247 rfl (by decide +kernel)
theorem dX1_readNot_51 : decode cX1_readNot 51 = .ok (.invokevirtual 98, 3) := zk182 0 98 (by decide +kernel)
theorem dX1_readNot_54 : decode cX1_readNot 54 = .ok (.iconst 1, 1) := zk4 (by decide +kernel)
theorem dX1_readNot_55 : decode cX1_readNot 55 = .ok (.ireturn, 1) := zk172 (by decide +kernel)
def bs_wsX1_readBracket : List (List Cond) := [[.code yX1_readBracket cX1_readBracket 1 (some .boolean)], wsX1_readBracket_r1, wsX1_readBracket_r2, wsX1_readBracket_r3, wsX1_readBracket_r4, wsX1_readBracket_r5, wsX1_readBracket_r6, wsX1_readBracket_r7, wsX10, wsX50]
theorem bse_wsX1_readBracket : wsX1_readBracket = bs_wsX1_readBracket.flatten := by
  unfold wsX1_readBracket bs_wsX1_readBracket
  simp only [List.flatten_cons, List.flatten_nil, List.append_nil, List.append_assoc, List.cons_append, List.nil_append]
set_option maxRecDepth 20000 in
theorem ggX1_readBracket_X1_advance : GoodIn wsX1_readBracket wsX1_advance := goodIn_pc bs_wsX1_readBracket bse_wsX1_readBracket _ [(1, [5, 6, 7, 8, 9, 10, 11, 12, 13, 4, 14]), (8, [0, 1, 2, 3, 4, 5, 6, 7])] rfl gw_wsX1_advance
set_option maxRecDepth 20000 in
theorem gX1_readBracket_X1_advance : GoodIn wsX1_readBracket (wsV RX1 42 RX1 yX1_advance wsX1_advance) := goodIn_app (goodIn_pc bs_wsX1_readBracket bse_wsX1_readBracket _ [(1, [1, 2, 3, 4])] rfl (by decide +kernel)) ggX1_readBracket_X1_advance
set_option maxRecDepth 20000 in
theorem ggX1_readBracket_X1_readLevel : GoodIn wsX1_readBracket wsX1_readLevel := goodIn_pc bs_wsX1_readBracket bse_wsX1_readBracket _ [(2, [2, 3, 4, 5, 6]), (1, [4, 15, 16, 17, 18, 19, 20, 21, 6, 8, 10, 22, 23]), (2, [0, 1, 7, 8, 9]), (1, [1, 2, 3, 5, 7, 9, 11, 12, 13, 14]), (2, [10, 11, 12, 13, 14, 15, 16]), (0, [0]), (1, [0]), (2, [17, 18, 19, 20, 21, 22, 23]), (3, [0, 1, 2, 3, 4, 5, 6, 7, 8, 9, 10, 11, 12, 13, 14, 15, 16, 17, 18, 19, 20, 21, 22, 23]), (4, [0, 1, 2, 3, 4, 5, 6, 7, 8, 9, 10, 11, 12, 13, 14, 15, 16, 17, 18, 19, 20, 21, 22, 23]), (5, [0, 1, 2, 3, 4, 5, 6, 7, 8, 9, 10, 11, 12, 13, 14, 15, 16, 17, 18, 19, 20, 21, 22, 23]), (6, [0, 1, 2, 3, 4, 5, 6, 7, 8, 9, 10, 11, 12, 13, 14, 15, 16, 17, 18, 19, 20, 21, 22, 23]), (7, [0, 1, 2, 3, 4, 5, 6, 7, 8, 9, 10, 11, 12]), (8, [0, 1, 2, 3, 4, 5, 6, 7]), (9, [0, 1, 2, 3, 4])] rfl gw_wsX1_readLevel
set_option maxRecDepth 20000 in
theorem gX1_readBracket_X1_readLevel : GoodIn wsX1_readBracket (wsV RX1 57 RX1 yX1_readLevel wsX1_readLevel) := goodIn_app (goodIn_pc bs_wsX1_readBracket bse_wsX1_readBracket _ [(1, [15, 16, 17, 4])] rfl (by decide +kernel)) ggX1_readBracket_X1_readLevel
set_option maxRecDepth 20000 in
theorem ggX1_readBracket_X1_signHere : GoodIn wsX1_readBracket wsX1_signHere := goodIn_pc bs_wsX1_readBracket bse_wsX1_readBracket _ [(1, [21, 6, 8, 10, 22, 23]), (2, [0, 1]), (8, [0, 1, 2, 3, 4, 5, 6, 7])] rfl gw_wsX1_signHere
set_option maxRecDepth 20000 in
theorem gX1_readBracket_X1_signHere : GoodIn wsX1_readBracket (wsV RX1 92 RX1 yX1_signHere wsX1_signHere) := goodIn_app (goodIn_pc bs_wsX1_readBracket bse_wsX1_readBracket _ [(1, [18, 19, 20, 4])] rfl (by decide +kernel)) ggX1_readBracket_X1_signHere
theorem dX1_readBracket_0 : decode cX1_readBracket 0 = .ok (.aload_n 0, 1) := zk42 (by decide +kernel)
theorem dX1_readBracket_1 : decode cX1_readBracket 1 = .ok (.getfield 36, 3) := zk180 0 36 (by decide +kernel)
theorem dX1_readBracket_4 : decode cX1_readBracket 4 = .ok (.bipush 8, 2) := zk16 8 rfl (by decide +kernel)
theorem dX1_readBracket_6 : decode cX1_readBracket 6 = .ok (.if_icmp .lt 5, 3) := zk161 0 5 rfl (by decide +kernel)
theorem dX1_readBracket_9 : decode cX1_readBracket 9 = .ok (.iconst 0, 1) := zk3 (by decide +kernel)
theorem dX1_readBracket_10 : decode cX1_readBracket 10 = .ok (.ireturn, 1) := zk172 (by decide +kernel)
theorem dX1_readBracket_11 : decode cX1_readBracket 11 = .ok (.aload_n 0, 1) := zk42 (by decide +kernel)
theorem dX1_readBracket_12 : decode cX1_readBracket 12 = .ok (.dup, 1) := zk89 (by decide +kernel)
theorem dX1_readBracket_13 : decode cX1_readBracket 13 = .ok (.getfield 36, 3) := zk180 0 36 (by decide +kernel)
theorem dX1_readBracket_16 : decode cX1_readBracket 16 = .ok (.iconst 1, 1) := zk4 (by decide +kernel)
theorem dX1_readBracket_17 : decode cX1_readBracket 17 = .ok (.iadd, 1) := zk96 (by decide +kernel)
theorem dX1_readBracket_18 : decode cX1_readBracket 18 = .ok (.putfield 36, 3) := zk181 0 36 (by decide +kernel)
theorem dX1_readBracket_21 : decode cX1_readBracket 21 = .ok (.aload_n 0, 1) := zk42 (by decide +kernel)
theorem dX1_readBracket_22 : decode cX1_readBracket 22 = .ok (.invokevirtual 42, 3) := zk182 0 42 (by decide +kernel)
theorem dX1_readBracket_25 : decode cX1_readBracket 25 = .ok (.aload_n 0, 1) := zk42 (by decide +kernel)
theorem dX1_readBracket_26 : decode cX1_readBracket 26 = .ok (.iconst 0, 1) := zk3 (by decide +kernel)
theorem dX1_readBracket_27 : decode cX1_readBracket 27 = .ok (.invokevirtual 57, 3) := zk182 0 57 (by decide +kernel)
theorem dX1_readBracket_30 : decode cX1_readBracket 30 = .ok (.ifCond .eq 12, 3) := zk153 0 12 rfl (by decide +kernel)
theorem dX1_readBracket_33 : decode cX1_readBracket 33 = .ok (.aload_n 0, 1) := zk42 (by decide +kernel)
theorem dX1_readBracket_34 : decode cX1_readBracket 34 = .ok (.invokevirtual 92, 3) := zk182 0 92 (by decide +kernel)
theorem dX1_readBracket_37 : decode cX1_readBracket 37 = .ok (.bipush 41, 2) := zk16 41 rfl (by decide +kernel)
theorem dX1_readBracket_39 : decode cX1_readBracket 39 = .ok (.if_icmp .eq 5, 3) := zk159 0 5 rfl (by decide +kernel)
theorem dX1_readBracket_42 : decode cX1_readBracket 42 = .ok (.iconst 0, 1) := zk3 (by decide +kernel)
theorem dX1_readBracket_43 : decode cX1_readBracket 43 = .ok (.ireturn, 1) := zk172 (by decide +kernel)
theorem dX1_readBracket_44 : decode cX1_readBracket 44 = .ok (.aload_n 0, 1) := zk42 (by decide +kernel)
theorem dX1_readBracket_45 : decode cX1_readBracket 45 = .ok (.dup, 1) := zk89 (by decide +kernel)
theorem dX1_readBracket_46 : decode cX1_readBracket 46 = .ok (.getfield 36, 3) := zk180 0 36 (by decide +kernel)
theorem dX1_readBracket_49 : decode cX1_readBracket 49 = .ok (.iconst 1, 1) := zk4 (by decide +kernel)
theorem dX1_readBracket_50 : decode cX1_readBracket 50 = .ok (.isub, 1) := zk100 (by decide +kernel)
theorem dX1_readBracket_51 : decode cX1_readBracket 51 = .ok (.putfield 36, 3) := zk181 0 36 (by decide +kernel)
theorem dX1_readBracket_54 : decode cX1_readBracket 54 = .ok (.aload_n 0, 1) := zk42 (by decide +kernel)
theorem dX1_readBracket_55 : decode cX1_readBracket 55 = .ok (.invokevirtual 42, 3) := zk182 0 42 (by decide +kernel)
theorem dX1_readBracket_58 : decode cX1_readBracket 58 = .ok (.iconst 1, 1) := zk4 (by decide +kernel)
theorem dX1_readBracket_59 : decode cX1_readBracket 59 = .ok (.ireturn, 1) := zk172 (by decide +kernel)
set_option maxRecDepth 20000 in
theorem ggX2_become_X6_held : GoodIn wsX2_become wsX6_held := goodIn_r _ [6, 7, 8, 9, 10, 11, 12, 13] rfl gw_wsX6_held
set_option maxRecDepth 20000 in
theorem gX2_become_X6_held_n19 : GoodIn wsX2_become (wsX6_held) := ggX2_become_X6_held
theorem dX2_become_0 : decode cX2_become 0 = .ok (.aload_n 0, 1) := zk42 (by decide +kernel)
theorem dX2_become_1 : decode cX2_become 1 = .ok (.iload_n 1, 1) := zk27 (by decide +kernel)
theorem dX2_become_2 : decode cX2_become 2 = .ok (.putfield 9, 3) := zk181 0 9 (by decide +kernel)
theorem dX2_become_5 : decode cX2_become 5 = .ok (.aload_n 0, 1) := zk42 (by decide +kernel)
theorem dX2_become_6 : decode cX2_become 6 = .ok (.iload_n 2, 1) := zk28 (by decide +kernel)
theorem dX2_become_7 : decode cX2_become 7 = .ok (.iconst 0, 1) := zk3 (by decide +kernel)
theorem dX2_become_8 : decode cX2_become 8 = .ok (.bipush 24, 2) := zk16 24 rfl (by decide +kernel)
theorem dX2_become_10 : decode cX2_become 10 = .ok (.invokestatic 19, 3) := zk184 0 19 (by decide +kernel)
theorem dX2_become_13 : decode cX2_become 13 = .ok (.putfield 23, 3) := zk181 0 23 (by decide +kernel)
theorem dX2_become_16 : decode cX2_become 16 = .ok (.iconst 0, 1) := zk3 (by decide +kernel)
theorem dX2_become_17 : decode cX2_become 17 = .ok (.istore_n 3, 1) := zk62 (by decide +kernel)
theorem dX2_become_18 : decode cX2_become 18 = .ok (.iload_n 3, 1) := zk29 (by decide +kernel)
theorem dX2_become_19 : decode cX2_become 19 = .ok (.bipush 24, 2) := zk16 24 rfl (by decide +kernel)
theorem dX2_become_21 : decode cX2_become 21 = .ok (.if_icmp .ge 16, 3) := zk162 0 16 rfl (by decide +kernel)
theorem dX2_become_24 : decode cX2_become 24 = .ok (.aload_n 0, 1) := zk42 (by decide +kernel)
theorem dX2_become_25 : decode cX2_become 25 = .ok (.getfield 15, 3) := zk180 0 15 (by decide +kernel)
theorem dX2_become_28 : decode cX2_become 28 = .ok (.iload_n 3, 1) := zk29 (by decide +kernel)
theorem dX2_become_29 : decode cX2_become 29 = .ok (.iconst 0, 1) := zk3 (by decide +kernel)
theorem dX2_become_30 : decode cX2_become 30 = .ok (.iastore, 1) := zk79 (by decide +kernel)
theorem dX2_become_31 : decode cX2_become 31 = .ok (.iinc 3 1, 3) := by decide +kernel
theorem dX2_become_34 : decode cX2_become 34 = .ok (.goto (-16), 3) := zk167 255 240 rfl (by decide +kernel)
theorem dX2_become_37 : decode cX2_become 37 = .ok (.return_, 1) := zk177 (by decide +kernel)
theorem dX2_takeOver_0 : decode cX2_takeOver 0 = .ok (.aload_n 0, 1) := zk42 (by decide +kernel)
theorem dX2_takeOver_1 : decode cX2_takeOver 1 = .ok (.aload_n 1, 1) := zk43 (by decide +kernel)
theorem dX2_takeOver_2 : decode cX2_takeOver 2 = .ok (.getfield 9, 3) := zk180 0 9 (by decide +kernel)
theorem dX2_takeOver_5 : decode cX2_takeOver 5 = .ok (.putfield 9, 3) := zk181 0 9 (by decide +kernel)
theorem dX2_takeOver_8 : decode cX2_takeOver 8 = .ok (.aload_n 0, 1) := zk42 (by decide +kernel)
theorem dX2_takeOver_9 : decode cX2_takeOver 9 = .ok (.aload_n 1, 1) := zk43 (by decide +kernel)
theorem dX2_takeOver_10 : decode cX2_takeOver 10 = .ok (.getfield 23, 3) := zk180 0 23 (by decide +kernel)
theorem dX2_takeOver_13 : decode cX2_takeOver 13 = .ok (.putfield 23, 3) := zk181 0 23 (by decide +kernel)
theorem dX2_takeOver_16 : decode cX2_takeOver 16 = .ok (.aload_n 1, 1) := zk43 (by decide +kernel)
theorem dX2_takeOver_17 : decode cX2_takeOver 17 = .ok (.getfield 15, 3) := zk180 0 15 (by decide +kernel)
theorem dX2_takeOver_20 : decode cX2_takeOver 20 = .ok (.iconst 0, 1) := zk3 (by decide +kernel)
theorem dX2_takeOver_21 : decode cX2_takeOver 21 = .ok (.aload_n 0, 1) := zk42 (by decide +kernel)
theorem dX2_takeOver_22 : decode cX2_takeOver 22 = .ok (.getfield 15, 3) := zk180 0 15 (by decide +kernel)
theorem dX2_takeOver_25 : decode cX2_takeOver 25 = .ok (.iconst 0, 1) := zk3 (by decide +kernel)
theorem dX2_takeOver_26 : decode cX2_takeOver 26 = .ok (.bipush 24, 2) := zk16 24 rfl (by decide +kernel)
theorem dX2_takeOver_28 : decode cX2_takeOver 28 = .ok (.invokestatic 26, 3) := zk184 0 26 (by decide +kernel)
theorem dX2_takeOver_31 : decode cX2_takeOver 31 = .ok (.return_, 1) := zk177 (by decide +kernel)
theorem dX2_isMissing_0 : decode cX2_isMissing 0 = .ok (.aload_n 0, 1) := zk42 (by decide +kernel)
theorem dX2_isMissing_1 : decode cX2_isMissing 1 = .ok (.getfield 9, 3) := zk180 0 9 (by decide +kernel)
theorem dX2_isMissing_4 : decode cX2_isMissing 4 = .ok (.iconst (-1), 1) := zk2 (by decide +kernel)
theorem dX2_isMissing_5 : decode cX2_isMissing 5 = .ok (.if_icmp .ne 7, 3) := zk160 0 7 rfl (by decide +kernel)
theorem dX2_isMissing_8 : decode cX2_isMissing 8 = .ok (.iconst 1, 1) := zk4 (by decide +kernel)
theorem dX2_isMissing_9 : decode cX2_isMissing 9 = .ok (.goto 4, 3) := zk167 0 4 rfl (by decide +kernel)
theorem dX2_isMissing_12 : decode cX2_isMissing 12 = .ok (.iconst 0, 1) := zk3 (by decide +kernel)
theorem dX2_isMissing_13 : decode cX2_isMissing 13 = .ok (.ireturn, 1) := zk172 (by decide +kernel)
theorem dX2_hasPlaces_0 : decode cX2_hasPlaces 0 = .ok (.iload_n 1, 1) := zk27 (by decide +kernel)
theorem dX2_hasPlaces_1 : decode cX2_hasPlaces 1 = .ok (.ifCond .lt 25, 3) := zk155 0 25 rfl (by decide +kernel)
theorem dX2_hasPlaces_4 : decode cX2_hasPlaces 4 = .ok (.iload_n 2, 1) := zk28 (by decide +kernel)
theorem dX2_hasPlaces_5 : decode cX2_hasPlaces 5 = .ok (.ifCond .lt 21, 3) := zk155 0 21 rfl (by decide +kernel)
theorem dX2_hasPlaces_8 : decode cX2_hasPlaces 8 = .ok (.iload_n 1, 1) := zk27 (by decide +kernel)
theorem dX2_hasPlaces_9 : decode cX2_hasPlaces 9 = .ok (.i2l, 1) := zk133 (by decide +kernel)
theorem dX2_hasPlaces_10 : decode cX2_hasPlaces 10 = .ok (.iload_n 2, 1) := zk28 (by decide +kernel)
theorem dX2_hasPlaces_11 : decode cX2_hasPlaces 11 = .ok (.i2l, 1) := zk133 (by decide +kernel)
theorem dX2_hasPlaces_12 : decode cX2_hasPlaces 12 = .ok (.ladd, 1) := zk97 (by decide +kernel)
theorem dX2_hasPlaces_13 : decode cX2_hasPlaces 13 = .ok (.aload_n 0, 1) := zk42 (by decide +kernel)
theorem dX2_hasPlaces_14 : decode cX2_hasPlaces 14 = .ok (.getfield 23, 3) := zk180 0 23 (by decide +kernel)
theorem dX2_hasPlaces_17 : decode cX2_hasPlaces 17 = .ok (.i2l, 1) := zk133 (by decide +kernel)
theorem dX2_hasPlaces_18 : decode cX2_hasPlaces 18 = .ok (.lcmp, 1) := zk148 (by decide +kernel)
theorem dX2_hasPlaces_19 : decode cX2_hasPlaces 19 = .ok (.ifCond .gt 7, 3) := zk157 0 7 rfl (by decide +kernel)
theorem dX2_hasPlaces_22 : decode cX2_hasPlaces 22 = .ok (.iconst 1, 1) := zk4 (by decide +kernel)
theorem dX2_hasPlaces_23 : decode cX2_hasPlaces 23 = .ok (.goto 4, 3) := zk167 0 4 rfl (by decide +kernel)
theorem dX2_hasPlaces_26 : decode cX2_hasPlaces 26 = .ok (.iconst 0, 1) := zk3 (by decide +kernel)
theorem dX2_hasPlaces_27 : decode cX2_hasPlaces 27 = .ok (.ireturn, 1) := zk172 (by decide +kernel)
theorem dX4_takeOver_0 : decode cX4_takeOver 0 = .ok (.aload_n 0, 1) := zk42 (by decide +kernel)
theorem dX4_takeOver_1 : decode cX4_takeOver 1 = .ok (.aload_n 1, 1) := zk43 (by decide +kernel)
theorem dX4_takeOver_2 : decode cX4_takeOver 2 = .ok (.getfield 9, 3) := zk180 0 9 (by decide +kernel)
theorem dX4_takeOver_5 : decode cX4_takeOver 5 = .ok (.putfield 9, 3) := zk181 0 9 (by decide +kernel)
theorem dX4_takeOver_8 : decode cX4_takeOver 8 = .ok (.aload_n 0, 1) := zk42 (by decide +kernel)
theorem dX4_takeOver_9 : decode cX4_takeOver 9 = .ok (.aload_n 1, 1) := zk43 (by decide +kernel)
theorem dX4_takeOver_10 : decode cX4_takeOver 10 = .ok (.getfield 15, 3) := zk180 0 15 (by decide +kernel)
theorem dX4_takeOver_13 : decode cX4_takeOver 13 = .ok (.putfield 15, 3) := zk181 0 15 (by decide +kernel)
theorem dX4_takeOver_16 : decode cX4_takeOver 16 = .ok (.aload_n 0, 1) := zk42 (by decide +kernel)
theorem dX4_takeOver_17 : decode cX4_takeOver 17 = .ok (.aload_n 1, 1) := zk43 (by decide +kernel)
theorem dX4_takeOver_18 : decode cX4_takeOver 18 = .ok (.getfield 18, 3) := zk180 0 18 (by decide +kernel)
theorem dX4_takeOver_21 : decode cX4_takeOver 21 = .ok (.putfield 18, 3) := zk181 0 18 (by decide +kernel)
theorem dX4_takeOver_24 : decode cX4_takeOver 24 = .ok (.aload_n 0, 1) := zk42 (by decide +kernel)
theorem dX4_takeOver_25 : decode cX4_takeOver 25 = .ok (.aload_n 1, 1) := zk43 (by decide +kernel)
theorem dX4_takeOver_26 : decode cX4_takeOver 26 = .ok (.getfield 21, 3) := zk180 0 21 (by decide +kernel)
theorem dX4_takeOver_29 : decode cX4_takeOver 29 = .ok (.putfield 21, 3) := zk181 0 21 (by decide +kernel)
theorem dX4_takeOver_32 : decode cX4_takeOver 32 = .ok (.return_, 1) := zk177 (by decide +kernel)
theorem dX5_begin_0 : decode cX5_begin 0 = .ok (.aload_n 0, 1) := zk42 (by decide +kernel)
theorem dX5_begin_1 : decode cX5_begin 1 = .ok (.iload_n 1, 1) := zk27 (by decide +kernel)
theorem dX5_begin_2 : decode cX5_begin 2 = .ok (.putfield 18, 3) := zk181 0 18 (by decide +kernel)
theorem dX5_begin_5 : decode cX5_begin 5 = .ok (.aload_n 0, 1) := zk42 (by decide +kernel)
theorem dX5_begin_6 : decode cX5_begin 6 = .ok (.iconst 0, 1) := zk3 (by decide +kernel)
theorem dX5_begin_7 : decode cX5_begin 7 = .ok (.putfield 22, 3) := zk181 0 22 (by decide +kernel)
theorem dX5_begin_10 : decode cX5_begin 10 = .ok (.aload_n 0, 1) := zk42 (by decide +kernel)
theorem dX5_begin_11 : decode cX5_begin 11 = .ok (.iconst 0, 1) := zk3 (by decide +kernel)
theorem dX5_begin_12 : decode cX5_begin 12 = .ok (.putfield 25, 3) := zk181 0 25 (by decide +kernel)
theorem dX5_begin_15 : decode cX5_begin 15 = .ok (.return_, 1) := zk177 (by decide +kernel)
set_option maxRecDepth 20000 in
theorem ggX5_addLeaf_X5_addStep : GoodIn wsX5_addLeaf wsX5_addStep := goodIn_r _ [6, 7, 8, 9, 10, 11, 12, 13] rfl gw_wsX5_addStep
set_option maxRecDepth 20000 in
theorem gX5_addLeaf_X5_addStep : GoodIn wsX5_addLeaf (wsV RX5 34 RX5 yX5_addStep wsX5_addStep) := goodIn_app (goodIn_r _ [2, 3, 4, 5] rfl (by decide +kernel)) ggX5_addLeaf_X5_addStep
theorem dX5_addLeaf_0 : decode cX5_addLeaf 0 = .ok (.aload_n 0, 1) := zk42 (by decide +kernel)
theorem dX5_addLeaf_1 : decode cX5_addLeaf 1 = .ok (.dup, 1) := zk89 (by decide +kernel)
theorem dX5_addLeaf_2 : decode cX5_addLeaf 2 = .ok (.getfield 22, 3) := zk180 0 22 (by decide +kernel)
theorem dX5_addLeaf_5 : decode cX5_addLeaf 5 = .ok (.iconst 1, 1) := zk4 (by decide +kernel)
theorem dX5_addLeaf_6 : decode cX5_addLeaf 6 = .ok (.iadd, 1) := zk96 (by decide +kernel)
theorem dX5_addLeaf_7 : decode cX5_addLeaf 7 = .ok (.putfield 22, 3) := zk181 0 22 (by decide +kernel)
theorem dX5_addLeaf_10 : decode cX5_addLeaf 10 = .ok (.aload_n 0, 1) := zk42 (by decide +kernel)
theorem dX5_addLeaf_11 : decode cX5_addLeaf 11 = .ok (.iload_n 1, 1) := zk27 (by decide +kernel)
theorem dX5_addLeaf_12 : decode cX5_addLeaf 12 = .ok (.invokevirtual 34, 3) := zk182 0 34 (by decide +kernel)
theorem dX5_addLeaf_15 : decode cX5_addLeaf 15 = .ok (.return_, 1) := zk177 (by decide +kernel)
theorem dX5_addStep_0 : decode cX5_addStep 0 = .ok (.aload_n 0, 1) := zk42 (by decide +kernel)
theorem dX5_addStep_1 : decode cX5_addStep 1 = .ok (.getfield 25, 3) := zk180 0 25 (by decide +kernel)
theorem dX5_addStep_4 : decode cX5_addStep 4 = .ok (.bipush 96, 2) := zk16 96 rfl (by decide +kernel)
theorem dX5_addStep_6 : decode cX5_addStep 6 = .ok (.if_icmp .ge 23, 3) := zk162 0 23 rfl (by decide +kernel)
theorem dX5_addStep_9 : decode cX5_addStep 9 = .ok (.aload_n 0, 1) := zk42 (by decide +kernel)
theorem dX5_addStep_10 : decode cX5_addStep 10 = .ok (.getfield 9, 3) := zk180 0 9 (by decide +kernel)
theorem dX5_addStep_13 : decode cX5_addStep 13 = .ok (.aload_n 0, 1) := zk42 (by decide +kernel)
theorem dX5_addStep_14 : decode cX5_addStep 14 = .ok (.getfield 25, 3) := zk180 0 25 (by decide +kernel)
theorem dX5_addStep_17 : decode cX5_addStep 17 = .ok (.iload_n 1, 1) := zk27 (by decide +kernel)
theorem dX5_addStep_18 : decode cX5_addStep 18 = .ok (.iastore, 1) := zk79 (by decide +kernel)
theorem dX5_addStep_19 : decode cX5_addStep 19 = .ok (.aload_n 0, 1) := zk42 (by decide +kernel)
theorem dX5_addStep_20 : decode cX5_addStep 20 = .ok (.dup, 1) := zk89 (by decide +kernel)
theorem dX5_addStep_21 : decode cX5_addStep 21 = .ok (.getfield 25, 3) := zk180 0 25 (by decide +kernel)
theorem dX5_addStep_24 : decode cX5_addStep 24 = .ok (.iconst 1, 1) := zk4 (by decide +kernel)
theorem dX5_addStep_25 : decode cX5_addStep 25 = .ok (.iadd, 1) := zk96 (by decide +kernel)
theorem dX5_addStep_26 : decode cX5_addStep 26 = .ok (.putfield 25, 3) := zk181 0 25 (by decide +kernel)
theorem dX5_addStep_29 : decode cX5_addStep 29 = .ok (.return_, 1) := zk177 (by decide +kernel)
