set_option maxRecDepth 20000 in
theorem gw_wsX6_within : wsX6_within.all goodWord = true := by decide +kernel
set_option maxRecDepth 20000 in
theorem ggX0_enact_X6_within : GoodIn wsX0_enact wsX6_within := goodIn_r _ [8] rfl gw_wsX6_within
set_option maxRecDepth 20000 in
theorem gX0_enact_X6_within_n83 : GoodIn wsX0_enact (wsX6_within) := ggX0_enact_X6_within
set_option maxRecDepth 20000 in
theorem gw_wsX5_takeOver : wsX5_takeOver.all goodWord = true := by decide +kernel
set_option maxRecDepth 20000 in
theorem ggX0_enact_X5_takeOver : GoodIn wsX0_enact wsX5_takeOver := goodIn_r _ [13, 14, 15, 16, 17, 18, 19, 20, 21, 36, 37, 38, 39, 40] rfl gw_wsX5_takeOver
set_option maxRecDepth 20000 in
theorem gX0_enact_X5_takeOver : GoodIn wsX0_enact (wsV RX0 87 RX5 yX5_takeOver wsX5_takeOver) := goodIn_app (goodIn_r _ [9, 10, 11, 12] rfl (by decide +kernel)) ggX0_enact_X5_takeOver
theorem dX0_enact_0 : decode cX0_enact 0 = .ok (.aload_n 0, 1) := zk42 (by decide +kernel)
theorem dX0_enact_1 : decode cX0_enact 1 = .ok (.getfield 47, 3) := zk180 0 47 (by decide +kernel)
theorem dX0_enact_4 : decode cX0_enact 4 = .ok (.bipush 14, 2) := zk16 14 rfl (by decide +kernel)
theorem dX0_enact_6 : decode cX0_enact 6 = .ok (.if_icmp .ge 15, 3) := zk162 0 15 rfl (by decide +kernel)
theorem dX0_enact_9 : decode cX0_enact 9 = .ok (.aload_n 1, 1) := zk43 (by decide +kernel)
theorem dX0_enact_10 : decode cX0_enact 10 = .ok (.getfield 78, 3) := zk180 0 78 (by decide +kernel)
theorem dX0_enact_13 : decode cX0_enact 13 = .ok (.iconst 0, 1) := zk3 (by decide +kernel)
theorem dX0_enact_14 : decode cX0_enact 14 = .ok (.iconst 2, 1) := zk5 (by decide +kernel)
theorem dX0_enact_15 : decode cX0_enact 15 = .ok (.invokestatic 83, 3) := zk184 0 83 (by decide +kernel)
theorem dX0_enact_18 : decode cX0_enact 18 = .ok (.ifCond .ne 6, 3) := zk154 0 6 rfl (by decide +kernel)
theorem dX0_enact_21 : decode cX0_enact 21 = .ok (.ldc 65, 2) := zk18 65 (by decide +kernel)
theorem dX0_enact_23 : decode cX0_enact 23 = .ok (.ireturn, 1) := zk172 (by decide +kernel)
theorem dX0_enact_24 : decode cX0_enact 24 = .ok (.aload_n 0, 1) := zk42 (by decide +kernel)
theorem dX0_enact_25 : decode cX0_enact 25 = .ok (.getfield 35, 3) := zk180 0 35 (by decide +kernel)
theorem dX0_enact_28 : decode cX0_enact 28 = .ok (.aload_n 0, 1) := zk42 (by decide +kernel)
theorem dX0_enact_29 : decode cX0_enact 29 = .ok (.getfield 47, 3) := zk180 0 47 (by decide +kernel)
theorem dX0_enact_32 : decode cX0_enact 32 = .ok (.aaload, 1) := zk50 (by decide +kernel)
theorem dX0_enact_33 : decode cX0_enact 33 = .ok (.aload_n 1, 1) := zk43 (by decide +kernel)
theorem dX0_enact_34 : decode cX0_enact 34 = .ok (.invokevirtual 87, 3) := zk182 0 87 (by decide +kernel)
theorem dX0_enact_37 : decode cX0_enact 37 = .ok (.aload_n 0, 1) := zk42 (by decide +kernel)
theorem dX0_enact_38 : decode cX0_enact 38 = .ok (.getfield 18, 3) := zk180 0 18 (by decide +kernel)
theorem dX0_enact_41 : decode cX0_enact 41 = .ok (.aload_n 1, 1) := zk43 (by decide +kernel)
theorem dX0_enact_42 : decode cX0_enact 42 = .ok (.getfield 78, 3) := zk180 0 78 (by decide +kernel)
theorem dX0_enact_45 : decode cX0_enact 45 = .ok (.aload_n 0, 1) := zk42 (by decide +kernel)
theorem dX0_enact_46 : decode cX0_enact 46 = .ok (.getfield 47, 3) := zk180 0 47 (by decide +kernel)
theorem dX0_enact_49 : decode cX0_enact 49 = .ok (.iastore, 1) := zk79 (by decide +kernel)
theorem dX0_enact_50 : decode cX0_enact 50 = .ok (.aload_n 0, 1) := zk42 (by decide +kernel)
theorem dX0_enact_51 : decode cX0_enact 51 = .ok (.dup, 1) := zk89 (by decide +kernel)
theorem dX0_enact_52 : decode cX0_enact 52 = .ok (.getfield 47, 3) := zk180 0 47 (by decide +kernel)
theorem dX0_enact_55 : decode cX0_enact 55 = .ok (.iconst 1, 1) := zk4 (by decide +kernel)
theorem dX0_enact_56 : decode cX0_enact 56 = .ok (.iadd, 1) := zk96 (by decide +kernel)
theorem dX0_enact_57 : decode cX0_enact 57 = .ok (.putfield 47, 3) := zk181 0 47 (by decide +kernel)
theorem dX0_enact_60 : decode cX0_enact 60 = .ok (.aload_n 0, 1) := zk42 (by decide +kernel)
theorem dX0_enact_61 : decode cX0_enact 61 = .ok (.getfield 47, 3) := zk180 0 47 (by decide +kernel)
theorem dX0_enact_64 : decode cX0_enact 64 = .ok (.iconst 1, 1) := zk4 (by decide +kernel)
theorem dX0_enact_65 : decode cX0_enact 65 = .ok (.isub, 1) := zk100 (by decide +kernel)
theorem dX0_enact_66 : decode cX0_enact 66 = .ok (.ireturn, 1) := zk172 (by decide +kernel)
theorem dX0_draw_0 : decode cX0_draw 0 = .ok (.aload_n 0, 1) := zk42 (by decide +kernel)
theorem dX0_draw_1 : decode cX0_draw 1 = .ok (.aload_n 0, 1) := zk42 (by decide +kernel)
theorem dX0_draw_2 : decode cX0_draw 2 = .ok (.getfield 32, 3) := zk180 0 32 (by decide +kernel)
theorem dX0_draw_5 : decode cX0_draw 5 = .ok (.ldc 90, 2) := zk18 90 (by decide +kernel)
theorem dX0_draw_7 : decode cX0_draw 7 = .ok (.imul, 1) := zk104 (by decide +kernel)
theorem dX0_draw_8 : decode cX0_draw 8 = .ok (.sipush 12345, 3) := zk17 48 57 rfl (by decide +kernel)
theorem dX0_draw_11 : decode cX0_draw 11 = .ok (.iadd, 1) := zk96 (by decide +kernel)
theorem dX0_draw_12 : decode cX0_draw 12 = .ok (.putfield 32, 3) := zk181 0 32 (by decide +kernel)
theorem dX0_draw_15 : decode cX0_draw 15 = .ok (.aload_n 0, 1) := zk42 (by decide +kernel)
theorem dX0_draw_16 : decode cX0_draw 16 = .ok (.getfield 32, 3) := zk180 0 32 (by decide +kernel)
theorem dX0_draw_19 : decode cX0_draw 19 = .ok (.bipush 8, 2) := zk16 8 rfl (by decide +kernel)
theorem dX0_draw_21 : decode cX0_draw 21 = .ok (.iushr, 1) := zk124 (by decide +kernel)
theorem dX0_draw_22 : decode cX0_draw 22 = .ok (.ireturn, 1) := zk172 (by decide +kernel)
theorem dX0_heat_0 : decode cX0_heat 0 = .ok (.bipush 45, 2) := zk16 45 rfl (by decide +kernel)
theorem dX0_heat_2 : decode cX0_heat 2 = .ok (.iconst 5, 1) := zk8 (by decide +kernel)
theorem dX0_heat_3 : decode cX0_heat 3 = .ok (.aload_n 0, 1) := zk42 (by decide +kernel)
theorem dX0_heat_4 : decode cX0_heat 4 = .ok (.getfield 53, 3) := zk180 0 53 (by decide +kernel)
theorem dX0_heat_7 : decode cX0_heat 7 = .ok (.bipush 10, 2) := zk16 10 rfl (by decide +kernel)
theorem dX0_heat_9 : decode cX0_heat 9 = .ok (.irem, 1) := zk112 (by decide +kernel)
theorem dX0_heat_10 : decode cX0_heat 10 = .ok (.iconst 5, 1) := zk8 (by decide +kernel)
theorem dX0_heat_11 : decode cX0_heat 11 = .ok (.isub, 1) := zk100 (by decide +kernel)
theorem dX0_heat_12 : decode cX0_heat 12 = .ok (.invokestatic 91, 3) := zk184 0 91 (by decide +kernel)
theorem dX0_heat_15 : decode cX0_heat 15 = .ok (.imul, 1) := zk104 (by decide +kernel)
theorem dX0_heat_16 : decode cX0_heat 16 = .ok (.isub, 1) := zk100 (by decide +kernel)
theorem dX0_heat_17 : decode cX0_heat 17 = .ok (.ireturn, 1) := zk172 (by decide +kernel)
theorem dX0_slant_0 : decode cX0_slant 0 = .ok (.aload_n 0, 1) := zk42 (by decide +kernel)
theorem dX0_slant_1 : decode cX0_slant 1 = .ok (.getfield 53, 3) := zk180 0 53 (by decide +kernel)
theorem dX0_slant_4 : decode cX0_slant 4 = .ok (.bipush 10, 2) := zk16 10 rfl (by decide +kernel)
theorem dX0_slant_6 : decode cX0_slant 6 = .ok (.irem, 1) := zk112 (by decide +kernel)
theorem dX0_slant_7 : decode cX0_slant 7 = .ok (.iconst 5, 1) := zk8 (by decide +kernel)
theorem dX0_slant_8 : decode cX0_slant 8 = .ok (.isub, 1) := zk100 (by decide +kernel)
theorem dX0_slant_9 : decode cX0_slant 9 = .ok (.iconst 2, 1) := zk5 (by decide +kernel)
theorem dX0_slant_10 : decode cX0_slant 10 = .ok (.idiv, 1) := zk108 (by decide +kernel)
theorem dX0_slant_11 : decode cX0_slant 11 = .ok (.ireturn, 1) := zk172 (by decide +kernel)
set_option maxRecDepth 20000 in
theorem gw_wsX0_wouldShade : wsX0_wouldShade.all goodWord = true := by decide +kernel
set_option maxRecDepth 20000 in
theorem ggX0_shades_X0_wouldShade : GoodIn wsX0_shades wsX0_wouldShade := goodIn_r _ [6, 7, 8, 9, 10, 5, 11, 12, 13, 14, 15, 16, 17, 18, 19, 20, 21, 22, 23, 24, 25, 26] rfl gw_wsX0_wouldShade
set_option maxRecDepth 20000 in
theorem gX0_shades_X0_wouldShade : GoodIn wsX0_shades (wsV RX0 97 RX0 yX0_wouldShade wsX0_wouldShade) := goodIn_app (goodIn_r _ [2, 3, 4, 5] rfl (by decide +kernel)) ggX0_shades_X0_wouldShade
theorem dX0_shades_0 : decode cX0_shades 0 = .ok (.aload_n 0, 1) := zk42 (by decide +kernel)
theorem dX0_shades_1 : decode cX0_shades 1 = .ok (.aload_n 0, 1) := zk42 (by decide +kernel)
theorem dX0_shades_2 : decode cX0_shades 2 = .ok (.getfield 50, 3) := zk180 0 50 (by decide +kernel)
theorem dX0_shades_5 : decode cX0_shades 5 = .ok (.iload_n 1, 1) := zk27 (by decide +kernel)
theorem dX0_shades_6 : decode cX0_shades 6 = .ok (.invokevirtual 97, 3) := zk182 0 97 (by decide +kernel)
theorem dX0_shades_9 : decode cX0_shades 9 = .ok (.ireturn, 1) := zk172 (by decide +kernel)
set_option maxRecDepth 20000 in
theorem gw_wsX0_slant : wsX0_slant.all goodWord = true := by decide +kernel
set_option maxRecDepth 20000 in
theorem ggX0_wouldShade_X0_slant : GoodIn wsX0_wouldShade wsX0_slant := goodIn_r _ [6, 7, 8, 9, 10, 11, 12, 13, 14, 15, 16, 17, 18, 19, 20, 21] rfl gw_wsX0_slant
set_option maxRecDepth 20000 in
theorem gX0_wouldShade_X0_slant : GoodIn wsX0_wouldShade (wsV RX0 101 RX0 yX0_slant wsX0_slant) := goodIn_app (goodIn_r _ [2, 3, 4, 5] rfl (by decide +kernel)) ggX0_wouldShade_X0_slant
theorem dX0_wouldShade_0 : decode cX0_wouldShade 0 = .ok (.iload_n 1, 1) := zk27 (by decide +kernel)
theorem dX0_wouldShade_1 : decode cX0_wouldShade 1 = .ok (.aload_n 0, 1) := zk42 (by decide +kernel)
theorem dX0_wouldShade_2 : decode cX0_wouldShade 2 = .ok (.invokevirtual 101, 3) := zk182 0 101 (by decide +kernel)
theorem dX0_wouldShade_5 : decode cX0_wouldShade 5 = .ok (.iadd, 1) := zk96 (by decide +kernel)
theorem dX0_wouldShade_6 : decode cX0_wouldShade 6 = .ok (.istore_n 3, 1) := zk62 (by decide +kernel)
theorem dX0_wouldShade_7 : decode cX0_wouldShade 7 = .ok (.iload_n 2, 1) := zk28 (by decide +kernel)
theorem dX0_wouldShade_8 : decode cX0_wouldShade 8 = .ok (.iload_n 3, 1) := zk29 (by decide +kernel)
theorem dX0_wouldShade_9 : decode cX0_wouldShade 9 = .ok (.if_icmp .lt 17, 3) := zk161 0 17 rfl (by decide +kernel)
theorem dX0_wouldShade_12 : decode cX0_wouldShade 12 = .ok (.iload_n 2, 1) := zk28 (by decide +kernel)
theorem dX0_wouldShade_13 : decode cX0_wouldShade 13 = .ok (.iload_n 3, 1) := zk29 (by decide +kernel)
theorem dX0_wouldShade_14 : decode cX0_wouldShade 14 = .ok (.aload_n 0, 1) := zk42 (by decide +kernel)
theorem dX0_wouldShade_15 : decode cX0_wouldShade 15 = .ok (.getfield 22, 3) := zk180 0 22 (by decide +kernel)
theorem dX0_wouldShade_18 : decode cX0_wouldShade 18 = .ok (.iadd, 1) := zk96 (by decide +kernel)
theorem dX0_wouldShade_19 : decode cX0_wouldShade 19 = .ok (.if_icmp .ge 7, 3) := zk162 0 7 rfl (by decide +kernel)
theorem dX0_wouldShade_22 : decode cX0_wouldShade 22 = .ok (.iconst 1, 1) := zk4 (by decide +kernel)
theorem dX0_wouldShade_23 : decode cX0_wouldShade 23 = .ok (.goto 4, 3) := zk167 0 4 rfl (by decide +kernel)
theorem dX0_wouldShade_26 : decode cX0_wouldShade 26 = .ok (.iconst 0, 1) := zk3 (by decide +kernel)
theorem dX0_wouldShade_27 : decode cX0_wouldShade 27 = .ok (.ireturn, 1) := zk172 (by decide +kernel)
set_option maxRecDepth 20000 in
theorem gw_wsX0_shades : wsX0_shades.all goodWord = true := by decide +kernel
set_option maxRecDepth 20000 in
theorem ggX0_firstShaded_X0_shades : GoodIn wsX0_firstShaded wsX0_shades := goodIn_r _ [6, 7, 8, 9, 10, 5, 11, 12, 13, 14, 15, 16, 17, 18, 19, 20, 21, 22, 23, 24, 25, 26, 27, 28, 29, 30, 31] rfl gw_wsX0_shades
set_option maxRecDepth 20000 in
theorem gX0_firstShaded_X0_shades : GoodIn wsX0_firstShaded (wsV RX0 105 RX0 yX0_shades wsX0_shades) := goodIn_app (goodIn_r _ [2, 3, 4, 5] rfl (by decide +kernel)) ggX0_firstShaded_X0_shades
theorem dX0_firstShaded_0 : decode cX0_firstShaded 0 = .ok (.iconst 0, 1) := zk3 (by decide +kernel)
theorem dX0_firstShaded_1 : decode cX0_firstShaded 1 = .ok (.istore_n 1, 1) := zk60 (by decide +kernel)
theorem dX0_firstShaded_2 : decode cX0_firstShaded 2 = .ok (.iload_n 1, 1) := zk27 (by decide +kernel)
theorem dX0_firstShaded_3 : decode cX0_firstShaded 3 = .ok (.bipush 12, 2) := zk16 12 rfl (by decide +kernel)
theorem dX0_firstShaded_5 : decode cX0_firstShaded 5 = .ok (.if_icmp .ge 19, 3) := zk162 0 19 rfl (by decide +kernel)
theorem dX0_firstShaded_8 : decode cX0_firstShaded 8 = .ok (.aload_n 0, 1) := zk42 (by decide +kernel)
theorem dX0_firstShaded_9 : decode cX0_firstShaded 9 = .ok (.iload_n 1, 1) := zk27 (by decide +kernel)
theorem dX0_firstShaded_10 : decode cX0_firstShaded 10 = .ok (.invokevirtual 105, 3) := zk182 0 105 (by decide +kernel)
theorem dX0_firstShaded_13 : decode cX0_firstShaded 13 = .ok (.ifCond .eq 5, 3) := zk153 0 5 rfl (by decide +kernel)
theorem dX0_firstShaded_16 : decode cX0_firstShaded 16 = .ok (.iload_n 1, 1) := zk27 (by decide +kernel)
theorem dX0_firstShaded_17 : decode cX0_firstShaded 17 = .ok (.ireturn, 1) := zk172 (by decide +kernel)
theorem dX0_firstShaded_18 : decode cX0_firstShaded 18 = .ok (.iinc 1 1, 3) := by decide +kernel
theorem dX0_firstShaded_21 : decode cX0_firstShaded 21 = .ok (.goto (-19), 3) := zk167 255 237 rfl (by decide +kernel)
theorem dX0_firstShaded_24 : decode cX0_firstShaded 24 = .ok (.ldc 17, 2) := zk18 17 (by decide +kernel)
theorem dX0_firstShaded_26 : decode cX0_firstShaded 26 = .ok (.ireturn, 1) := zk172 (by decide +kernel)
theorem dX0_allGoods_0 : decode cX0_allGoods 0 = .ok (.iconst 0, 1) := zk3 (by decide +kernel)
theorem dX0_allGoods_1 : decode cX0_allGoods 1 = .ok (.istore_n 1, 1) := zk60 (by decide +kernel)
theorem dX0_allGoods_2 : decode cX0_allGoods 2 = .ok (.iconst 0, 1) := zk3 (by decide +kernel)
theorem dX0_allGoods_3 : decode cX0_allGoods 3 = .ok (.istore_n 2, 1) := zk61 (by decide +kernel)
theorem dX0_allGoods_4 : decode cX0_allGoods 4 = .ok (.iload_n 2, 1) := zk28 (by decide +kernel)
theorem dX0_allGoods_5 : decode cX0_allGoods 5 = .ok (.aload_n 0, 1) := zk42 (by decide +kernel)
theorem dX0_allGoods_6 : decode cX0_allGoods 6 = .ok (.getfield 40, 3) := zk180 0 40 (by decide +kernel)
theorem dX0_allGoods_9 : decode cX0_allGoods 9 = .ok (.if_icmp .ge 21, 3) := zk162 0 21 rfl (by decide +kernel)
theorem dX0_allGoods_12 : decode cX0_allGoods 12 = .ok (.iload_n 1, 1) := zk27 (by decide +kernel)
theorem dX0_allGoods_13 : decode cX0_allGoods 13 = .ok (.aload_n 0, 1) := zk42 (by decide +kernel)
theorem dX0_allGoods_14 : decode cX0_allGoods 14 = .ok (.getfield 11, 3) := zk180 0 11 (by decide +kernel)
theorem dX0_allGoods_17 : decode cX0_allGoods 17 = .ok (.iload_n 2, 1) := zk28 (by decide +kernel)
theorem dX0_allGoods_18 : decode cX0_allGoods 18 = .ok (.aaload, 1) := zk50 (by decide +kernel)
theorem dX0_allGoods_19 : decode cX0_allGoods 19 = .ok (.getfield 72, 3) := zk180 0 72 (by decide +kernel)
theorem dX0_allGoods_22 : decode cX0_allGoods 22 = .ok (.iadd, 1) := zk96 (by decide +kernel)
theorem dX0_allGoods_23 : decode cX0_allGoods 23 = .ok (.istore_n 1, 1) := zk60 (by decide +kernel)
theorem dX0_allGoods_24 : decode cX0_allGoods 24 = .ok (.iinc 2 1, 3) := by decide +kernel
theorem dX0_allGoods_27 : decode cX0_allGoods 27 = .ok (.goto (-23), 3) := zk167 255 233 rfl (by decide +kernel)
theorem dX0_allGoods_30 : decode cX0_allGoods 30 = .ok (.iload_n 1, 1) := zk27 (by decide +kernel)
theorem dX0_allGoods_31 : decode cX0_allGoods 31 = .ok (.ireturn, 1) := zk172 (by decide +kernel)
set_option maxRecDepth 20000 in
theorem gw_wsX2_hasNumber : wsX2_hasNumber.all goodWord = true := by decide +kernel
set_option maxRecDepth 20000 in
theorem ggX0_differencesFrom_X2_hasNumber : GoodIn wsX0_differencesFrom wsX2_hasNumber := goodIn_r _ [13, 14, 15, 16, 17, 18, 12, 19, 20, 21, 22, 23, 42, 43, 44] rfl gw_wsX2_hasNumber
set_option maxRecDepth 20000 in
theorem gX0_differencesFrom_X2_hasNumber : GoodIn wsX0_differencesFrom (wsV RX0 109 RX2 yX2_hasNumber wsX2_hasNumber) := goodIn_app (goodIn_r _ [9, 10, 11, 12] rfl (by decide +kernel)) ggX0_differencesFrom_X2_hasNumber
theorem dX0_differencesFrom_0 : decode cX0_differencesFrom 0 = .ok (.iconst 0, 1) := zk3 (by decide +kernel)
theorem dX0_differencesFrom_1 : decode cX0_differencesFrom 1 = .ok (.istore_n 2, 1) := zk61 (by decide +kernel)
theorem dX0_differencesFrom_2 : decode cX0_differencesFrom 2 = .ok (.iconst 0, 1) := zk3 (by decide +kernel)
theorem dX0_differencesFrom_3 : decode cX0_differencesFrom 3 = .ok (.istore_n 3, 1) := zk62 (by decide +kernel)
theorem dX0_differencesFrom_4 : decode cX0_differencesFrom 4 = .ok (.iload_n 3, 1) := zk29 (by decide +kernel)
theorem dX0_differencesFrom_5 : decode cX0_differencesFrom 5 = .ok (.aload_n 0, 1) := zk42 (by decide +kernel)
theorem dX0_differencesFrom_6 : decode cX0_differencesFrom 6 = .ok (.getfield 40, 3) := zk180 0 40 (by decide +kernel)
theorem dX0_differencesFrom_9 : decode cX0_differencesFrom 9 = .ok (.if_icmp .ge 39, 3) := zk162 0 39 rfl (by decide +kernel)
theorem dX0_differencesFrom_12 : decode cX0_differencesFrom 12 = .ok (.aload_n 1, 1) := zk43 (by decide +kernel)
theorem dX0_differencesFrom_13 : decode cX0_differencesFrom 13 = .ok (.iload_n 3, 1) := zk29 (by decide +kernel)
theorem dX0_differencesFrom_14 : decode cX0_differencesFrom 14 = .ok (.invokevirtual 109, 3) := zk182 0 109 (by decide +kernel)
theorem dX0_differencesFrom_17 : decode cX0_differencesFrom 17 = .ok (.ifCond .eq 25, 3) := zk153 0 25 rfl (by decide +kernel)
theorem dX0_differencesFrom_20 : decode cX0_differencesFrom 20 = .ok (.iload_n 2, 1) := zk28 (by decide +kernel)
theorem dX0_differencesFrom_21 : decode cX0_differencesFrom 21 = .ok (.aload_n 0, 1) := zk42 (by decide +kernel)
theorem dX0_differencesFrom_22 : decode cX0_differencesFrom 22 = .ok (.getfield 11, 3) := zk180 0 11 (by decide +kernel)
theorem dX0_differencesFrom_25 : decode cX0_differencesFrom 25 = .ok (.iload_n 3, 1) := zk29 (by decide +kernel)
theorem dX0_differencesFrom_26 : decode cX0_differencesFrom 26 = .ok (.aaload, 1) := zk50 (by decide +kernel)
theorem dX0_differencesFrom_27 : decode cX0_differencesFrom 27 = .ok (.getfield 72, 3) := zk180 0 72 (by decide +kernel)
theorem dX0_differencesFrom_30 : decode cX0_differencesFrom 30 = .ok (.aload_n 1, 1) := zk43 (by decide +kernel)
theorem dX0_differencesFrom_31 : decode cX0_differencesFrom 31 = .ok (.getfield 114, 3) := zk180 0 114 (by decide +kernel)
theorem dX0_differencesFrom_34 : decode cX0_differencesFrom 34 = .ok (.iload_n 3, 1) := zk29 (by decide +kernel)
theorem dX0_differencesFrom_35 : decode cX0_differencesFrom 35 = .ok (.iaload, 1) := zk46 (by decide +kernel)
theorem dX0_differencesFrom_36 : decode cX0_differencesFrom 36 = .ok (.isub, 1) := zk100 (by decide +kernel)
theorem dX0_differencesFrom_37 : decode cX0_differencesFrom 37 = .ok (.invokestatic 91, 3) := zk184 0 91 (by decide +kernel)
theorem dX0_differencesFrom_40 : decode cX0_differencesFrom 40 = .ok (.iadd, 1) := zk96 (by decide +kernel)
theorem dX0_differencesFrom_41 : decode cX0_differencesFrom 41 = .ok (.istore_n 2, 1) := zk61 (by decide +kernel)
theorem dX0_differencesFrom_42 : decode cX0_differencesFrom 42 = .ok (.iinc 3 1, 3) := by decide +kernel
theorem dX0_differencesFrom_45 : decode cX0_differencesFrom 45 = .ok (.goto (-41), 3) := zk167 255 215 rfl (by decide +kernel)
theorem dX0_differencesFrom_48 : decode cX0_differencesFrom 48 = .ok (.iload_n 2, 1) := zk28 (by decide +kernel)
theorem dX0_differencesFrom_49 : decode cX0_differencesFrom 49 = .ok (.ireturn, 1) := zk172 (by decide +kernel)
theorem dX0_lastFirst_0 : decode cX0_lastFirst 0 = .ok (.bipush 12, 2) := zk16 12 rfl (by decide +kernel)
theorem dX0_lastFirst_2 : decode cX0_lastFirst 2 = .ok (.aload_n 0, 1) := zk42 (by decide +kernel)
theorem dX0_lastFirst_3 : decode cX0_lastFirst 3 = .ok (.getfield 22, 3) := zk180 0 22 (by decide +kernel)
theorem dX0_lastFirst_6 : decode cX0_lastFirst 6 = .ok (.isub, 1) := zk100 (by decide +kernel)
theorem dX0_lastFirst_7 : decode cX0_lastFirst 7 = .ok (.ireturn, 1) := zk172 (by decide +kernel)
def bs_wsX0_lossOf : List (List Cond) := [[.code yX0_lossOf cX0_lossOf 3 (some .int)], wsX0_lossOf_r1, wsX0_lossOf_r2, wsX0_lossOf_r3, wsX40, wsX00, wsX50]
theorem bse_wsX0_lossOf : wsX0_lossOf = bs_wsX0_lossOf.flatten := by
  unfold wsX0_lossOf bs_wsX0_lossOf
  simp only [List.flatten_cons, List.flatten_nil, List.append_nil, List.append_assoc, List.cons_append, List.nil_append]
set_option maxRecDepth 20000 in
theorem ggX0_lossOf_X0_shades : GoodIn wsX0_lossOf wsX0_shades := goodIn_pc bs_wsX0_lossOf bse_wsX0_lossOf _ [(1, [10, 11, 12, 13, 14, 9, 15, 16, 17, 18, 19, 20, 21]), (5, [0, 1, 2, 3, 4, 5, 6, 7, 8, 9, 10, 11, 12, 13])] rfl gw_wsX0_shades
set_option maxRecDepth 20000 in
theorem gX0_lossOf_X0_shades : GoodIn wsX0_lossOf (wsV RX0 105 RX0 yX0_shades wsX0_shades) := goodIn_app (goodIn_pc bs_wsX0_lossOf bse_wsX0_lossOf _ [(1, [6, 7, 8, 9])] rfl (by decide +kernel)) ggX0_lossOf_X0_shades
set_option maxRecDepth 20000 in
theorem gw_wsX4_shadeLoss : wsX4_shadeLoss.all goodWord = true := by decide +kernel
set_option maxRecDepth 20000 in
theorem ggX0_lossOf_X4_shadeLoss : GoodIn wsX0_lossOf wsX4_shadeLoss := goodIn_pc bs_wsX0_lossOf bse_wsX0_lossOf _ [(2, [2, 3]), (4, [0, 1, 2, 3])] rfl gw_wsX4_shadeLoss
set_option maxRecDepth 20000 in
theorem gX0_lossOf_X4_shadeLoss : GoodIn wsX0_lossOf (wsV RX0 124 RX4 yX4_shadeLoss wsX4_shadeLoss) := goodIn_app (goodIn_pc bs_wsX0_lossOf bse_wsX0_lossOf _ [(1, [22, 23]), (2, [0, 1])] rfl (by decide +kernel)) ggX0_lossOf_X4_shadeLoss
set_option maxRecDepth 20000 in
theorem gw_wsX0_plainLoss : wsX0_plainLoss.all goodWord = true := by decide +kernel
set_option maxRecDepth 20000 in
theorem ggX0_lossOf_X0_plainLoss : GoodIn wsX0_lossOf wsX0_plainLoss := goodIn_pc bs_wsX0_lossOf bse_wsX0_lossOf _ [(2, [7, 8, 9]), (1, [0]), (2, [10, 11, 12, 13, 14, 15, 16]), (1, [9]), (2, [17]), (1, [21]), (2, [18, 19]), (1, [4]), (2, [20, 21, 22, 23]), (3, [0, 1, 2, 3, 4, 5, 6, 7, 8, 9, 10]), (1, [3, 5]), (3, [11, 12, 13]), (5, [0, 1, 2, 3, 4, 5, 6, 7, 8, 9, 10, 11, 12, 13]), (4, [0, 1, 2, 3]), (6, [0, 1, 2, 3, 4])] rfl gw_wsX0_plainLoss
set_option maxRecDepth 20000 in
theorem gX0_lossOf_X0_plainLoss : GoodIn wsX0_lossOf (wsV RX0 127 RX0 yX0_plainLoss wsX0_plainLoss) := goodIn_app (goodIn_pc bs_wsX0_lossOf bse_wsX0_lossOf _ [(2, [4, 5, 6]), (1, [9])] rfl (by decide +kernel)) ggX0_lossOf_X0_plainLoss
set_option maxRecDepth 20000 in
theorem gw_wsX4_sunLoss : wsX4_sunLoss.all goodWord = true := by decide +kernel
set_option maxRecDepth 20000 in
theorem ggX0_lossOf_X4_sunLoss : GoodIn wsX0_lossOf wsX4_sunLoss := goodIn_pc bs_wsX0_lossOf bse_wsX0_lossOf _ [(3, [17]), (2, [3]), (4, [0, 1, 2, 3])] rfl gw_wsX4_sunLoss
set_option maxRecDepth 20000 in
theorem gX0_lossOf_X4_sunLoss : GoodIn wsX0_lossOf (wsV RX0 131 RX4 yX4_sunLoss wsX4_sunLoss) := goodIn_app (goodIn_pc bs_wsX0_lossOf bse_wsX0_lossOf _ [(3, [14, 15, 16]), (2, [1])] rfl (by decide +kernel)) ggX0_lossOf_X4_sunLoss
theorem dX0_lossOf_0 : decode cX0_lossOf 0 = .ok (.aload_n 1, 1) := zk43 (by decide +kernel)
theorem dX0_lossOf_1 : decode cX0_lossOf 1 = .ok (.getfield 72, 3) := zk180 0 72 (by decide +kernel)
theorem dX0_lossOf_4 : decode cX0_lossOf 4 = .ok (.ifCond .ne 5, 3) := zk154 0 5 rfl (by decide +kernel)
theorem dX0_lossOf_7 : decode cX0_lossOf 7 = .ok (.iconst 0, 1) := zk3 (by decide +kernel)
theorem dX0_lossOf_8 : decode cX0_lossOf 8 = .ok (.ireturn, 1) := zk172 (by decide +kernel)
theorem dX0_lossOf_9 : decode cX0_lossOf 9 = .ok (.aload_n 0, 1) := zk42 (by decide +kernel)
theorem dX0_lossOf_10 : decode cX0_lossOf 10 = .ok (.aload_n 1, 1) := zk43 (by decide +kernel)
theorem dX0_lossOf_11 : decode cX0_lossOf 11 = .ok (.getfield 69, 3) := zk180 0 69 (by decide +kernel)
theorem dX0_lossOf_14 : decode cX0_lossOf 14 = .ok (.invokevirtual 105, 3) := zk182 0 105 (by decide +kernel)
theorem dX0_lossOf_17 : decode cX0_lossOf 17 = .ok (.ifCond .eq 10, 3) := zk153 0 10 rfl (by decide +kernel)
theorem dX0_lossOf_20 : decode cX0_lossOf 20 = .ok (.aload_n 1, 1) := zk43 (by decide +kernel)
theorem dX0_lossOf_21 : decode cX0_lossOf 21 = .ok (.invokevirtual 124, 3) := zk182 0 124 (by decide +kernel)
theorem dX0_lossOf_24 : decode cX0_lossOf 24 = .ok (.goto 12, 3) := zk167 0 12 rfl (by decide +kernel)
theorem dX0_lossOf_27 : decode cX0_lossOf 27 = .ok (.aload_n 1, 1) := zk43 (by decide +kernel)
theorem dX0_lossOf_28 : decode cX0_lossOf 28 = .ok (.aload_n 0, 1) := zk42 (by decide +kernel)
theorem dX0_lossOf_29 : decode cX0_lossOf 29 = .ok (.aload_n 1, 1) := zk43 (by decide +kernel)
theorem dX0_lossOf_30 : decode cX0_lossOf 30 = .ok (.invokevirtual 127, 3) := zk182 0 127 (by decide +kernel)
theorem dX0_lossOf_33 : decode cX0_lossOf 33 = .ok (.invokevirtual 131, 3) := zk182 0 131 (by decide +kernel)
theorem dX0_lossOf_36 : decode cX0_lossOf 36 = .ok (.istore_n 2, 1) := zk61 (by decide +kernel)
theorem dX0_lossOf_37 : decode cX0_lossOf 37 = .ok (.aload_n 1, 1) := zk43 (by decide +kernel)
theorem dX0_lossOf_38 : decode cX0_lossOf 38 = .ok (.getfield 72, 3) := zk180 0 72 (by decide +kernel)
theorem dX0_lossOf_41 : decode cX0_lossOf 41 = .ok (.iload_n 2, 1) := zk28 (by decide +kernel)
theorem dX0_lossOf_42 : decode cX0_lossOf 42 = .ok (.invokestatic 134, 3) := zk184 0 134 (by decide +kernel)
theorem dX0_lossOf_45 : decode cX0_lossOf 45 = .ok (.ireturn, 1) := zk172 (by decide +kernel)
def bs_wsX0_plainLoss : List (List Cond) := [[.code yX0_plainLoss cX0_plainLoss 3 (some .int)], wsX0_plainLoss_r1, wsX0_plainLoss_r2, wsX00, wsX40, wsX50]
theorem bse_wsX0_plainLoss : wsX0_plainLoss = bs_wsX0_plainLoss.flatten := by
  unfold wsX0_plainLoss bs_wsX0_plainLoss
  simp only [List.flatten_cons, List.flatten_nil, List.append_nil, List.append_assoc, List.cons_append, List.nil_append]
set_option maxRecDepth 20000 in
theorem ggX0_plainLoss_X6_within : GoodIn wsX0_plainLoss wsX6_within := goodIn_pc bs_wsX0_plainLoss bse_wsX0_plainLoss _ [(1, [6])] rfl gw_wsX6_within
set_option maxRecDepth 20000 in
theorem gX0_plainLoss_X6_within_n83 : GoodIn wsX0_plainLoss (wsX6_within) := ggX0_plainLoss_X6_within
set_option maxRecDepth 20000 in
theorem gw_wsX0_heat : wsX0_heat.all goodWord = true := by decide +kernel
set_option maxRecDepth 20000 in
theorem ggX0_plainLoss_X0_heat : GoodIn wsX0_plainLoss wsX0_heat := goodIn_pc bs_wsX0_plainLoss bse_wsX0_plainLoss _ [(1, [11, 12, 13, 14, 15, 16]), (3, [0, 1, 2, 3, 4, 5, 6, 7, 8, 9, 10, 11, 12, 13])] rfl gw_wsX0_heat
set_option maxRecDepth 20000 in
theorem gX0_plainLoss_X0_heat : GoodIn wsX0_plainLoss (wsV RX0 138 RX0 yX0_heat wsX0_heat) := goodIn_app (goodIn_pc bs_wsX0_plainLoss bse_wsX0_plainLoss _ [(1, [7, 8, 9, 10])] rfl (by decide +kernel)) ggX0_plainLoss_X0_heat
set_option maxRecDepth 20000 in
theorem gw_wsX5_workOut : wsX5_workOut.all goodWord = true := by decide +kernel
set_option maxRecDepth 20000 in
theorem ggX0_plainLoss_X5_workOut : GoodIn wsX0_plainLoss wsX5_workOut := goodIn_pc bs_wsX0_plainLoss bse_wsX0_plainLoss _ [(1, [21, 22, 23]), (2, [0, 1, 2]), (1, [20]), (2, [3]), (5, [0, 1, 2, 3, 4])] rfl gw_wsX5_workOut
set_option maxRecDepth 20000 in
theorem gX0_plainLoss_X5_workOut : GoodIn wsX0_plainLoss (wsV RX0 141 RX5 yX5_workOut wsX5_workOut) := goodIn_app (goodIn_pc bs_wsX0_plainLoss bse_wsX0_plainLoss _ [(1, [17, 18, 19, 20])] rfl (by decide +kernel)) ggX0_plainLoss_X5_workOut
set_option maxRecDepth 20000 in
theorem gw_wsX6_held : wsX6_held.all goodWord = true := by decide +kernel
set_option maxRecDepth 20000 in
theorem ggX0_plainLoss_X6_held : GoodIn wsX0_plainLoss wsX6_held := goodIn_pc bs_wsX0_plainLoss bse_wsX0_plainLoss _ [(2, [5, 6, 7]), (1, [15]), (2, [8, 9, 10, 11])] rfl gw_wsX6_held
set_option maxRecDepth 20000 in
theorem gX0_plainLoss_X6_held_n120 : GoodIn wsX0_plainLoss (wsX6_held) := ggX0_plainLoss_X6_held
theorem dX0_plainLoss_0 : decode cX0_plainLoss 0 = .ok (.aload_n 0, 1) := zk42 (by decide +kernel)
theorem dX0_plainLoss_1 : decode cX0_plainLoss 1 = .ok (.getfield 18, 3) := zk180 0 18 (by decide +kernel)
theorem dX0_plainLoss_4 : decode cX0_plainLoss 4 = .ok (.iconst 0, 1) := zk3 (by decide +kernel)
theorem dX0_plainLoss_5 : decode cX0_plainLoss 5 = .ok (.iaload, 1) := zk46 (by decide +kernel)
theorem dX0_plainLoss_6 : decode cX0_plainLoss 6 = .ok (.istore_n 2, 1) := zk61 (by decide +kernel)
theorem dX0_plainLoss_7 : decode cX0_plainLoss 7 = .ok (.iload_n 2, 1) := zk28 (by decide +kernel)
theorem dX0_plainLoss_8 : decode cX0_plainLoss 8 = .ok (.iconst 0, 1) := zk3 (by decide +kernel)
theorem dX0_plainLoss_9 : decode cX0_plainLoss 9 = .ok (.bipush 13, 2) := zk16 13 rfl (by decide +kernel)
theorem dX0_plainLoss_11 : decode cX0_plainLoss 11 = .ok (.invokestatic 83, 3) := zk184 0 83 (by decide +kernel)
theorem dX0_plainLoss_14 : decode cX0_plainLoss 14 = .ok (.ifCond .ne 10, 3) := zk154 0 10 rfl (by decide +kernel)
theorem dX0_plainLoss_17 : decode cX0_plainLoss 17 = .ok (.aload_n 0, 1) := zk42 (by decide +kernel)
theorem dX0_plainLoss_18 : decode cX0_plainLoss 18 = .ok (.invokevirtual 138, 3) := zk182 0 138 (by decide +kernel)
theorem dX0_plainLoss_21 : decode cX0_plainLoss 21 = .ok (.iconst 5, 1) := zk8 (by decide +kernel)
theorem dX0_plainLoss_22 : decode cX0_plainLoss 22 = .ok (.idiv, 1) := zk108 (by decide +kernel)
theorem dX0_plainLoss_23 : decode cX0_plainLoss 23 = .ok (.ireturn, 1) := zk172 (by decide +kernel)
theorem dX0_plainLoss_24 : decode cX0_plainLoss 24 = .ok (.aload_n 0, 1) := zk42 (by decide +kernel)
theorem dX0_plainLoss_25 : decode cX0_plainLoss 25 = .ok (.getfield 35, 3) := zk180 0 35 (by decide +kernel)
theorem dX0_plainLoss_28 : decode cX0_plainLoss 28 = .ok (.iload_n 2, 1) := zk28 (by decide +kernel)
theorem dX0_plainLoss_29 : decode cX0_plainLoss 29 = .ok (.aaload, 1) := zk50 (by decide +kernel)
theorem dX0_plainLoss_30 : decode cX0_plainLoss 30 = .ok (.aload_n 0, 1) := zk42 (by decide +kernel)
theorem dX0_plainLoss_31 : decode cX0_plainLoss 31 = .ok (.invokevirtual 138, 3) := zk182 0 138 (by decide +kernel)
theorem dX0_plainLoss_34 : decode cX0_plainLoss 34 = .ok (.aload_n 1, 1) := zk43 (by decide +kernel)
theorem dX0_plainLoss_35 : decode cX0_plainLoss 35 = .ok (.getfield 72, 3) := zk180 0 72 (by decide +kernel)
theorem dX0_plainLoss_38 : decode cX0_plainLoss 38 = .ok (.aload_n 1, 1) := zk43 (by decide +kernel)
theorem dX0_plainLoss_39 : decode cX0_plainLoss 39 = .ok (.getfield 75, 3) := zk180 0 75 (by decide +kernel)
theorem dX0_plainLoss_42 : decode cX0_plainLoss 42 = .ok (.invokevirtual 141, 3) := zk182 0 141 (by decide +kernel)
theorem dX0_plainLoss_45 : decode cX0_plainLoss 45 = .ok (.iconst 0, 1) := zk3 (by decide +kernel)
theorem dX0_plainLoss_46 : decode cX0_plainLoss 46 = .ok (.aload_n 1, 1) := zk43 (by decide +kernel)
theorem dX0_plainLoss_47 : decode cX0_plainLoss 47 = .ok (.getfield 72, 3) := zk180 0 72 (by decide +kernel)
theorem dX0_plainLoss_50 : decode cX0_plainLoss 50 = .ok (.invokestatic 120, 3) := zk184 0 120 (by decide +kernel)
theorem dX0_plainLoss_53 : decode cX0_plainLoss 53 = .ok (.ireturn, 1) := zk172 (by decide +kernel)
set_option maxRecDepth 20000 in
theorem gw_wsX0_haulingByLoss : wsX0_haulingByLoss.all goodWord = true := by decide +kernel
def bs_wsX0_hauling : List (List Cond) := [[.code yX0_hauling cX0_hauling 1 (some .int)], wsX0_hauling_r1, wsX0_hauling_r2, wsX0_hauling_r3, wsX0_hauling_r4, wsX00, wsX40, wsX50]
theorem bse_wsX0_hauling : wsX0_hauling = bs_wsX0_hauling.flatten := by
  unfold wsX0_hauling bs_wsX0_hauling
  simp only [List.flatten_cons, List.flatten_nil, List.append_nil, List.append_assoc, List.cons_append, List.nil_append]
set_option maxRecDepth 20000 in
theorem ggX0_hauling_X0_haulingByLoss : GoodIn wsX0_hauling wsX0_haulingByLoss := goodIn_pc bs_wsX0_hauling bse_wsX0_hauling _ [(1, [5, 6, 7, 8, 9, 10, 11, 12, 4, 13, 14, 15, 16, 17, 18, 19, 20, 21, 22, 23]), (2, [0, 1, 2, 3, 4, 5, 6, 7, 8, 9, 10, 11, 12, 13, 14, 15, 16, 17, 18, 19, 20, 21, 22, 23]), (3, [0, 1, 2, 3, 4, 5, 6, 7, 8, 9, 10, 11, 12, 13, 14, 15, 16, 17, 18, 19, 20, 21, 22, 23]), (4, [0, 1, 2, 3, 4]), (5, [0, 1, 2, 3, 4, 5, 6, 7, 8, 9, 10, 11, 12, 13]), (6, [0, 1, 2, 3]), (7, [0, 1, 2, 3, 4])] rfl gw_wsX0_haulingByLoss
set_option maxRecDepth 20000 in
theorem gX0_hauling_X0_haulingByLoss : GoodIn wsX0_hauling (wsV RX0 144 RX0 yX0_haulingByLoss wsX0_haulingByLoss) := goodIn_app (goodIn_pc bs_wsX0_hauling bse_wsX0_hauling _ [(1, [1, 2, 3, 4])] rfl (by decide +kernel)) ggX0_hauling_X0_haulingByLoss
set_option maxRecDepth 20000 in
theorem gw_wsX0_haulingByPay : wsX0_haulingByPay.all goodWord = true := by decide +kernel
set_option maxRecDepth 20000 in
theorem ggX0_hauling_X0_haulingByPay : GoodIn wsX0_hauling wsX0_haulingByPay := goodIn_pc bs_wsX0_hauling bse_wsX0_hauling _ [(4, [8, 9, 10, 11]), (1, [4]), (4, [12]), (1, [9]), (4, [13]), (3, [23]), (2, [7]), (4, [0]), (2, [5, 6, 8]), (4, [14, 15, 16, 17]), (1, [18]), (4, [18, 19, 20, 21]), (1, [6, 7, 8]), (2, [21]), (1, [14, 15, 16, 17, 19, 20, 21, 22, 23]), (5, [0, 1, 2, 3, 4, 5, 6, 7, 8, 9, 10, 11, 12, 13]), (6, [0, 1, 2, 3])] rfl gw_wsX0_haulingByPay
set_option maxRecDepth 20000 in
theorem gX0_hauling_X0_haulingByPay : GoodIn wsX0_hauling (wsV RX0 147 RX0 yX0_haulingByPay wsX0_haulingByPay) := goodIn_app (goodIn_pc bs_wsX0_hauling bse_wsX0_hauling _ [(4, [5, 6, 7]), (1, [4])] rfl (by decide +kernel)) ggX0_hauling_X0_haulingByPay
theorem dX0_hauling_0 : decode cX0_hauling 0 = .ok (.aload_n 0, 1) := zk42 (by decide +kernel)
theorem dX0_hauling_1 : decode cX0_hauling 1 = .ok (.getfield 29, 3) := zk180 0 29 (by decide +kernel)
theorem dX0_hauling_4 : decode cX0_hauling 4 = .ok (.lookupswitch 38 #[(1, 28), (2, 33)], 28) := by decide +kernel
theorem dX0_hauling_32 : decode cX0_hauling 32 = .ok (.aload_n 0, 1) := zk42 (by decide +kernel)
theorem dX0_hauling_33 : decode cX0_hauling 33 = .ok (.invokevirtual 144, 3) := zk182 0 144 (by decide +kernel)
theorem dX0_hauling_36 : decode cX0_hauling 36 = .ok (.ireturn, 1) := zk172 (by decide +kernel)
theorem dX0_hauling_37 : decode cX0_hauling 37 = .ok (.aload_n 0, 1) := zk42 (by decide +kernel)
theorem dX0_hauling_38 : decode cX0_hauling 38 = .ok (.invokevirtual 147, 3) := zk182 0 147 (by decide +kernel)
theorem dX0_hauling_41 : decode cX0_hauling 41 = .ok (.ireturn, 1) := zk172 (by decide +kernel)
theorem dX0_hauling_42 : decode cX0_hauling 42 = .ok (.iconst 0, 1) := zk3 (by decide +kernel)
theorem dX0_hauling_43 : decode cX0_hauling 43 = .ok (.ireturn, 1) := zk172 (by decide +kernel)
def bs_wsX0_haulingByLoss : List (List Cond) := [[.code yX0_haulingByLoss cX0_haulingByLoss 6 (some .int)], wsX0_haulingByLoss_r1, wsX0_haulingByLoss_r2, wsX0_haulingByLoss_r3, wsX00, wsX40, wsX50]
theorem bse_wsX0_haulingByLoss : wsX0_haulingByLoss = bs_wsX0_haulingByLoss.flatten := by
  unfold wsX0_haulingByLoss bs_wsX0_haulingByLoss
  simp only [List.flatten_cons, List.flatten_nil, List.append_nil, List.append_assoc, List.cons_append, List.nil_append]
set_option maxRecDepth 20000 in
theorem ggX0_haulingByLoss_X0_shades : GoodIn wsX0_haulingByLoss wsX0_shades := goodIn_pc bs_wsX0_haulingByLoss bse_wsX0_haulingByLoss _ [(1, [8, 3, 9, 10, 11, 7, 12, 13, 14, 15, 16, 17, 18]), (4, [0, 1, 2, 3, 4, 5, 6, 7, 8, 9, 10, 11, 12, 13])] rfl gw_wsX0_shades
set_option maxRecDepth 20000 in
theorem gX0_haulingByLoss_X0_shades : GoodIn wsX0_haulingByLoss (wsV RX0 105 RX0 yX0_shades wsX0_shades) := goodIn_app (goodIn_pc bs_wsX0_haulingByLoss bse_wsX0_haulingByLoss _ [(1, [4, 5, 6, 7])] rfl (by decide +kernel)) ggX0_haulingByLoss_X0_shades
set_option maxRecDepth 20000 in
theorem gw_wsX0_lossOf : wsX0_lossOf.all goodWord = true := by decide +kernel
set_option maxRecDepth 20000 in
theorem ggX0_haulingByLoss_X0_lossOf : GoodIn wsX0_haulingByLoss wsX0_lossOf := goodIn_pc bs_wsX0_haulingByLoss bse_wsX0_haulingByLoss _ [(1, [22, 23, 2]), (2, [0, 1, 2, 3]), (1, [4, 5, 6, 7, 8, 3, 9, 10, 11, 12, 13, 14, 15, 16, 17, 18]), (2, [4, 5, 6, 7, 8, 9, 10, 11, 12, 13, 14, 15, 16, 17, 18, 19, 20, 21, 22, 23]), (3, [0, 1, 2, 3, 4, 5, 6, 7, 8, 9, 10, 11, 12, 13, 14, 15, 16, 17, 18, 19, 20, 21, 22, 23]), (5, [0, 1, 2, 3]), (4, [0, 1, 2, 3, 4, 5, 6, 7, 8, 9, 10, 11, 12, 13]), (6, [0, 1, 2, 3, 4])] rfl gw_wsX0_lossOf
set_option maxRecDepth 20000 in
theorem gX0_haulingByLoss_X0_lossOf : GoodIn wsX0_haulingByLoss (wsV RX0 150 RX0 yX0_lossOf wsX0_lossOf) := goodIn_app (goodIn_pc bs_wsX0_haulingByLoss bse_wsX0_haulingByLoss _ [(1, [19, 20, 21, 7])] rfl (by decide +kernel)) ggX0_haulingByLoss_X0_lossOf
set_option maxRecDepth 20000 in
theorem ggX0_haulingByLoss_X0_slant : GoodIn wsX0_haulingByLoss wsX0_slant := goodIn_pc bs_wsX0_haulingByLoss bse_wsX0_haulingByLoss _ [(1, [17, 18]), (4, [0, 1, 2, 3, 4, 5, 6, 7, 8, 9, 10, 11, 12, 13])] rfl gw_wsX0_slant
set_option maxRecDepth 20000 in
theorem gX0_haulingByLoss_X0_slant : GoodIn wsX0_haulingByLoss (wsV RX0 101 RX0 yX0_slant wsX0_slant) := goodIn_app (goodIn_pc bs_wsX0_haulingByLoss bse_wsX0_haulingByLoss _ [(1, [14, 15, 16, 7])] rfl (by decide +kernel)) ggX0_haulingByLoss_X0_slant
theorem dX0_haulingByLoss_0 : decode cX0_haulingByLoss 0 = .ok (.iconst 0, 1) := zk3 (by decide +kernel)
theorem dX0_haulingByLoss_1 : decode cX0_haulingByLoss 1 = .ok (.istore_n 1, 1) := zk60 (by decide +kernel)
theorem dX0_haulingByLoss_2 : decode cX0_haulingByLoss 2 = .ok (.iconst 0, 1) := zk3 (by decide +kernel)
theorem dX0_haulingByLoss_3 : decode cX0_haulingByLoss 3 = .ok (.istore_n 2, 1) := zk61 (by decide +kernel)
theorem dX0_haulingByLoss_4 : decode cX0_haulingByLoss 4 = .ok (.iconst 0, 1) := zk3 (by decide +kernel)
theorem dX0_haulingByLoss_5 : decode cX0_haulingByLoss 5 = .ok (.istore_n 3, 1) := zk62 (by decide +kernel)
theorem dX0_haulingByLoss_6 : decode cX0_haulingByLoss 6 = .ok (.iload_n 3, 1) := zk29 (by decide +kernel)
theorem dX0_haulingByLoss_7 : decode cX0_haulingByLoss 7 = .ok (.aload_n 0, 1) := zk42 (by decide +kernel)
theorem dX0_haulingByLoss_8 : decode cX0_haulingByLoss 8 = .ok (.getfield 40, 3) := zk180 0 40 (by decide +kernel)
theorem dX0_haulingByLoss_11 : decode cX0_haulingByLoss 11 = .ok (.if_icmp .ge 73, 3) := zk162 0 73 rfl (by decide +kernel)
theorem dX0_haulingByLoss_14 : decode cX0_haulingByLoss 14 = .ok (.aload_n 0, 1) := zk42 (by decide +kernel)
theorem dX0_haulingByLoss_15 : decode cX0_haulingByLoss 15 = .ok (.getfield 11, 3) := zk180 0 11 (by decide +kernel)
theorem dX0_haulingByLoss_18 : decode cX0_haulingByLoss 18 = .ok (.iload_n 3, 1) := zk29 (by decide +kernel)
theorem dX0_haulingByLoss_19 : decode cX0_haulingByLoss 19 = .ok (.aaload, 1) := zk50 (by decide +kernel)
theorem dX0_haulingByLoss_20 : decode cX0_haulingByLoss 20 = .ok (.astore 4, 2) := zk58 4 (by decide +kernel)
theorem dX0_haulingByLoss_22 : decode cX0_haulingByLoss 22 = .ok (.aload_n 0, 1) := zk42 (by decide +kernel)
theorem dX0_haulingByLoss_23 : decode cX0_haulingByLoss 23 = .ok (.aload 4, 2) := zk25 4 (by decide +kernel)
theorem dX0_haulingByLoss_25 : decode cX0_haulingByLoss 25 = .ok (.getfield 69, 3) := zk180 0 69 (by decide +kernel)
theorem dX0_haulingByLoss_28 : decode cX0_haulingByLoss 28 = .ok (.invokevirtual 105, 3) := zk182 0 105 (by decide +kernel)
theorem dX0_haulingByLoss_31 : decode cX0_haulingByLoss 31 = .ok (.ifCond .eq 7, 3) := zk153 0 7 rfl (by decide +kernel)
theorem dX0_haulingByLoss_34 : decode cX0_haulingByLoss 34 = .ok (.iconst 0, 1) := zk3 (by decide +kernel)
theorem dX0_haulingByLoss_35 : decode cX0_haulingByLoss 35 = .ok (.goto 9, 3) := zk167 0 9 rfl (by decide +kernel)
theorem dX0_haulingByLoss_38 : decode cX0_haulingByLoss 38 = .ok (.aload_n 0, 1) := zk42 (by decide +kernel)
theorem dX0_haulingByLoss_39 : decode cX0_haulingByLoss 39 = .ok (.aload 4, 2) := zk25 4 (by decide +kernel)
theorem dX0_haulingByLoss_41 : decode cX0_haulingByLoss 41 = .ok (.invokevirtual 150, 3) := zk182 0 150 (by decide +kernel)
theorem dX0_haulingByLoss_44 : decode cX0_haulingByLoss 44 = .ok (.istore 5, 2) := zk54 5 (by decide +kernel)
theorem dX0_haulingByLoss_46 : decode cX0_haulingByLoss 46 = .ok (.iload 5, 2) := zk21 5 (by decide +kernel)
theorem dX0_haulingByLoss_48 : decode cX0_haulingByLoss 48 = .ok (.iload_n 2, 1) := zk28 (by decide +kernel)
theorem dX0_haulingByLoss_49 : decode cX0_haulingByLoss 49 = .ok (.if_icmp .le 29, 3) := zk164 0 29 rfl (by decide +kernel)
theorem dX0_haulingByLoss_52 : decode cX0_haulingByLoss 52 = .ok (.iload 5, 2) := zk21 5 (by decide +kernel)
theorem dX0_haulingByLoss_54 : decode cX0_haulingByLoss 54 = .ok (.istore_n 2, 1) := zk61 (by decide +kernel)
theorem dX0_haulingByLoss_55 : decode cX0_haulingByLoss 55 = .ok (.aload 4, 2) := zk25 4 (by decide +kernel)
theorem dX0_haulingByLoss_57 : decode cX0_haulingByLoss 57 = .ok (.getfield 69, 3) := zk180 0 69 (by decide +kernel)
theorem dX0_haulingByLoss_60 : decode cX0_haulingByLoss 60 = .ok (.aload_n 0, 1) := zk42 (by decide +kernel)
theorem dX0_haulingByLoss_61 : decode cX0_haulingByLoss 61 = .ok (.getfield 50, 3) := zk180 0 50 (by decide +kernel)
theorem dX0_haulingByLoss_64 : decode cX0_haulingByLoss 64 = .ok (.aload_n 0, 1) := zk42 (by decide +kernel)
theorem dX0_haulingByLoss_65 : decode cX0_haulingByLoss 65 = .ok (.invokevirtual 101, 3) := zk182 0 101 (by decide +kernel)
theorem dX0_haulingByLoss_68 : decode cX0_haulingByLoss 68 = .ok (.iadd, 1) := zk96 (by decide +kernel)
theorem dX0_haulingByLoss_69 : decode cX0_haulingByLoss 69 = .ok (.if_icmp .ge 7, 3) := zk162 0 7 rfl (by decide +kernel)
theorem dX0_haulingByLoss_72 : decode cX0_haulingByLoss 72 = .ok (.iconst 1, 1) := zk4 (by decide +kernel)
theorem dX0_haulingByLoss_73 : decode cX0_haulingByLoss 73 = .ok (.goto 4, 3) := zk167 0 4 rfl (by decide +kernel)
theorem dX0_haulingByLoss_76 : decode cX0_haulingByLoss 76 = .ok (.iconst 2, 1) := zk5 (by decide +kernel)
theorem dX0_haulingByLoss_77 : decode cX0_haulingByLoss 77 = .ok (.istore_n 1, 1) := zk60 (by decide +kernel)
theorem dX0_haulingByLoss_78 : decode cX0_haulingByLoss 78 = .ok (.iinc 3 1, 3) := by decide +kernel
theorem dX0_haulingByLoss_81 : decode cX0_haulingByLoss 81 = .ok (.goto (-75), 3) := zk167 255 181 rfl (by decide +kernel)
theorem dX0_haulingByLoss_84 : decode cX0_haulingByLoss 84 = .ok (.iload_n 1, 1) := zk27 (by decide +kernel)
theorem dX0_haulingByLoss_85 : decode cX0_haulingByLoss 85 = .ok (.ireturn, 1) := zk172 (by decide +kernel)
set_option maxRecDepth 20000 in
theorem gw_wsX0_hauledTo : wsX0_hauledTo.all goodWord = true := by decide +kernel
def bs_wsX0_haulingByPay : List (List Cond) := [[.code yX0_haulingByPay cX0_haulingByPay 5 (some .int)], wsX0_haulingByPay_r1, wsX0_haulingByPay_r2, wsX00, wsX40]
theorem bse_wsX0_haulingByPay : wsX0_haulingByPay = bs_wsX0_haulingByPay.flatten := by
  unfold wsX0_haulingByPay bs_wsX0_haulingByPay
  simp only [List.flatten_cons, List.flatten_nil, List.append_nil, List.append_assoc, List.cons_append, List.nil_append]
set_option maxRecDepth 20000 in
theorem ggX0_haulingByPay_X0_hauledTo : GoodIn wsX0_haulingByPay wsX0_hauledTo := goodIn_pc bs_wsX0_haulingByPay bse_wsX0_haulingByPay _ [(1, [4, 5, 6, 7, 8, 9, 10, 11, 12, 13, 14, 15, 3, 16, 17]), (3, [0, 1, 2, 3, 4, 5, 6, 7, 8, 9, 10, 11, 12, 13])] rfl gw_wsX0_hauledTo
set_option maxRecDepth 20000 in
theorem gX0_haulingByPay_X0_hauledTo : GoodIn wsX0_haulingByPay (wsV RX0 153 RX0 yX0_hauledTo wsX0_hauledTo) := goodIn_app (goodIn_pc bs_wsX0_haulingByPay bse_wsX0_haulingByPay _ [(1, [0, 1, 2, 3])] rfl (by decide +kernel)) ggX0_haulingByPay_X0_hauledTo
set_option maxRecDepth 20000 in
theorem gw_wsX0_payUnder : wsX0_payUnder.all goodWord = true := by decide +kernel
set_option maxRecDepth 20000 in
theorem ggX0_haulingByPay_X0_payUnder : GoodIn wsX0_haulingByPay wsX0_payUnder := goodIn_pc bs_wsX0_haulingByPay bse_wsX0_haulingByPay _ [(1, [21, 22, 23]), (2, [0, 1, 2, 3, 4]), (1, [3]), (2, [5]), (1, [17]), (2, [6, 7, 8, 9, 10]), (3, [0, 1, 2, 3, 4, 5, 6, 7, 8, 9, 10, 11, 12, 13]), (4, [0, 1, 2, 3])] rfl gw_wsX0_payUnder
set_option maxRecDepth 20000 in
theorem gX0_haulingByPay_X0_payUnder : GoodIn wsX0_haulingByPay (wsV RX0 156 RX0 yX0_payUnder wsX0_payUnder) := goodIn_app (goodIn_pc bs_wsX0_haulingByPay bse_wsX0_haulingByPay _ [(1, [18, 19, 20, 3])] rfl (by decide +kernel)) ggX0_haulingByPay_X0_payUnder
theorem dX0_haulingByPay_0 : decode cX0_haulingByPay 0 = .ok (.iconst 0, 1) := zk3 (by decide +kernel)
theorem dX0_haulingByPay_1 : decode cX0_haulingByPay 1 = .ok (.istore_n 1, 1) := zk60 (by decide +kernel)
theorem dX0_haulingByPay_2 : decode cX0_haulingByPay 2 = .ok (.iconst (-1), 1) := zk2 (by decide +kernel)
theorem dX0_haulingByPay_3 : decode cX0_haulingByPay 3 = .ok (.istore_n 2, 1) := zk61 (by decide +kernel)
theorem dX0_haulingByPay_4 : decode cX0_haulingByPay 4 = .ok (.iconst 0, 1) := zk3 (by decide +kernel)
theorem dX0_haulingByPay_5 : decode cX0_haulingByPay 5 = .ok (.istore_n 3, 1) := zk62 (by decide +kernel)
theorem dX0_haulingByPay_6 : decode cX0_haulingByPay 6 = .ok (.iload_n 3, 1) := zk29 (by decide +kernel)
theorem dX0_haulingByPay_7 : decode cX0_haulingByPay 7 = .ok (.iconst 3, 1) := zk6 (by decide +kernel)
theorem dX0_haulingByPay_8 : decode cX0_haulingByPay 8 = .ok (.if_icmp .ge 31, 3) := zk162 0 31 rfl (by decide +kernel)
theorem dX0_haulingByPay_11 : decode cX0_haulingByPay 11 = .ok (.aload_n 0, 1) := zk42 (by decide +kernel)
theorem dX0_haulingByPay_12 : decode cX0_haulingByPay 12 = .ok (.aload_n 0, 1) := zk42 (by decide +kernel)
theorem dX0_haulingByPay_13 : decode cX0_haulingByPay 13 = .ok (.iload_n 3, 1) := zk29 (by decide +kernel)
theorem dX0_haulingByPay_14 : decode cX0_haulingByPay 14 = .ok (.invokevirtual 153, 3) := zk182 0 153 (by decide +kernel)
theorem dX0_haulingByPay_17 : decode cX0_haulingByPay 17 = .ok (.invokevirtual 156, 3) := zk182 0 156 (by decide +kernel)
theorem dX0_haulingByPay_20 : decode cX0_haulingByPay 20 = .ok (.istore 4, 2) := zk54 4 (by decide +kernel)
theorem dX0_haulingByPay_22 : decode cX0_haulingByPay 22 = .ok (.iload 4, 2) := zk21 4 (by decide +kernel)
theorem dX0_haulingByPay_24 : decode cX0_haulingByPay 24 = .ok (.iload_n 2, 1) := zk28 (by decide +kernel)
theorem dX0_haulingByPay_25 : decode cX0_haulingByPay 25 = .ok (.if_icmp .le 8, 3) := zk164 0 8 rfl (by decide +kernel)
theorem dX0_haulingByPay_28 : decode cX0_haulingByPay 28 = .ok (.iload 4, 2) := zk21 4 (by decide +kernel)
theorem dX0_haulingByPay_30 : decode cX0_haulingByPay 30 = .ok (.istore_n 2, 1) := zk61 (by decide +kernel)
theorem dX0_haulingByPay_31 : decode cX0_haulingByPay 31 = .ok (.iload_n 3, 1) := zk29 (by decide +kernel)
theorem dX0_haulingByPay_32 : decode cX0_haulingByPay 32 = .ok (.istore_n 1, 1) := zk60 (by decide +kernel)
theorem dX0_haulingByPay_33 : decode cX0_haulingByPay 33 = .ok (.iinc 3 1, 3) := by decide +kernel
theorem dX0_haulingByPay_36 : decode cX0_haulingByPay 36 = .ok (.goto (-30), 3) := zk167 255 226 rfl (by decide +kernel)
theorem dX0_haulingByPay_39 : decode cX0_haulingByPay 39 = .ok (.iload_n 1, 1) := zk27 (by decide +kernel)
theorem dX0_haulingByPay_40 : decode cX0_haulingByPay 40 = .ok (.ireturn, 1) := zk172 (by decide +kernel)
set_option maxRecDepth 20000 in
theorem ggX0_payUnder_X0_wouldShade : GoodIn wsX0_payUnder wsX0_wouldShade := goodIn_r _ [9, 10, 11, 12, 13, 8, 14, 15, 16, 17, 18, 19, 20, 21, 22, 23, 24, 25, 26, 27, 28, 29] rfl gw_wsX0_wouldShade
set_option maxRecDepth 20000 in
theorem gX0_payUnder_X0_wouldShade : GoodIn wsX0_payUnder (wsV RX0 97 RX0 yX0_wouldShade wsX0_wouldShade) := goodIn_app (goodIn_r _ [5, 6, 7, 8] rfl (by decide +kernel)) ggX0_payUnder_X0_wouldShade
theorem dX0_payUnder_0 : decode cX0_payUnder 0 = .ok (.iconst 0, 1) := zk3 (by decide +kernel)
theorem dX0_payUnder_1 : decode cX0_payUnder 1 = .ok (.istore_n 2, 1) := zk61 (by decide +kernel)
theorem dX0_payUnder_2 : decode cX0_payUnder 2 = .ok (.iconst 0, 1) := zk3 (by decide +kernel)
theorem dX0_payUnder_3 : decode cX0_payUnder 3 = .ok (.istore_n 3, 1) := zk62 (by decide +kernel)
theorem dX0_payUnder_4 : decode cX0_payUnder 4 = .ok (.iload_n 3, 1) := zk29 (by decide +kernel)
theorem dX0_payUnder_5 : decode cX0_payUnder 5 = .ok (.aload_n 0, 1) := zk42 (by decide +kernel)
theorem dX0_payUnder_6 : decode cX0_payUnder 6 = .ok (.getfield 40, 3) := zk180 0 40 (by decide +kernel)
theorem dX0_payUnder_9 : decode cX0_payUnder 9 = .ok (.if_icmp .ge 38, 3) := zk162 0 38 rfl (by decide +kernel)
theorem dX0_payUnder_12 : decode cX0_payUnder 12 = .ok (.aload_n 0, 1) := zk42 (by decide +kernel)
theorem dX0_payUnder_13 : decode cX0_payUnder 13 = .ok (.iload_n 1, 1) := zk27 (by decide +kernel)
theorem dX0_payUnder_14 : decode cX0_payUnder 14 = .ok (.aload_n 0, 1) := zk42 (by decide +kernel)
theorem dX0_payUnder_15 : decode cX0_payUnder 15 = .ok (.getfield 11, 3) := zk180 0 11 (by decide +kernel)
theorem dX0_payUnder_18 : decode cX0_payUnder 18 = .ok (.iload_n 3, 1) := zk29 (by decide +kernel)
theorem dX0_payUnder_19 : decode cX0_payUnder 19 = .ok (.aaload, 1) := zk50 (by decide +kernel)
theorem dX0_payUnder_20 : decode cX0_payUnder 20 = .ok (.getfield 69, 3) := zk180 0 69 (by decide +kernel)
theorem dX0_payUnder_23 : decode cX0_payUnder 23 = .ok (.invokevirtual 97, 3) := zk182 0 97 (by decide +kernel)
theorem dX0_payUnder_26 : decode cX0_payUnder 26 = .ok (.ifCond .eq 15, 3) := zk153 0 15 rfl (by decide +kernel)
theorem dX0_payUnder_29 : decode cX0_payUnder 29 = .ok (.iload_n 2, 1) := zk28 (by decide +kernel)
theorem dX0_payUnder_30 : decode cX0_payUnder 30 = .ok (.aload_n 0, 1) := zk42 (by decide +kernel)
theorem dX0_payUnder_31 : decode cX0_payUnder 31 = .ok (.getfield 11, 3) := zk180 0 11 (by decide +kernel)
theorem dX0_payUnder_34 : decode cX0_payUnder 34 = .ok (.iload_n 3, 1) := zk29 (by decide +kernel)
theorem dX0_payUnder_35 : decode cX0_payUnder 35 = .ok (.aaload, 1) := zk50 (by decide +kernel)
theorem dX0_payUnder_36 : decode cX0_payUnder 36 = .ok (.getfield 75, 3) := zk180 0 75 (by decide +kernel)
theorem dX0_payUnder_39 : decode cX0_payUnder 39 = .ok (.iadd, 1) := zk96 (by decide +kernel)
theorem dX0_payUnder_40 : decode cX0_payUnder 40 = .ok (.istore_n 2, 1) := zk61 (by decide +kernel)
theorem dX0_payUnder_41 : decode cX0_payUnder 41 = .ok (.iinc 3 1, 3) := by decide +kernel
theorem dX0_payUnder_44 : decode cX0_payUnder 44 = .ok (.goto (-40), 3) := zk167 255 216 rfl (by decide +kernel)
theorem dX0_payUnder_47 : decode cX0_payUnder 47 = .ok (.iload_n 2, 1) := zk28 (by decide +kernel)
theorem dX0_payUnder_48 : decode cX0_payUnder 48 = .ok (.ireturn, 1) := zk172 (by decide +kernel)
set_option maxRecDepth 20000 in
theorem gw_wsX0_lastFirst : wsX0_lastFirst.all goodWord = true := by decide +kernel
set_option maxRecDepth 20000 in
theorem ggX0_hauledTo_X0_lastFirst : GoodIn wsX0_hauledTo wsX0_lastFirst := goodIn_r _ [13, 14, 15, 16, 17, 18, 19, 20, 21, 22, 23, 24, 25, 26, 27, 28] rfl gw_wsX0_lastFirst
set_option maxRecDepth 20000 in
theorem gX0_hauledTo_X0_lastFirst : GoodIn wsX0_hauledTo (wsV RX0 117 RX0 yX0_lastFirst wsX0_lastFirst) := goodIn_app (goodIn_r _ [9, 10, 11, 12] rfl (by decide +kernel)) ggX0_hauledTo_X0_lastFirst
theorem dX0_hauledTo_0 : decode cX0_hauledTo 0 = .ok (.iload_n 1, 1) := zk27 (by decide +kernel)
theorem dX0_hauledTo_1 : decode cX0_hauledTo 1 = .ok (.lookupswitch 52 #[(1, 27), (2, 38)], 27) := by decide +kernel
theorem dX0_hauledTo_28 : decode cX0_hauledTo 28 = .ok (.aload_n 0, 1) := zk42 (by decide +kernel)
theorem dX0_hauledTo_29 : decode cX0_hauledTo 29 = .ok (.getfield 50, 3) := zk180 0 50 (by decide +kernel)
theorem dX0_hauledTo_32 : decode cX0_hauledTo 32 = .ok (.iconst 1, 1) := zk4 (by decide +kernel)
theorem dX0_hauledTo_33 : decode cX0_hauledTo 33 = .ok (.isub, 1) := zk100 (by decide +kernel)
theorem dX0_hauledTo_34 : decode cX0_hauledTo 34 = .ok (.iconst 0, 1) := zk3 (by decide +kernel)
theorem dX0_hauledTo_35 : decode cX0_hauledTo 35 = .ok (.invokestatic 159, 3) := zk184 0 159 (by decide +kernel)
theorem dX0_hauledTo_38 : decode cX0_hauledTo 38 = .ok (.ireturn, 1) := zk172 (by decide +kernel)
theorem dX0_hauledTo_39 : decode cX0_hauledTo 39 = .ok (.aload_n 0, 1) := zk42 (by decide +kernel)
theorem dX0_hauledTo_40 : decode cX0_hauledTo 40 = .ok (.getfield 50, 3) := zk180 0 50 (by decide +kernel)
theorem dX0_hauledTo_43 : decode cX0_hauledTo 43 = .ok (.iconst 1, 1) := zk4 (by decide +kernel)
theorem dX0_hauledTo_44 : decode cX0_hauledTo 44 = .ok (.iadd, 1) := zk96 (by decide +kernel)
theorem dX0_hauledTo_45 : decode cX0_hauledTo 45 = .ok (.aload_n 0, 1) := zk42 (by decide +kernel)
theorem dX0_hauledTo_46 : decode cX0_hauledTo 46 = .ok (.invokevirtual 117, 3) := zk182 0 117 (by decide +kernel)
theorem dX0_hauledTo_49 : decode cX0_hauledTo 49 = .ok (.invokestatic 134, 3) := zk184 0 134 (by decide +kernel)
theorem dX0_hauledTo_52 : decode cX0_hauledTo 52 = .ok (.ireturn, 1) := zk172 (by decide +kernel)
theorem dX0_hauledTo_53 : decode cX0_hauledTo 53 = .ok (.aload_n 0, 1) := zk42 (by decide +kernel)
theorem dX0_hauledTo_54 : decode cX0_hauledTo 54 = .ok (.getfield 50, 3) := zk180 0 50 (by decide +kernel)
theorem dX0_hauledTo_57 : decode cX0_hauledTo 57 = .ok (.ireturn, 1) := zk172 (by decide +kernel)
set_option maxRecDepth 20000 in
theorem gw_wsX0_draw : wsX0_draw.all goodWord = true := by decide +kernel
def bs_wsX0_blow : List (List Cond) := [[.code yX0_blow cX0_blow 2 none], wsX0_blow_r1, wsX0_blow_r2, wsX00]
theorem bse_wsX0_blow : wsX0_blow = bs_wsX0_blow.flatten := by
  unfold wsX0_blow bs_wsX0_blow
  simp only [List.flatten_cons, List.flatten_nil, List.append_nil, List.append_assoc, List.cons_append, List.nil_append]
set_option maxRecDepth 20000 in
theorem ggX0_blow_X0_draw : GoodIn wsX0_blow wsX0_draw := goodIn_pc bs_wsX0_blow bse_wsX0_blow _ [(1, [7, 8, 9]), (3, [0, 1, 2, 3, 4, 5, 6, 7, 8, 9, 10, 11, 12, 13])] rfl gw_wsX0_draw
set_option maxRecDepth 20000 in
theorem gX0_blow_X0_draw : GoodIn wsX0_blow (wsV RX0 165 RX0 yX0_draw wsX0_draw) := goodIn_app (goodIn_pc bs_wsX0_blow bse_wsX0_blow _ [(1, [3, 4, 5, 6])] rfl (by decide +kernel)) ggX0_blow_X0_draw
set_option maxRecDepth 20000 in
theorem ggX0_blow_X0_lastFirst : GoodIn wsX0_blow wsX0_lastFirst := goodIn_pc bs_wsX0_blow bse_wsX0_blow _ [(1, [13, 14]), (3, [0, 1, 2, 3, 4, 5, 6, 7, 8, 9, 10, 11, 12, 13])] rfl gw_wsX0_lastFirst
set_option maxRecDepth 20000 in
theorem gX0_blow_X0_lastFirst : GoodIn wsX0_blow (wsV RX0 117 RX0 yX0_lastFirst wsX0_lastFirst) := goodIn_app (goodIn_pc bs_wsX0_blow bse_wsX0_blow _ [(1, [10, 11, 12, 6])] rfl (by decide +kernel)) ggX0_blow_X0_lastFirst
set_option maxRecDepth 20000 in
theorem ggX0_blow_X6_held : GoodIn wsX0_blow wsX6_held := goodIn_pc bs_wsX0_blow bse_wsX0_blow _ [(1, [17, 18, 19, 20, 21, 22, 23]), (2, [0])] rfl gw_wsX6_held
set_option maxRecDepth 20000 in
theorem gX0_blow_X6_held_n120 : GoodIn wsX0_blow (wsX6_held) := ggX0_blow_X6_held
theorem dX0_blow_0 : decode cX0_blow 0 = .ok (.aload_n 0, 1) := zk42 (by decide +kernel)
theorem dX0_blow_1 : decode cX0_blow 1 = .ok (.invokevirtual 165, 3) := zk182 0 165 (by decide +kernel)
theorem dX0_blow_4 : decode cX0_blow 4 = .ok (.bipush 100, 2) := zk16 100 rfl (by decide +kernel)
theorem dX0_blow_6 : decode cX0_blow 6 = .ok (.irem, 1) := zk112 (by decide +kernel)
theorem dX0_blow_7 : decode cX0_blow 7 = .ok (.aload_n 0, 1) := zk42 (by decide +kernel)
theorem dX0_blow_8 : decode cX0_blow 8 = .ok (.getfield 26, 3) := zk180 0 26 (by decide +kernel)
theorem dX0_blow_11 : decode cX0_blow 11 = .ok (.if_icmp .lt 4, 3) := zk161 0 4 rfl (by decide +kernel)
theorem dX0_blow_14 : decode cX0_blow 14 = .ok (.return_, 1) := zk177 (by decide +kernel)
theorem dX0_blow_15 : decode cX0_blow 15 = .ok (.aload_n 0, 1) := zk42 (by decide +kernel)
theorem dX0_blow_16 : decode cX0_blow 16 = .ok (.invokevirtual 165, 3) := zk182 0 165 (by decide +kernel)
theorem dX0_blow_19 : decode cX0_blow 19 = .ok (.iconst 3, 1) := zk6 (by decide +kernel)
theorem dX0_blow_20 : decode cX0_blow 20 = .ok (.irem, 1) := zk112 (by decide +kernel)
theorem dX0_blow_21 : decode cX0_blow 21 = .ok (.iconst 1, 1) := zk4 (by decide +kernel)
theorem dX0_blow_22 : decode cX0_blow 22 = .ok (.isub, 1) := zk100 (by decide +kernel)
theorem dX0_blow_23 : decode cX0_blow 23 = .ok (.istore_n 1, 1) := zk60 (by decide +kernel)
theorem dX0_blow_24 : decode cX0_blow 24 = .ok (.aload_n 0, 1) := zk42 (by decide +kernel)
theorem dX0_blow_25 : decode cX0_blow 25 = .ok (.aload_n 0, 1) := zk42 (by decide +kernel)
theorem dX0_blow_26 : decode cX0_blow 26 = .ok (.getfield 50, 3) := zk180 0 50 (by decide +kernel)
theorem dX0_blow_29 : decode cX0_blow 29 = .ok (.iload_n 1, 1) := zk27 (by decide +kernel)
theorem dX0_blow_30 : decode cX0_blow 30 = .ok (.iadd, 1) := zk96 (by decide +kernel)
theorem dX0_blow_31 : decode cX0_blow 31 = .ok (.iconst 0, 1) := zk3 (by decide +kernel)
theorem dX0_blow_32 : decode cX0_blow 32 = .ok (.aload_n 0, 1) := zk42 (by decide +kernel)
theorem dX0_blow_33 : decode cX0_blow 33 = .ok (.invokevirtual 117, 3) := zk182 0 117 (by decide +kernel)
theorem dX0_blow_36 : decode cX0_blow 36 = .ok (.invokestatic 120, 3) := zk184 0 120 (by decide +kernel)
theorem dX0_blow_39 : decode cX0_blow 39 = .ok (.putfield 50, 3) := zk181 0 50 (by decide +kernel)
theorem dX0_blow_42 : decode cX0_blow 42 = .ok (.iload_n 1, 1) := zk27 (by decide +kernel)
theorem dX0_blow_43 : decode cX0_blow 43 = .ok (.ifCond .eq 13, 3) := zk153 0 13 rfl (by decide +kernel)
theorem dX0_blow_46 : decode cX0_blow 46 = .ok (.aload_n 0, 1) := zk42 (by decide +kernel)
theorem dX0_blow_47 : decode cX0_blow 47 = .ok (.dup, 1) := zk89 (by decide +kernel)
theorem dX0_blow_48 : decode cX0_blow 48 = .ok (.getfield 62, 3) := zk180 0 62 (by decide +kernel)
theorem dX0_blow_51 : decode cX0_blow 51 = .ok (.iconst 1, 1) := zk4 (by decide +kernel)
theorem dX0_blow_52 : decode cX0_blow 52 = .ok (.iadd, 1) := zk96 (by decide +kernel)
theorem dX0_blow_53 : decode cX0_blow 53 = .ok (.putfield 62, 3) := zk181 0 62 (by decide +kernel)
theorem dX0_blow_56 : decode cX0_blow 56 = .ok (.return_, 1) := zk177 (by decide +kernel)
set_option maxRecDepth 20000 in
theorem ggX2_hasPlace_X6_within : GoodIn wsX2_hasPlace wsX6_within := goodIn_r _ [4] rfl gw_wsX6_within
set_option maxRecDepth 20000 in
theorem gX2_hasPlace_X6_within_n32 : GoodIn wsX2_hasPlace (wsX6_within) := ggX2_hasPlace_X6_within
theorem dX2_hasPlace_0 : decode cX2_hasPlace 0 = .ok (.iload_n 1, 1) := zk27 (by decide +kernel)
theorem dX2_hasPlace_1 : decode cX2_hasPlace 1 = .ok (.iconst 0, 1) := zk3 (by decide +kernel)
theorem dX2_hasPlace_2 : decode cX2_hasPlace 2 = .ok (.aload_n 0, 1) := zk42 (by decide +kernel)
theorem dX2_hasPlace_3 : decode cX2_hasPlace 3 = .ok (.getfield 23, 3) := zk180 0 23 (by decide +kernel)
theorem dX2_hasPlace_6 : decode cX2_hasPlace 6 = .ok (.iconst 1, 1) := zk4 (by decide +kernel)
theorem dX2_hasPlace_7 : decode cX2_hasPlace 7 = .ok (.isub, 1) := zk100 (by decide +kernel)
theorem dX2_hasPlace_8 : decode cX2_hasPlace 8 = .ok (.invokestatic 32, 3) := zk184 0 32 (by decide +kernel)
theorem dX2_hasPlace_11 : decode cX2_hasPlace 11 = .ok (.ireturn, 1) := zk172 (by decide +kernel)
set_option maxRecDepth 20000 in
theorem gw_wsX2_hasPlace : wsX2_hasPlace.all goodWord = true := by decide +kernel
set_option maxRecDepth 20000 in
theorem ggX2_hasNumber_X2_hasPlace : GoodIn wsX2_hasNumber wsX2_hasPlace := goodIn_r _ [7, 8, 9, 10, 11, 12, 13, 14] rfl gw_wsX2_hasPlace
set_option maxRecDepth 20000 in
theorem gX2_hasNumber_X2_hasPlace : GoodIn wsX2_hasNumber (wsV RX2 36 RX2 yX2_hasPlace wsX2_hasPlace) := goodIn_app (goodIn_r _ [3, 4, 5, 6] rfl (by decide +kernel)) ggX2_hasNumber_X2_hasPlace
theorem dX2_hasNumber_0 : decode cX2_hasNumber 0 = .ok (.aload_n 0, 1) := zk42 (by decide +kernel)
theorem dX2_hasNumber_1 : decode cX2_hasNumber 1 = .ok (.iload_n 1, 1) := zk27 (by decide +kernel)
theorem dX2_hasNumber_2 : decode cX2_hasNumber 2 = .ok (.invokevirtual 36, 3) := zk182 0 36 (by decide +kernel)
theorem dX2_hasNumber_5 : decode cX2_hasNumber 5 = .ok (.ifCond .eq 18, 3) := zk153 0 18 rfl (by decide +kernel)
theorem dX2_hasNumber_8 : decode cX2_hasNumber 8 = .ok (.aload_n 0, 1) := zk42 (by decide +kernel)
theorem dX2_hasNumber_9 : decode cX2_hasNumber 9 = .ok (.getfield 15, 3) := zk180 0 15 (by decide +kernel)
theorem dX2_hasNumber_12 : decode cX2_hasNumber 12 = .ok (.iload_n 1, 1) := zk27 (by decide +kernel)
theorem dX2_hasNumber_13 : decode cX2_hasNumber 13 = .ok (.iaload, 1) := zk46 (by decide +kernel)
theorem dX2_hasNumber_14 : decode cX2_hasNumber 14 = .ok (.ldc 40, 2) := zk18 40 (by decide +kernel)
theorem dX2_hasNumber_16 : decode cX2_hasNumber 16 = .ok (.if_icmp .eq 7, 3) := zk159 0 7 rfl (by decide +kernel)
theorem dX2_hasNumber_19 : decode cX2_hasNumber 19 = .ok (.iconst 1, 1) := zk4 (by decide +kernel)
theorem dX2_hasNumber_20 : decode cX2_hasNumber 20 = .ok (.goto 4, 3) := zk167 0 4 rfl (by decide +kernel)
theorem dX2_hasNumber_23 : decode cX2_hasNumber 23 = .ok (.iconst 0, 1) := zk3 (by decide +kernel)
theorem dX2_hasNumber_24 : decode cX2_hasNumber 24 = .ok (.ireturn, 1) := zk172 (by decide +kernel)
theorem dX4_sunLoss_0 : decode cX4_sunLoss 0 = .ok (.aload_n 0, 1) := zk42 (by decide +kernel)
theorem dX4_sunLoss_1 : decode cX4_sunLoss 1 = .ok (.getfield 9, 3) := zk180 0 9 (by decide +kernel)
theorem dX4_sunLoss_4 : decode cX4_sunLoss 4 = .ok (.tableswitch 54 1 5 #[36, 46, 40, 48, 50], 36) := by decide +kernel
theorem dX4_sunLoss_40 : decode cX4_sunLoss 40 = .ok (.iconst 2, 1) := zk5 (by decide +kernel)
theorem dX4_sunLoss_41 : decode cX4_sunLoss 41 = .ok (.iload_n 1, 1) := zk27 (by decide +kernel)
theorem dX4_sunLoss_42 : decode cX4_sunLoss 42 = .ok (.imul, 1) := zk104 (by decide +kernel)
theorem dX4_sunLoss_43 : decode cX4_sunLoss 43 = .ok (.ireturn, 1) := zk172 (by decide +kernel)
theorem dX4_sunLoss_44 : decode cX4_sunLoss 44 = .ok (.iconst 2, 1) := zk5 (by decide +kernel)
theorem dX4_sunLoss_45 : decode cX4_sunLoss 45 = .ok (.iload_n 1, 1) := zk27 (by decide +kernel)
theorem dX4_sunLoss_46 : decode cX4_sunLoss 46 = .ok (.imul, 1) := zk104 (by decide +kernel)
theorem dX4_sunLoss_47 : decode cX4_sunLoss 47 = .ok (.iconst 5, 1) := zk8 (by decide +kernel)
theorem dX4_sunLoss_48 : decode cX4_sunLoss 48 = .ok (.iadd, 1) := zk96 (by decide +kernel)
theorem dX4_sunLoss_49 : decode cX4_sunLoss 49 = .ok (.ireturn, 1) := zk172 (by decide +kernel)
theorem dX4_sunLoss_50 : decode cX4_sunLoss 50 = .ok (.iconst 0, 1) := zk3 (by decide +kernel)
theorem dX4_sunLoss_51 : decode cX4_sunLoss 51 = .ok (.ireturn, 1) := zk172 (by decide +kernel)
theorem dX4_sunLoss_52 : decode cX4_sunLoss 52 = .ok (.iconst 0, 1) := zk3 (by decide +kernel)
theorem dX4_sunLoss_53 : decode cX4_sunLoss 53 = .ok (.ireturn, 1) := zk172 (by decide +kernel)
theorem dX4_sunLoss_54 : decode cX4_sunLoss 54 = .ok (.iload_n 1, 1) := zk27 (by decide +kernel)
theorem dX4_sunLoss_55 : decode cX4_sunLoss 55 = .ok (.iconst 2, 1) := zk5 (by decide +kernel)
theorem dX4_sunLoss_56 : decode cX4_sunLoss 56 = .ok (.idiv, 1) := zk108 (by decide +kernel)
theorem dX4_sunLoss_57 : decode cX4_sunLoss 57 = .ok (.ireturn, 1) := zk172 (by decide +kernel)
theorem dX4_sunLoss_58 : decode cX4_sunLoss 58 = .ok (.iload_n 1, 1) := zk27 (by decide +kernel)
theorem dX4_sunLoss_59 : decode cX4_sunLoss 59 = .ok (.ireturn, 1) := zk172 (by decide +kernel)
theorem dX4_shadeLoss_0 : decode cX4_shadeLoss 0 = .ok (.aload_n 0, 1) := zk42 (by decide +kernel)
theorem dX4_shadeLoss_1 : decode cX4_shadeLoss 1 = .ok (.getfield 9, 3) := zk180 0 9 (by decide +kernel)
theorem dX4_shadeLoss_4 : decode cX4_shadeLoss 4 = .ok (.iconst 4, 1) := zk7 (by decide +kernel)
theorem dX4_shadeLoss_5 : decode cX4_shadeLoss 5 = .ok (.if_icmp .ne 7, 3) := zk160 0 7 rfl (by decide +kernel)
theorem dX4_shadeLoss_8 : decode cX4_shadeLoss 8 = .ok (.iconst 2, 1) := zk5 (by decide +kernel)
theorem dX4_shadeLoss_9 : decode cX4_shadeLoss 9 = .ok (.goto 4, 3) := zk167 0 4 rfl (by decide +kernel)
theorem dX4_shadeLoss_12 : decode cX4_shadeLoss 12 = .ok (.iconst 0, 1) := zk3 (by decide +kernel)
theorem dX4_shadeLoss_13 : decode cX4_shadeLoss 13 = .ok (.ireturn, 1) := zk172 (by decide +kernel)
theorem dX5_takeOver_0 : decode cX5_takeOver 0 = .ok (.aload_n 0, 1) := zk42 (by decide +kernel)
theorem dX5_takeOver_1 : decode cX5_takeOver 1 = .ok (.aload_n 1, 1) := zk43 (by decide +kernel)
theorem dX5_takeOver_2 : decode cX5_takeOver 2 = .ok (.getfield 18, 3) := zk180 0 18 (by decide +kernel)
theorem dX5_takeOver_5 : decode cX5_takeOver 5 = .ok (.putfield 18, 3) := zk181 0 18 (by decide +kernel)
theorem dX5_takeOver_8 : decode cX5_takeOver 8 = .ok (.aload_n 0, 1) := zk42 (by decide +kernel)
theorem dX5_takeOver_9 : decode cX5_takeOver 9 = .ok (.aload_n 1, 1) := zk43 (by decide +kernel)
theorem dX5_takeOver_10 : decode cX5_takeOver 10 = .ok (.getfield 22, 3) := zk180 0 22 (by decide +kernel)
theorem dX5_takeOver_13 : decode cX5_takeOver 13 = .ok (.putfield 22, 3) := zk181 0 22 (by decide +kernel)
theorem dX5_takeOver_16 : decode cX5_takeOver 16 = .ok (.aload_n 0, 1) := zk42 (by decide +kernel)
theorem dX5_takeOver_17 : decode cX5_takeOver 17 = .ok (.aload_n 1, 1) := zk43 (by decide +kernel)
theorem dX5_takeOver_18 : decode cX5_takeOver 18 = .ok (.getfield 25, 3) := zk180 0 25 (by decide +kernel)
theorem dX5_takeOver_21 : decode cX5_takeOver 21 = .ok (.putfield 25, 3) := zk181 0 25 (by decide +kernel)
theorem dX5_takeOver_24 : decode cX5_takeOver 24 = .ok (.aload_n 1, 1) := zk43 (by decide +kernel)
theorem dX5_takeOver_25 : decode cX5_takeOver 25 = .ok (.getfield 9, 3) := zk180 0 9 (by decide +kernel)
theorem dX5_takeOver_28 : decode cX5_takeOver 28 = .ok (.iconst 0, 1) := zk3 (by decide +kernel)
theorem dX5_takeOver_29 : decode cX5_takeOver 29 = .ok (.aload_n 0, 1) := zk42 (by decide +kernel)
theorem dX5_takeOver_30 : decode cX5_takeOver 30 = .ok (.getfield 9, 3) := zk180 0 9 (by decide +kernel)
theorem dX5_takeOver_33 : decode cX5_takeOver 33 = .ok (.iconst 0, 1) := zk3 (by decide +kernel)
theorem dX5_takeOver_34 : decode cX5_takeOver 34 = .ok (.bipush 96, 2) := zk16 96 rfl (by decide +kernel)
theorem dX5_takeOver_36 : decode cX5_takeOver 36 = .ok (.invokestatic 28, 3) := zk184 0 28 (by decide +kernel)
theorem dX5_takeOver_39 : decode cX5_takeOver 39 = .ok (.return_, 1) := zk177 (by decide +kernel)
set_option maxRecDepth 20000 in
theorem gw_wsX5_joined : wsX5_joined.all goodWord = true := by decide +kernel
set_option maxRecDepth 20000 in
theorem ggX5_workOut_X5_joined : GoodIn wsX5_workOut wsX5_joined := goodIn_r _ [7] rfl gw_wsX5_joined
set_option maxRecDepth 20000 in
theorem gX5_workOut_X5_joined : GoodIn wsX5_workOut (va_wsS RX5 38 yX5_joined wsX5_joined) := goodIn_app (goodIn_r _ [4, 5, 6] rfl (by decide +kernel)) ggX5_workOut_X5_joined
theorem dX5_workOut_0 : decode cX5_workOut 0 = .ok (.iconst (-1), 1) := zk2 (by decide +kernel)
theorem dX5_workOut_1 : decode cX5_workOut 1 = .ok (.istore 4, 2) := zk54 4 (by decide +kernel)
theorem dX5_workOut_3 : decode cX5_workOut 3 = .ok (.iconst 0, 1) := zk3 (by decide +kernel)
theorem dX5_workOut_4 : decode cX5_workOut 4 = .ok (.istore 5, 2) := zk54 5 (by decide +kernel)
theorem dX5_workOut_6 : decode cX5_workOut 6 = .ok (.iload 5, 2) := zk21 5 (by decide +kernel)
theorem dX5_workOut_8 : decode cX5_workOut 8 = .ok (.aload_n 0, 1) := zk42 (by decide +kernel)
theorem dX5_workOut_9 : decode cX5_workOut 9 = .ok (.getfield 25, 3) := zk180 0 25 (by decide +kernel)
theorem dX5_workOut_12 : decode cX5_workOut 12 = .ok (.if_icmp .ge 163, 3) := zk162 0 163 rfl (by decide +kernel)
theorem dX5_workOut_15 : decode cX5_workOut 15 = .ok (.aload_n 0, 1) := zk42 (by decide +kernel)
theorem dX5_workOut_16 : decode cX5_workOut 16 = .ok (.getfield 9, 3) := zk180 0 9 (by decide +kernel)
theorem dX5_workOut_19 : decode cX5_workOut 19 = .ok (.iload 5, 2) := zk21 5 (by decide +kernel)
theorem dX5_workOut_21 : decode cX5_workOut 21 = .ok (.iaload, 1) := zk46 (by decide +kernel)
theorem dX5_workOut_22 : decode cX5_workOut 22 = .ok (.istore 6, 2) := zk54 6 (by decide +kernel)
theorem dX5_workOut_24 : decode cX5_workOut 24 = .ok (.iload 6, 2) := zk21 6 (by decide +kernel)
theorem dX5_workOut_26 : decode cX5_workOut 26 = .ok (.sipush (-1000), 3) := zk17 252 24 rfl (by decide +kernel)
theorem dX5_workOut_29 : decode cX5_workOut 29 = .ok (.if_icmp .le 57, 3) := zk164 0 57 rfl (by decide +kernel)
theorem dX5_workOut_32 : decode cX5_workOut 32 = .ok (.iload 4, 2) := zk21 4 (by decide +kernel)
theorem dX5_workOut_34 : decode cX5_workOut 34 = .ok (.bipush 95, 2) := zk16 95 rfl (by decide +kernel)
theorem dX5_workOut_36 : decode cX5_workOut 36 = .ok (.if_icmp .lt 5, 3) := zk161 0 5 rfl (by decide +kernel)
theorem dX5_workOut_39 : decode cX5_workOut 39 = .ok (.iconst 0, 1) := zk3 (by decide +kernel)
theorem dX5_workOut_40 : decode cX5_workOut 40 = .ok (.ireturn, 1) := zk172 (by decide +kernel)
theorem dX5_workOut_41 : decode cX5_workOut 41 = .ok (.iinc 4 1, 3) := by decide +kernel
theorem dX5_workOut_44 : decode cX5_workOut 44 = .ok (.aload_n 0, 1) := zk42 (by decide +kernel)
theorem dX5_workOut_45 : decode cX5_workOut 45 = .ok (.getfield 15, 3) := zk180 0 15 (by decide +kernel)
theorem dX5_workOut_48 : decode cX5_workOut 48 = .ok (.iload 4, 2) := zk21 4 (by decide +kernel)
theorem dX5_workOut_50 : decode cX5_workOut 50 = .ok (.iload 6, 2) := zk21 6 (by decide +kernel)
theorem dX5_workOut_52 : decode cX5_workOut 52 = .ok (.ifCond .lt 8, 3) := zk155 0 8 rfl (by decide +kernel)
theorem dX5_workOut_55 : decode cX5_workOut 55 = .ok (.iload 6, 2) := zk21 6 (by decide +kernel)
theorem dX5_workOut_57 : decode cX5_workOut 57 = .ok (.goto 25, 3) := zk167 0 25 rfl (by decide +kernel)
theorem dX5_workOut_60 : decode cX5_workOut 60 = .ok (.iload 6, 2) := zk21 6 (by decide +kernel)
theorem dX5_workOut_62 : decode cX5_workOut 62 = .ok (.iconst (-1), 1) := zk2 (by decide +kernel)
theorem dX5_workOut_63 : decode cX5_workOut 63 = .ok (.if_icmp .ne 7, 3) := zk160 0 7 rfl (by decide +kernel)
theorem dX5_workOut_66 : decode cX5_workOut 66 = .ok (.iload_n 1, 1) := zk27 (by decide +kernel)
theorem dX5_workOut_67 : decode cX5_workOut 67 = .ok (.goto 15, 3) := zk167 0 15 rfl (by decide +kernel)
theorem dX5_workOut_70 : decode cX5_workOut 70 = .ok (.iload 6, 2) := zk21 6 (by decide +kernel)
theorem dX5_workOut_72 : decode cX5_workOut 72 = .ok (.bipush (-2), 2) := zk16 254 rfl (by decide +kernel)
theorem dX5_workOut_74 : decode cX5_workOut 74 = .ok (.if_icmp .ne 7, 3) := zk160 0 7 rfl (by decide +kernel)
theorem dX5_workOut_77 : decode cX5_workOut 77 = .ok (.iload_n 2, 1) := zk28 (by decide +kernel)
theorem dX5_workOut_78 : decode cX5_workOut 78 = .ok (.goto 4, 3) := zk167 0 4 rfl (by decide +kernel)
theorem dX5_workOut_81 : decode cX5_workOut 81 = .ok (.iload_n 3, 1) := zk29 (by decide +kernel)
theorem dX5_workOut_82 : decode cX5_workOut 82 = .ok (.iastore, 1) := zk79 (by decide +kernel)
theorem dX5_workOut_83 : decode cX5_workOut 83 = .ok (.goto 86, 3) := zk167 0 86 rfl (by decide +kernel)
theorem dX5_workOut_86 : decode cX5_workOut 86 = .ok (.iload 6, 2) := zk21 6 (by decide +kernel)
theorem dX5_workOut_88 : decode cX5_workOut 88 = .ok (.sipush (-1033), 3) := zk17 251 247 rfl (by decide +kernel)
theorem dX5_workOut_91 : decode cX5_workOut 91 = .ok (.if_icmp .ne 35, 3) := zk160 0 35 rfl (by decide +kernel)
theorem dX5_workOut_94 : decode cX5_workOut 94 = .ok (.iload 4, 2) := zk21 4 (by decide +kernel)
theorem dX5_workOut_96 : decode cX5_workOut 96 = .ok (.ifCond .ge 5, 3) := zk156 0 5 rfl (by decide +kernel)
theorem dX5_workOut_99 : decode cX5_workOut 99 = .ok (.iconst 0, 1) := zk3 (by decide +kernel)
theorem dX5_workOut_100 : decode cX5_workOut 100 = .ok (.ireturn, 1) := zk172 (by decide +kernel)
theorem dX5_workOut_101 : decode cX5_workOut 101 = .ok (.aload_n 0, 1) := zk42 (by decide +kernel)
theorem dX5_workOut_102 : decode cX5_workOut 102 = .ok (.getfield 15, 3) := zk180 0 15 (by decide +kernel)
theorem dX5_workOut_105 : decode cX5_workOut 105 = .ok (.iload 4, 2) := zk21 4 (by decide +kernel)
theorem dX5_workOut_107 : decode cX5_workOut 107 = .ok (.aload_n 0, 1) := zk42 (by decide +kernel)
theorem dX5_workOut_108 : decode cX5_workOut 108 = .ok (.getfield 15, 3) := zk180 0 15 (by decide +kernel)
theorem dX5_workOut_111 : decode cX5_workOut 111 = .ok (.iload 4, 2) := zk21 4 (by decide +kernel)
theorem dX5_workOut_113 : decode cX5_workOut 113 = .ok (.iaload, 1) := zk46 (by decide +kernel)
theorem dX5_workOut_114 : decode cX5_workOut 114 = .ok (.ifCond .ne 7, 3) := zk154 0 7 rfl (by decide +kernel)
theorem dX5_workOut_117 : decode cX5_workOut 117 = .ok (.iconst 1, 1) := zk4 (by decide +kernel)
theorem dX5_workOut_118 : decode cX5_workOut 118 = .ok (.goto 4, 3) := zk167 0 4 rfl (by decide +kernel)
theorem dX5_workOut_121 : decode cX5_workOut 121 = .ok (.iconst 0, 1) := zk3 (by decide +kernel)
theorem dX5_workOut_122 : decode cX5_workOut 122 = .ok (.iastore, 1) := zk79 (by decide +kernel)
theorem dX5_workOut_123 : decode cX5_workOut 123 = .ok (.goto 46, 3) := zk167 0 46 rfl (by decide +kernel)
theorem dX5_workOut_126 : decode cX5_workOut 126 = .ok (.iload 4, 2) := zk21 4 (by decide +kernel)
theorem dX5_workOut_128 : decode cX5_workOut 128 = .ok (.iconst 1, 1) := zk4 (by decide +kernel)
theorem dX5_workOut_129 : decode cX5_workOut 129 = .ok (.if_icmp .ge 5, 3) := zk162 0 5 rfl (by decide +kernel)
theorem dX5_workOut_132 : decode cX5_workOut 132 = .ok (.iconst 0, 1) := zk3 (by decide +kernel)
theorem dX5_workOut_133 : decode cX5_workOut 133 = .ok (.ireturn, 1) := zk172 (by decide +kernel)
theorem dX5_workOut_134 : decode cX5_workOut 134 = .ok (.iinc 4 (-1), 3) := by decide +kernel
theorem dX5_workOut_137 : decode cX5_workOut 137 = .ok (.aload_n 0, 1) := zk42 (by decide +kernel)
theorem dX5_workOut_138 : decode cX5_workOut 138 = .ok (.getfield 15, 3) := zk180 0 15 (by decide +kernel)
theorem dX5_workOut_141 : decode cX5_workOut 141 = .ok (.iload 4, 2) := zk21 4 (by decide +kernel)
theorem dX5_workOut_143 : decode cX5_workOut 143 = .ok (.sipush (-1000), 3) := zk17 252 24 rfl (by decide +kernel)
theorem dX5_workOut_146 : decode cX5_workOut 146 = .ok (.iload 6, 2) := zk21 6 (by decide +kernel)
theorem dX5_workOut_148 : decode cX5_workOut 148 = .ok (.isub, 1) := zk100 (by decide +kernel)
theorem dX5_workOut_149 : decode cX5_workOut 149 = .ok (.aload_n 0, 1) := zk42 (by decide +kernel)
theorem dX5_workOut_150 : decode cX5_workOut 150 = .ok (.getfield 15, 3) := zk180 0 15 (by decide +kernel)
theorem dX5_workOut_153 : decode cX5_workOut 153 = .ok (.iload 4, 2) := zk21 4 (by decide +kernel)
theorem dX5_workOut_155 : decode cX5_workOut 155 = .ok (.iaload, 1) := zk46 (by decide +kernel)
theorem dX5_workOut_156 : decode cX5_workOut 156 = .ok (.aload_n 0, 1) := zk42 (by decide +kernel)
theorem dX5_workOut_157 : decode cX5_workOut 157 = .ok (.getfield 15, 3) := zk180 0 15 (by decide +kernel)
theorem dX5_workOut_160 : decode cX5_workOut 160 = .ok (.iload 4, 2) := zk21 4 (by decide +kernel)
theorem dX5_workOut_162 : decode cX5_workOut 162 = .ok (.iconst 1, 1) := zk4 (by decide +kernel)
theorem dX5_workOut_163 : decode cX5_workOut 163 = .ok (.iadd, 1) := zk96 (by decide +kernel)
theorem dX5_workOut_164 : decode cX5_workOut 164 = .ok (.iaload, 1) := zk46 (by decide +kernel)
theorem dX5_workOut_165 : decode cX5_workOut 165 = .ok (.invokestatic 38, 3) := zk184 0 38 (by decide +kernel)
theorem dX5_workOut_168 : decode cX5_workOut 168 = .ok (.iastore, 1) := zk79 (by decide +kernel)
theorem dX5_workOut_169 : decode cX5_workOut 169 = .ok (.iinc 5 1, 3) := by decide +kernel
theorem dX5_workOut_172 : decode cX5_workOut 172 = .ok (.goto (-166), 3) := zk167 255 90 rfl (by decide +kernel)
theorem dX5_workOut_175 : decode cX5_workOut 175 = .ok (.iload 4, 2) := zk21 4 (by decide +kernel)
theorem dX5_workOut_177 : decode cX5_workOut 177 = .ok (.ifCond .ge 7, 3) := zk156 0 7 rfl (by decide +kernel)
theorem dX5_workOut_180 : decode cX5_workOut 180 = .ok (.iconst 0, 1) := zk3 (by decide +kernel)
theorem dX5_workOut_181 : decode cX5_workOut 181 = .ok (.goto 10, 3) := zk167 0 10 rfl (by decide +kernel)
theorem dX5_workOut_184 : decode cX5_workOut 184 = .ok (.aload_n 0, 1) := zk42 (by decide +kernel)
theorem dX5_workOut_185 : decode cX5_workOut 185 = .ok (.getfield 15, 3) := zk180 0 15 (by decide +kernel)
theorem dX5_workOut_188 : decode cX5_workOut 188 = .ok (.iload 4, 2) := zk21 4 (by decide +kernel)
theorem dX5_workOut_190 : decode cX5_workOut 190 = .ok (.iaload, 1) := zk46 (by decide +kernel)
theorem dX5_workOut_191 : decode cX5_workOut 191 = .ok (.ireturn, 1) := zk172 (by decide +kernel)
theorem dX5_joined_0 : decode cX5_joined 0 = .ok (.iload_n 0, 1) := zk26 (by decide +kernel)
theorem dX5_joined_1 : decode cX5_joined 1 = .ok (.lookupswitch 148 #[(38, 89), (42, 144), (43, 136), (45, 140), (60, 103), (61, 114), (62, 125), (124, 75)], 75) := by decide +kernel
theorem dX5_joined_76 : decode cX5_joined 76 = .ok (.iload_n 1, 1) := zk27 (by decide +kernel)
theorem dX5_joined_77 : decode cX5_joined 77 = .ok (.ifCond .ne 7, 3) := zk154 0 7 rfl (by decide +kernel)
theorem dX5_joined_80 : decode cX5_joined 80 = .ok (.iload_n 2, 1) := zk28 (by decide +kernel)
theorem dX5_joined_81 : decode cX5_joined 81 = .ok (.ifCond .eq 7, 3) := zk153 0 7 rfl (by decide +kernel)
theorem dX5_joined_84 : decode cX5_joined 84 = .ok (.iconst 1, 1) := zk4 (by decide +kernel)
theorem dX5_joined_85 : decode cX5_joined 85 = .ok (.goto 4, 3) := zk167 0 4 rfl (by decide +kernel)
theorem dX5_joined_88 : decode cX5_joined 88 = .ok (.iconst 0, 1) := zk3 (by decide +kernel)
theorem dX5_joined_89 : decode cX5_joined 89 = .ok (.ireturn, 1) := zk172 (by decide +kernel)
theorem dX5_joined_90 : decode cX5_joined 90 = .ok (.iload_n 1, 1) := zk27 (by decide +kernel)
theorem dX5_joined_91 : decode cX5_joined 91 = .ok (.ifCond .eq 11, 3) := zk153 0 11 rfl (by decide +kernel)
theorem dX5_joined_94 : decode cX5_joined 94 = .ok (.iload_n 2, 1) := zk28 (by decide +kernel)
theorem dX5_joined_95 : decode cX5_joined 95 = .ok (.ifCond .eq 7, 3) := zk153 0 7 rfl (by decide +kernel)
theorem dX5_joined_98 : decode cX5_joined 98 = .ok (.iconst 1, 1) := zk4 (by decide +kernel)
theorem dX5_joined_99 : decode cX5_joined 99 = .ok (.goto 4, 3) := zk167 0 4 rfl (by decide +kernel)
theorem dX5_joined_102 : decode cX5_joined 102 = .ok (.iconst 0, 1) := zk3 (by decide +kernel)
theorem dX5_joined_103 : decode cX5_joined 103 = .ok (.ireturn, 1) := zk172 (by decide +kernel)
theorem dX5_joined_104 : decode cX5_joined 104 = .ok (.iload_n 1, 1) := zk27 (by decide +kernel)
theorem dX5_joined_105 : decode cX5_joined 105 = .ok (.iload_n 2, 1) := zk28 (by decide +kernel)
theorem dX5_joined_106 : decode cX5_joined 106 = .ok (.if_icmp .ge 7, 3) := zk162 0 7 rfl (by decide +kernel)
theorem dX5_joined_109 : decode cX5_joined 109 = .ok (.iconst 1, 1) := zk4 (by decide +kernel)
theorem dX5_joined_110 : decode cX5_joined 110 = .ok (.goto 4, 3) := zk167 0 4 rfl (by decide +kernel)
theorem dX5_joined_113 : decode cX5_joined 113 = .ok (.iconst 0, 1) := zk3 (by decide +kernel)
theorem dX5_joined_114 : decode cX5_joined 114 = .ok (.ireturn, 1) := zk172 (by decide +kernel)
theorem dX5_joined_115 : decode cX5_joined 115 = .ok (.iload_n 1, 1) := zk27 (by decide +kernel)
theorem dX5_joined_116 : decode cX5_joined 116 = .ok (.iload_n 2, 1) := zk28 (by decide +kernel)
theorem dX5_joined_117 : decode cX5_joined 117 = .ok (.if_icmp .ne 7, 3) := zk160 0 7 rfl (by decide +kernel)
theorem dX5_joined_120 : decode cX5_joined 120 = .ok (.iconst 1, 1) := zk4 (by decide +kernel)
theorem dX5_joined_121 : decode cX5_joined 121 = .ok (.goto 4, 3) := zk167 0 4 rfl (by decide +kernel)
theorem dX5_joined_124 : decode cX5_joined 124 = .ok (.iconst 0, 1) := zk3 (by decide +kernel)
theorem dX5_joined_125 : decode cX5_joined 125 = .ok (.ireturn, 1) := zk172 (by decide +kernel)
theorem dX5_joined_126 : decode cX5_joined 126 = .ok (.iload_n 1, 1) := zk27 (by decide +kernel)
theorem dX5_joined_127 : decode cX5_joined 127 = .ok (.iload_n 2, 1) := zk28 (by decide +kernel)
theorem dX5_joined_128 : decode cX5_joined 128 = .ok (.if_icmp .le 7, 3) := zk164 0 7 rfl (by decide +kernel)
theorem dX5_joined_131 : decode cX5_joined 131 = .ok (.iconst 1, 1) := zk4 (by decide +kernel)
theorem dX5_joined_132 : decode cX5_joined 132 = .ok (.goto 4, 3) := zk167 0 4 rfl (by decide +kernel)
theorem dX5_joined_135 : decode cX5_joined 135 = .ok (.iconst 0, 1) := zk3 (by decide +kernel)
theorem dX5_joined_136 : decode cX5_joined 136 = .ok (.ireturn, 1) := zk172 (by decide +kernel)
theorem dX5_joined_137 : decode cX5_joined 137 = .ok (.iload_n 1, 1) := zk27 (by decide +kernel)
theorem dX5_joined_138 : decode cX5_joined 138 = .ok (.iload_n 2, 1) := zk28 (by decide +kernel)
theorem dX5_joined_139 : decode cX5_joined 139 = .ok (.iadd, 1) := zk96 (by decide +kernel)
theorem dX5_joined_140 : decode cX5_joined 140 = .ok (.ireturn, 1) := zk172 (by decide +kernel)
theorem dX5_joined_141 : decode cX5_joined 141 = .ok (.iload_n 1, 1) := zk27 (by decide +kernel)
theorem dX5_joined_142 : decode cX5_joined 142 = .ok (.iload_n 2, 1) := zk28 (by decide +kernel)
theorem dX5_joined_143 : decode cX5_joined 143 = .ok (.isub, 1) := zk100 (by decide +kernel)
theorem dX5_joined_144 : decode cX5_joined 144 = .ok (.ireturn, 1) := zk172 (by decide +kernel)
theorem dX5_joined_145 : decode cX5_joined 145 = .ok (.iload_n 1, 1) := zk27 (by decide +kernel)
theorem dX5_joined_146 : decode cX5_joined 146 = .ok (.iload_n 2, 1) := zk28 (by decide +kernel)
theorem dX5_joined_147 : decode cX5_joined 147 = .ok (.imul, 1) := zk104 (by decide +kernel)
theorem dX5_joined_148 : decode cX5_joined 148 = .ok (.ireturn, 1) := zk172 (by decide +kernel)
theorem dX5_joined_149 : decode cX5_joined 149 = .ok (.iload_n 2, 1) := zk28 (by decide +kernel)
theorem dX5_joined_150 : decode cX5_joined 150 = .ok (.ifCond .ne 7, 3) := zk154 0 7 rfl (by decide +kernel)
theorem dX5_joined_153 : decode cX5_joined 153 = .ok (.iconst 0, 1) := zk3 (by decide +kernel)
theorem dX5_joined_154 : decode cX5_joined 154 = .ok (.goto 6, 3) := zk167 0 6 rfl (by decide +kernel)
theorem dX5_joined_157 : decode cX5_joined 157 = .ok (.iload_n 1, 1) := zk27 (by decide +kernel)
theorem dX5_joined_158 : decode cX5_joined 158 = .ok (.iload_n 2, 1) := zk28 (by decide +kernel)
theorem dX5_joined_159 : decode cX5_joined 159 = .ok (.idiv, 1) := zk108 (by decide +kernel)
theorem dX5_joined_160 : decode cX5_joined 160 = .ok (.ireturn, 1) := zk172 (by decide +kernel)
theorem dX6_within_0 : decode cX6_within 0 = .ok (.iload_n 0, 1) := zk26 (by decide +kernel)
theorem dX6_within_1 : decode cX6_within 1 = .ok (.iload_n 1, 1) := zk27 (by decide +kernel)
theorem dX6_within_2 : decode cX6_within 2 = .ok (.if_icmp .lt 12, 3) := zk161 0 12 rfl (by decide +kernel)
theorem dX6_within_5 : decode cX6_within 5 = .ok (.iload_n 0, 1) := zk26 (by decide +kernel)
theorem dX6_within_6 : decode cX6_within 6 = .ok (.iload_n 2, 1) := zk28 (by decide +kernel)
theorem dX6_within_7 : decode cX6_within 7 = .ok (.if_icmp .gt 7, 3) := zk163 0 7 rfl (by decide +kernel)
theorem dX6_within_10 : decode cX6_within 10 = .ok (.iconst 1, 1) := zk4 (by decide +kernel)
theorem dX6_within_11 : decode cX6_within 11 = .ok (.goto 4, 3) := zk167 0 4 rfl (by decide +kernel)
theorem dX6_within_14 : decode cX6_within 14 = .ok (.iconst 0, 1) := zk3 (by decide +kernel)
theorem dX6_within_15 : decode cX6_within 15 = .ok (.ireturn, 1) := zk172 (by decide +kernel)
theorem dX6_held_0 : decode cX6_held 0 = .ok (.iload_n 1, 1) := zk27 (by decide +kernel)
theorem dX6_held_1 : decode cX6_held 1 = .ok (.iload_n 0, 1) := zk26 (by decide +kernel)
theorem dX6_held_2 : decode cX6_held 2 = .ok (.iload_n 2, 1) := zk28 (by decide +kernel)
theorem dX6_held_3 : decode cX6_held 3 = .ok (.invokestatic 167, 3) := zk184 0 167 (by decide +kernel)
theorem dX6_held_6 : decode cX6_held 6 = .ok (.invokestatic 344, 3) := zk184 1 88 (by decide +kernel)
theorem dX6_held_9 : decode cX6_held 9 = .ok (.ireturn, 1) := zk172 (by decide +kernel)
theorem dJ6_bitCount_0f7a4_0 : decode cJ6_bitCount_0f7a4 0 = .ok (.iload_n 0, 1) := zk26 (by decide +kernel)
theorem dJ6_bitCount_0f7a4_1 : decode cJ6_bitCount_0f7a4 1 = .ok (.iload_n 0, 1) := zk26 (by decide +kernel)
theorem dJ6_bitCount_0f7a4_2 : decode cJ6_bitCount_0f7a4 2 = .ok (.iconst 1, 1) := zk4 (by decide +kernel)
theorem dJ6_bitCount_0f7a4_3 : decode cJ6_bitCount_0f7a4 3 = .ok (.iushr, 1) := zk124 (by decide +kernel)
theorem dJ6_bitCount_0f7a4_4 : decode cJ6_bitCount_0f7a4 4 = .ok (.ldc_w 265, 3) := zk19 1 9 (by decide +kernel)
theorem dJ6_bitCount_0f7a4_7 : decode cJ6_bitCount_0f7a4 7 = .ok (.iand, 1) := zk126 (by decide +kernel)
theorem dJ6_bitCount_0f7a4_8 : decode cJ6_bitCount_0f7a4 8 = .ok (.isub, 1) := zk100 (by decide +kernel)
theorem dJ6_bitCount_0f7a4_9 : decode cJ6_bitCount_0f7a4 9 = .ok (.istore_n 0, 1) := zk59 (by decide +kernel)
theorem dJ6_bitCount_0f7a4_10 : decode cJ6_bitCount_0f7a4 10 = .ok (.iload_n 0, 1) := zk26 (by decide +kernel)
theorem dJ6_bitCount_0f7a4_11 : decode cJ6_bitCount_0f7a4 11 = .ok (.ldc_w 266, 3) := zk19 1 10 (by decide +kernel)
theorem dJ6_bitCount_0f7a4_14 : decode cJ6_bitCount_0f7a4 14 = .ok (.iand, 1) := zk126 (by decide +kernel)
theorem dJ6_bitCount_0f7a4_15 : decode cJ6_bitCount_0f7a4 15 = .ok (.iload_n 0, 1) := zk26 (by decide +kernel)
theorem dJ6_bitCount_0f7a4_16 : decode cJ6_bitCount_0f7a4 16 = .ok (.iconst 2, 1) := zk5 (by decide +kernel)
theorem dJ6_bitCount_0f7a4_17 : decode cJ6_bitCount_0f7a4 17 = .ok (.iushr, 1) := zk124 (by decide +kernel)
theorem dJ6_bitCount_0f7a4_18 : decode cJ6_bitCount_0f7a4 18 = .ok (.ldc_w 266, 3) := zk19 1 10 (by decide +kernel)
theorem dJ6_bitCount_0f7a4_21 : decode cJ6_bitCount_0f7a4 21 = .ok (.iand, 1) := zk126 (by decide +kernel)
theorem dJ6_bitCount_0f7a4_22 : decode cJ6_bitCount_0f7a4 22 = .ok (.iadd, 1) := zk96 (by decide +kernel)
theorem dJ6_bitCount_0f7a4_23 : decode cJ6_bitCount_0f7a4 23 = .ok (.istore_n 0, 1) := zk59 (by decide +kernel)
theorem dJ6_bitCount_0f7a4_24 : decode cJ6_bitCount_0f7a4 24 = .ok (.iload_n 0, 1) := zk26 (by decide +kernel)
theorem dJ6_bitCount_0f7a4_25 : decode cJ6_bitCount_0f7a4 25 = .ok (.iload_n 0, 1) := zk26 (by decide +kernel)
theorem dJ6_bitCount_0f7a4_26 : decode cJ6_bitCount_0f7a4 26 = .ok (.iconst 4, 1) := zk7 (by decide +kernel)
theorem dJ6_bitCount_0f7a4_27 : decode cJ6_bitCount_0f7a4 27 = .ok (.iushr, 1) := zk124 (by decide +kernel)
theorem dJ6_bitCount_0f7a4_28 : decode cJ6_bitCount_0f7a4 28 = .ok (.iadd, 1) := zk96 (by decide +kernel)
theorem dJ6_bitCount_0f7a4_29 : decode cJ6_bitCount_0f7a4 29 = .ok (.ldc_w 267, 3) := zk19 1 11 (by decide +kernel)
theorem dJ6_bitCount_0f7a4_32 : decode cJ6_bitCount_0f7a4 32 = .ok (.iand, 1) := zk126 (by decide +kernel)
theorem dJ6_bitCount_0f7a4_33 : decode cJ6_bitCount_0f7a4 33 = .ok (.istore_n 0, 1) := zk59 (by decide +kernel)
theorem dJ6_bitCount_0f7a4_34 : decode cJ6_bitCount_0f7a4 34 = .ok (.iload_n 0, 1) := zk26 (by decide +kernel)
theorem dJ6_bitCount_0f7a4_35 : decode cJ6_bitCount_0f7a4 35 = .ok (.iload_n 0, 1) := zk26 (by decide +kernel)
theorem dJ6_bitCount_0f7a4_36 : decode cJ6_bitCount_0f7a4 36 = .ok (.bipush 8, 2) := zk16 8 rfl (by decide +kernel)
theorem dJ6_bitCount_0f7a4_38 : decode cJ6_bitCount_0f7a4 38 = .ok (.iushr, 1) := zk124 (by decide +kernel)
theorem dJ6_bitCount_0f7a4_39 : decode cJ6_bitCount_0f7a4 39 = .ok (.iadd, 1) := zk96 (by decide +kernel)
theorem dJ6_bitCount_0f7a4_40 : decode cJ6_bitCount_0f7a4 40 = .ok (.istore_n 0, 1) := zk59 (by decide +kernel)
theorem dJ6_bitCount_0f7a4_41 : decode cJ6_bitCount_0f7a4 41 = .ok (.iload_n 0, 1) := zk26 (by decide +kernel)
theorem dJ6_bitCount_0f7a4_42 : decode cJ6_bitCount_0f7a4 42 = .ok (.iload_n 0, 1) := zk26 (by decide +kernel)
theorem dJ6_bitCount_0f7a4_43 : decode cJ6_bitCount_0f7a4 43 = .ok (.bipush 16, 2) := zk16 16 rfl (by decide +kernel)
theorem dJ6_bitCount_0f7a4_45 : decode cJ6_bitCount_0f7a4 45 = .ok (.iushr, 1) := zk124 (by decide +kernel)
theorem dJ6_bitCount_0f7a4_46 : decode cJ6_bitCount_0f7a4 46 = .ok (.iadd, 1) := zk96 (by decide +kernel)
theorem dJ6_bitCount_0f7a4_47 : decode cJ6_bitCount_0f7a4 47 = .ok (.istore_n 0, 1) := zk59 (by decide +kernel)
theorem dJ6_bitCount_0f7a4_48 : decode cJ6_bitCount_0f7a4 48 = .ok (.iload_n 0, 1) := zk26 (by decide +kernel)
theorem dJ6_bitCount_0f7a4_49 : decode cJ6_bitCount_0f7a4 49 = .ok (.bipush 63, 2) := zk16 63 rfl (by decide +kernel)
theorem dJ6_bitCount_0f7a4_51 : decode cJ6_bitCount_0f7a4 51 = .ok (.iand, 1) := zk126 (by decide +kernel)
theorem dJ6_bitCount_0f7a4_52 : decode cJ6_bitCount_0f7a4 52 = .ok (.ireturn, 1) := zk172 (by decide +kernel)
set_option maxRecDepth 20000 in
theorem gw_wsJ0_coder_7d493 : wsJ0_coder_7d493.all goodWord = true := by decide +kernel
set_option maxRecDepth 20000 in
theorem ggJ0_length_8abf5_J0_coder_7d493 : GoodIn wsJ0_length_8abf5 wsJ0_coder_7d493 := goodIn_r _ [6, 7, 8] rfl gw_wsJ0_coder_7d493
set_option maxRecDepth 20000 in
theorem gJ0_length_8abf5_J0_coder_7d493 : GoodIn wsJ0_length_8abf5 (wsV RJ0 335 RJ0 yJ0_coder_7d493 wsJ0_coder_7d493) := goodIn_app (goodIn_r _ [2, 3, 4, 5] rfl (by decide +kernel)) ggJ0_length_8abf5_J0_coder_7d493
theorem dJ0_length_8abf5_0 : decode cJ0_length_8abf5 0 = .ok (.aload_n 0, 1) := zk42 (by decide +kernel)
theorem dJ0_length_8abf5_1 : decode cJ0_length_8abf5 1 = .ok (.getfield 9, 3) := zk180 0 9 (by decide +kernel)
theorem dJ0_length_8abf5_4 : decode cJ0_length_8abf5 4 = .ok (.arraylength, 1) := zk190 (by decide +kernel)
theorem dJ0_length_8abf5_5 : decode cJ0_length_8abf5 5 = .ok (.aload_n 0, 1) := zk42 (by decide +kernel)
theorem dJ0_length_8abf5_6 : decode cJ0_length_8abf5 6 = .ok (.invokevirtual 335, 3) := zk182 1 79 (by decide +kernel)
theorem dJ0_length_8abf5_9 : decode cJ0_length_8abf5 9 = .ok (.ishr, 1) := zk122 (by decide +kernel)
theorem dJ0_length_8abf5_10 : decode cJ0_length_8abf5 10 = .ok (.ireturn, 1) := zk172 (by decide +kernel)
set_option maxRecDepth 20000 in
theorem gw_wsJ0_isLatin1_aae02 : wsJ0_isLatin1_aae02.all goodWord = true := by decide +kernel
def bs_wsJ0_charAt_5068e : List (List Cond) := [[.code yJ0_charAt_5068e cJ0_charAt_5068e 2 (some .char)], wsJ0_charAt_5068e_r1, wsJ0_charAt_5068e_r2]
theorem bse_wsJ0_charAt_5068e : wsJ0_charAt_5068e = bs_wsJ0_charAt_5068e.flatten := by
  unfold wsJ0_charAt_5068e bs_wsJ0_charAt_5068e
  simp only [List.flatten_cons, List.flatten_nil, List.append_nil, List.append_assoc, List.cons_append, List.nil_append]
set_option maxRecDepth 20000 in
theorem ggJ0_charAt_5068e_J0_isLatin1_aae02 : GoodIn wsJ0_charAt_5068e wsJ0_isLatin1_aae02 := goodIn_pc bs_wsJ0_charAt_5068e bse_wsJ0_charAt_5068e _ [(1, [5, 6, 7])] rfl gw_wsJ0_isLatin1_aae02
set_option maxRecDepth 20000 in
theorem gJ0_charAt_5068e_J0_isLatin1_aae02 : GoodIn wsJ0_charAt_5068e (wsV RJ0 492 RJ0 yJ0_isLatin1_aae02 wsJ0_isLatin1_aae02) := goodIn_app (goodIn_pc bs_wsJ0_charAt_5068e bse_wsJ0_charAt_5068e _ [(1, [1, 2, 3, 4])] rfl (by decide +kernel)) ggJ0_charAt_5068e_J0_isLatin1_aae02
set_option maxRecDepth 20000 in
theorem gw_wsJ1_charAt_3b067 : wsJ1_charAt_3b067.all goodWord = true := by decide +kernel
set_option maxRecDepth 20000 in
theorem ggJ0_charAt_5068e_J1_charAt_3b067 : GoodIn wsJ0_charAt_5068e wsJ1_charAt_3b067 := goodIn_pc bs_wsJ0_charAt_5068e bse_wsJ0_charAt_5068e _ [(1, [11, 12, 13, 4, 14, 15, 16, 17, 18, 19])] rfl gw_wsJ1_charAt_3b067
set_option maxRecDepth 20000 in
theorem gJ0_charAt_5068e_J1_charAt_3b067 : GoodIn wsJ0_charAt_5068e (va_wsS RJ0 495 yJ1_charAt_3b067 wsJ1_charAt_3b067) := goodIn_app (goodIn_pc bs_wsJ0_charAt_5068e bse_wsJ0_charAt_5068e _ [(1, [8, 9, 10])] rfl (by decide +kernel)) ggJ0_charAt_5068e_J1_charAt_3b067
theorem dJ0_charAt_5068e_0 : decode cJ0_charAt_5068e 0 = .ok (.aload_n 0, 1) := zk42 (by decide +kernel)
theorem dJ0_charAt_5068e_1 : decode cJ0_charAt_5068e 1 = .ok (.invokevirtual 492, 3) := zk182 1 236 (by decide +kernel)
theorem dJ0_charAt_5068e_4 : decode cJ0_charAt_5068e 4 = .ok (.ifCond .eq 12, 3) := zk153 0 12 rfl (by decide +kernel)
theorem dJ0_charAt_5068e_7 : decode cJ0_charAt_5068e 7 = .ok (.aload_n 0, 1) := zk42 (by decide +kernel)
theorem dJ0_charAt_5068e_8 : decode cJ0_charAt_5068e 8 = .ok (.getfield 9, 3) := zk180 0 9 (by decide +kernel)
theorem dJ0_charAt_5068e_11 : decode cJ0_charAt_5068e 11 = .ok (.iload_n 1, 1) := zk27 (by decide +kernel)
theorem dJ0_charAt_5068e_12 : decode cJ0_charAt_5068e 12 = .ok (.invokestatic 495, 3) := zk184 1 239 (by decide +kernel)
theorem dJ0_charAt_5068e_15 : decode cJ0_charAt_5068e 15 = .ok (.ireturn, 1) := zk172 (by decide +kernel)
set_option maxRecDepth 20000 in
theorem gw_wsJ0_indexOf_7cf53 : wsJ0_indexOf_7cf53.all goodWord = true := by decide +kernel
def bs_wsJ0_indexOf_0f7a4 : List (List Cond) := [[.code yJ0_indexOf_0f7a4 cJ0_indexOf_0f7a4 2 (some .int)], wsJ0_indexOf_0f7a4_r1, wsJ0_indexOf_0f7a4_r2, wsJ0_indexOf_0f7a4_r3, wsJ0_indexOf_0f7a4_r4]
theorem bse_wsJ0_indexOf_0f7a4 : wsJ0_indexOf_0f7a4 = bs_wsJ0_indexOf_0f7a4.flatten := by
  unfold wsJ0_indexOf_0f7a4 bs_wsJ0_indexOf_0f7a4
  simp only [List.flatten_cons, List.flatten_nil, List.append_nil, List.append_assoc, List.cons_append, List.nil_append]
set_option maxRecDepth 20000 in
theorem ggJ0_indexOf_0f7a4_J0_indexOf_7cf53 : GoodIn wsJ0_indexOf_0f7a4 wsJ0_indexOf_7cf53 := goodIn_pc bs_wsJ0_indexOf_0f7a4 bse_wsJ0_indexOf_0f7a4 _ [(1, [4, 5, 6, 7, 8, 3, 9, 10, 11, 12, 13, 14, 15, 16, 17, 18, 19, 20, 21, 22, 23]), (2, [0, 1, 2, 3, 4, 5, 6, 7, 8, 9, 10, 11, 12, 13, 14, 15, 16, 17, 18, 19, 20, 21, 22, 23]), (3, [0, 1, 2, 3, 4, 5, 6, 7, 8, 9, 10, 11, 12, 13, 14, 15, 16, 17, 18, 19, 20, 21, 22, 23]), (4, [0, 1, 2, 3, 4, 5, 6, 7, 8, 9, 10, 11, 12])] rfl gw_wsJ0_indexOf_7cf53
set_option maxRecDepth 20000 in
theorem gJ0_indexOf_0f7a4_J0_indexOf_7cf53 : GoodIn wsJ0_indexOf_0f7a4 (wsV RJ0 633 RJ0 yJ0_indexOf_7cf53 wsJ0_indexOf_7cf53) := goodIn_app (goodIn_pc bs_wsJ0_indexOf_0f7a4 bse_wsJ0_indexOf_0f7a4 _ [(1, [0, 1, 2, 3])] rfl (by decide +kernel)) ggJ0_indexOf_0f7a4_J0_indexOf_7cf53
theorem dJ0_indexOf_0f7a4_0 : decode cJ0_indexOf_0f7a4 0 = .ok (.aload_n 0, 1) := zk42 (by decide +kernel)
theorem dJ0_indexOf_0f7a4_1 : decode cJ0_indexOf_0f7a4 1 = .ok (.iload_n 1, 1) := zk27 (by decide +kernel)
theorem dJ0_indexOf_0f7a4_2 : decode cJ0_indexOf_0f7a4 2 = .ok (.iconst 0, 1) := zk3 (by decide +kernel)
theorem dJ0_indexOf_0f7a4_3 : decode cJ0_indexOf_0f7a4 3 = .ok (.invokevirtual 633, 3) := zk182 2 121 (by decide +kernel)
theorem dJ0_indexOf_0f7a4_6 : decode cJ0_indexOf_0f7a4 6 = .ok (.ireturn, 1) := zk172 (by decide +kernel)
def bs_wsJ0_indexOf_7cf53 : List (List Cond) := [[.code yJ0_indexOf_7cf53 cJ0_indexOf_7cf53 3 (some .int)], wsJ0_indexOf_7cf53_r1, wsJ0_indexOf_7cf53_r2, wsJ0_indexOf_7cf53_r3, wsJ0_indexOf_7cf53_r4]
theorem bse_wsJ0_indexOf_7cf53 : wsJ0_indexOf_7cf53 = bs_wsJ0_indexOf_7cf53.flatten := by
  unfold wsJ0_indexOf_7cf53 bs_wsJ0_indexOf_7cf53
  simp only [List.flatten_cons, List.flatten_nil, List.append_nil, List.append_assoc, List.cons_append, List.nil_append]
set_option maxRecDepth 20000 in
theorem ggJ0_indexOf_7cf53_J0_isLatin1_aae02 : GoodIn wsJ0_indexOf_7cf53 wsJ0_isLatin1_aae02 := goodIn_pc bs_wsJ0_indexOf_7cf53 bse_wsJ0_indexOf_7cf53 _ [(1, [5, 6, 7])] rfl gw_wsJ0_isLatin1_aae02
set_option maxRecDepth 20000 in
theorem gJ0_indexOf_7cf53_J0_isLatin1_aae02 : GoodIn wsJ0_indexOf_7cf53 (wsV RJ0 492 RJ0 yJ0_isLatin1_aae02 wsJ0_isLatin1_aae02) := goodIn_app (goodIn_pc bs_wsJ0_indexOf_7cf53 bse_wsJ0_indexOf_7cf53 _ [(1, [1, 2, 3, 4])] rfl (by decide +kernel)) ggJ0_indexOf_7cf53_J0_isLatin1_aae02
set_option maxRecDepth 20000 in
theorem gw_wsJ0_length_8abf5 : wsJ0_length_8abf5.all goodWord = true := by decide +kernel
set_option maxRecDepth 20000 in
theorem ggJ0_indexOf_7cf53_J0_length_8abf5 : GoodIn wsJ0_indexOf_7cf53 wsJ0_length_8abf5 := goodIn_pc bs_wsJ0_indexOf_7cf53 bse_wsJ0_indexOf_7cf53 _ [(1, [11, 0, 12, 13, 14, 4, 15, 6, 7])] rfl gw_wsJ0_length_8abf5
set_option maxRecDepth 20000 in
theorem gJ0_indexOf_7cf53_J0_length_8abf5 : GoodIn wsJ0_indexOf_7cf53 (wsV RJ0 505 RJ0 yJ0_length_8abf5 wsJ0_length_8abf5) := goodIn_app (goodIn_pc bs_wsJ0_indexOf_7cf53 bse_wsJ0_indexOf_7cf53 _ [(1, [8, 9, 10, 4])] rfl (by decide +kernel)) ggJ0_indexOf_7cf53_J0_length_8abf5
set_option maxRecDepth 20000 in
theorem gw_wsJ1_indexOf_4cfef : wsJ1_indexOf_4cfef.all goodWord = true := by decide +kernel
set_option maxRecDepth 20000 in
theorem ggJ0_indexOf_7cf53_J1_indexOf_4cfef : GoodIn wsJ0_indexOf_7cf53 wsJ1_indexOf_4cfef := goodIn_pc bs_wsJ0_indexOf_7cf53 bse_wsJ0_indexOf_7cf53 _ [(1, [19, 20, 21, 22, 23]), (2, [0, 1, 2, 3, 4]), (1, [18]), (2, [5, 6, 7, 8])] rfl gw_wsJ1_indexOf_4cfef
set_option maxRecDepth 20000 in
theorem gJ0_indexOf_7cf53_J1_indexOf_4cfef : GoodIn wsJ0_indexOf_7cf53 (va_wsS RJ0 637 yJ1_indexOf_4cfef wsJ1_indexOf_4cfef) := goodIn_app (goodIn_pc bs_wsJ0_indexOf_7cf53 bse_wsJ0_indexOf_7cf53 _ [(1, [16, 17, 18])] rfl (by decide +kernel)) ggJ0_indexOf_7cf53_J1_indexOf_4cfef
theorem dJ0_indexOf_7cf53_0 : decode cJ0_indexOf_7cf53 0 = .ok (.aload_n 0, 1) := zk42 (by decide +kernel)
theorem dJ0_indexOf_7cf53_1 : decode cJ0_indexOf_7cf53 1 = .ok (.invokevirtual 492, 3) := zk182 1 236 (by decide +kernel)
theorem dJ0_indexOf_7cf53_4 : decode cJ0_indexOf_7cf53 4 = .ok (.ifCond .eq 19, 3) := zk153 0 19 rfl (by decide +kernel)
theorem dJ0_indexOf_7cf53_7 : decode cJ0_indexOf_7cf53 7 = .ok (.aload_n 0, 1) := zk42 (by decide +kernel)
theorem dJ0_indexOf_7cf53_8 : decode cJ0_indexOf_7cf53 8 = .ok (.getfield 9, 3) := zk180 0 9 (by decide +kernel)
theorem dJ0_indexOf_7cf53_11 : decode cJ0_indexOf_7cf53 11 = .ok (.iload_n 1, 1) := zk27 (by decide +kernel)
theorem dJ0_indexOf_7cf53_12 : decode cJ0_indexOf_7cf53 12 = .ok (.iload_n 2, 1) := zk28 (by decide +kernel)
theorem dJ0_indexOf_7cf53_13 : decode cJ0_indexOf_7cf53 13 = .ok (.aload_n 0, 1) := zk42 (by decide +kernel)
theorem dJ0_indexOf_7cf53_14 : decode cJ0_indexOf_7cf53 14 = .ok (.invokevirtual 505, 3) := zk182 1 249 (by decide +kernel)
theorem dJ0_indexOf_7cf53_17 : decode cJ0_indexOf_7cf53 17 = .ok (.invokestatic 637, 3) := zk184 2 125 (by decide +kernel)
theorem dJ0_indexOf_7cf53_20 : decode cJ0_indexOf_7cf53 20 = .ok (.goto 16, 3) := zk167 0 16 rfl (by decide +kernel)
theorem dJ0_indexOf_7cf53_36 : decode cJ0_indexOf_7cf53 36 = .ok (.ireturn, 1) := zk172 (by decide +kernel)
theorem dJ0_coder_7d493_0 : decode cJ0_coder_7d493 0 = .ok (.getstatic 38, 3) := zk178 0 38 (by decide +kernel)
theorem dJ0_coder_7d493_3 : decode cJ0_coder_7d493 3 = .ok (.ifCond .eq 10, 3) := zk153 0 10 rfl (by decide +kernel)
theorem dJ0_coder_7d493_6 : decode cJ0_coder_7d493 6 = .ok (.aload_n 0, 1) := zk42 (by decide +kernel)
theorem dJ0_coder_7d493_7 : decode cJ0_coder_7d493 7 = .ok (.getfield 15, 3) := zk180 0 15 (by decide +kernel)
theorem dJ0_coder_7d493_10 : decode cJ0_coder_7d493 10 = .ok (.goto 4, 3) := zk167 0 4 rfl (by decide +kernel)
theorem dJ0_coder_7d493_14 : decode cJ0_coder_7d493 14 = .ok (.ireturn, 1) := zk172 (by decide +kernel)
theorem dJ0_isLatin1_aae02_0 : decode cJ0_isLatin1_aae02 0 = .ok (.getstatic 38, 3) := zk178 0 38 (by decide +kernel)
theorem dJ0_isLatin1_aae02_3 : decode cJ0_isLatin1_aae02 3 = .ok (.ifCond .eq 14, 3) := zk153 0 14 rfl (by decide +kernel)
theorem dJ0_isLatin1_aae02_6 : decode cJ0_isLatin1_aae02 6 = .ok (.aload_n 0, 1) := zk42 (by decide +kernel)
theorem dJ0_isLatin1_aae02_7 : decode cJ0_isLatin1_aae02 7 = .ok (.getfield 15, 3) := zk180 0 15 (by decide +kernel)
theorem dJ0_isLatin1_aae02_10 : decode cJ0_isLatin1_aae02 10 = .ok (.ifCond .ne 7, 3) := zk154 0 7 rfl (by decide +kernel)
theorem dJ0_isLatin1_aae02_13 : decode cJ0_isLatin1_aae02 13 = .ok (.iconst 1, 1) := zk4 (by decide +kernel)
theorem dJ0_isLatin1_aae02_14 : decode cJ0_isLatin1_aae02 14 = .ok (.goto 4, 3) := zk167 0 4 rfl (by decide +kernel)
theorem dJ0_isLatin1_aae02_18 : decode cJ0_isLatin1_aae02 18 = .ok (.ireturn, 1) := zk172 (by decide +kernel)
set_option maxRecDepth 20000 in
theorem gw_wsJ3_checkIndex_8e157 : wsJ3_checkIndex_8e157.all goodWord = true := by decide +kernel
set_option maxRecDepth 20000 in
theorem ggJ0_checkIndex_df160_J3_checkIndex_8e157 : GoodIn wsJ0_checkIndex_df160 wsJ3_checkIndex_8e157 := goodIn_r _ [5] rfl gw_wsJ3_checkIndex_8e157
set_option maxRecDepth 20000 in
theorem gJ0_checkIndex_df160_J3_checkIndex_8e157 : GoodIn wsJ0_checkIndex_df160 (va_wsS RJ0 1059 yJ3_checkIndex_8e157 wsJ3_checkIndex_8e157) := goodIn_app (goodIn_r _ [2, 3, 4] rfl (by decide +kernel)) ggJ0_checkIndex_df160_J3_checkIndex_8e157
theorem dJ0_checkIndex_df160_0 : decode cJ0_checkIndex_df160 0 = .ok (.iload_n 0, 1) := zk26 (by decide +kernel)
theorem dJ0_checkIndex_df160_1 : decode cJ0_checkIndex_df160 1 = .ok (.iload_n 1, 1) := zk27 (by decide +kernel)
theorem dJ0_checkIndex_df160_2 : decode cJ0_checkIndex_df160 2 = .ok (.getstatic 1053, 3) := zk178 4 29 (by decide +kernel)
theorem dJ0_checkIndex_df160_5 : decode cJ0_checkIndex_df160 5 = .ok (.invokestatic 1059, 3) := zk184 4 35 (by decide +kernel)
theorem dJ0_checkIndex_df160_8 : decode cJ0_checkIndex_df160 8 = .ok (.pop, 1) := zk87 (by decide +kernel)
theorem dJ0_checkIndex_df160_9 : decode cJ0_checkIndex_df160 9 = .ok (.return_, 1) := zk177 (by decide +kernel)
set_option maxRecDepth 20000 in
theorem gw_wsJ0_checkIndex_df160 : wsJ0_checkIndex_df160.all goodWord = true := by decide +kernel
set_option maxRecDepth 20000 in
theorem ggJ1_charAt_3b067_J0_checkIndex_df160 : GoodIn wsJ1_charAt_3b067 wsJ0_checkIndex_df160 := goodIn_r _ [4, 5, 6, 7, 8, 9] rfl gw_wsJ0_checkIndex_df160
set_option maxRecDepth 20000 in
theorem gJ1_charAt_3b067_J0_checkIndex_df160 : GoodIn wsJ1_charAt_3b067 (va_wsS RJ1 9 yJ0_checkIndex_df160 wsJ0_checkIndex_df160) := goodIn_app (goodIn_r _ [1, 2, 3] rfl (by decide +kernel)) ggJ1_charAt_3b067_J0_checkIndex_df160
theorem dJ1_charAt_3b067_0 : decode cJ1_charAt_3b067 0 = .ok (.iload_n 1, 1) := zk27 (by decide +kernel)
theorem dJ1_charAt_3b067_1 : decode cJ1_charAt_3b067 1 = .ok (.aload_n 0, 1) := zk42 (by decide +kernel)
theorem dJ1_charAt_3b067_2 : decode cJ1_charAt_3b067 2 = .ok (.arraylength, 1) := zk190 (by decide +kernel)
theorem dJ1_charAt_3b067_3 : decode cJ1_charAt_3b067 3 = .ok (.invokestatic 9, 3) := zk184 0 9 (by decide +kernel)
theorem dJ1_charAt_3b067_6 : decode cJ1_charAt_3b067 6 = .ok (.aload_n 0, 1) := zk42 (by decide +kernel)
theorem dJ1_charAt_3b067_7 : decode cJ1_charAt_3b067 7 = .ok (.iload_n 1, 1) := zk27 (by decide +kernel)
theorem dJ1_charAt_3b067_8 : decode cJ1_charAt_3b067 8 = .ok (.baload, 1) := zk51 (by decide +kernel)
theorem dJ1_charAt_3b067_9 : decode cJ1_charAt_3b067 9 = .ok (.sipush 255, 3) := zk17 0 255 rfl (by decide +kernel)
theorem dJ1_charAt_3b067_12 : decode cJ1_charAt_3b067 12 = .ok (.iand, 1) := zk126 (by decide +kernel)
theorem dJ1_charAt_3b067_13 : decode cJ1_charAt_3b067 13 = .ok (.i2c, 1) := zk146 (by decide +kernel)
theorem dJ1_charAt_3b067_14 : decode cJ1_charAt_3b067 14 = .ok (.ireturn, 1) := zk172 (by decide +kernel)
theorem dJ1_canEncode_9a6ad_0 : decode cJ1_canEncode_9a6ad 0 = .ok (.iload_n 0, 1) := zk26 (by decide +kernel)
theorem dJ1_canEncode_9a6ad_1 : decode cJ1_canEncode_9a6ad 1 = .ok (.ifCond .lt 14, 3) := zk155 0 14 rfl (by decide +kernel)
theorem dJ1_canEncode_9a6ad_4 : decode cJ1_canEncode_9a6ad 4 = .ok (.iload_n 0, 1) := zk26 (by decide +kernel)
theorem dJ1_canEncode_9a6ad_5 : decode cJ1_canEncode_9a6ad 5 = .ok (.sipush 255, 3) := zk17 0 255 rfl (by decide +kernel)
theorem dJ1_canEncode_9a6ad_8 : decode cJ1_canEncode_9a6ad 8 = .ok (.if_icmp .gt 7, 3) := zk163 0 7 rfl (by decide +kernel)
theorem dJ1_canEncode_9a6ad_11 : decode cJ1_canEncode_9a6ad 11 = .ok (.iconst 1, 1) := zk4 (by decide +kernel)
theorem dJ1_canEncode_9a6ad_12 : decode cJ1_canEncode_9a6ad 12 = .ok (.goto 4, 3) := zk167 0 4 rfl (by decide +kernel)
theorem dJ1_canEncode_9a6ad_15 : decode cJ1_canEncode_9a6ad 15 = .ok (.iconst 0, 1) := zk3 (by decide +kernel)
theorem dJ1_canEncode_9a6ad_16 : decode cJ1_canEncode_9a6ad 16 = .ok (.ireturn, 1) := zk172 (by decide +kernel)
set_option maxRecDepth 20000 in
theorem gw_wsJ1_canEncode_9a6ad : wsJ1_canEncode_9a6ad.all goodWord = true := by decide +kernel
set_option maxRecDepth 20000 in
theorem ggJ1_indexOf_4cfef_J1_canEncode_9a6ad : GoodIn wsJ1_indexOf_4cfef wsJ1_canEncode_9a6ad := goodIn_r _ [11] rfl gw_wsJ1_canEncode_9a6ad
set_option maxRecDepth 20000 in
theorem gJ1_indexOf_4cfef_J1_canEncode_9a6ad : GoodIn wsJ1_indexOf_4cfef (va_wsS RJ1 88 yJ1_canEncode_9a6ad wsJ1_canEncode_9a6ad) := goodIn_app (goodIn_r _ [8, 9, 10] rfl (by decide +kernel)) ggJ1_indexOf_4cfef_J1_canEncode_9a6ad
set_option maxRecDepth 20000 in
theorem gw_wsJ1_indexOfChar_4cfef : wsJ1_indexOfChar_4cfef.all goodWord = true := by decide +kernel
set_option maxRecDepth 20000 in
theorem ggJ1_indexOf_4cfef_J1_indexOfChar_4cfef : GoodIn wsJ1_indexOf_4cfef wsJ1_indexOfChar_4cfef := goodIn_r _ [14] rfl gw_wsJ1_indexOfChar_4cfef
set_option maxRecDepth 20000 in
theorem gJ1_indexOf_4cfef_J1_indexOfChar_4cfef : GoodIn wsJ1_indexOf_4cfef (va_wsS RJ1 95 yJ1_indexOfChar_4cfef wsJ1_indexOfChar_4cfef) := goodIn_app (goodIn_r _ [12, 13, 10] rfl (by decide +kernel)) ggJ1_indexOf_4cfef_J1_indexOfChar_4cfef
theorem dJ1_indexOf_4cfef_0 : decode cJ1_indexOf_4cfef 0 = .ok (.iload_n 1, 1) := zk27 (by decide +kernel)
theorem dJ1_indexOf_4cfef_1 : decode cJ1_indexOf_4cfef 1 = .ok (.invokestatic 88, 3) := zk184 0 88 (by decide +kernel)
theorem dJ1_indexOf_4cfef_4 : decode cJ1_indexOf_4cfef 4 = .ok (.ifCond .ne 5, 3) := zk154 0 5 rfl (by decide +kernel)
theorem dJ1_indexOf_4cfef_7 : decode cJ1_indexOf_4cfef 7 = .ok (.iconst (-1), 1) := zk2 (by decide +kernel)
theorem dJ1_indexOf_4cfef_8 : decode cJ1_indexOf_4cfef 8 = .ok (.ireturn, 1) := zk172 (by decide +kernel)
theorem dJ1_indexOf_4cfef_9 : decode cJ1_indexOf_4cfef 9 = .ok (.iload_n 2, 1) := zk28 (by decide +kernel)
theorem dJ1_indexOf_4cfef_10 : decode cJ1_indexOf_4cfef 10 = .ok (.iconst 0, 1) := zk3 (by decide +kernel)
theorem dJ1_indexOf_4cfef_11 : decode cJ1_indexOf_4cfef 11 = .ok (.invokestatic 92, 3) := zk184 0 92 (by decide +kernel)
theorem dJ1_indexOf_4cfef_14 : decode cJ1_indexOf_4cfef 14 = .ok (.istore_n 2, 1) := zk61 (by decide +kernel)
theorem dJ1_indexOf_4cfef_15 : decode cJ1_indexOf_4cfef 15 = .ok (.iload_n 3, 1) := zk29 (by decide +kernel)
theorem dJ1_indexOf_4cfef_16 : decode cJ1_indexOf_4cfef 16 = .ok (.aload_n 0, 1) := zk42 (by decide +kernel)
theorem dJ1_indexOf_4cfef_17 : decode cJ1_indexOf_4cfef 17 = .ok (.arraylength, 1) := zk190 (by decide +kernel)
theorem dJ1_indexOf_4cfef_18 : decode cJ1_indexOf_4cfef 18 = .ok (.invokestatic 38, 3) := zk184 0 38 (by decide +kernel)
theorem dJ1_indexOf_4cfef_21 : decode cJ1_indexOf_4cfef 21 = .ok (.istore_n 3, 1) := zk62 (by decide +kernel)
theorem dJ1_indexOf_4cfef_22 : decode cJ1_indexOf_4cfef 22 = .ok (.iload_n 2, 1) := zk28 (by decide +kernel)
theorem dJ1_indexOf_4cfef_23 : decode cJ1_indexOf_4cfef 23 = .ok (.iload_n 3, 1) := zk29 (by decide +kernel)
theorem dJ1_indexOf_4cfef_24 : decode cJ1_indexOf_4cfef 24 = .ok (.if_icmp .lt 5, 3) := zk161 0 5 rfl (by decide +kernel)
theorem dJ1_indexOf_4cfef_27 : decode cJ1_indexOf_4cfef 27 = .ok (.iconst (-1), 1) := zk2 (by decide +kernel)
theorem dJ1_indexOf_4cfef_28 : decode cJ1_indexOf_4cfef 28 = .ok (.ireturn, 1) := zk172 (by decide +kernel)
theorem dJ1_indexOf_4cfef_29 : decode cJ1_indexOf_4cfef 29 = .ok (.aload_n 0, 1) := zk42 (by decide +kernel)
theorem dJ1_indexOf_4cfef_30 : decode cJ1_indexOf_4cfef 30 = .ok (.iload_n 1, 1) := zk27 (by decide +kernel)
theorem dJ1_indexOf_4cfef_31 : decode cJ1_indexOf_4cfef 31 = .ok (.iload_n 2, 1) := zk28 (by decide +kernel)
theorem dJ1_indexOf_4cfef_32 : decode cJ1_indexOf_4cfef 32 = .ok (.iload_n 3, 1) := zk29 (by decide +kernel)
theorem dJ1_indexOf_4cfef_33 : decode cJ1_indexOf_4cfef 33 = .ok (.invokestatic 95, 3) := zk184 0 95 (by decide +kernel)
theorem dJ1_indexOf_4cfef_36 : decode cJ1_indexOf_4cfef 36 = .ok (.ireturn, 1) := zk172 (by decide +kernel)
theorem dJ1_indexOfChar_4cfef_0 : decode cJ1_indexOfChar_4cfef 0 = .ok (.iload_n 1, 1) := zk27 (by decide +kernel)
theorem dJ1_indexOfChar_4cfef_1 : decode cJ1_indexOfChar_4cfef 1 = .ok (.i2b, 1) := zk145 (by decide +kernel)
theorem dJ1_indexOfChar_4cfef_2 : decode cJ1_indexOfChar_4cfef 2 = .ok (.istore 4, 2) := zk54 4 (by decide +kernel)
theorem dJ1_indexOfChar_4cfef_4 : decode cJ1_indexOfChar_4cfef 4 = .ok (.iload_n 2, 1) := zk28 (by decide +kernel)
theorem dJ1_indexOfChar_4cfef_5 : decode cJ1_indexOfChar_4cfef 5 = .ok (.istore 5, 2) := zk54 5 (by decide +kernel)
theorem dJ1_indexOfChar_4cfef_7 : decode cJ1_indexOfChar_4cfef 7 = .ok (.iload 5, 2) := zk21 5 (by decide +kernel)
theorem dJ1_indexOfChar_4cfef_9 : decode cJ1_indexOfChar_4cfef 9 = .ok (.iload_n 3, 1) := zk29 (by decide +kernel)
theorem dJ1_indexOfChar_4cfef_10 : decode cJ1_indexOfChar_4cfef 10 = .ok (.if_icmp .ge 21, 3) := zk162 0 21 rfl (by decide +kernel)
theorem dJ1_indexOfChar_4cfef_13 : decode cJ1_indexOfChar_4cfef 13 = .ok (.aload_n 0, 1) := zk42 (by decide +kernel)
theorem dJ1_indexOfChar_4cfef_14 : decode cJ1_indexOfChar_4cfef 14 = .ok (.iload 5, 2) := zk21 5 (by decide +kernel)
theorem dJ1_indexOfChar_4cfef_16 : decode cJ1_indexOfChar_4cfef 16 = .ok (.baload, 1) := zk51 (by decide +kernel)
theorem dJ1_indexOfChar_4cfef_17 : decode cJ1_indexOfChar_4cfef 17 = .ok (.iload 4, 2) := zk21 4 (by decide +kernel)
theorem dJ1_indexOfChar_4cfef_19 : decode cJ1_indexOfChar_4cfef 19 = .ok (.if_icmp .ne 6, 3) := zk160 0 6 rfl (by decide +kernel)
theorem dJ1_indexOfChar_4cfef_22 : decode cJ1_indexOfChar_4cfef 22 = .ok (.iload 5, 2) := zk21 5 (by decide +kernel)
theorem dJ1_indexOfChar_4cfef_24 : decode cJ1_indexOfChar_4cfef 24 = .ok (.ireturn, 1) := zk172 (by decide +kernel)
theorem dJ1_indexOfChar_4cfef_25 : decode cJ1_indexOfChar_4cfef 25 = .ok (.iinc 5 1, 3) := by decide +kernel
theorem dJ1_indexOfChar_4cfef_28 : decode cJ1_indexOfChar_4cfef 28 = .ok (.goto (-21), 3) := zk167 255 235 rfl (by decide +kernel)
theorem dJ1_indexOfChar_4cfef_31 : decode cJ1_indexOfChar_4cfef 31 = .ok (.iconst (-1), 1) := zk2 (by decide +kernel)
theorem dJ1_indexOfChar_4cfef_32 : decode cJ1_indexOfChar_4cfef 32 = .ok (.ireturn, 1) := zk172 (by decide +kernel)
theorem dJ3_checkIndex_8e157_0 : decode cJ3_checkIndex_8e157 0 = .ok (.iload_n 0, 1) := zk26 (by decide +kernel)
theorem dJ3_checkIndex_8e157_1 : decode cJ3_checkIndex_8e157 1 = .ok (.ifCond .lt 8, 3) := zk155 0 8 rfl (by decide +kernel)
theorem dJ3_checkIndex_8e157_4 : decode cJ3_checkIndex_8e157 4 = .ok (.iload_n 0, 1) := zk26 (by decide +kernel)
theorem dJ3_checkIndex_8e157_5 : decode cJ3_checkIndex_8e157 5 = .ok (.iload_n 1, 1) := zk27 (by decide +kernel)
theorem dJ3_checkIndex_8e157_6 : decode cJ3_checkIndex_8e157 6 = .ok (.if_icmp .lt 10, 3) := zk161 0 10 rfl (by decide +kernel)
theorem dJ3_checkIndex_8e157_16 : decode cJ3_checkIndex_8e157 16 = .ok (.iload_n 0, 1) := zk26 (by decide +kernel)
theorem dJ3_checkIndex_8e157_17 : decode cJ3_checkIndex_8e157 17 = .ok (.ireturn, 1) := zk172 (by decide +kernel)
