theorem dX7_orNone_0 : decode cX7_orNone 0 = .ok (.iload_n 0, 1) := zk26 (by decide +kernel)
theorem dX7_orNone_1 : decode cX7_orNone 1 = .ok (.ifCond .ge 8, 3) := zk156 0 8 rfl (by decide +kernel)
theorem dX7_orNone_4 : decode cX7_orNone 4 = .ok (.ldc 64, 2) := zk18 64 (by decide +kernel)
theorem dX7_orNone_6 : decode cX7_orNone 6 = .ok (.goto 4, 3) := zk167 0 4 rfl (by decide +kernel)
theorem dX7_orNone_9 : decode cX7_orNone 9 = .ok (.iload_n 0, 1) := zk26 (by decide +kernel)
theorem dX7_orNone_10 : decode cX7_orNone 10 = .ok (.ireturn, 1) := zk172 (by decide +kernel)
set_option maxRecDepth 20000 in
theorem ggX7_isText_X7_isIn : GoodIn wsX7_isText wsX7_isIn := goodIn_r _ [5] rfl gw_wsX7_isIn
set_option maxRecDepth 20000 in
theorem gX7_isText_X7_isIn : GoodIn wsX7_isText (va_wsS RX7 65 yX7_isIn wsX7_isIn) := goodIn_app (goodIn_r _ [2, 3, 4] rfl (by decide +kernel)) ggX7_isText_X7_isIn
theorem dX7_isText_0 : decode cX7_isText 0 = .ok (.iload_n 1, 1) := zk27 (by decide +kernel)
theorem dX7_isText_1 : decode cX7_isText 1 = .ok (.i2l, 1) := zk133 (by decide +kernel)
theorem dX7_isText_2 : decode cX7_isText 2 = .ok (.lconst 0, 1) := zk9 (by decide +kernel)
theorem dX7_isText_3 : decode cX7_isText 3 = .ok (.aload_n 0, 1) := zk42 (by decide +kernel)
theorem dX7_isText_4 : decode cX7_isText 4 = .ok (.getfield 7, 3) := zk180 0 7 (by decide +kernel)
theorem dX7_isText_7 : decode cX7_isText 7 = .ok (.iconst 1, 1) := zk4 (by decide +kernel)
theorem dX7_isText_8 : decode cX7_isText 8 = .ok (.iaload, 1) := zk46 (by decide +kernel)
theorem dX7_isText_9 : decode cX7_isText 9 = .ok (.iconst 1, 1) := zk4 (by decide +kernel)
theorem dX7_isText_10 : decode cX7_isText 10 = .ok (.isub, 1) := zk100 (by decide +kernel)
theorem dX7_isText_11 : decode cX7_isText 11 = .ok (.i2l, 1) := zk133 (by decide +kernel)
theorem dX7_isText_12 : decode cX7_isText 12 = .ok (.invokestatic 65, 3) := zk184 0 65 (by decide +kernel)
theorem dX7_isText_15 : decode cX7_isText 15 = .ok (.ireturn, 1) := zk172 (by decide +kernel)
set_option maxRecDepth 20000 in
theorem ggX7_comes_X7_sets : GoodIn wsX7_comes wsX7_sets := goodIn_r _ [6, 1, 7, 8, 9, 10, 11, 12, 13, 14, 15, 16, 17, 18, 19, 20, 21, 22, 23, 24, 25, 26, 27, 28, 29, 30, 31, 32, 33, 34, 35, 36, 37] rfl gw_wsX7_sets
set_option maxRecDepth 20000 in
theorem gX7_comes_X7_sets : GoodIn wsX7_comes (wsV RX7 70 RX7 yX7_sets wsX7_sets) := goodIn_app (goodIn_r _ [2, 3, 4, 5] rfl (by decide +kernel)) ggX7_comes_X7_sets
theorem dX7_comes_0 : decode cX7_comes 0 = .ok (.aload_n 0, 1) := zk42 (by decide +kernel)
theorem dX7_comes_1 : decode cX7_comes 1 = .ok (.getfield 7, 3) := zk180 0 7 (by decide +kernel)
theorem dX7_comes_4 : decode cX7_comes 4 = .ok (.iconst 0, 1) := zk3 (by decide +kernel)
theorem dX7_comes_5 : decode cX7_comes 5 = .ok (.iaload, 1) := zk46 (by decide +kernel)
theorem dX7_comes_6 : decode cX7_comes 6 = .ok (.istore 4, 2) := zk54 4 (by decide +kernel)
theorem dX7_comes_8 : decode cX7_comes 8 = .ok (.aload_n 0, 1) := zk42 (by decide +kernel)
theorem dX7_comes_9 : decode cX7_comes 9 = .ok (.getfield 7, 3) := zk180 0 7 (by decide +kernel)
theorem dX7_comes_12 : decode cX7_comes 12 = .ok (.iconst 0, 1) := zk3 (by decide +kernel)
theorem dX7_comes_13 : decode cX7_comes 13 = .ok (.dup2, 1) := zk92 (by decide +kernel)
theorem dX7_comes_14 : decode cX7_comes 14 = .ok (.iaload, 1) := zk46 (by decide +kernel)
theorem dX7_comes_15 : decode cX7_comes 15 = .ok (.iconst 1, 1) := zk4 (by decide +kernel)
theorem dX7_comes_16 : decode cX7_comes 16 = .ok (.iadd, 1) := zk96 (by decide +kernel)
theorem dX7_comes_17 : decode cX7_comes 17 = .ok (.iastore, 1) := zk79 (by decide +kernel)
theorem dX7_comes_18 : decode cX7_comes 18 = .ok (.aload_n 0, 1) := zk42 (by decide +kernel)
theorem dX7_comes_19 : decode cX7_comes 19 = .ok (.iload 4, 2) := zk21 4 (by decide +kernel)
theorem dX7_comes_21 : decode cX7_comes 21 = .ok (.iconst 0, 1) := zk3 (by decide +kernel)
theorem dX7_comes_22 : decode cX7_comes 22 = .ok (.iload_n 1, 1) := zk27 (by decide +kernel)
theorem dX7_comes_23 : decode cX7_comes 23 = .ok (.invokevirtual 70, 3) := zk182 0 70 (by decide +kernel)
theorem dX7_comes_26 : decode cX7_comes 26 = .ok (.aload_n 0, 1) := zk42 (by decide +kernel)
theorem dX7_comes_27 : decode cX7_comes 27 = .ok (.iload 4, 2) := zk21 4 (by decide +kernel)
theorem dX7_comes_29 : decode cX7_comes 29 = .ok (.iconst 1, 1) := zk4 (by decide +kernel)
theorem dX7_comes_30 : decode cX7_comes 30 = .ok (.iload_n 2, 1) := zk28 (by decide +kernel)
theorem dX7_comes_31 : decode cX7_comes 31 = .ok (.invokevirtual 70, 3) := zk182 0 70 (by decide +kernel)
theorem dX7_comes_34 : decode cX7_comes 34 = .ok (.aload_n 0, 1) := zk42 (by decide +kernel)
theorem dX7_comes_35 : decode cX7_comes 35 = .ok (.iload 4, 2) := zk21 4 (by decide +kernel)
theorem dX7_comes_37 : decode cX7_comes 37 = .ok (.iconst 2, 1) := zk5 (by decide +kernel)
theorem dX7_comes_38 : decode cX7_comes 38 = .ok (.bipush 100, 2) := zk16 100 rfl (by decide +kernel)
theorem dX7_comes_40 : decode cX7_comes 40 = .ok (.invokevirtual 70, 3) := zk182 0 70 (by decide +kernel)
theorem dX7_comes_43 : decode cX7_comes 43 = .ok (.aload_n 0, 1) := zk42 (by decide +kernel)
theorem dX7_comes_44 : decode cX7_comes 44 = .ok (.iload 4, 2) := zk21 4 (by decide +kernel)
theorem dX7_comes_46 : decode cX7_comes 46 = .ok (.iconst 3, 1) := zk6 (by decide +kernel)
theorem dX7_comes_47 : decode cX7_comes 47 = .ok (.iload_n 3, 1) := zk29 (by decide +kernel)
theorem dX7_comes_48 : decode cX7_comes 48 = .ok (.invokevirtual 70, 3) := zk182 0 70 (by decide +kernel)
theorem dX7_comes_51 : decode cX7_comes 51 = .ok (.return_, 1) := zk177 (by decide +kernel)
set_option maxRecDepth 20000 in
theorem ggX7_worth_X7_of : GoodIn wsX7_worth wsX7_of := goodIn_r _ [5, 6, 7, 8, 9, 10, 11, 12, 13, 14, 15, 16, 17, 18, 19, 20, 21, 22, 23, 24, 25, 26, 27, 28, 29, 30, 31, 32, 33, 34, 35, 36, 37] rfl gw_wsX7_of
set_option maxRecDepth 20000 in
theorem gX7_worth_X7_of : GoodIn wsX7_worth (wsV RX7 85 RX7 yX7_of wsX7_of) := goodIn_app (goodIn_r _ [1, 2, 3, 4] rfl (by decide +kernel)) ggX7_worth_X7_of
theorem dX7_worth_0 : decode cX7_worth 0 = .ok (.aload_n 0, 1) := zk42 (by decide +kernel)
theorem dX7_worth_1 : decode cX7_worth 1 = .ok (.iload_n 1, 1) := zk27 (by decide +kernel)
theorem dX7_worth_2 : decode cX7_worth 2 = .ok (.iconst 3, 1) := zk6 (by decide +kernel)
theorem dX7_worth_3 : decode cX7_worth 3 = .ok (.invokevirtual 85, 3) := zk182 0 85 (by decide +kernel)
theorem dX7_worth_6 : decode cX7_worth 6 = .ok (.istore_n 2, 1) := zk61 (by decide +kernel)
theorem dX7_worth_7 : decode cX7_worth 7 = .ok (.aload_n 0, 1) := zk42 (by decide +kernel)
theorem dX7_worth_8 : decode cX7_worth 8 = .ok (.iload_n 1, 1) := zk27 (by decide +kernel)
theorem dX7_worth_9 : decode cX7_worth 9 = .ok (.iconst 0, 1) := zk3 (by decide +kernel)
theorem dX7_worth_10 : decode cX7_worth 10 = .ok (.invokevirtual 85, 3) := zk182 0 85 (by decide +kernel)
theorem dX7_worth_13 : decode cX7_worth 13 = .ok (.tableswitch 59 1 5 #[35, 40, 45, 52, 57], 35) := by decide +kernel
theorem dX7_worth_48 : decode cX7_worth 48 = .ok (.iload_n 2, 1) := zk28 (by decide +kernel)
theorem dX7_worth_49 : decode cX7_worth 49 = .ok (.bipush 6, 2) := zk16 6 rfl (by decide +kernel)
theorem dX7_worth_51 : decode cX7_worth 51 = .ok (.iadd, 1) := zk96 (by decide +kernel)
theorem dX7_worth_52 : decode cX7_worth 52 = .ok (.ireturn, 1) := zk172 (by decide +kernel)
theorem dX7_worth_53 : decode cX7_worth 53 = .ok (.bipush 99, 2) := zk16 99 rfl (by decide +kernel)
theorem dX7_worth_55 : decode cX7_worth 55 = .ok (.iload_n 2, 1) := zk28 (by decide +kernel)
theorem dX7_worth_56 : decode cX7_worth 56 = .ok (.isub, 1) := zk100 (by decide +kernel)
theorem dX7_worth_57 : decode cX7_worth 57 = .ok (.ireturn, 1) := zk172 (by decide +kernel)
theorem dX7_worth_58 : decode cX7_worth 58 = .ok (.iconst 2, 1) := zk5 (by decide +kernel)
theorem dX7_worth_59 : decode cX7_worth 59 = .ok (.iload_n 2, 1) := zk28 (by decide +kernel)
theorem dX7_worth_60 : decode cX7_worth 60 = .ok (.bipush 6, 2) := zk16 6 rfl (by decide +kernel)
theorem dX7_worth_62 : decode cX7_worth 62 = .ok (.iadd, 1) := zk96 (by decide +kernel)
theorem dX7_worth_63 : decode cX7_worth 63 = .ok (.imul, 1) := zk104 (by decide +kernel)
theorem dX7_worth_64 : decode cX7_worth 64 = .ok (.ireturn, 1) := zk172 (by decide +kernel)
theorem dX7_worth_65 : decode cX7_worth 65 = .ok (.bipush 91, 2) := zk16 91 rfl (by decide +kernel)
theorem dX7_worth_67 : decode cX7_worth 67 = .ok (.iload_n 2, 1) := zk28 (by decide +kernel)
theorem dX7_worth_68 : decode cX7_worth 68 = .ok (.isub, 1) := zk100 (by decide +kernel)
theorem dX7_worth_69 : decode cX7_worth 69 = .ok (.ireturn, 1) := zk172 (by decide +kernel)
theorem dX7_worth_70 : decode cX7_worth 70 = .ok (.iconst 2, 1) := zk5 (by decide +kernel)
theorem dX7_worth_71 : decode cX7_worth 71 = .ok (.ireturn, 1) := zk172 (by decide +kernel)
theorem dX7_worth_72 : decode cX7_worth 72 = .ok (.iload_n 2, 1) := zk28 (by decide +kernel)
theorem dX7_worth_73 : decode cX7_worth 73 = .ok (.ireturn, 1) := zk172 (by decide +kernel)
set_option maxRecDepth 20000 in
theorem ggX7_shadedSet_X7_isShaded : GoodIn wsX7_shadedSet wsX7_isShaded := goodIn_r _ [6, 1, 7, 8, 9, 5, 10, 11, 12, 13, 14, 15, 16, 17, 18, 19, 20, 21, 22, 23, 24, 25, 26, 27, 28, 29, 30, 31, 32, 33, 34, 35, 36, 37, 38, 39, 40, 41, 42, 43, 44, 45, 46, 47, 48] rfl gw_wsX7_isShaded
set_option maxRecDepth 20000 in
theorem gX7_shadedSet_X7_isShaded : GoodIn wsX7_shadedSet (wsV RX7 109 RX7 yX7_isShaded wsX7_isShaded) := goodIn_app (goodIn_r _ [2, 3, 4, 5] rfl (by decide +kernel)) ggX7_shadedSet_X7_isShaded
theorem dX7_shadedSet_0 : decode cX7_shadedSet 0 = .ok (.iconst 0, 1) := zk3 (by decide +kernel)
theorem dX7_shadedSet_1 : decode cX7_shadedSet 1 = .ok (.istore_n 1, 1) := zk60 (by decide +kernel)
theorem dX7_shadedSet_2 : decode cX7_shadedSet 2 = .ok (.iconst 0, 1) := zk3 (by decide +kernel)
theorem dX7_shadedSet_3 : decode cX7_shadedSet 3 = .ok (.istore_n 2, 1) := zk61 (by decide +kernel)
theorem dX7_shadedSet_4 : decode cX7_shadedSet 4 = .ok (.iload_n 2, 1) := zk28 (by decide +kernel)
theorem dX7_shadedSet_5 : decode cX7_shadedSet 5 = .ok (.aload_n 0, 1) := zk42 (by decide +kernel)
theorem dX7_shadedSet_6 : decode cX7_shadedSet 6 = .ok (.getfield 7, 3) := zk180 0 7 (by decide +kernel)
theorem dX7_shadedSet_9 : decode cX7_shadedSet 9 = .ok (.iconst 0, 1) := zk3 (by decide +kernel)
theorem dX7_shadedSet_10 : decode cX7_shadedSet 10 = .ok (.iaload, 1) := zk46 (by decide +kernel)
theorem dX7_shadedSet_11 : decode cX7_shadedSet 11 = .ok (.if_icmp .ge 27, 3) := zk162 0 27 rfl (by decide +kernel)
theorem dX7_shadedSet_14 : decode cX7_shadedSet 14 = .ok (.iload_n 1, 1) := zk27 (by decide +kernel)
theorem dX7_shadedSet_15 : decode cX7_shadedSet 15 = .ok (.aload_n 0, 1) := zk42 (by decide +kernel)
theorem dX7_shadedSet_16 : decode cX7_shadedSet 16 = .ok (.iload_n 2, 1) := zk28 (by decide +kernel)
theorem dX7_shadedSet_17 : decode cX7_shadedSet 17 = .ok (.invokevirtual 109, 3) := zk182 0 109 (by decide +kernel)
theorem dX7_shadedSet_20 : decode cX7_shadedSet 20 = .ok (.ifCond .eq 9, 3) := zk153 0 9 rfl (by decide +kernel)
theorem dX7_shadedSet_23 : decode cX7_shadedSet 23 = .ok (.iconst 1, 1) := zk4 (by decide +kernel)
theorem dX7_shadedSet_24 : decode cX7_shadedSet 24 = .ok (.iload_n 2, 1) := zk28 (by decide +kernel)
theorem dX7_shadedSet_25 : decode cX7_shadedSet 25 = .ok (.ishl, 1) := zk120 (by decide +kernel)
theorem dX7_shadedSet_26 : decode cX7_shadedSet 26 = .ok (.goto 4, 3) := zk167 0 4 rfl (by decide +kernel)
theorem dX7_shadedSet_29 : decode cX7_shadedSet 29 = .ok (.iconst 0, 1) := zk3 (by decide +kernel)
theorem dX7_shadedSet_30 : decode cX7_shadedSet 30 = .ok (.ior, 1) := zk128 (by decide +kernel)
theorem dX7_shadedSet_31 : decode cX7_shadedSet 31 = .ok (.istore_n 1, 1) := zk60 (by decide +kernel)
theorem dX7_shadedSet_32 : decode cX7_shadedSet 32 = .ok (.iinc 2 1, 3) := by decide +kernel
theorem dX7_shadedSet_35 : decode cX7_shadedSet 35 = .ok (.goto (-31), 3) := zk167 255 225 rfl (by decide +kernel)
theorem dX7_shadedSet_38 : decode cX7_shadedSet 38 = .ok (.iload_n 1, 1) := zk27 (by decide +kernel)
theorem dX7_shadedSet_39 : decode cX7_shadedSet 39 = .ok (.ireturn, 1) := zk172 (by decide +kernel)
set_option maxRecDepth 20000 in
theorem ggX7_firstShaded_X7_shadeFrom : GoodIn wsX7_firstShaded wsX7_shadeFrom := goodIn_r _ [6, 1, 7, 8, 9, 10, 11, 12, 13, 14, 15, 16, 17, 18, 19, 20, 21, 22, 23, 24, 25, 26, 27, 28, 29, 30, 31, 32, 33, 34, 35, 36, 37] rfl gw_wsX7_shadeFrom
set_option maxRecDepth 20000 in
theorem gX7_firstShaded_X7_shadeFrom : GoodIn wsX7_firstShaded (wsV RX7 89 RX7 yX7_shadeFrom wsX7_shadeFrom) := goodIn_app (goodIn_r _ [2, 3, 4, 5] rfl (by decide +kernel)) ggX7_firstShaded_X7_shadeFrom
theorem dX7_firstShaded_0 : decode cX7_firstShaded 0 = .ok (.aload_n 0, 1) := zk42 (by decide +kernel)
theorem dX7_firstShaded_1 : decode cX7_firstShaded 1 = .ok (.invokevirtual 89, 3) := zk182 0 89 (by decide +kernel)
theorem dX7_firstShaded_4 : decode cX7_firstShaded 4 = .ok (.ifCond .ge 7, 3) := zk156 0 7 rfl (by decide +kernel)
theorem dX7_firstShaded_7 : decode cX7_firstShaded 7 = .ok (.iconst 0, 1) := zk3 (by decide +kernel)
theorem dX7_firstShaded_8 : decode cX7_firstShaded 8 = .ok (.goto 7, 3) := zk167 0 7 rfl (by decide +kernel)
theorem dX7_firstShaded_11 : decode cX7_firstShaded 11 = .ok (.aload_n 0, 1) := zk42 (by decide +kernel)
theorem dX7_firstShaded_12 : decode cX7_firstShaded 12 = .ok (.invokevirtual 89, 3) := zk182 0 89 (by decide +kernel)
theorem dX7_firstShaded_15 : decode cX7_firstShaded 15 = .ok (.istore_n 1, 1) := zk60 (by decide +kernel)
theorem dX7_firstShaded_16 : decode cX7_firstShaded 16 = .ok (.iload_n 1, 1) := zk27 (by decide +kernel)
theorem dX7_firstShaded_17 : decode cX7_firstShaded 17 = .ok (.bipush 12, 2) := zk16 12 rfl (by decide +kernel)
theorem dX7_firstShaded_19 : decode cX7_firstShaded 19 = .ok (.if_icmp .ge 23, 3) := zk162 0 23 rfl (by decide +kernel)
theorem dX7_firstShaded_22 : decode cX7_firstShaded 22 = .ok (.iload_n 1, 1) := zk27 (by decide +kernel)
theorem dX7_firstShaded_23 : decode cX7_firstShaded 23 = .ok (.aload_n 0, 1) := zk42 (by decide +kernel)
theorem dX7_firstShaded_24 : decode cX7_firstShaded 24 = .ok (.invokevirtual 89, 3) := zk182 0 89 (by decide +kernel)
theorem dX7_firstShaded_27 : decode cX7_firstShaded 27 = .ok (.aload_n 0, 1) := zk42 (by decide +kernel)
theorem dX7_firstShaded_28 : decode cX7_firstShaded 28 = .ok (.getfield 7, 3) := zk180 0 7 (by decide +kernel)
theorem dX7_firstShaded_31 : decode cX7_firstShaded 31 = .ok (.bipush 8, 2) := zk16 8 rfl (by decide +kernel)
theorem dX7_firstShaded_33 : decode cX7_firstShaded 33 = .ok (.iaload, 1) := zk46 (by decide +kernel)
theorem dX7_firstShaded_34 : decode cX7_firstShaded 34 = .ok (.iadd, 1) := zk96 (by decide +kernel)
theorem dX7_firstShaded_35 : decode cX7_firstShaded 35 = .ok (.if_icmp .ge 7, 3) := zk162 0 7 rfl (by decide +kernel)
theorem dX7_firstShaded_38 : decode cX7_firstShaded 38 = .ok (.iload_n 1, 1) := zk27 (by decide +kernel)
theorem dX7_firstShaded_39 : decode cX7_firstShaded 39 = .ok (.goto 4, 3) := zk167 0 4 rfl (by decide +kernel)
theorem dX7_firstShaded_42 : decode cX7_firstShaded 42 = .ok (.iconst (-1), 1) := zk2 (by decide +kernel)
theorem dX7_firstShaded_43 : decode cX7_firstShaded 43 = .ok (.ireturn, 1) := zk172 (by decide +kernel)
def bs_wsX7_cloth : List (List Cond) := [[.code yX7_cloth cX7_cloth 2 (some .int)], wsX7_cloth_r1, wsX7_cloth_r2, wsX70]
theorem bse_wsX7_cloth : wsX7_cloth = bs_wsX7_cloth.flatten := by
  unfold wsX7_cloth bs_wsX7_cloth
  simp only [List.flatten_cons, List.flatten_nil, List.append_nil, List.append_assoc, List.cons_append, List.nil_append]
set_option maxRecDepth 20000 in
theorem ggX7_cloth_X7_heat : GoodIn wsX7_cloth wsX7_heat := goodIn_pc bs_wsX7_cloth bse_wsX7_cloth _ [(1, [6, 0, 7, 8, 5, 9]), (3, [0, 1, 2, 3, 4, 5, 6, 7, 8, 9, 10, 11, 12, 13, 14, 15, 16, 17, 18, 19, 20, 21, 22, 23, 24, 25, 26, 27, 28, 29, 30])] rfl gw_wsX7_heat
set_option maxRecDepth 20000 in
theorem gX7_cloth_X7_heat : GoodIn wsX7_cloth (wsV RX7 100 RX7 yX7_heat wsX7_heat) := goodIn_app (goodIn_pc bs_wsX7_cloth bse_wsX7_cloth _ [(1, [2, 3, 4, 5])] rfl (by decide +kernel)) ggX7_cloth_X7_heat
set_option maxRecDepth 20000 in
theorem gw_wsX7_firstShaded : wsX7_firstShaded.all goodWord = true := by decide +kernel
set_option maxRecDepth 20000 in
theorem ggX7_cloth_X7_firstShaded : GoodIn wsX7_cloth wsX7_firstShaded := goodIn_pc bs_wsX7_cloth bse_wsX7_cloth _ [(1, [13, 0, 14, 15, 16, 5, 17]), (3, [0, 1, 2, 3, 4, 5, 6, 7, 8, 9, 10, 11, 12, 13, 14, 15, 16, 17, 18, 19, 20, 21, 22, 23, 24, 25, 26, 27, 28, 29, 30])] rfl gw_wsX7_firstShaded
set_option maxRecDepth 20000 in
theorem gX7_cloth_X7_firstShaded : GoodIn wsX7_cloth (wsV RX7 137 RX7 yX7_firstShaded wsX7_firstShaded) := goodIn_app (goodIn_pc bs_wsX7_cloth bse_wsX7_cloth _ [(1, [10, 11, 12, 5])] rfl (by decide +kernel)) ggX7_cloth_X7_firstShaded
set_option maxRecDepth 20000 in
theorem gw_wsX7_orNone : wsX7_orNone.all goodWord = true := by decide +kernel
set_option maxRecDepth 20000 in
theorem ggX7_cloth_X7_orNone : GoodIn wsX7_cloth wsX7_orNone := goodIn_pc bs_wsX7_cloth bse_wsX7_cloth _ [(1, [20, 21])] rfl gw_wsX7_orNone
set_option maxRecDepth 20000 in
theorem gX7_cloth_X7_orNone : GoodIn wsX7_cloth (va_wsS RX7 140 yX7_orNone wsX7_orNone) := goodIn_app (goodIn_pc bs_wsX7_cloth bse_wsX7_cloth _ [(1, [18, 19, 5])] rfl (by decide +kernel)) ggX7_cloth_X7_orNone
set_option maxRecDepth 20000 in
theorem gw_wsX7_shadedSet : wsX7_shadedSet.all goodWord = true := by decide +kernel
set_option maxRecDepth 20000 in
theorem ggX7_cloth_X7_shadedSet : GoodIn wsX7_cloth wsX7_shadedSet := goodIn_pc bs_wsX7_cloth bse_wsX7_cloth _ [(2, [1]), (1, [0]), (2, [2, 3, 4]), (1, [5]), (2, [5, 6, 7, 8, 9]), (1, [14, 15, 16, 17]), (2, [10, 11, 12]), (3, [0, 1, 2, 3, 4, 5, 6, 7, 8, 9, 10, 11, 12, 13, 14, 15, 16, 17, 18, 19, 20, 21, 22, 23, 24, 25, 26, 27, 28, 29, 30])] rfl gw_wsX7_shadedSet
set_option maxRecDepth 20000 in
theorem gX7_cloth_X7_shadedSet : GoodIn wsX7_cloth (wsV RX7 143 RX7 yX7_shadedSet wsX7_shadedSet) := goodIn_app (goodIn_pc bs_wsX7_cloth bse_wsX7_cloth _ [(1, [22, 23]), (2, [0]), (1, [5])] rfl (by decide +kernel)) ggX7_cloth_X7_shadedSet
theorem dX7_cloth_0 : decode cX7_cloth 0 = .ok (.iload_n 1, 1) := zk27 (by decide +kernel)
theorem dX7_cloth_1 : decode cX7_cloth 1 = .ok (.tableswitch 71 0 6 #[43, 43, 43, 43, 53, 58, 66], 43) := by decide +kernel
theorem dX7_cloth_44 : decode cX7_cloth 44 = .ok (.aload_n 0, 1) := zk42 (by decide +kernel)
theorem dX7_cloth_45 : decode cX7_cloth 45 = .ok (.getfield 7, 3) := zk180 0 7 (by decide +kernel)
theorem dX7_cloth_48 : decode cX7_cloth 48 = .ok (.bipush 7, 2) := zk16 7 rfl (by decide +kernel)
theorem dX7_cloth_50 : decode cX7_cloth 50 = .ok (.iload_n 1, 1) := zk27 (by decide +kernel)
theorem dX7_cloth_51 : decode cX7_cloth 51 = .ok (.iadd, 1) := zk96 (by decide +kernel)
theorem dX7_cloth_52 : decode cX7_cloth 52 = .ok (.iaload, 1) := zk46 (by decide +kernel)
theorem dX7_cloth_53 : decode cX7_cloth 53 = .ok (.ireturn, 1) := zk172 (by decide +kernel)
theorem dX7_cloth_54 : decode cX7_cloth 54 = .ok (.aload_n 0, 1) := zk42 (by decide +kernel)
theorem dX7_cloth_55 : decode cX7_cloth 55 = .ok (.invokevirtual 100, 3) := zk182 0 100 (by decide +kernel)
theorem dX7_cloth_58 : decode cX7_cloth 58 = .ok (.ireturn, 1) := zk172 (by decide +kernel)
theorem dX7_cloth_59 : decode cX7_cloth 59 = .ok (.aload_n 0, 1) := zk42 (by decide +kernel)
theorem dX7_cloth_60 : decode cX7_cloth 60 = .ok (.invokevirtual 137, 3) := zk182 0 137 (by decide +kernel)
theorem dX7_cloth_63 : decode cX7_cloth 63 = .ok (.invokestatic 140, 3) := zk184 0 140 (by decide +kernel)
theorem dX7_cloth_66 : decode cX7_cloth 66 = .ok (.ireturn, 1) := zk172 (by decide +kernel)
theorem dX7_cloth_67 : decode cX7_cloth 67 = .ok (.aload_n 0, 1) := zk42 (by decide +kernel)
theorem dX7_cloth_68 : decode cX7_cloth 68 = .ok (.invokevirtual 143, 3) := zk182 0 143 (by decide +kernel)
theorem dX7_cloth_71 : decode cX7_cloth 71 = .ok (.ireturn, 1) := zk172 (by decide +kernel)
theorem dX7_cloth_72 : decode cX7_cloth 72 = .ok (.ldc 80, 2) := zk18 80 (by decide +kernel)
theorem dX7_cloth_74 : decode cX7_cloth 74 = .ok (.ireturn, 1) := zk172 (by decide +kernel)
set_option maxRecDepth 20000 in
theorem ggX7_deal_X7_isIn : GoodIn wsX7_deal wsX7_isIn := goodIn_r _ [7] rfl gw_wsX7_isIn
set_option maxRecDepth 20000 in
theorem gX7_deal_X7_isIn : GoodIn wsX7_deal (va_wsS RX7 65 yX7_isIn wsX7_isIn) := goodIn_app (goodIn_r _ [4, 5, 6] rfl (by decide +kernel)) ggX7_deal_X7_isIn
set_option maxRecDepth 20000 in
theorem ggX7_deal_X7_drawn : GoodIn wsX7_deal wsX7_drawn := goodIn_r _ [11, 3, 12, 21, 22, 23, 24, 25, 26, 27, 28, 29, 30, 31, 32, 33, 34, 35, 36, 37, 38, 39, 40, 41, 42, 43, 44, 45, 46, 47, 48, 49, 50, 51] rfl gw_wsX7_drawn
set_option maxRecDepth 20000 in
theorem gX7_deal_X7_drawn : GoodIn wsX7_deal (wsV RX7 154 RX7 yX7_drawn wsX7_drawn) := goodIn_app (goodIn_r _ [8, 9, 10, 6] rfl (by decide +kernel)) ggX7_deal_X7_drawn
set_option maxRecDepth 20000 in
theorem gw_wsX7_comes : wsX7_comes.all goodWord = true := by decide +kernel
set_option maxRecDepth 20000 in
theorem ggX7_deal_X7_comes : GoodIn wsX7_deal wsX7_comes := goodIn_r _ [16, 3, 17, 18, 19, 6, 20, 21, 22, 23, 24, 25, 26, 27, 28, 29, 30, 31, 32, 33, 34, 35, 36, 37, 38, 39, 40, 41, 42, 43, 44, 45, 46, 47, 48, 49, 50, 51] rfl gw_wsX7_comes
set_option maxRecDepth 20000 in
theorem gX7_deal_X7_comes : GoodIn wsX7_deal (wsV RX7 82 RX7 yX7_comes wsX7_comes) := goodIn_app (goodIn_r _ [13, 14, 15, 6] rfl (by decide +kernel)) ggX7_deal_X7_comes
theorem dX7_deal_0 : decode cX7_deal 0 = .ok (.iload_n 1, 1) := zk27 (by decide +kernel)
theorem dX7_deal_1 : decode cX7_deal 1 = .ok (.i2l, 1) := zk133 (by decide +kernel)
theorem dX7_deal_2 : decode cX7_deal 2 = .ok (.lconst 1, 1) := zk10 (by decide +kernel)
theorem dX7_deal_3 : decode cX7_deal 3 = .ok (.ldc2_w 152, 3) := zk20 0 152 (by decide +kernel)
theorem dX7_deal_6 : decode cX7_deal 6 = .ok (.invokestatic 65, 3) := zk184 0 65 (by decide +kernel)
theorem dX7_deal_9 : decode cX7_deal 9 = .ok (.ifCond .ne 6, 3) := zk154 0 6 rfl (by decide +kernel)
theorem dX7_deal_12 : decode cX7_deal 12 = .ok (.ldc 80, 2) := zk18 80 (by decide +kernel)
theorem dX7_deal_14 : decode cX7_deal 14 = .ok (.ireturn, 1) := zk172 (by decide +kernel)
theorem dX7_deal_15 : decode cX7_deal 15 = .ok (.iconst 0, 1) := zk3 (by decide +kernel)
theorem dX7_deal_16 : decode cX7_deal 16 = .ok (.istore_n 2, 1) := zk61 (by decide +kernel)
theorem dX7_deal_17 : decode cX7_deal 17 = .ok (.iload_n 2, 1) := zk28 (by decide +kernel)
theorem dX7_deal_18 : decode cX7_deal 18 = .ok (.iload_n 1, 1) := zk27 (by decide +kernel)
theorem dX7_deal_19 : decode cX7_deal 19 = .ok (.if_icmp .ge 51, 3) := zk162 0 51 rfl (by decide +kernel)
theorem dX7_deal_22 : decode cX7_deal 22 = .ok (.aload_n 0, 1) := zk42 (by decide +kernel)
theorem dX7_deal_23 : decode cX7_deal 23 = .ok (.getfield 7, 3) := zk180 0 7 (by decide +kernel)
theorem dX7_deal_26 : decode cX7_deal 26 = .ok (.iconst 0, 1) := zk3 (by decide +kernel)
theorem dX7_deal_27 : decode cX7_deal 27 = .ok (.iaload, 1) := zk46 (by decide +kernel)
theorem dX7_deal_28 : decode cX7_deal 28 = .ok (.bipush 9, 2) := zk16 9 rfl (by decide +kernel)
theorem dX7_deal_30 : decode cX7_deal 30 = .ok (.if_icmp .ge 40, 3) := zk162 0 40 rfl (by decide +kernel)
theorem dX7_deal_33 : decode cX7_deal 33 = .ok (.aload_n 0, 1) := zk42 (by decide +kernel)
theorem dX7_deal_34 : decode cX7_deal 34 = .ok (.invokevirtual 154, 3) := zk182 0 154 (by decide +kernel)
theorem dX7_deal_37 : decode cX7_deal 37 = .ok (.bipush 6, 2) := zk16 6 rfl (by decide +kernel)
theorem dX7_deal_39 : decode cX7_deal 39 = .ok (.irem, 1) := zk112 (by decide +kernel)
theorem dX7_deal_40 : decode cX7_deal 40 = .ok (.istore_n 3, 1) := zk62 (by decide +kernel)
theorem dX7_deal_41 : decode cX7_deal 41 = .ok (.aload_n 0, 1) := zk42 (by decide +kernel)
theorem dX7_deal_42 : decode cX7_deal 42 = .ok (.invokevirtual 154, 3) := zk182 0 154 (by decide +kernel)
theorem dX7_deal_45 : decode cX7_deal 45 = .ok (.bipush 12, 2) := zk16 12 rfl (by decide +kernel)
theorem dX7_deal_47 : decode cX7_deal 47 = .ok (.irem, 1) := zk112 (by decide +kernel)
theorem dX7_deal_48 : decode cX7_deal 48 = .ok (.istore 4, 2) := zk54 4 (by decide +kernel)
theorem dX7_deal_50 : decode cX7_deal 50 = .ok (.aload_n 0, 1) := zk42 (by decide +kernel)
theorem dX7_deal_51 : decode cX7_deal 51 = .ok (.iload_n 3, 1) := zk29 (by decide +kernel)
theorem dX7_deal_52 : decode cX7_deal 52 = .ok (.iload 4, 2) := zk21 4 (by decide +kernel)
theorem dX7_deal_54 : decode cX7_deal 54 = .ok (.aload_n 0, 1) := zk42 (by decide +kernel)
theorem dX7_deal_55 : decode cX7_deal 55 = .ok (.invokevirtual 154, 3) := zk182 0 154 (by decide +kernel)
theorem dX7_deal_58 : decode cX7_deal 58 = .ok (.bipush 40, 2) := zk16 40 rfl (by decide +kernel)
theorem dX7_deal_60 : decode cX7_deal 60 = .ok (.irem, 1) := zk112 (by decide +kernel)
theorem dX7_deal_61 : decode cX7_deal 61 = .ok (.invokevirtual 82, 3) := zk182 0 82 (by decide +kernel)
theorem dX7_deal_64 : decode cX7_deal 64 = .ok (.iinc 2 1, 3) := by decide +kernel
theorem dX7_deal_67 : decode cX7_deal 67 = .ok (.goto (-50), 3) := zk167 255 206 rfl (by decide +kernel)
theorem dX7_deal_70 : decode cX7_deal 70 = .ok (.iload_n 2, 1) := zk28 (by decide +kernel)
theorem dX7_deal_71 : decode cX7_deal 71 = .ok (.ireturn, 1) := zk172 (by decide +kernel)
def bs_wsX7_hours : List (List Cond) := [[.code yX7_hours cX7_hours 4 (some .int)], wsX7_hours_r1, wsX7_hours_r2, wsX7_hours_r3, wsX7_hours_r4, wsX70]
theorem bse_wsX7_hours : wsX7_hours = bs_wsX7_hours.flatten := by
  unfold wsX7_hours bs_wsX7_hours
  simp only [List.flatten_cons, List.flatten_nil, List.append_nil, List.append_assoc, List.cons_append, List.nil_append]
set_option maxRecDepth 20000 in
theorem ggX7_hours_X7_isIn : GoodIn wsX7_hours wsX7_isIn := goodIn_pc bs_wsX7_hours bse_wsX7_hours _ [(1, [6])] rfl gw_wsX7_isIn
set_option maxRecDepth 20000 in
theorem gX7_hours_X7_isIn : GoodIn wsX7_hours (va_wsS RX7 65 yX7_isIn wsX7_isIn) := goodIn_app (goodIn_pc bs_wsX7_hours bse_wsX7_hours _ [(1, [3, 4, 5])] rfl (by decide +kernel)) ggX7_hours_X7_isIn
set_option maxRecDepth 20000 in
theorem ggX7_hours_X7_goesOn : GoodIn wsX7_hours wsX7_goesOn := goodIn_pc bs_wsX7_hours bse_wsX7_hours _ [(1, [10, 11, 12, 13, 5, 14, 2, 15, 16, 17, 18, 19, 20, 21, 22, 23]), (2, [0, 1, 2, 3, 4, 5, 6, 7, 8, 9, 10, 11, 12, 13, 14, 15, 16, 17]), (1, [3, 4, 6]), (2, [18, 19, 20, 21, 22, 23]), (3, [0, 1, 2, 3, 4, 5, 6, 7, 8, 9, 10, 11, 12, 13, 14, 15, 16, 17, 18, 19, 20, 21, 22, 23]), (4, [0, 1, 2, 3, 4, 5, 6, 7, 8, 9, 10, 11, 12, 13, 14]), (5, [0, 1, 2, 3, 4, 5, 6, 7, 8, 9, 10, 11, 12, 13, 14, 15, 16, 17, 18, 19, 20, 21, 22, 23, 24, 25, 26, 27, 28, 29, 30])] rfl gw_wsX7_goesOn
set_option maxRecDepth 20000 in
theorem gX7_hours_X7_goesOn : GoodIn wsX7_hours (wsV RX7 172 RX7 yX7_goesOn wsX7_goesOn) := goodIn_app (goodIn_pc bs_wsX7_hours bse_wsX7_hours _ [(1, [7, 8, 9, 5])] rfl (by decide +kernel)) ggX7_hours_X7_goesOn
theorem dX7_hours_0 : decode cX7_hours 0 = .ok (.iload_n 1, 1) := zk27 (by decide +kernel)
theorem dX7_hours_1 : decode cX7_hours 1 = .ok (.i2l, 1) := zk133 (by decide +kernel)
theorem dX7_hours_2 : decode cX7_hours 2 = .ok (.lconst 1, 1) := zk10 (by decide +kernel)
theorem dX7_hours_3 : decode cX7_hours 3 = .ok (.ldc2_w 170, 3) := zk20 0 170 (by decide +kernel)
theorem dX7_hours_6 : decode cX7_hours 6 = .ok (.invokestatic 65, 3) := zk184 0 65 (by decide +kernel)
theorem dX7_hours_9 : decode cX7_hours 9 = .ok (.ifCond .ne 6, 3) := zk154 0 6 rfl (by decide +kernel)
theorem dX7_hours_12 : decode cX7_hours 12 = .ok (.ldc 80, 2) := zk18 80 (by decide +kernel)
theorem dX7_hours_14 : decode cX7_hours 14 = .ok (.ireturn, 1) := zk172 (by decide +kernel)
theorem dX7_hours_15 : decode cX7_hours 15 = .ok (.aload_n 0, 1) := zk42 (by decide +kernel)
theorem dX7_hours_16 : decode cX7_hours 16 = .ok (.getfield 7, 3) := zk180 0 7 (by decide +kernel)
theorem dX7_hours_19 : decode cX7_hours 19 = .ok (.iconst 4, 1) := zk7 (by decide +kernel)
theorem dX7_hours_20 : decode cX7_hours 20 = .ok (.iaload, 1) := zk46 (by decide +kernel)
theorem dX7_hours_21 : decode cX7_hours 21 = .ok (.istore_n 2, 1) := zk61 (by decide +kernel)
theorem dX7_hours_22 : decode cX7_hours 22 = .ok (.iconst 0, 1) := zk3 (by decide +kernel)
theorem dX7_hours_23 : decode cX7_hours 23 = .ok (.istore_n 3, 1) := zk62 (by decide +kernel)
theorem dX7_hours_24 : decode cX7_hours 24 = .ok (.iload_n 3, 1) := zk29 (by decide +kernel)
theorem dX7_hours_25 : decode cX7_hours 25 = .ok (.iload_n 1, 1) := zk27 (by decide +kernel)
theorem dX7_hours_26 : decode cX7_hours 26 = .ok (.if_icmp .ge 25, 3) := zk162 0 25 rfl (by decide +kernel)
theorem dX7_hours_29 : decode cX7_hours 29 = .ok (.aload_n 0, 1) := zk42 (by decide +kernel)
theorem dX7_hours_30 : decode cX7_hours 30 = .ok (.getfield 7, 3) := zk180 0 7 (by decide +kernel)
theorem dX7_hours_33 : decode cX7_hours 33 = .ok (.iconst 2, 1) := zk5 (by decide +kernel)
theorem dX7_hours_34 : decode cX7_hours 34 = .ok (.iaload, 1) := zk46 (by decide +kernel)
theorem dX7_hours_35 : decode cX7_hours 35 = .ok (.sipush 9999, 3) := zk17 39 15 rfl (by decide +kernel)
theorem dX7_hours_38 : decode cX7_hours 38 = .ok (.if_icmp .ge 13, 3) := zk162 0 13 rfl (by decide +kernel)
theorem dX7_hours_41 : decode cX7_hours 41 = .ok (.aload_n 0, 1) := zk42 (by decide +kernel)
theorem dX7_hours_42 : decode cX7_hours 42 = .ok (.invokevirtual 172, 3) := zk182 0 172 (by decide +kernel)
theorem dX7_hours_45 : decode cX7_hours 45 = .ok (.iinc 3 1, 3) := by decide +kernel
theorem dX7_hours_48 : decode cX7_hours 48 = .ok (.goto (-24), 3) := zk167 255 232 rfl (by decide +kernel)
theorem dX7_hours_51 : decode cX7_hours 51 = .ok (.aload_n 0, 1) := zk42 (by decide +kernel)
theorem dX7_hours_52 : decode cX7_hours 52 = .ok (.getfield 7, 3) := zk180 0 7 (by decide +kernel)
theorem dX7_hours_55 : decode cX7_hours 55 = .ok (.iconst 4, 1) := zk7 (by decide +kernel)
theorem dX7_hours_56 : decode cX7_hours 56 = .ok (.iaload, 1) := zk46 (by decide +kernel)
theorem dX7_hours_57 : decode cX7_hours 57 = .ok (.iload_n 2, 1) := zk28 (by decide +kernel)
theorem dX7_hours_58 : decode cX7_hours 58 = .ok (.isub, 1) := zk100 (by decide +kernel)
theorem dX7_hours_59 : decode cX7_hours 59 = .ok (.ireturn, 1) := zk172 (by decide +kernel)
def bs_wsX7_goods : List (List Cond) := [[.code yX7_goods cX7_goods 4 (some .int)], wsX7_goods_r1, wsX7_goods_r2, wsX7_goods_r3, wsX7_goods_r4, wsX7_goods_r5, wsX70]
theorem bse_wsX7_goods : wsX7_goods = bs_wsX7_goods.flatten := by
  unfold wsX7_goods bs_wsX7_goods
  simp only [List.flatten_cons, List.flatten_nil, List.append_nil, List.append_assoc, List.cons_append, List.nil_append]
set_option maxRecDepth 20000 in
theorem ggX7_goods_X7_isStall : GoodIn wsX7_goods wsX7_isStall := goodIn_pc bs_wsX7_goods bse_wsX7_goods _ [(1, [6, 7, 8, 9, 5, 10]), (6, [0, 1, 2, 3, 4, 5, 6, 7, 8, 9, 10, 11, 12, 13, 14, 15, 16, 17, 18, 19, 20, 21, 22, 23, 24, 25, 26, 27, 28, 29, 30])] rfl gw_wsX7_isStall
set_option maxRecDepth 20000 in
theorem gX7_goods_X7_isStall : GoodIn wsX7_goods (wsV RX7 116 RX7 yX7_isStall wsX7_isStall) := goodIn_app (goodIn_pc bs_wsX7_goods bse_wsX7_goods _ [(1, [2, 3, 4, 5])] rfl (by decide +kernel)) ggX7_goods_X7_isStall
set_option maxRecDepth 20000 in
theorem ggX7_goods_X7_isIn : GoodIn wsX7_goods wsX7_isIn := goodIn_pc bs_wsX7_goods bse_wsX7_goods _ [(1, [10])] rfl gw_wsX7_isIn
set_option maxRecDepth 20000 in
theorem gX7_goods_X7_isIn : GoodIn wsX7_goods (va_wsS RX7 65 yX7_isIn wsX7_isIn) := goodIn_app (goodIn_pc bs_wsX7_goods bse_wsX7_goods _ [(1, [8, 9, 5])] rfl (by decide +kernel)) ggX7_goods_X7_isIn
set_option maxRecDepth 20000 in
theorem ggX7_goods_X7_laysBy : GoodIn wsX7_goods wsX7_laysBy := goodIn_pc bs_wsX7_goods bse_wsX7_goods _ [(1, [14, 15, 7]), (6, [0, 1, 2, 3, 4, 5, 6, 7, 8, 9, 10, 11, 12, 13, 14, 15, 16, 17, 18, 19, 20, 21, 22, 23, 24, 25, 26, 27, 28, 29, 30])] rfl gw_wsX7_laysBy
set_option maxRecDepth 20000 in
theorem gX7_goods_X7_laysBy : GoodIn wsX7_goods (wsV RX7 175 RX7 yX7_laysBy wsX7_laysBy) := goodIn_app (goodIn_pc bs_wsX7_goods bse_wsX7_goods _ [(1, [11, 12, 13, 5])] rfl (by decide +kernel)) ggX7_goods_X7_laysBy
set_option maxRecDepth 20000 in
theorem ggX7_goods_X7_goesOnMany : GoodIn wsX7_goods wsX7_goesOnMany := goodIn_pc bs_wsX7_goods bse_wsX7_goods _ [(1, [19, 20, 21, 22, 5, 23]), (2, [0, 1, 2, 3]), (1, [7]), (2, [4, 5, 6, 7, 8, 9, 10, 11, 12, 13, 14, 15, 16, 17, 18, 19, 20, 21, 22, 23]), (3, [0, 1, 2, 3, 4, 5, 6]), (1, [8, 9, 10]), (3, [7, 8, 9, 10, 11, 12, 13, 14, 15, 16, 17, 18, 19, 20, 21, 22, 23]), (4, [0, 1, 2, 3, 4, 5, 6, 7, 8, 9, 10, 11, 12, 13, 14, 15, 16, 17, 18, 19, 20, 21, 22, 23]), (5, [0, 1, 2, 3]), (6, [0, 1, 2, 3, 4, 5, 6, 7, 8, 9, 10, 11, 12, 13, 14, 15, 16, 17, 18, 19, 20, 21, 22, 23, 24, 25, 26, 27, 28, 29, 30])] rfl gw_wsX7_goesOnMany
set_option maxRecDepth 20000 in
theorem gX7_goods_X7_goesOnMany : GoodIn wsX7_goods (wsV RX7 178 RX7 yX7_goesOnMany wsX7_goesOnMany) := goodIn_app (goodIn_pc bs_wsX7_goods bse_wsX7_goods _ [(1, [16, 17, 18, 5])] rfl (by decide +kernel)) ggX7_goods_X7_goesOnMany
set_option maxRecDepth 20000 in
theorem ggX7_goods_X7_of : GoodIn wsX7_goods wsX7_of := goodIn_pc bs_wsX7_goods bse_wsX7_goods _ [(3, [2]), (1, [7]), (6, [0, 1, 2, 3, 4, 5, 6, 7, 8, 9, 10, 11, 12, 13, 14, 15, 16, 17, 18, 19, 20, 21, 22, 23, 24, 25, 26, 27, 28, 29, 30])] rfl gw_wsX7_of
set_option maxRecDepth 20000 in
theorem gX7_goods_X7_of : GoodIn wsX7_goods (wsV RX7 85 RX7 yX7_of wsX7_of) := goodIn_app (goodIn_pc bs_wsX7_goods bse_wsX7_goods _ [(2, [23]), (3, [0, 1]), (1, [5])] rfl (by decide +kernel)) ggX7_goods_X7_of
set_option maxRecDepth 20000 in
theorem ggX7_goods_X7_laysBack : GoodIn wsX7_goods wsX7_laysBack := goodIn_pc bs_wsX7_goods bse_wsX7_goods _ [(5, [7]), (1, [7, 15]), (6, [0, 1, 2, 3, 4, 5, 6, 7, 8, 9, 10, 11, 12, 13, 14, 15, 16, 17, 18, 19, 20, 21, 22, 23, 24, 25, 26, 27, 28, 29, 30])] rfl gw_wsX7_laysBack
set_option maxRecDepth 20000 in
theorem gX7_goods_X7_laysBack : GoodIn wsX7_goods (wsV RX7 181 RX7 yX7_laysBack wsX7_laysBack) := goodIn_app (goodIn_pc bs_wsX7_goods bse_wsX7_goods _ [(5, [4, 5, 6]), (1, [5])] rfl (by decide +kernel)) ggX7_goods_X7_laysBack
theorem dX7_goods_0 : decode cX7_goods 0 = .ok (.aload_n 0, 1) := zk42 (by decide +kernel)
theorem dX7_goods_1 : decode cX7_goods 1 = .ok (.iload_n 1, 1) := zk27 (by decide +kernel)
theorem dX7_goods_2 : decode cX7_goods 2 = .ok (.invokevirtual 116, 3) := zk182 0 116 (by decide +kernel)
theorem dX7_goods_5 : decode cX7_goods 5 = .ok (.ifCond .eq 15, 3) := zk153 0 15 rfl (by decide +kernel)
theorem dX7_goods_8 : decode cX7_goods 8 = .ok (.iload_n 2, 1) := zk28 (by decide +kernel)
theorem dX7_goods_9 : decode cX7_goods 9 = .ok (.i2l, 1) := zk133 (by decide +kernel)
theorem dX7_goods_10 : decode cX7_goods 10 = .ok (.lconst 0, 1) := zk9 (by decide +kernel)
theorem dX7_goods_11 : decode cX7_goods 11 = .ok (.ldc2_w 170, 3) := zk20 0 170 (by decide +kernel)
theorem dX7_goods_14 : decode cX7_goods 14 = .ok (.invokestatic 65, 3) := zk184 0 65 (by decide +kernel)
theorem dX7_goods_17 : decode cX7_goods 17 = .ok (.ifCond .ne 6, 3) := zk154 0 6 rfl (by decide +kernel)
theorem dX7_goods_20 : decode cX7_goods 20 = .ok (.ldc 80, 2) := zk18 80 (by decide +kernel)
theorem dX7_goods_22 : decode cX7_goods 22 = .ok (.ireturn, 1) := zk172 (by decide +kernel)
theorem dX7_goods_23 : decode cX7_goods 23 = .ok (.aload_n 0, 1) := zk42 (by decide +kernel)
theorem dX7_goods_24 : decode cX7_goods 24 = .ok (.invokevirtual 175, 3) := zk182 0 175 (by decide +kernel)
theorem dX7_goods_27 : decode cX7_goods 27 = .ok (.aload_n 0, 1) := zk42 (by decide +kernel)
theorem dX7_goods_28 : decode cX7_goods 28 = .ok (.iload_n 2, 1) := zk28 (by decide +kernel)
theorem dX7_goods_29 : decode cX7_goods 29 = .ok (.invokevirtual 178, 3) := zk182 0 178 (by decide +kernel)
theorem dX7_goods_32 : decode cX7_goods 32 = .ok (.aload_n 0, 1) := zk42 (by decide +kernel)
theorem dX7_goods_33 : decode cX7_goods 33 = .ok (.iload_n 1, 1) := zk27 (by decide +kernel)
theorem dX7_goods_34 : decode cX7_goods 34 = .ok (.iconst 2, 1) := zk5 (by decide +kernel)
theorem dX7_goods_35 : decode cX7_goods 35 = .ok (.invokevirtual 85, 3) := zk182 0 85 (by decide +kernel)
theorem dX7_goods_38 : decode cX7_goods 38 = .ok (.istore_n 3, 1) := zk62 (by decide +kernel)
theorem dX7_goods_39 : decode cX7_goods 39 = .ok (.aload_n 0, 1) := zk42 (by decide +kernel)
theorem dX7_goods_40 : decode cX7_goods 40 = .ok (.invokevirtual 181, 3) := zk182 0 181 (by decide +kernel)
theorem dX7_goods_43 : decode cX7_goods 43 = .ok (.iload_n 3, 1) := zk29 (by decide +kernel)
theorem dX7_goods_44 : decode cX7_goods 44 = .ok (.ireturn, 1) := zk172 (by decide +kernel)
set_option maxRecDepth 20000 in
theorem ggX7_fee_X7_counts : GoodIn wsX7_fee wsX7_counts := goodIn_r _ [7, 1, 8, 9, 10, 6, 11, 20, 21, 22, 23, 24, 25, 26, 27, 28, 29, 30, 31, 32, 33, 34, 35, 36, 37, 38, 39, 40, 41, 42, 43, 44, 45, 46, 47, 48, 49, 50] rfl gw_wsX7_counts
set_option maxRecDepth 20000 in
theorem gX7_fee_X7_counts : GoodIn wsX7_fee (wsV RX7 96 RX7 yX7_counts wsX7_counts) := goodIn_app (goodIn_r _ [3, 4, 5, 6] rfl (by decide +kernel)) ggX7_fee_X7_counts
set_option maxRecDepth 20000 in
theorem ggX7_fee_X7_worked : GoodIn wsX7_fee wsX7_worked := goodIn_r _ [15, 1, 16, 2, 8, 9, 10, 6, 11, 17, 18, 19, 20, 21, 22, 23, 24, 25, 26, 27, 28, 29, 30, 31, 32, 33, 34, 35, 36, 37, 38, 39, 40, 41, 42, 43, 44, 45, 46, 47, 48, 49, 50] rfl gw_wsX7_worked
set_option maxRecDepth 20000 in
theorem gX7_fee_X7_worked : GoodIn wsX7_fee (wsV RX7 103 RX7 yX7_worked wsX7_worked) := goodIn_app (goodIn_r _ [12, 13, 14, 6] rfl (by decide +kernel)) ggX7_fee_X7_worked
theorem dX7_fee_0 : decode cX7_fee 0 = .ok (.aload_n 0, 1) := zk42 (by decide +kernel)
theorem dX7_fee_1 : decode cX7_fee 1 = .ok (.iconst 1, 1) := zk4 (by decide +kernel)
theorem dX7_fee_2 : decode cX7_fee 2 = .ok (.invokevirtual 96, 3) := zk182 0 96 (by decide +kernel)
theorem dX7_fee_5 : decode cX7_fee 5 = .ok (.istore_n 1, 1) := zk60 (by decide +kernel)
theorem dX7_fee_6 : decode cX7_fee 6 = .ok (.iload_n 1, 1) := zk27 (by decide +kernel)
theorem dX7_fee_7 : decode cX7_fee 7 = .ok (.ifCond .ge 10, 3) := zk156 0 10 rfl (by decide +kernel)
theorem dX7_fee_10 : decode cX7_fee 10 = .ok (.aload_n 0, 1) := zk42 (by decide +kernel)
theorem dX7_fee_11 : decode cX7_fee 11 = .ok (.getfield 7, 3) := zk180 0 7 (by decide +kernel)
theorem dX7_fee_14 : decode cX7_fee 14 = .ok (.iconst 3, 1) := zk6 (by decide +kernel)
theorem dX7_fee_15 : decode cX7_fee 15 = .ok (.iaload, 1) := zk46 (by decide +kernel)
theorem dX7_fee_16 : decode cX7_fee 16 = .ok (.ireturn, 1) := zk172 (by decide +kernel)
theorem dX7_fee_17 : decode cX7_fee 17 = .ok (.aload_n 0, 1) := zk42 (by decide +kernel)
theorem dX7_fee_18 : decode cX7_fee 18 = .ok (.getfield 49, 3) := zk180 0 49 (by decide +kernel)
theorem dX7_fee_21 : decode cX7_fee 21 = .ok (.bipush 99, 2) := zk16 99 rfl (by decide +kernel)
theorem dX7_fee_23 : decode cX7_fee 23 = .ok (.aload_n 0, 1) := zk42 (by decide +kernel)
theorem dX7_fee_24 : decode cX7_fee 24 = .ok (.getfield 7, 3) := zk180 0 7 (by decide +kernel)
theorem dX7_fee_27 : decode cX7_fee 27 = .ok (.iconst 3, 1) := zk6 (by decide +kernel)
theorem dX7_fee_28 : decode cX7_fee 28 = .ok (.iaload, 1) := zk46 (by decide +kernel)
theorem dX7_fee_29 : decode cX7_fee 29 = .ok (.iastore, 1) := zk79 (by decide +kernel)
theorem dX7_fee_30 : decode cX7_fee 30 = .ok (.aload_n 0, 1) := zk42 (by decide +kernel)
theorem dX7_fee_31 : decode cX7_fee 31 = .ok (.getfield 49, 3) := zk180 0 49 (by decide +kernel)
theorem dX7_fee_34 : decode cX7_fee 34 = .ok (.bipush 116, 2) := zk16 116 rfl (by decide +kernel)
theorem dX7_fee_36 : decode cX7_fee 36 = .ok (.aload_n 0, 1) := zk42 (by decide +kernel)
theorem dX7_fee_37 : decode cX7_fee 37 = .ok (.getfield 7, 3) := zk180 0 7 (by decide +kernel)
theorem dX7_fee_40 : decode cX7_fee 40 = .ok (.iconst 5, 1) := zk8 (by decide +kernel)
theorem dX7_fee_41 : decode cX7_fee 41 = .ok (.iaload, 1) := zk46 (by decide +kernel)
theorem dX7_fee_42 : decode cX7_fee 42 = .ok (.iastore, 1) := zk79 (by decide +kernel)
theorem dX7_fee_43 : decode cX7_fee 43 = .ok (.aload_n 0, 1) := zk42 (by decide +kernel)
theorem dX7_fee_44 : decode cX7_fee 44 = .ok (.iload_n 1, 1) := zk27 (by decide +kernel)
theorem dX7_fee_45 : decode cX7_fee 45 = .ok (.invokevirtual 103, 3) := zk182 0 103 (by decide +kernel)
theorem dX7_fee_48 : decode cX7_fee 48 = .ok (.ireturn, 1) := zk172 (by decide +kernel)
def bs_wsX7_fine : List (List Cond) := [[.code yX7_fine cX7_fine 3 (some .int)], wsX7_fine_r1, wsX7_fine_r2, wsX70]
theorem bse_wsX7_fine : wsX7_fine = bs_wsX7_fine.flatten := by
  unfold wsX7_fine bs_wsX7_fine
  simp only [List.flatten_cons, List.flatten_nil, List.append_nil, List.append_assoc, List.cons_append, List.nil_append]
set_option maxRecDepth 20000 in
theorem ggX7_fine_X7_isStall : GoodIn wsX7_fine wsX7_isStall := goodIn_pc bs_wsX7_fine bse_wsX7_fine _ [(1, [6, 7, 8, 9, 5, 10]), (3, [0, 1, 2, 3, 4, 5, 6, 7, 8, 9, 10, 11, 12, 13, 14, 15, 16, 17, 18, 19, 20, 21, 22, 23, 24, 25, 26, 27, 28, 29, 30])] rfl gw_wsX7_isStall
set_option maxRecDepth 20000 in
theorem gX7_fine_X7_isStall : GoodIn wsX7_fine (wsV RX7 116 RX7 yX7_isStall wsX7_isStall) := goodIn_app (goodIn_pc bs_wsX7_fine bse_wsX7_fine _ [(1, [2, 3, 4, 5])] rfl (by decide +kernel)) ggX7_fine_X7_isStall
set_option maxRecDepth 20000 in
theorem ggX7_fine_X7_counts : GoodIn wsX7_fine wsX7_counts := goodIn_pc bs_wsX7_fine bse_wsX7_fine _ [(1, [14, 7, 15, 16, 17, 5, 18]), (3, [0, 1, 2, 3, 4, 5, 6, 7, 8, 9, 10, 11, 12, 13, 14, 15, 16, 17, 18, 19, 20, 21, 22, 23, 24, 25, 26, 27, 28, 29, 30])] rfl gw_wsX7_counts
set_option maxRecDepth 20000 in
theorem gX7_fine_X7_counts : GoodIn wsX7_fine (wsV RX7 96 RX7 yX7_counts wsX7_counts) := goodIn_app (goodIn_pc bs_wsX7_fine bse_wsX7_fine _ [(1, [11, 12, 13, 5])] rfl (by decide +kernel)) ggX7_fine_X7_counts
set_option maxRecDepth 20000 in
theorem ggX7_fine_X7_of : GoodIn wsX7_fine wsX7_of := goodIn_pc bs_wsX7_fine bse_wsX7_fine _ [(1, [22, 7]), (3, [0, 1, 2, 3, 4, 5, 6, 7, 8, 9, 10, 11, 12, 13, 14, 15, 16, 17, 18, 19, 20, 21, 22, 23, 24, 25, 26, 27, 28, 29, 30])] rfl gw_wsX7_of
set_option maxRecDepth 20000 in
theorem gX7_fine_X7_of : GoodIn wsX7_fine (wsV RX7 85 RX7 yX7_of wsX7_of) := goodIn_app (goodIn_pc bs_wsX7_fine bse_wsX7_fine _ [(1, [19, 20, 21, 5])] rfl (by decide +kernel)) ggX7_fine_X7_of
set_option maxRecDepth 20000 in
theorem ggX7_fine_X7_isShaded : GoodIn wsX7_fine wsX7_isShaded := goodIn_pc bs_wsX7_fine bse_wsX7_fine _ [(2, [2]), (1, [7, 19, 20, 21, 5, 22]), (2, [3, 4, 5, 6]), (1, [8, 9, 10]), (3, [0, 1, 2, 3, 4, 5, 6, 7, 8, 9, 10, 11, 12, 13, 14, 15, 16, 17, 18, 19, 20, 21, 22, 23, 24, 25, 26, 27, 28, 29, 30])] rfl gw_wsX7_isShaded
set_option maxRecDepth 20000 in
theorem gX7_fine_X7_isShaded : GoodIn wsX7_fine (wsV RX7 109 RX7 yX7_isShaded wsX7_isShaded) := goodIn_app (goodIn_pc bs_wsX7_fine bse_wsX7_fine _ [(1, [23]), (2, [0, 1]), (1, [5])] rfl (by decide +kernel)) ggX7_fine_X7_isShaded
set_option maxRecDepth 20000 in
theorem ggX7_fine_X7_worked : GoodIn wsX7_fine wsX7_worked := goodIn_pc bs_wsX7_fine bse_wsX7_fine _ [(2, [10]), (1, [7]), (2, [11]), (1, [1, 15, 16, 17, 5, 18]), (2, [12, 13, 14]), (3, [0, 1, 2, 3, 4, 5, 6, 7, 8, 9, 10, 11, 12, 13, 14, 15, 16, 17, 18, 19, 20, 21, 22, 23, 24, 25, 26, 27, 28, 29, 30])] rfl gw_wsX7_worked
set_option maxRecDepth 20000 in
theorem gX7_fine_X7_worked : GoodIn wsX7_fine (wsV RX7 103 RX7 yX7_worked wsX7_worked) := goodIn_app (goodIn_pc bs_wsX7_fine bse_wsX7_fine _ [(2, [7, 8, 9]), (1, [5])] rfl (by decide +kernel)) ggX7_fine_X7_worked
theorem dX7_fine_0 : decode cX7_fine 0 = .ok (.aload_n 0, 1) := zk42 (by decide +kernel)
theorem dX7_fine_1 : decode cX7_fine 1 = .ok (.iload_n 1, 1) := zk27 (by decide +kernel)
theorem dX7_fine_2 : decode cX7_fine 2 = .ok (.invokevirtual 116, 3) := zk182 0 116 (by decide +kernel)
theorem dX7_fine_5 : decode cX7_fine 5 = .ok (.ifCond .ne 6, 3) := zk154 0 6 rfl (by decide +kernel)
theorem dX7_fine_8 : decode cX7_fine 8 = .ok (.ldc 80, 2) := zk18 80 (by decide +kernel)
theorem dX7_fine_10 : decode cX7_fine 10 = .ok (.ireturn, 1) := zk172 (by decide +kernel)
theorem dX7_fine_11 : decode cX7_fine 11 = .ok (.aload_n 0, 1) := zk42 (by decide +kernel)
theorem dX7_fine_12 : decode cX7_fine 12 = .ok (.iconst 2, 1) := zk5 (by decide +kernel)
theorem dX7_fine_13 : decode cX7_fine 13 = .ok (.invokevirtual 96, 3) := zk182 0 96 (by decide +kernel)
theorem dX7_fine_16 : decode cX7_fine 16 = .ok (.istore_n 2, 1) := zk61 (by decide +kernel)
theorem dX7_fine_17 : decode cX7_fine 17 = .ok (.iload_n 2, 1) := zk28 (by decide +kernel)
theorem dX7_fine_18 : decode cX7_fine 18 = .ok (.ifCond .ge 10, 3) := zk156 0 10 rfl (by decide +kernel)
theorem dX7_fine_21 : decode cX7_fine 21 = .ok (.aload_n 0, 1) := zk42 (by decide +kernel)
theorem dX7_fine_22 : decode cX7_fine 22 = .ok (.iload_n 1, 1) := zk27 (by decide +kernel)
theorem dX7_fine_23 : decode cX7_fine 23 = .ok (.iconst 2, 1) := zk5 (by decide +kernel)
theorem dX7_fine_24 : decode cX7_fine 24 = .ok (.invokevirtual 85, 3) := zk182 0 85 (by decide +kernel)
theorem dX7_fine_27 : decode cX7_fine 27 = .ok (.ireturn, 1) := zk172 (by decide +kernel)
theorem dX7_fine_28 : decode cX7_fine 28 = .ok (.aload_n 0, 1) := zk42 (by decide +kernel)
theorem dX7_fine_29 : decode cX7_fine 29 = .ok (.getfield 49, 3) := zk180 0 49 (by decide +kernel)
theorem dX7_fine_32 : decode cX7_fine 32 = .ok (.bipush 103, 2) := zk16 103 rfl (by decide +kernel)
theorem dX7_fine_34 : decode cX7_fine 34 = .ok (.aload_n 0, 1) := zk42 (by decide +kernel)
theorem dX7_fine_35 : decode cX7_fine 35 = .ok (.iload_n 1, 1) := zk27 (by decide +kernel)
theorem dX7_fine_36 : decode cX7_fine 36 = .ok (.iconst 2, 1) := zk5 (by decide +kernel)
theorem dX7_fine_37 : decode cX7_fine 37 = .ok (.invokevirtual 85, 3) := zk182 0 85 (by decide +kernel)
theorem dX7_fine_40 : decode cX7_fine 40 = .ok (.iastore, 1) := zk79 (by decide +kernel)
theorem dX7_fine_41 : decode cX7_fine 41 = .ok (.aload_n 0, 1) := zk42 (by decide +kernel)
theorem dX7_fine_42 : decode cX7_fine 42 = .ok (.getfield 49, 3) := zk180 0 49 (by decide +kernel)
theorem dX7_fine_45 : decode cX7_fine 45 = .ok (.bipush 115, 2) := zk16 115 rfl (by decide +kernel)
theorem dX7_fine_47 : decode cX7_fine 47 = .ok (.aload_n 0, 1) := zk42 (by decide +kernel)
theorem dX7_fine_48 : decode cX7_fine 48 = .ok (.iload_n 1, 1) := zk27 (by decide +kernel)
theorem dX7_fine_49 : decode cX7_fine 49 = .ok (.invokevirtual 109, 3) := zk182 0 109 (by decide +kernel)
theorem dX7_fine_52 : decode cX7_fine 52 = .ok (.ifCond .eq 7, 3) := zk153 0 7 rfl (by decide +kernel)
theorem dX7_fine_55 : decode cX7_fine 55 = .ok (.iconst 1, 1) := zk4 (by decide +kernel)
theorem dX7_fine_56 : decode cX7_fine 56 = .ok (.goto 4, 3) := zk167 0 4 rfl (by decide +kernel)
theorem dX7_fine_59 : decode cX7_fine 59 = .ok (.iconst 0, 1) := zk3 (by decide +kernel)
theorem dX7_fine_60 : decode cX7_fine 60 = .ok (.iastore, 1) := zk79 (by decide +kernel)
theorem dX7_fine_61 : decode cX7_fine 61 = .ok (.aload_n 0, 1) := zk42 (by decide +kernel)
theorem dX7_fine_62 : decode cX7_fine 62 = .ok (.iload_n 2, 1) := zk28 (by decide +kernel)
theorem dX7_fine_63 : decode cX7_fine 63 = .ok (.invokevirtual 103, 3) := zk182 0 103 (by decide +kernel)
theorem dX7_fine_66 : decode cX7_fine 66 = .ok (.ireturn, 1) := zk172 (by decide +kernel)
theorem dX7_feed_0 : decode cX7_feed 0 = .ok (.aload_n 0, 1) := zk42 (by decide +kernel)
theorem dX7_feed_1 : decode cX7_feed 1 = .ok (.getfield 188, 3) := zk180 0 188 (by decide +kernel)
theorem dX7_feed_4 : decode cX7_feed 4 = .ok (.bipush 12, 2) := zk16 12 rfl (by decide +kernel)
theorem dX7_feed_6 : decode cX7_feed 6 = .ok (.iadd, 1) := zk96 (by decide +kernel)
theorem dX7_feed_7 : decode cX7_feed 7 = .ok (.bipush 96, 2) := zk16 96 rfl (by decide +kernel)
theorem dX7_feed_9 : decode cX7_feed 9 = .ok (.if_icmp .le 6, 3) := zk164 0 6 rfl (by decide +kernel)
theorem dX7_feed_12 : decode cX7_feed 12 = .ok (.ldc 81, 2) := zk18 81 (by decide +kernel)
theorem dX7_feed_14 : decode cX7_feed 14 = .ok (.ireturn, 1) := zk172 (by decide +kernel)
theorem dX7_feed_15 : decode cX7_feed 15 = .ok (.iconst 0, 1) := zk3 (by decide +kernel)
theorem dX7_feed_16 : decode cX7_feed 16 = .ok (.istore 4, 2) := zk54 4 (by decide +kernel)
theorem dX7_feed_18 : decode cX7_feed 18 = .ok (.iload 4, 2) := zk21 4 (by decide +kernel)
theorem dX7_feed_20 : decode cX7_feed 20 = .ok (.bipush 12, 2) := zk16 12 rfl (by decide +kernel)
theorem dX7_feed_22 : decode cX7_feed 22 = .ok (.if_icmp .ge 69, 3) := zk162 0 69 rfl (by decide +kernel)
theorem dX7_feed_25 : decode cX7_feed 25 = .ok (.iload 4, 2) := zk21 4 (by decide +kernel)
theorem dX7_feed_27 : decode cX7_feed 27 = .ok (.iconst 4, 1) := zk7 (by decide +kernel)
theorem dX7_feed_28 : decode cX7_feed 28 = .ok (.if_icmp .ge 7, 3) := zk162 0 7 rfl (by decide +kernel)
theorem dX7_feed_31 : decode cX7_feed 31 = .ok (.iload_n 1, 1) := zk27 (by decide +kernel)
theorem dX7_feed_32 : decode cX7_feed 32 = .ok (.goto 15, 3) := zk167 0 15 rfl (by decide +kernel)
theorem dX7_feed_35 : decode cX7_feed 35 = .ok (.iload 4, 2) := zk21 4 (by decide +kernel)
theorem dX7_feed_37 : decode cX7_feed 37 = .ok (.bipush 8, 2) := zk16 8 rfl (by decide +kernel)
theorem dX7_feed_39 : decode cX7_feed 39 = .ok (.if_icmp .ge 7, 3) := zk162 0 7 rfl (by decide +kernel)
theorem dX7_feed_42 : decode cX7_feed 42 = .ok (.iload_n 2, 1) := zk28 (by decide +kernel)
theorem dX7_feed_43 : decode cX7_feed 43 = .ok (.goto 4, 3) := zk167 0 4 rfl (by decide +kernel)
theorem dX7_feed_46 : decode cX7_feed 46 = .ok (.iload_n 3, 1) := zk29 (by decide +kernel)
theorem dX7_feed_47 : decode cX7_feed 47 = .ok (.istore 5, 2) := zk54 5 (by decide +kernel)
theorem dX7_feed_49 : decode cX7_feed 49 = .ok (.aload_n 0, 1) := zk42 (by decide +kernel)
theorem dX7_feed_50 : decode cX7_feed 50 = .ok (.getfield 46, 3) := zk180 0 46 (by decide +kernel)
theorem dX7_feed_53 : decode cX7_feed 53 = .ok (.aload_n 0, 1) := zk42 (by decide +kernel)
theorem dX7_feed_54 : decode cX7_feed 54 = .ok (.getfield 188, 3) := zk180 0 188 (by decide +kernel)
theorem dX7_feed_57 : decode cX7_feed 57 = .ok (.iload 5, 2) := zk21 5 (by decide +kernel)
theorem dX7_feed_59 : decode cX7_feed 59 = .ok (.bipush 24, 2) := zk16 24 rfl (by decide +kernel)
theorem dX7_feed_61 : decode cX7_feed 61 = .ok (.bipush 8, 2) := zk16 8 rfl (by decide +kernel)
theorem dX7_feed_63 : decode cX7_feed 63 = .ok (.iload 4, 2) := zk21 4 (by decide +kernel)
theorem dX7_feed_65 : decode cX7_feed 65 = .ok (.iconst 4, 1) := zk7 (by decide +kernel)
theorem dX7_feed_66 : decode cX7_feed 66 = .ok (.irem, 1) := zk112 (by decide +kernel)
theorem dX7_feed_67 : decode cX7_feed 67 = .ok (.imul, 1) := zk104 (by decide +kernel)
theorem dX7_feed_68 : decode cX7_feed 68 = .ok (.isub, 1) := zk100 (by decide +kernel)
theorem dX7_feed_69 : decode cX7_feed 69 = .ok (.ishr, 1) := zk122 (by decide +kernel)
theorem dX7_feed_70 : decode cX7_feed 70 = .ok (.sipush 255, 3) := zk17 0 255 rfl (by decide +kernel)
theorem dX7_feed_73 : decode cX7_feed 73 = .ok (.iand, 1) := zk126 (by decide +kernel)
theorem dX7_feed_74 : decode cX7_feed 74 = .ok (.iastore, 1) := zk79 (by decide +kernel)
theorem dX7_feed_75 : decode cX7_feed 75 = .ok (.aload_n 0, 1) := zk42 (by decide +kernel)
theorem dX7_feed_76 : decode cX7_feed 76 = .ok (.dup, 1) := zk89 (by decide +kernel)
theorem dX7_feed_77 : decode cX7_feed 77 = .ok (.getfield 188, 3) := zk180 0 188 (by decide +kernel)
theorem dX7_feed_80 : decode cX7_feed 80 = .ok (.iconst 1, 1) := zk4 (by decide +kernel)
theorem dX7_feed_81 : decode cX7_feed 81 = .ok (.iadd, 1) := zk96 (by decide +kernel)
theorem dX7_feed_82 : decode cX7_feed 82 = .ok (.putfield 188, 3) := zk181 0 188 (by decide +kernel)
theorem dX7_feed_85 : decode cX7_feed 85 = .ok (.iinc 4 1, 3) := by decide +kernel
theorem dX7_feed_88 : decode cX7_feed 88 = .ok (.goto (-70), 3) := zk167 255 186 rfl (by decide +kernel)
theorem dX7_feed_91 : decode cX7_feed 91 = .ok (.aload_n 0, 1) := zk42 (by decide +kernel)
theorem dX7_feed_92 : decode cX7_feed 92 = .ok (.getfield 188, 3) := zk180 0 188 (by decide +kernel)
theorem dX7_feed_95 : decode cX7_feed 95 = .ok (.ireturn, 1) := zk172 (by decide +kernel)
theorem dX7_isWordAt_0 : decode cX7_isWordAt 0 = .ok (.iload 4, 2) := zk21 4 (by decide +kernel)
theorem dX7_isWordAt_2 : decode cX7_isWordAt 2 = .ok (.ifCond .ne 7, 3) := zk154 0 7 rfl (by decide +kernel)
theorem dX7_isWordAt_5 : decode cX7_isWordAt 5 = .ok (.iconst 3, 1) := zk6 (by decide +kernel)
theorem dX7_isWordAt_6 : decode cX7_isWordAt 6 = .ok (.goto 4, 3) := zk167 0 4 rfl (by decide +kernel)
theorem dX7_isWordAt_9 : decode cX7_isWordAt 9 = .ok (.iconst 4, 1) := zk7 (by decide +kernel)
theorem dX7_isWordAt_10 : decode cX7_isWordAt 10 = .ok (.istore 5, 2) := zk54 5 (by decide +kernel)
theorem dX7_isWordAt_12 : decode cX7_isWordAt 12 = .ok (.aload_n 0, 1) := zk42 (by decide +kernel)
theorem dX7_isWordAt_13 : decode cX7_isWordAt 13 = .ok (.getfield 203, 3) := zk180 0 203 (by decide +kernel)
theorem dX7_isWordAt_16 : decode cX7_isWordAt 16 = .ok (.iconst 1, 1) := zk4 (by decide +kernel)
theorem dX7_isWordAt_17 : decode cX7_isWordAt 17 = .ok (.if_icmp .ne 85, 3) := zk160 0 85 rfl (by decide +kernel)
theorem dX7_isWordAt_20 : decode cX7_isWordAt 20 = .ok (.aload_n 0, 1) := zk42 (by decide +kernel)
theorem dX7_isWordAt_21 : decode cX7_isWordAt 21 = .ok (.getfield 200, 3) := zk180 0 200 (by decide +kernel)
theorem dX7_isWordAt_24 : decode cX7_isWordAt 24 = .ok (.aload_n 0, 1) := zk42 (by decide +kernel)
theorem dX7_isWordAt_25 : decode cX7_isWordAt 25 = .ok (.getfield 206, 3) := zk180 0 206 (by decide +kernel)
theorem dX7_isWordAt_28 : decode cX7_isWordAt 28 = .ok (.isub, 1) := zk100 (by decide +kernel)
theorem dX7_isWordAt_29 : decode cX7_isWordAt 29 = .ok (.iload 5, 2) := zk21 5 (by decide +kernel)
theorem dX7_isWordAt_31 : decode cX7_isWordAt 31 = .ok (.if_icmp .ne 71, 3) := zk160 0 71 rfl (by decide +kernel)
theorem dX7_isWordAt_34 : decode cX7_isWordAt 34 = .ok (.aload_n 0, 1) := zk42 (by decide +kernel)
theorem dX7_isWordAt_35 : decode cX7_isWordAt 35 = .ok (.getfield 46, 3) := zk180 0 46 (by decide +kernel)
theorem dX7_isWordAt_38 : decode cX7_isWordAt 38 = .ok (.aload_n 0, 1) := zk42 (by decide +kernel)
theorem dX7_isWordAt_39 : decode cX7_isWordAt 39 = .ok (.getfield 206, 3) := zk180 0 206 (by decide +kernel)
theorem dX7_isWordAt_42 : decode cX7_isWordAt 42 = .ok (.iaload, 1) := zk46 (by decide +kernel)
theorem dX7_isWordAt_43 : decode cX7_isWordAt 43 = .ok (.iload_n 1, 1) := zk27 (by decide +kernel)
theorem dX7_isWordAt_44 : decode cX7_isWordAt 44 = .ok (.if_icmp .ne 58, 3) := zk160 0 58 rfl (by decide +kernel)
theorem dX7_isWordAt_47 : decode cX7_isWordAt 47 = .ok (.aload_n 0, 1) := zk42 (by decide +kernel)
theorem dX7_isWordAt_48 : decode cX7_isWordAt 48 = .ok (.getfield 46, 3) := zk180 0 46 (by decide +kernel)
theorem dX7_isWordAt_51 : decode cX7_isWordAt 51 = .ok (.aload_n 0, 1) := zk42 (by decide +kernel)
theorem dX7_isWordAt_52 : decode cX7_isWordAt 52 = .ok (.getfield 206, 3) := zk180 0 206 (by decide +kernel)
theorem dX7_isWordAt_55 : decode cX7_isWordAt 55 = .ok (.iconst 1, 1) := zk4 (by decide +kernel)
theorem dX7_isWordAt_56 : decode cX7_isWordAt 56 = .ok (.iadd, 1) := zk96 (by decide +kernel)
theorem dX7_isWordAt_57 : decode cX7_isWordAt 57 = .ok (.iaload, 1) := zk46 (by decide +kernel)
theorem dX7_isWordAt_58 : decode cX7_isWordAt 58 = .ok (.iload_n 2, 1) := zk28 (by decide +kernel)
theorem dX7_isWordAt_59 : decode cX7_isWordAt 59 = .ok (.if_icmp .ne 43, 3) := zk160 0 43 rfl (by decide +kernel)
theorem dX7_isWordAt_62 : decode cX7_isWordAt 62 = .ok (.aload_n 0, 1) := zk42 (by decide +kernel)
theorem dX7_isWordAt_63 : decode cX7_isWordAt 63 = .ok (.getfield 46, 3) := zk180 0 46 (by decide +kernel)
theorem dX7_isWordAt_66 : decode cX7_isWordAt 66 = .ok (.aload_n 0, 1) := zk42 (by decide +kernel)
theorem dX7_isWordAt_67 : decode cX7_isWordAt 67 = .ok (.getfield 206, 3) := zk180 0 206 (by decide +kernel)
theorem dX7_isWordAt_70 : decode cX7_isWordAt 70 = .ok (.iconst 2, 1) := zk5 (by decide +kernel)
theorem dX7_isWordAt_71 : decode cX7_isWordAt 71 = .ok (.iadd, 1) := zk96 (by decide +kernel)
theorem dX7_isWordAt_72 : decode cX7_isWordAt 72 = .ok (.iaload, 1) := zk46 (by decide +kernel)
theorem dX7_isWordAt_73 : decode cX7_isWordAt 73 = .ok (.iload_n 3, 1) := zk29 (by decide +kernel)
theorem dX7_isWordAt_74 : decode cX7_isWordAt 74 = .ok (.if_icmp .ne 28, 3) := zk160 0 28 rfl (by decide +kernel)
theorem dX7_isWordAt_77 : decode cX7_isWordAt 77 = .ok (.iload 4, 2) := zk21 4 (by decide +kernel)
theorem dX7_isWordAt_79 : decode cX7_isWordAt 79 = .ok (.ifCond .eq 19, 3) := zk153 0 19 rfl (by decide +kernel)
theorem dX7_isWordAt_82 : decode cX7_isWordAt 82 = .ok (.aload_n 0, 1) := zk42 (by decide +kernel)
theorem dX7_isWordAt_83 : decode cX7_isWordAt 83 = .ok (.getfield 46, 3) := zk180 0 46 (by decide +kernel)
theorem dX7_isWordAt_86 : decode cX7_isWordAt 86 = .ok (.aload_n 0, 1) := zk42 (by decide +kernel)
theorem dX7_isWordAt_87 : decode cX7_isWordAt 87 = .ok (.getfield 206, 3) := zk180 0 206 (by decide +kernel)
theorem dX7_isWordAt_90 : decode cX7_isWordAt 90 = .ok (.iconst 3, 1) := zk6 (by decide +kernel)
theorem dX7_isWordAt_91 : decode cX7_isWordAt 91 = .ok (.iadd, 1) := zk96 (by decide +kernel)
theorem dX7_isWordAt_92 : decode cX7_isWordAt 92 = .ok (.iaload, 1) := zk46 (by decide +kernel)
theorem dX7_isWordAt_93 : decode cX7_isWordAt 93 = .ok (.iload 4, 2) := zk21 4 (by decide +kernel)
theorem dX7_isWordAt_95 : decode cX7_isWordAt 95 = .ok (.if_icmp .ne 7, 3) := zk160 0 7 rfl (by decide +kernel)
theorem dX7_isWordAt_98 : decode cX7_isWordAt 98 = .ok (.iconst 1, 1) := zk4 (by decide +kernel)
theorem dX7_isWordAt_99 : decode cX7_isWordAt 99 = .ok (.goto 4, 3) := zk167 0 4 rfl (by decide +kernel)
theorem dX7_isWordAt_102 : decode cX7_isWordAt 102 = .ok (.iconst 0, 1) := zk3 (by decide +kernel)
theorem dX7_isWordAt_103 : decode cX7_isWordAt 103 = .ok (.ireturn, 1) := zk172 (by decide +kernel)
set_option maxRecDepth 20000 in
theorem gw_wsX7_isWordAt : wsX7_isWordAt.all goodWord = true := by decide +kernel
set_option maxRecDepth 20000 in
theorem ggX7_key_X7_isWordAt : GoodIn wsX7_key wsX7_isWordAt := goodIn_r _ [5, 6, 7, 8, 9, 10, 11, 12, 13, 14, 15, 16, 17, 18, 19, 20, 21, 22, 23, 24, 25, 26, 27, 28, 29, 30, 31, 32, 33, 34, 35, 36, 37, 38, 39, 40] rfl gw_wsX7_isWordAt
set_option maxRecDepth 20000 in
theorem gX7_key_X7_isWordAt : GoodIn wsX7_key (wsV RX7 221 RX7 yX7_isWordAt wsX7_isWordAt) := goodIn_app (goodIn_r _ [1, 2, 3, 4] rfl (by decide +kernel)) ggX7_key_X7_isWordAt
theorem dX7_key_0 : decode cX7_key 0 = .ok (.aload_n 0, 1) := zk42 (by decide +kernel)
theorem dX7_key_1 : decode cX7_key 1 = .ok (.bipush 109, 2) := zk16 109 rfl (by decide +kernel)
theorem dX7_key_3 : decode cX7_key 3 = .ok (.bipush 101, 2) := zk16 101 rfl (by decide +kernel)
theorem dX7_key_5 : decode cX7_key 5 = .ok (.bipush 108, 2) := zk16 108 rfl (by decide +kernel)
theorem dX7_key_7 : decode cX7_key 7 = .ok (.bipush 116, 2) := zk16 116 rfl (by decide +kernel)
theorem dX7_key_9 : decode cX7_key 9 = .ok (.invokevirtual 221, 3) := zk182 0 221 (by decide +kernel)
theorem dX7_key_12 : decode cX7_key 12 = .ok (.ifCond .eq 5, 3) := zk153 0 5 rfl (by decide +kernel)
theorem dX7_key_15 : decode cX7_key 15 = .ok (.iconst 0, 1) := zk3 (by decide +kernel)
theorem dX7_key_16 : decode cX7_key 16 = .ok (.ireturn, 1) := zk172 (by decide +kernel)
theorem dX7_key_17 : decode cX7_key 17 = .ok (.aload_n 0, 1) := zk42 (by decide +kernel)
theorem dX7_key_18 : decode cX7_key 18 = .ok (.bipush 102, 2) := zk16 102 rfl (by decide +kernel)
theorem dX7_key_20 : decode cX7_key 20 = .ok (.bipush 101, 2) := zk16 101 rfl (by decide +kernel)
theorem dX7_key_22 : decode cX7_key 22 = .ok (.bipush 101, 2) := zk16 101 rfl (by decide +kernel)
theorem dX7_key_24 : decode cX7_key 24 = .ok (.iconst 0, 1) := zk3 (by decide +kernel)
theorem dX7_key_25 : decode cX7_key 25 = .ok (.invokevirtual 221, 3) := zk182 0 221 (by decide +kernel)
theorem dX7_key_28 : decode cX7_key 28 = .ok (.ifCond .eq 5, 3) := zk153 0 5 rfl (by decide +kernel)
theorem dX7_key_31 : decode cX7_key 31 = .ok (.iconst 1, 1) := zk4 (by decide +kernel)
theorem dX7_key_32 : decode cX7_key 32 = .ok (.ireturn, 1) := zk172 (by decide +kernel)
theorem dX7_key_33 : decode cX7_key 33 = .ok (.aload_n 0, 1) := zk42 (by decide +kernel)
theorem dX7_key_34 : decode cX7_key 34 = .ok (.bipush 102, 2) := zk16 102 rfl (by decide +kernel)
theorem dX7_key_36 : decode cX7_key 36 = .ok (.bipush 105, 2) := zk16 105 rfl (by decide +kernel)
theorem dX7_key_38 : decode cX7_key 38 = .ok (.bipush 110, 2) := zk16 110 rfl (by decide +kernel)
theorem dX7_key_40 : decode cX7_key 40 = .ok (.bipush 101, 2) := zk16 101 rfl (by decide +kernel)
theorem dX7_key_42 : decode cX7_key 42 = .ok (.invokevirtual 221, 3) := zk182 0 221 (by decide +kernel)
theorem dX7_key_45 : decode cX7_key 45 = .ok (.ifCond .eq 7, 3) := zk153 0 7 rfl (by decide +kernel)
theorem dX7_key_48 : decode cX7_key 48 = .ok (.iconst 2, 1) := zk5 (by decide +kernel)
theorem dX7_key_49 : decode cX7_key 49 = .ok (.goto 4, 3) := zk167 0 4 rfl (by decide +kernel)
theorem dX7_key_52 : decode cX7_key 52 = .ok (.iconst (-1), 1) := zk2 (by decide +kernel)
theorem dX7_key_53 : decode cX7_key 53 = .ok (.ireturn, 1) := zk172 (by decide +kernel)
set_option maxRecDepth 20000 in
theorem ggX7_isSheet_X7_isIn : GoodIn wsX7_isSheet wsX7_isIn := goodIn_r _ [5] rfl gw_wsX7_isIn
set_option maxRecDepth 20000 in
theorem gX7_isSheet_X7_isIn : GoodIn wsX7_isSheet (va_wsS RX7 65 yX7_isIn wsX7_isIn) := goodIn_app (goodIn_r _ [2, 3, 4] rfl (by decide +kernel)) ggX7_isSheet_X7_isIn
theorem dX7_isSheet_0 : decode cX7_isSheet 0 = .ok (.iload_n 0, 1) := zk26 (by decide +kernel)
theorem dX7_isSheet_1 : decode cX7_isSheet 1 = .ok (.i2l, 1) := zk133 (by decide +kernel)
theorem dX7_isSheet_2 : decode cX7_isSheet 2 = .ok (.lconst 0, 1) := zk9 (by decide +kernel)
theorem dX7_isSheet_3 : decode cX7_isSheet 3 = .ok (.ldc2_w 133, 3) := zk20 0 133 (by decide +kernel)
theorem dX7_isSheet_6 : decode cX7_isSheet 6 = .ok (.invokestatic 65, 3) := zk184 0 65 (by decide +kernel)
theorem dX7_isSheet_9 : decode cX7_isSheet 9 = .ok (.ireturn, 1) := zk172 (by decide +kernel)
set_option maxRecDepth 20000 in
theorem gw_wsX7_isSheet : wsX7_isSheet.all goodWord = true := by decide +kernel
set_option maxRecDepth 20000 in
theorem ggX7_copy_X7_isSheet : GoodIn wsX7_copy wsX7_isSheet := goodIn_r _ [12, 13, 14, 15, 11, 16] rfl gw_wsX7_isSheet
set_option maxRecDepth 20000 in
theorem gX7_copy_X7_isSheet : GoodIn wsX7_copy (va_wsS RX7 289 yX7_isSheet wsX7_isSheet) := goodIn_app (goodIn_r _ [9, 10, 11] rfl (by decide +kernel)) ggX7_copy_X7_isSheet
theorem dX7_copy_0 : decode cX7_copy 0 = .ok (.iload_n 1, 1) := zk27 (by decide +kernel)
theorem dX7_copy_1 : decode cX7_copy 1 = .ok (.invokestatic 289, 3) := zk184 1 33 (by decide +kernel)
theorem dX7_copy_4 : decode cX7_copy 4 = .ok (.ifCond .eq 10, 3) := zk153 0 10 rfl (by decide +kernel)
theorem dX7_copy_7 : decode cX7_copy 7 = .ok (.iload_n 3, 1) := zk29 (by decide +kernel)
theorem dX7_copy_8 : decode cX7_copy 8 = .ok (.invokestatic 289, 3) := zk184 1 33 (by decide +kernel)
theorem dX7_copy_11 : decode cX7_copy 11 = .ok (.ifCond .ne 6, 3) := zk154 0 6 rfl (by decide +kernel)
theorem dX7_copy_14 : decode cX7_copy 14 = .ok (.ldc 80, 2) := zk18 80 (by decide +kernel)
theorem dX7_copy_16 : decode cX7_copy 16 = .ok (.ireturn, 1) := zk172 (by decide +kernel)
theorem dX7_copy_17 : decode cX7_copy 17 = .ok (.aload_n 0, 1) := zk42 (by decide +kernel)
theorem dX7_copy_18 : decode cX7_copy 18 = .ok (.getfield 19, 3) := zk180 0 19 (by decide +kernel)
theorem dX7_copy_21 : decode cX7_copy 21 = .ok (.iload_n 1, 1) := zk27 (by decide +kernel)
theorem dX7_copy_22 : decode cX7_copy 22 = .ok (.iaload, 1) := zk46 (by decide +kernel)
theorem dX7_copy_23 : decode cX7_copy 23 = .ok (.ifCond .lt 12, 3) := zk155 0 12 rfl (by decide +kernel)
theorem dX7_copy_26 : decode cX7_copy 26 = .ok (.aload_n 0, 1) := zk42 (by decide +kernel)
theorem dX7_copy_27 : decode cX7_copy 27 = .ok (.getfield 19, 3) := zk180 0 19 (by decide +kernel)
theorem dX7_copy_30 : decode cX7_copy 30 = .ok (.iload_n 3, 1) := zk29 (by decide +kernel)
theorem dX7_copy_31 : decode cX7_copy 31 = .ok (.iaload, 1) := zk46 (by decide +kernel)
theorem dX7_copy_32 : decode cX7_copy 32 = .ok (.ifCond .ge 7, 3) := zk156 0 7 rfl (by decide +kernel)
theorem dX7_copy_35 : decode cX7_copy 35 = .ok (.ldc_w 295, 3) := zk19 1 39 (by decide +kernel)
theorem dX7_copy_38 : decode cX7_copy 38 = .ok (.ireturn, 1) := zk172 (by decide +kernel)
theorem dX7_copy_39 : decode cX7_copy 39 = .ok (.aload_n 0, 1) := zk42 (by decide +kernel)
theorem dX7_copy_40 : decode cX7_copy 40 = .ok (.getfield 19, 3) := zk180 0 19 (by decide +kernel)
theorem dX7_copy_43 : decode cX7_copy 43 = .ok (.iload_n 1, 1) := zk27 (by decide +kernel)
theorem dX7_copy_44 : decode cX7_copy 44 = .ok (.iaload, 1) := zk46 (by decide +kernel)
theorem dX7_copy_45 : decode cX7_copy 45 = .ok (.aload_n 0, 1) := zk42 (by decide +kernel)
theorem dX7_copy_46 : decode cX7_copy 46 = .ok (.getfield 19, 3) := zk180 0 19 (by decide +kernel)
theorem dX7_copy_49 : decode cX7_copy 49 = .ok (.iload_n 3, 1) := zk29 (by decide +kernel)
theorem dX7_copy_50 : decode cX7_copy 50 = .ok (.iaload, 1) := zk46 (by decide +kernel)
theorem dX7_copy_51 : decode cX7_copy 51 = .ok (.if_icmp .eq 6, 3) := zk159 0 6 rfl (by decide +kernel)
theorem dX7_copy_54 : decode cX7_copy 54 = .ok (.ldc 129, 2) := zk18 129 (by decide +kernel)
theorem dX7_copy_56 : decode cX7_copy 56 = .ok (.ireturn, 1) := zk172 (by decide +kernel)
theorem dX7_copy_57 : decode cX7_copy 57 = .ok (.iload_n 2, 1) := zk28 (by decide +kernel)
theorem dX7_copy_58 : decode cX7_copy 58 = .ok (.ifCond .lt 48, 3) := zk155 0 48 rfl (by decide +kernel)
theorem dX7_copy_61 : decode cX7_copy 61 = .ok (.iload 4, 2) := zk21 4 (by decide +kernel)
theorem dX7_copy_63 : decode cX7_copy 63 = .ok (.ifCond .lt 43, 3) := zk155 0 43 rfl (by decide +kernel)
theorem dX7_copy_66 : decode cX7_copy 66 = .ok (.iload 5, 2) := zk21 5 (by decide +kernel)
theorem dX7_copy_68 : decode cX7_copy 68 = .ok (.ifCond .lt 38, 3) := zk155 0 38 rfl (by decide +kernel)
theorem dX7_copy_71 : decode cX7_copy 71 = .ok (.iload_n 2, 1) := zk28 (by decide +kernel)
theorem dX7_copy_72 : decode cX7_copy 72 = .ok (.i2l, 1) := zk133 (by decide +kernel)
theorem dX7_copy_73 : decode cX7_copy 73 = .ok (.iload 5, 2) := zk21 5 (by decide +kernel)
theorem dX7_copy_75 : decode cX7_copy 75 = .ok (.i2l, 1) := zk133 (by decide +kernel)
theorem dX7_copy_76 : decode cX7_copy 76 = .ok (.ladd, 1) := zk97 (by decide +kernel)
theorem dX7_copy_77 : decode cX7_copy 77 = .ok (.aload_n 0, 1) := zk42 (by decide +kernel)
theorem dX7_copy_78 : decode cX7_copy 78 = .ok (.getfield 22, 3) := zk180 0 22 (by decide +kernel)
theorem dX7_copy_81 : decode cX7_copy 81 = .ok (.iload_n 1, 1) := zk27 (by decide +kernel)
theorem dX7_copy_82 : decode cX7_copy 82 = .ok (.iaload, 1) := zk46 (by decide +kernel)
theorem dX7_copy_83 : decode cX7_copy 83 = .ok (.i2l, 1) := zk133 (by decide +kernel)
theorem dX7_copy_84 : decode cX7_copy 84 = .ok (.lcmp, 1) := zk148 (by decide +kernel)
theorem dX7_copy_85 : decode cX7_copy 85 = .ok (.ifCond .gt 21, 3) := zk157 0 21 rfl (by decide +kernel)
theorem dX7_copy_88 : decode cX7_copy 88 = .ok (.iload 4, 2) := zk21 4 (by decide +kernel)
theorem dX7_copy_90 : decode cX7_copy 90 = .ok (.i2l, 1) := zk133 (by decide +kernel)
theorem dX7_copy_91 : decode cX7_copy 91 = .ok (.iload 5, 2) := zk21 5 (by decide +kernel)
theorem dX7_copy_93 : decode cX7_copy 93 = .ok (.i2l, 1) := zk133 (by decide +kernel)
theorem dX7_copy_94 : decode cX7_copy 94 = .ok (.ladd, 1) := zk97 (by decide +kernel)
theorem dX7_copy_95 : decode cX7_copy 95 = .ok (.aload_n 0, 1) := zk42 (by decide +kernel)
theorem dX7_copy_96 : decode cX7_copy 96 = .ok (.getfield 22, 3) := zk180 0 22 (by decide +kernel)
theorem dX7_copy_99 : decode cX7_copy 99 = .ok (.iload_n 3, 1) := zk29 (by decide +kernel)
theorem dX7_copy_100 : decode cX7_copy 100 = .ok (.iaload, 1) := zk46 (by decide +kernel)
theorem dX7_copy_101 : decode cX7_copy 101 = .ok (.i2l, 1) := zk133 (by decide +kernel)
theorem dX7_copy_102 : decode cX7_copy 102 = .ok (.lcmp, 1) := zk148 (by decide +kernel)
theorem dX7_copy_103 : decode cX7_copy 103 = .ok (.ifCond .le 7, 3) := zk158 0 7 rfl (by decide +kernel)
theorem dX7_copy_106 : decode cX7_copy 106 = .ok (.ldc_w 296, 3) := zk19 1 40 (by decide +kernel)
theorem dX7_copy_109 : decode cX7_copy 109 = .ok (.ireturn, 1) := zk172 (by decide +kernel)
theorem dX7_copy_110 : decode cX7_copy 110 = .ok (.iconst 0, 1) := zk3 (by decide +kernel)
theorem dX7_copy_111 : decode cX7_copy 111 = .ok (.istore 6, 2) := zk54 6 (by decide +kernel)
theorem dX7_copy_113 : decode cX7_copy 113 = .ok (.iload 6, 2) := zk21 6 (by decide +kernel)
theorem dX7_copy_115 : decode cX7_copy 115 = .ok (.iload 5, 2) := zk21 5 (by decide +kernel)
theorem dX7_copy_117 : decode cX7_copy 117 = .ok (.if_icmp .ge 30, 3) := zk162 0 30 rfl (by decide +kernel)
theorem dX7_copy_120 : decode cX7_copy 120 = .ok (.aload_n 0, 1) := zk42 (by decide +kernel)
theorem dX7_copy_121 : decode cX7_copy 121 = .ok (.getfield 55, 3) := zk180 0 55 (by decide +kernel)
theorem dX7_copy_124 : decode cX7_copy 124 = .ok (.iload 6, 2) := zk21 6 (by decide +kernel)
theorem dX7_copy_126 : decode cX7_copy 126 = .ok (.aload_n 0, 1) := zk42 (by decide +kernel)
theorem dX7_copy_127 : decode cX7_copy 127 = .ok (.getfield 25, 3) := zk180 0 25 (by decide +kernel)
theorem dX7_copy_130 : decode cX7_copy 130 = .ok (.bipush 24, 2) := zk16 24 rfl (by decide +kernel)
theorem dX7_copy_132 : decode cX7_copy 132 = .ok (.iload_n 1, 1) := zk27 (by decide +kernel)
theorem dX7_copy_133 : decode cX7_copy 133 = .ok (.imul, 1) := zk104 (by decide +kernel)
theorem dX7_copy_134 : decode cX7_copy 134 = .ok (.iload_n 2, 1) := zk28 (by decide +kernel)
theorem dX7_copy_135 : decode cX7_copy 135 = .ok (.iadd, 1) := zk96 (by decide +kernel)
theorem dX7_copy_136 : decode cX7_copy 136 = .ok (.iload 6, 2) := zk21 6 (by decide +kernel)
theorem dX7_copy_138 : decode cX7_copy 138 = .ok (.iadd, 1) := zk96 (by decide +kernel)
theorem dX7_copy_139 : decode cX7_copy 139 = .ok (.iaload, 1) := zk46 (by decide +kernel)
theorem dX7_copy_140 : decode cX7_copy 140 = .ok (.iastore, 1) := zk79 (by decide +kernel)
theorem dX7_copy_141 : decode cX7_copy 141 = .ok (.iinc 6 1, 3) := by decide +kernel
theorem dX7_copy_144 : decode cX7_copy 144 = .ok (.goto (-31), 3) := zk167 255 225 rfl (by decide +kernel)
theorem dX7_copy_147 : decode cX7_copy 147 = .ok (.iconst 0, 1) := zk3 (by decide +kernel)
theorem dX7_copy_148 : decode cX7_copy 148 = .ok (.istore 6, 2) := zk54 6 (by decide +kernel)
theorem dX7_copy_150 : decode cX7_copy 150 = .ok (.iload 6, 2) := zk21 6 (by decide +kernel)
theorem dX7_copy_152 : decode cX7_copy 152 = .ok (.iload 5, 2) := zk21 5 (by decide +kernel)
theorem dX7_copy_154 : decode cX7_copy 154 = .ok (.if_icmp .ge 31, 3) := zk162 0 31 rfl (by decide +kernel)
theorem dX7_copy_157 : decode cX7_copy 157 = .ok (.aload_n 0, 1) := zk42 (by decide +kernel)
theorem dX7_copy_158 : decode cX7_copy 158 = .ok (.getfield 25, 3) := zk180 0 25 (by decide +kernel)
theorem dX7_copy_161 : decode cX7_copy 161 = .ok (.bipush 24, 2) := zk16 24 rfl (by decide +kernel)
theorem dX7_copy_163 : decode cX7_copy 163 = .ok (.iload_n 3, 1) := zk29 (by decide +kernel)
theorem dX7_copy_164 : decode cX7_copy 164 = .ok (.imul, 1) := zk104 (by decide +kernel)
theorem dX7_copy_165 : decode cX7_copy 165 = .ok (.iload 4, 2) := zk21 4 (by decide +kernel)
theorem dX7_copy_167 : decode cX7_copy 167 = .ok (.iadd, 1) := zk96 (by decide +kernel)
theorem dX7_copy_168 : decode cX7_copy 168 = .ok (.iload 6, 2) := zk21 6 (by decide +kernel)
theorem dX7_copy_170 : decode cX7_copy 170 = .ok (.iadd, 1) := zk96 (by decide +kernel)
theorem dX7_copy_171 : decode cX7_copy 171 = .ok (.aload_n 0, 1) := zk42 (by decide +kernel)
theorem dX7_copy_172 : decode cX7_copy 172 = .ok (.getfield 55, 3) := zk180 0 55 (by decide +kernel)
theorem dX7_copy_175 : decode cX7_copy 175 = .ok (.iload 6, 2) := zk21 6 (by decide +kernel)
theorem dX7_copy_177 : decode cX7_copy 177 = .ok (.iaload, 1) := zk46 (by decide +kernel)
theorem dX7_copy_178 : decode cX7_copy 178 = .ok (.iastore, 1) := zk79 (by decide +kernel)
theorem dX7_copy_179 : decode cX7_copy 179 = .ok (.iinc 6 1, 3) := by decide +kernel
theorem dX7_copy_182 : decode cX7_copy 182 = .ok (.goto (-32), 3) := zk167 255 224 rfl (by decide +kernel)
theorem dX7_copy_185 : decode cX7_copy 185 = .ok (.iload 5, 2) := zk21 5 (by decide +kernel)
theorem dX7_copy_187 : decode cX7_copy 187 = .ok (.ireturn, 1) := zk172 (by decide +kernel)
def bs_wsX7_lay : List (List Cond) := [[.code yX7_lay cX7_lay 7 (some .int)], wsX7_lay_r1, wsX7_lay_r2, wsX70]
theorem bse_wsX7_lay : wsX7_lay = bs_wsX7_lay.flatten := by
  unfold wsX7_lay bs_wsX7_lay
  simp only [List.flatten_cons, List.flatten_nil, List.append_nil, List.append_assoc, List.cons_append, List.nil_append]
set_option maxRecDepth 20000 in
theorem ggX7_lay_X7_isStall : GoodIn wsX7_lay wsX7_isStall := goodIn_pc bs_wsX7_lay bse_wsX7_lay _ [(1, [14, 15, 16, 17, 13, 18]), (3, [0, 1, 2, 3, 4, 5, 6, 7, 8, 9, 10, 11, 12, 13, 14, 15, 16, 17, 18, 19, 20, 21, 22, 23, 24, 25, 26, 27, 28, 29, 30])] rfl gw_wsX7_isStall
set_option maxRecDepth 20000 in
theorem gX7_lay_X7_isStall : GoodIn wsX7_lay (wsV RX7 116 RX7 yX7_isStall wsX7_isStall) := goodIn_app (goodIn_pc bs_wsX7_lay bse_wsX7_lay _ [(1, [10, 11, 12, 13])] rfl (by decide +kernel)) ggX7_lay_X7_isStall
set_option maxRecDepth 20000 in
theorem ggX7_lay_X7_isSheet : GoodIn wsX7_lay wsX7_isSheet := goodIn_pc bs_wsX7_lay bse_wsX7_lay _ [(1, [21, 22, 16, 17, 13, 18])] rfl gw_wsX7_isSheet
set_option maxRecDepth 20000 in
theorem gX7_lay_X7_isSheet : GoodIn wsX7_lay (va_wsS RX7 289 yX7_isSheet wsX7_isSheet) := goodIn_app (goodIn_pc bs_wsX7_lay bse_wsX7_lay _ [(1, [19, 20, 13])] rfl (by decide +kernel)) ggX7_lay_X7_isSheet
set_option maxRecDepth 20000 in
theorem ggX7_lay_X7_isSlot : GoodIn wsX7_lay wsX7_isSlot := goodIn_pc bs_wsX7_lay bse_wsX7_lay _ [(2, [1, 2]), (1, [16, 17, 13, 18])] rfl gw_wsX7_isSlot
set_option maxRecDepth 20000 in
theorem gX7_lay_X7_isSlot : GoodIn wsX7_lay (va_wsS RX7 303 yX7_isSlot wsX7_isSlot) := goodIn_app (goodIn_pc bs_wsX7_lay bse_wsX7_lay _ [(1, [23]), (2, [0]), (1, [13])] rfl (by decide +kernel)) ggX7_lay_X7_isSlot
set_option maxRecDepth 20000 in
theorem ggX7_lay_X7_of : GoodIn wsX7_lay wsX7_of := goodIn_pc bs_wsX7_lay bse_wsX7_lay _ [(2, [6]), (1, [15]), (3, [0, 1, 2, 3, 4, 5, 6, 7, 8, 9, 10, 11, 12, 13, 14, 15, 16, 17, 18, 19, 20, 21, 22, 23, 24, 25, 26, 27, 28, 29, 30])] rfl gw_wsX7_of
set_option maxRecDepth 20000 in
theorem gX7_lay_X7_of : GoodIn wsX7_lay (wsV RX7 85 RX7 yX7_of wsX7_of) := goodIn_app (goodIn_pc bs_wsX7_lay bse_wsX7_lay _ [(2, [3, 4, 5]), (1, [13])] rfl (by decide +kernel)) ggX7_lay_X7_of
set_option maxRecDepth 20000 in
theorem gw_wsX7_worth : wsX7_worth.all goodWord = true := by decide +kernel
set_option maxRecDepth 20000 in
theorem ggX7_lay_X7_worth : GoodIn wsX7_lay wsX7_worth := goodIn_pc bs_wsX7_lay bse_wsX7_lay _ [(2, [10, 3, 4, 5]), (1, [13]), (2, [6]), (1, [15]), (3, [0, 1, 2, 3, 4, 5, 6, 7, 8, 9, 10, 11, 12, 13, 14, 15, 16, 17, 18, 19, 20, 21, 22, 23, 24, 25, 26, 27, 28, 29, 30])] rfl gw_wsX7_worth
set_option maxRecDepth 20000 in
theorem gX7_lay_X7_worth : GoodIn wsX7_lay (wsV RX7 122 RX7 yX7_worth wsX7_worth) := goodIn_app (goodIn_pc bs_wsX7_lay bse_wsX7_lay _ [(2, [7, 8, 9]), (1, [13])] rfl (by decide +kernel)) ggX7_lay_X7_worth
theorem dX7_lay_0 : decode cX7_lay 0 = .ok (.iload_n 2, 1) := zk28 (by decide +kernel)
theorem dX7_lay_1 : decode cX7_lay 1 = .ok (.ifCond .eq 33, 3) := zk153 0 33 rfl (by decide +kernel)
theorem dX7_lay_4 : decode cX7_lay 4 = .ok (.iload_n 2, 1) := zk28 (by decide +kernel)
theorem dX7_lay_5 : decode cX7_lay 5 = .ok (.iconst 3, 1) := zk6 (by decide +kernel)
theorem dX7_lay_6 : decode cX7_lay 6 = .ok (.if_icmp .eq 28, 3) := zk159 0 28 rfl (by decide +kernel)
theorem dX7_lay_9 : decode cX7_lay 9 = .ok (.iload_n 2, 1) := zk28 (by decide +kernel)
theorem dX7_lay_10 : decode cX7_lay 10 = .ok (.iconst 1, 1) := zk4 (by decide +kernel)
theorem dX7_lay_11 : decode cX7_lay 11 = .ok (.if_icmp .ne 11, 3) := zk160 0 11 rfl (by decide +kernel)
theorem dX7_lay_14 : decode cX7_lay 14 = .ok (.aload_n 0, 1) := zk42 (by decide +kernel)
theorem dX7_lay_15 : decode cX7_lay 15 = .ok (.iload_n 3, 1) := zk29 (by decide +kernel)
theorem dX7_lay_16 : decode cX7_lay 16 = .ok (.invokevirtual 116, 3) := zk182 0 116 (by decide +kernel)
theorem dX7_lay_19 : decode cX7_lay 19 = .ok (.ifCond .ne 15, 3) := zk154 0 15 rfl (by decide +kernel)
theorem dX7_lay_22 : decode cX7_lay 22 = .ok (.iload_n 2, 1) := zk28 (by decide +kernel)
theorem dX7_lay_23 : decode cX7_lay 23 = .ok (.iconst 2, 1) := zk5 (by decide +kernel)
theorem dX7_lay_24 : decode cX7_lay 24 = .ok (.if_icmp .ne 14, 3) := zk160 0 14 rfl (by decide +kernel)
theorem dX7_lay_27 : decode cX7_lay 27 = .ok (.iload_n 3, 1) := zk29 (by decide +kernel)
theorem dX7_lay_28 : decode cX7_lay 28 = .ok (.invokestatic 289, 3) := zk184 1 33 (by decide +kernel)
theorem dX7_lay_31 : decode cX7_lay 31 = .ok (.ifCond .eq 7, 3) := zk153 0 7 rfl (by decide +kernel)
theorem dX7_lay_34 : decode cX7_lay 34 = .ok (.iconst 1, 1) := zk4 (by decide +kernel)
theorem dX7_lay_35 : decode cX7_lay 35 = .ok (.goto 4, 3) := zk167 0 4 rfl (by decide +kernel)
theorem dX7_lay_38 : decode cX7_lay 38 = .ok (.iconst 0, 1) := zk3 (by decide +kernel)
theorem dX7_lay_39 : decode cX7_lay 39 = .ok (.istore 4, 2) := zk54 4 (by decide +kernel)
theorem dX7_lay_41 : decode cX7_lay 41 = .ok (.iload_n 1, 1) := zk27 (by decide +kernel)
theorem dX7_lay_42 : decode cX7_lay 42 = .ok (.invokestatic 303, 3) := zk184 1 47 (by decide +kernel)
theorem dX7_lay_45 : decode cX7_lay 45 = .ok (.ifCond .eq 8, 3) := zk153 0 8 rfl (by decide +kernel)
theorem dX7_lay_48 : decode cX7_lay 48 = .ok (.iload 4, 2) := zk21 4 (by decide +kernel)
theorem dX7_lay_50 : decode cX7_lay 50 = .ok (.ifCond .ne 6, 3) := zk154 0 6 rfl (by decide +kernel)
theorem dX7_lay_53 : decode cX7_lay 53 = .ok (.ldc 80, 2) := zk18 80 (by decide +kernel)
theorem dX7_lay_55 : decode cX7_lay 55 = .ok (.ireturn, 1) := zk172 (by decide +kernel)
theorem dX7_lay_56 : decode cX7_lay 56 = .ok (.iload_n 2, 1) := zk28 (by decide +kernel)
theorem dX7_lay_57 : decode cX7_lay 57 = .ok (.iconst 2, 1) := zk5 (by decide +kernel)
theorem dX7_lay_58 : decode cX7_lay 58 = .ok (.if_icmp .ne 16, 3) := zk160 0 16 rfl (by decide +kernel)
theorem dX7_lay_61 : decode cX7_lay 61 = .ok (.aload_n 0, 1) := zk42 (by decide +kernel)
theorem dX7_lay_62 : decode cX7_lay 62 = .ok (.getfield 19, 3) := zk180 0 19 (by decide +kernel)
theorem dX7_lay_65 : decode cX7_lay 65 = .ok (.iload_n 3, 1) := zk29 (by decide +kernel)
theorem dX7_lay_66 : decode cX7_lay 66 = .ok (.iaload, 1) := zk46 (by decide +kernel)
theorem dX7_lay_67 : decode cX7_lay 67 = .ok (.ifCond .ge 7, 3) := zk156 0 7 rfl (by decide +kernel)
theorem dX7_lay_70 : decode cX7_lay 70 = .ok (.ldc_w 295, 3) := zk19 1 39 (by decide +kernel)
theorem dX7_lay_73 : decode cX7_lay 73 = .ok (.ireturn, 1) := zk172 (by decide +kernel)
theorem dX7_lay_74 : decode cX7_lay 74 = .ok (.aload_n 0, 1) := zk42 (by decide +kernel)
theorem dX7_lay_75 : decode cX7_lay 75 = .ok (.getfield 28, 3) := zk180 0 28 (by decide +kernel)
theorem dX7_lay_78 : decode cX7_lay 78 = .ok (.iload_n 1, 1) := zk27 (by decide +kernel)
theorem dX7_lay_79 : decode cX7_lay 79 = .ok (.iaload, 1) := zk46 (by decide +kernel)
theorem dX7_lay_80 : decode cX7_lay 80 = .ok (.istore 5, 2) := zk54 5 (by decide +kernel)
theorem dX7_lay_82 : decode cX7_lay 82 = .ok (.aload_n 0, 1) := zk42 (by decide +kernel)
theorem dX7_lay_83 : decode cX7_lay 83 = .ok (.getfield 28, 3) := zk180 0 28 (by decide +kernel)
theorem dX7_lay_86 : decode cX7_lay 86 = .ok (.iload_n 1, 1) := zk27 (by decide +kernel)
theorem dX7_lay_87 : decode cX7_lay 87 = .ok (.iload_n 2, 1) := zk28 (by decide +kernel)
theorem dX7_lay_88 : decode cX7_lay 88 = .ok (.iastore, 1) := zk79 (by decide +kernel)
theorem dX7_lay_89 : decode cX7_lay 89 = .ok (.aload_n 0, 1) := zk42 (by decide +kernel)
theorem dX7_lay_90 : decode cX7_lay 90 = .ok (.getfield 31, 3) := zk180 0 31 (by decide +kernel)
theorem dX7_lay_93 : decode cX7_lay 93 = .ok (.iload_n 1, 1) := zk27 (by decide +kernel)
theorem dX7_lay_94 : decode cX7_lay 94 = .ok (.iload_n 2, 1) := zk28 (by decide +kernel)
theorem dX7_lay_95 : decode cX7_lay 95 = .ok (.iconst 1, 1) := zk4 (by decide +kernel)
theorem dX7_lay_96 : decode cX7_lay 96 = .ok (.if_icmp .ne 12, 3) := zk160 0 12 rfl (by decide +kernel)
theorem dX7_lay_99 : decode cX7_lay 99 = .ok (.aload_n 0, 1) := zk42 (by decide +kernel)
theorem dX7_lay_100 : decode cX7_lay 100 = .ok (.iload_n 3, 1) := zk29 (by decide +kernel)
theorem dX7_lay_101 : decode cX7_lay 101 = .ok (.iconst 0, 1) := zk3 (by decide +kernel)
theorem dX7_lay_102 : decode cX7_lay 102 = .ok (.invokevirtual 85, 3) := zk182 0 85 (by decide +kernel)
theorem dX7_lay_105 : decode cX7_lay 105 = .ok (.goto 4, 3) := zk167 0 4 rfl (by decide +kernel)
theorem dX7_lay_108 : decode cX7_lay 108 = .ok (.iload_n 3, 1) := zk29 (by decide +kernel)
theorem dX7_lay_109 : decode cX7_lay 109 = .ok (.iastore, 1) := zk79 (by decide +kernel)
theorem dX7_lay_110 : decode cX7_lay 110 = .ok (.aload_n 0, 1) := zk42 (by decide +kernel)
theorem dX7_lay_111 : decode cX7_lay 111 = .ok (.getfield 34, 3) := zk180 0 34 (by decide +kernel)
theorem dX7_lay_114 : decode cX7_lay 114 = .ok (.iload_n 1, 1) := zk27 (by decide +kernel)
theorem dX7_lay_115 : decode cX7_lay 115 = .ok (.iload_n 2, 1) := zk28 (by decide +kernel)
theorem dX7_lay_116 : decode cX7_lay 116 = .ok (.iconst 1, 1) := zk4 (by decide +kernel)
theorem dX7_lay_117 : decode cX7_lay 117 = .ok (.if_icmp .ne 11, 3) := zk160 0 11 rfl (by decide +kernel)
theorem dX7_lay_120 : decode cX7_lay 120 = .ok (.aload_n 0, 1) := zk42 (by decide +kernel)
theorem dX7_lay_121 : decode cX7_lay 121 = .ok (.iload_n 3, 1) := zk29 (by decide +kernel)
theorem dX7_lay_122 : decode cX7_lay 122 = .ok (.invokevirtual 122, 3) := zk182 0 122 (by decide +kernel)
theorem dX7_lay_125 : decode cX7_lay 125 = .ok (.goto 4, 3) := zk167 0 4 rfl (by decide +kernel)
theorem dX7_lay_128 : decode cX7_lay 128 = .ok (.iconst 0, 1) := zk3 (by decide +kernel)
theorem dX7_lay_129 : decode cX7_lay 129 = .ok (.iastore, 1) := zk79 (by decide +kernel)
theorem dX7_lay_130 : decode cX7_lay 130 = .ok (.iload_n 2, 1) := zk28 (by decide +kernel)
theorem dX7_lay_131 : decode cX7_lay 131 = .ok (.iconst 2, 1) := zk5 (by decide +kernel)
theorem dX7_lay_132 : decode cX7_lay 132 = .ok (.if_icmp .ne 55, 3) := zk160 0 55 rfl (by decide +kernel)
theorem dX7_lay_135 : decode cX7_lay 135 = .ok (.aload_n 0, 1) := zk42 (by decide +kernel)
theorem dX7_lay_136 : decode cX7_lay 136 = .ok (.getfield 37, 3) := zk180 0 37 (by decide +kernel)
theorem dX7_lay_139 : decode cX7_lay 139 = .ok (.iload_n 1, 1) := zk27 (by decide +kernel)
theorem dX7_lay_140 : decode cX7_lay 140 = .ok (.aload_n 0, 1) := zk42 (by decide +kernel)
theorem dX7_lay_141 : decode cX7_lay 141 = .ok (.getfield 22, 3) := zk180 0 22 (by decide +kernel)
theorem dX7_lay_144 : decode cX7_lay 144 = .ok (.iload_n 3, 1) := zk29 (by decide +kernel)
theorem dX7_lay_145 : decode cX7_lay 145 = .ok (.iaload, 1) := zk46 (by decide +kernel)
theorem dX7_lay_146 : decode cX7_lay 146 = .ok (.iastore, 1) := zk79 (by decide +kernel)
theorem dX7_lay_147 : decode cX7_lay 147 = .ok (.iconst 0, 1) := zk3 (by decide +kernel)
theorem dX7_lay_148 : decode cX7_lay 148 = .ok (.istore 6, 2) := zk54 6 (by decide +kernel)
theorem dX7_lay_150 : decode cX7_lay 150 = .ok (.iload 6, 2) := zk21 6 (by decide +kernel)
theorem dX7_lay_152 : decode cX7_lay 152 = .ok (.bipush 24, 2) := zk16 24 rfl (by decide +kernel)
theorem dX7_lay_154 : decode cX7_lay 154 = .ok (.if_icmp .ge 33, 3) := zk162 0 33 rfl (by decide +kernel)
theorem dX7_lay_157 : decode cX7_lay 157 = .ok (.aload_n 0, 1) := zk42 (by decide +kernel)
theorem dX7_lay_158 : decode cX7_lay 158 = .ok (.getfield 40, 3) := zk180 0 40 (by decide +kernel)
theorem dX7_lay_161 : decode cX7_lay 161 = .ok (.bipush 24, 2) := zk16 24 rfl (by decide +kernel)
theorem dX7_lay_163 : decode cX7_lay 163 = .ok (.iload_n 1, 1) := zk27 (by decide +kernel)
theorem dX7_lay_164 : decode cX7_lay 164 = .ok (.imul, 1) := zk104 (by decide +kernel)
theorem dX7_lay_165 : decode cX7_lay 165 = .ok (.iload 6, 2) := zk21 6 (by decide +kernel)
theorem dX7_lay_167 : decode cX7_lay 167 = .ok (.iadd, 1) := zk96 (by decide +kernel)
theorem dX7_lay_168 : decode cX7_lay 168 = .ok (.aload_n 0, 1) := zk42 (by decide +kernel)
theorem dX7_lay_169 : decode cX7_lay 169 = .ok (.getfield 25, 3) := zk180 0 25 (by decide +kernel)
theorem dX7_lay_172 : decode cX7_lay 172 = .ok (.bipush 24, 2) := zk16 24 rfl (by decide +kernel)
theorem dX7_lay_174 : decode cX7_lay 174 = .ok (.iload_n 3, 1) := zk29 (by decide +kernel)
theorem dX7_lay_175 : decode cX7_lay 175 = .ok (.imul, 1) := zk104 (by decide +kernel)
theorem dX7_lay_176 : decode cX7_lay 176 = .ok (.iload 6, 2) := zk21 6 (by decide +kernel)
theorem dX7_lay_178 : decode cX7_lay 178 = .ok (.iadd, 1) := zk96 (by decide +kernel)
theorem dX7_lay_179 : decode cX7_lay 179 = .ok (.iaload, 1) := zk46 (by decide +kernel)
theorem dX7_lay_180 : decode cX7_lay 180 = .ok (.iastore, 1) := zk79 (by decide +kernel)
theorem dX7_lay_181 : decode cX7_lay 181 = .ok (.iinc 6 1, 3) := by decide +kernel
theorem dX7_lay_184 : decode cX7_lay 184 = .ok (.goto (-34), 3) := zk167 255 222 rfl (by decide +kernel)
theorem dX7_lay_187 : decode cX7_lay 187 = .ok (.iload 5, 2) := zk21 5 (by decide +kernel)
theorem dX7_lay_189 : decode cX7_lay 189 = .ok (.ireturn, 1) := zk172 (by decide +kernel)
set_option maxRecDepth 20000 in
theorem ggX7_item_X7_isSlot : GoodIn wsX7_item wsX7_isSlot := goodIn_r _ [12, 13, 14, 15, 11, 16] rfl gw_wsX7_isSlot
set_option maxRecDepth 20000 in
theorem gX7_item_X7_isSlot : GoodIn wsX7_item (va_wsS RX7 303 yX7_isSlot wsX7_isSlot) := goodIn_app (goodIn_r _ [9, 10, 11] rfl (by decide +kernel)) ggX7_item_X7_isSlot
set_option maxRecDepth 20000 in
theorem ggX7_item_X7_isIn : GoodIn wsX7_item wsX7_isIn := goodIn_r _ [16] rfl gw_wsX7_isIn
set_option maxRecDepth 20000 in
theorem gX7_item_X7_isIn : GoodIn wsX7_item (va_wsS RX7 65 yX7_isIn wsX7_isIn) := goodIn_app (goodIn_r _ [14, 15, 11] rfl (by decide +kernel)) ggX7_item_X7_isIn
theorem dX7_item_0 : decode cX7_item 0 = .ok (.iload_n 1, 1) := zk27 (by decide +kernel)
theorem dX7_item_1 : decode cX7_item 1 = .ok (.invokestatic 303, 3) := zk184 1 47 (by decide +kernel)
theorem dX7_item_4 : decode cX7_item 4 = .ok (.ifCond .ne 6, 3) := zk154 0 6 rfl (by decide +kernel)
theorem dX7_item_7 : decode cX7_item 7 = .ok (.ldc 80, 2) := zk18 80 (by decide +kernel)
theorem dX7_item_9 : decode cX7_item 9 = .ok (.ireturn, 1) := zk172 (by decide +kernel)
theorem dX7_item_10 : decode cX7_item 10 = .ok (.aload_n 0, 1) := zk42 (by decide +kernel)
theorem dX7_item_11 : decode cX7_item 11 = .ok (.getfield 28, 3) := zk180 0 28 (by decide +kernel)
theorem dX7_item_14 : decode cX7_item 14 = .ok (.iload_n 1, 1) := zk27 (by decide +kernel)
theorem dX7_item_15 : decode cX7_item 15 = .ok (.iaload, 1) := zk46 (by decide +kernel)
theorem dX7_item_16 : decode cX7_item 16 = .ok (.iconst 2, 1) := zk5 (by decide +kernel)
theorem dX7_item_17 : decode cX7_item 17 = .ok (.if_icmp .eq 21, 3) := zk159 0 21 rfl (by decide +kernel)
theorem dX7_item_20 : decode cX7_item 20 = .ok (.aload_n 0, 1) := zk42 (by decide +kernel)
theorem dX7_item_21 : decode cX7_item 21 = .ok (.getfield 28, 3) := zk180 0 28 (by decide +kernel)
theorem dX7_item_24 : decode cX7_item 24 = .ok (.iload_n 1, 1) := zk27 (by decide +kernel)
theorem dX7_item_25 : decode cX7_item 25 = .ok (.iaload, 1) := zk46 (by decide +kernel)
theorem dX7_item_26 : decode cX7_item 26 = .ok (.ifCond .ne 9, 3) := zk154 0 9 rfl (by decide +kernel)
theorem dX7_item_29 : decode cX7_item 29 = .ok (.ldc_w 295, 3) := zk19 1 39 (by decide +kernel)
theorem dX7_item_32 : decode cX7_item 32 = .ok (.goto 5, 3) := zk167 0 5 rfl (by decide +kernel)
theorem dX7_item_35 : decode cX7_item 35 = .ok (.ldc 129, 2) := zk18 129 (by decide +kernel)
theorem dX7_item_37 : decode cX7_item 37 = .ok (.ireturn, 1) := zk172 (by decide +kernel)
theorem dX7_item_38 : decode cX7_item 38 = .ok (.iload_n 2, 1) := zk28 (by decide +kernel)
theorem dX7_item_39 : decode cX7_item 39 = .ok (.i2l, 1) := zk133 (by decide +kernel)
theorem dX7_item_40 : decode cX7_item 40 = .ok (.lconst 0, 1) := zk9 (by decide +kernel)
theorem dX7_item_41 : decode cX7_item 41 = .ok (.aload_n 0, 1) := zk42 (by decide +kernel)
theorem dX7_item_42 : decode cX7_item 42 = .ok (.getfield 37, 3) := zk180 0 37 (by decide +kernel)
theorem dX7_item_45 : decode cX7_item 45 = .ok (.iload_n 1, 1) := zk27 (by decide +kernel)
theorem dX7_item_46 : decode cX7_item 46 = .ok (.iaload, 1) := zk46 (by decide +kernel)
theorem dX7_item_47 : decode cX7_item 47 = .ok (.iconst 1, 1) := zk4 (by decide +kernel)
theorem dX7_item_48 : decode cX7_item 48 = .ok (.isub, 1) := zk100 (by decide +kernel)
theorem dX7_item_49 : decode cX7_item 49 = .ok (.i2l, 1) := zk133 (by decide +kernel)
theorem dX7_item_50 : decode cX7_item 50 = .ok (.invokestatic 65, 3) := zk184 0 65 (by decide +kernel)
theorem dX7_item_53 : decode cX7_item 53 = .ok (.ifCond .ne 7, 3) := zk154 0 7 rfl (by decide +kernel)
theorem dX7_item_56 : decode cX7_item 56 = .ok (.ldc_w 296, 3) := zk19 1 40 (by decide +kernel)
theorem dX7_item_59 : decode cX7_item 59 = .ok (.ireturn, 1) := zk172 (by decide +kernel)
theorem dX7_item_60 : decode cX7_item 60 = .ok (.aload_n 0, 1) := zk42 (by decide +kernel)
theorem dX7_item_61 : decode cX7_item 61 = .ok (.getfield 40, 3) := zk180 0 40 (by decide +kernel)
theorem dX7_item_64 : decode cX7_item 64 = .ok (.bipush 24, 2) := zk16 24 rfl (by decide +kernel)
theorem dX7_item_66 : decode cX7_item 66 = .ok (.iload_n 1, 1) := zk27 (by decide +kernel)
theorem dX7_item_67 : decode cX7_item 67 = .ok (.imul, 1) := zk104 (by decide +kernel)
theorem dX7_item_68 : decode cX7_item 68 = .ok (.iload_n 2, 1) := zk28 (by decide +kernel)
theorem dX7_item_69 : decode cX7_item 69 = .ok (.iadd, 1) := zk96 (by decide +kernel)
theorem dX7_item_70 : decode cX7_item 70 = .ok (.iaload, 1) := zk46 (by decide +kernel)
theorem dX7_item_71 : decode cX7_item 71 = .ok (.istore_n 3, 1) := zk62 (by decide +kernel)
theorem dX7_item_72 : decode cX7_item 72 = .ok (.iload_n 3, 1) := zk29 (by decide +kernel)
theorem dX7_item_73 : decode cX7_item 73 = .ok (.ldc 64, 2) := zk18 64 (by decide +kernel)
theorem dX7_item_75 : decode cX7_item 75 = .ok (.if_icmp .ne 8, 3) := zk160 0 8 rfl (by decide +kernel)
theorem dX7_item_78 : decode cX7_item 78 = .ok (.ldc 129, 2) := zk18 129 (by decide +kernel)
theorem dX7_item_80 : decode cX7_item 80 = .ok (.goto 4, 3) := zk167 0 4 rfl (by decide +kernel)
theorem dX7_item_83 : decode cX7_item 83 = .ok (.iload_n 3, 1) := zk29 (by decide +kernel)
theorem dX7_item_84 : decode cX7_item 84 = .ok (.ireturn, 1) := zk172 (by decide +kernel)
def bs_wsX7_check : List (List Cond) := [[.code yX7_check cX7_check 5 (some .int)], wsX7_check_r1, wsX7_check_r2, wsX7_check_r3, wsX7_check_r4, wsX7_check_r5, wsX70]
theorem bse_wsX7_check : wsX7_check = bs_wsX7_check.flatten := by
  unfold wsX7_check bs_wsX7_check
  simp only [List.flatten_cons, List.flatten_nil, List.append_nil, List.append_assoc, List.cons_append, List.nil_append]
set_option maxRecDepth 20000 in
theorem ggX7_check_X7_isIn : GoodIn wsX7_check wsX7_isIn := goodIn_pc bs_wsX7_check bse_wsX7_check _ [(1, [13])] rfl gw_wsX7_isIn
set_option maxRecDepth 20000 in
theorem gX7_check_X7_isIn : GoodIn wsX7_check (va_wsS RX7 65 yX7_isIn wsX7_isIn) := goodIn_app (goodIn_pc bs_wsX7_check bse_wsX7_check _ [(1, [10, 11, 12])] rfl (by decide +kernel)) ggX7_check_X7_isIn
set_option maxRecDepth 20000 in
theorem ggX7_check_X7_setAside : GoodIn wsX7_check wsX7_setAside := goodIn_pc bs_wsX7_check bse_wsX7_check _ [(1, [17])] rfl gw_wsX7_setAside
set_option maxRecDepth 20000 in
theorem gX7_check_X7_setAside : GoodIn wsX7_check (wsV RX7 316 RX7 yX7_setAside wsX7_setAside) := goodIn_app (goodIn_pc bs_wsX7_check bse_wsX7_check _ [(1, [14, 15, 16, 12])] rfl (by decide +kernel)) ggX7_check_X7_setAside
set_option maxRecDepth 20000 in
theorem ggX7_check_X7_goesOn : GoodIn wsX7_check wsX7_goesOn := goodIn_pc bs_wsX7_check bse_wsX7_check _ [(1, [21, 22, 23]), (2, [0]), (1, [12]), (2, [1]), (1, [5]), (2, [2, 3, 4, 5, 6, 7, 8, 9, 10, 11, 12, 13, 14, 15, 16, 17, 18, 19, 20, 21, 22, 23]), (3, [0, 1, 2, 3, 4]), (1, [10, 11, 13]), (3, [5, 6, 7, 8, 9, 10, 11, 12, 13, 14, 15, 16, 17, 18, 19, 20, 21, 22, 23]), (4, [0, 1, 2, 3, 4, 5, 6, 7, 8, 9, 10, 11, 12, 13, 14, 15, 16, 17, 18, 19, 20, 21, 22, 23]), (5, [0, 1]), (6, [0, 1, 2, 3, 4, 5, 6, 7, 8, 9, 10, 11, 12, 13, 14, 15, 16, 17, 18, 19, 20, 21, 22, 23, 24, 25, 26, 27, 28, 29, 30])] rfl gw_wsX7_goesOn
set_option maxRecDepth 20000 in
theorem gX7_check_X7_goesOn : GoodIn wsX7_check (wsV RX7 172 RX7 yX7_goesOn wsX7_goesOn) := goodIn_app (goodIn_pc bs_wsX7_check bse_wsX7_check _ [(1, [18, 19, 20, 12])] rfl (by decide +kernel)) ggX7_check_X7_goesOn
theorem dX7_check_0 : decode cX7_check 0 = .ok (.aload_n 0, 1) := zk42 (by decide +kernel)
theorem dX7_check_1 : decode cX7_check 1 = .ok (.getfield 307, 3) := zk180 1 51 (by decide +kernel)
theorem dX7_check_4 : decode cX7_check 4 = .ok (.istore_n 2, 1) := zk61 (by decide +kernel)
theorem dX7_check_5 : decode cX7_check 5 = .ok (.aload_n 0, 1) := zk42 (by decide +kernel)
theorem dX7_check_6 : decode cX7_check 6 = .ok (.iconst 0, 1) := zk3 (by decide +kernel)
theorem dX7_check_7 : decode cX7_check 7 = .ok (.putfield 307, 3) := zk181 1 51 (by decide +kernel)
theorem dX7_check_10 : decode cX7_check 10 = .ok (.iload_n 1, 1) := zk27 (by decide +kernel)
theorem dX7_check_11 : decode cX7_check 11 = .ok (.i2l, 1) := zk133 (by decide +kernel)
theorem dX7_check_12 : decode cX7_check 12 = .ok (.lconst 1, 1) := zk10 (by decide +kernel)
theorem dX7_check_13 : decode cX7_check 13 = .ok (.ldc2_w 310, 3) := zk20 1 54 (by decide +kernel)
theorem dX7_check_16 : decode cX7_check 16 = .ok (.invokestatic 65, 3) := zk184 0 65 (by decide +kernel)
theorem dX7_check_19 : decode cX7_check 19 = .ok (.ifCond .ne 6, 3) := zk154 0 6 rfl (by decide +kernel)
theorem dX7_check_22 : decode cX7_check 22 = .ok (.ldc 80, 2) := zk18 80 (by decide +kernel)
theorem dX7_check_24 : decode cX7_check 24 = .ok (.ireturn, 1) := zk172 (by decide +kernel)
theorem dX7_check_25 : decode cX7_check 25 = .ok (.aload_n 0, 1) := zk42 (by decide +kernel)
theorem dX7_check_26 : decode cX7_check 26 = .ok (.getfield 312, 3) := zk180 1 56 (by decide +kernel)
theorem dX7_check_29 : decode cX7_check 29 = .ok (.ifCond .ne 7, 3) := zk154 0 7 rfl (by decide +kernel)
theorem dX7_check_32 : decode cX7_check 32 = .ok (.ldc_w 306, 3) := zk19 1 50 (by decide +kernel)
theorem dX7_check_35 : decode cX7_check 35 = .ok (.ireturn, 1) := zk172 (by decide +kernel)
theorem dX7_check_36 : decode cX7_check 36 = .ok (.aload_n 0, 1) := zk42 (by decide +kernel)
theorem dX7_check_37 : decode cX7_check 37 = .ok (.aload_n 0, 1) := zk42 (by decide +kernel)
theorem dX7_check_38 : decode cX7_check 38 = .ok (.getfield 7, 3) := zk180 0 7 (by decide +kernel)
theorem dX7_check_41 : decode cX7_check 41 = .ok (.aload_n 0, 1) := zk42 (by decide +kernel)
theorem dX7_check_42 : decode cX7_check 42 = .ok (.getfield 16, 3) := zk180 0 16 (by decide +kernel)
theorem dX7_check_45 : decode cX7_check 45 = .ok (.invokevirtual 316, 3) := zk182 1 60 (by decide +kernel)
theorem dX7_check_48 : decode cX7_check 48 = .ok (.aload_n 0, 1) := zk42 (by decide +kernel)
theorem dX7_check_49 : decode cX7_check 49 = .ok (.aload_n 0, 1) := zk42 (by decide +kernel)
theorem dX7_check_50 : decode cX7_check 50 = .ok (.getfield 13, 3) := zk180 0 13 (by decide +kernel)
theorem dX7_check_53 : decode cX7_check 53 = .ok (.aload_n 0, 1) := zk42 (by decide +kernel)
theorem dX7_check_54 : decode cX7_check 54 = .ok (.getfield 7, 3) := zk180 0 7 (by decide +kernel)
theorem dX7_check_57 : decode cX7_check 57 = .ok (.invokevirtual 316, 3) := zk182 1 60 (by decide +kernel)
theorem dX7_check_60 : decode cX7_check 60 = .ok (.iconst 0, 1) := zk3 (by decide +kernel)
theorem dX7_check_61 : decode cX7_check 61 = .ok (.istore_n 3, 1) := zk62 (by decide +kernel)
theorem dX7_check_62 : decode cX7_check 62 = .ok (.iconst 0, 1) := zk3 (by decide +kernel)
theorem dX7_check_63 : decode cX7_check 63 = .ok (.istore 4, 2) := zk54 4 (by decide +kernel)
theorem dX7_check_65 : decode cX7_check 65 = .ok (.iload 4, 2) := zk21 4 (by decide +kernel)
theorem dX7_check_67 : decode cX7_check 67 = .ok (.iload_n 1, 1) := zk27 (by decide +kernel)
theorem dX7_check_68 : decode cX7_check 68 = .ok (.if_icmp .ge 55, 3) := zk162 0 55 rfl (by decide +kernel)
theorem dX7_check_71 : decode cX7_check 71 = .ok (.aload_n 0, 1) := zk42 (by decide +kernel)
theorem dX7_check_72 : decode cX7_check 72 = .ok (.getfield 7, 3) := zk180 0 7 (by decide +kernel)
theorem dX7_check_75 : decode cX7_check 75 = .ok (.iconst 2, 1) := zk5 (by decide +kernel)
theorem dX7_check_76 : decode cX7_check 76 = .ok (.iaload, 1) := zk46 (by decide +kernel)
theorem dX7_check_77 : decode cX7_check 77 = .ok (.sipush 9999, 3) := zk17 39 15 rfl (by decide +kernel)
theorem dX7_check_80 : decode cX7_check 80 = .ok (.if_icmp .ge 43, 3) := zk162 0 43 rfl (by decide +kernel)
theorem dX7_check_83 : decode cX7_check 83 = .ok (.aload_n 0, 1) := zk42 (by decide +kernel)
theorem dX7_check_84 : decode cX7_check 84 = .ok (.invokevirtual 172, 3) := zk182 0 172 (by decide +kernel)
theorem dX7_check_87 : decode cX7_check 87 = .ok (.aload_n 0, 1) := zk42 (by decide +kernel)
theorem dX7_check_88 : decode cX7_check 88 = .ok (.getfield 61, 3) := zk180 0 61 (by decide +kernel)
theorem dX7_check_91 : decode cX7_check 91 = .ok (.iload_n 3, 1) := zk29 (by decide +kernel)
theorem dX7_check_92 : decode cX7_check 92 = .ok (.aload_n 0, 1) := zk42 (by decide +kernel)
theorem dX7_check_93 : decode cX7_check 93 = .ok (.getfield 7, 3) := zk180 0 7 (by decide +kernel)
theorem dX7_check_96 : decode cX7_check 96 = .ok (.iconst 4, 1) := zk7 (by decide +kernel)
theorem dX7_check_97 : decode cX7_check 97 = .ok (.iaload, 1) := zk46 (by decide +kernel)
theorem dX7_check_98 : decode cX7_check 98 = .ok (.iastore, 1) := zk79 (by decide +kernel)
theorem dX7_check_99 : decode cX7_check 99 = .ok (.aload_n 0, 1) := zk42 (by decide +kernel)
theorem dX7_check_100 : decode cX7_check 100 = .ok (.getfield 61, 3) := zk180 0 61 (by decide +kernel)
theorem dX7_check_103 : decode cX7_check 103 = .ok (.iload_n 3, 1) := zk29 (by decide +kernel)
theorem dX7_check_104 : decode cX7_check 104 = .ok (.iconst 1, 1) := zk4 (by decide +kernel)
theorem dX7_check_105 : decode cX7_check 105 = .ok (.iadd, 1) := zk96 (by decide +kernel)
theorem dX7_check_106 : decode cX7_check 106 = .ok (.aload_n 0, 1) := zk42 (by decide +kernel)
theorem dX7_check_107 : decode cX7_check 107 = .ok (.getfield 7, 3) := zk180 0 7 (by decide +kernel)
theorem dX7_check_110 : decode cX7_check 110 = .ok (.bipush 7, 2) := zk16 7 rfl (by decide +kernel)
theorem dX7_check_112 : decode cX7_check 112 = .ok (.iaload, 1) := zk46 (by decide +kernel)
theorem dX7_check_113 : decode cX7_check 113 = .ok (.iastore, 1) := zk79 (by decide +kernel)
theorem dX7_check_114 : decode cX7_check 114 = .ok (.iinc 3 2, 3) := by decide +kernel
theorem dX7_check_117 : decode cX7_check 117 = .ok (.iinc 4 1, 3) := by decide +kernel
theorem dX7_check_120 : decode cX7_check 120 = .ok (.goto (-55), 3) := zk167 255 201 rfl (by decide +kernel)
theorem dX7_check_123 : decode cX7_check 123 = .ok (.aload_n 0, 1) := zk42 (by decide +kernel)
theorem dX7_check_124 : decode cX7_check 124 = .ok (.aload_n 0, 1) := zk42 (by decide +kernel)
theorem dX7_check_125 : decode cX7_check 125 = .ok (.getfield 16, 3) := zk180 0 16 (by decide +kernel)
theorem dX7_check_128 : decode cX7_check 128 = .ok (.aload_n 0, 1) := zk42 (by decide +kernel)
theorem dX7_check_129 : decode cX7_check 129 = .ok (.getfield 7, 3) := zk180 0 7 (by decide +kernel)
theorem dX7_check_132 : decode cX7_check 132 = .ok (.invokevirtual 316, 3) := zk182 1 60 (by decide +kernel)
theorem dX7_check_135 : decode cX7_check 135 = .ok (.iconst 0, 1) := zk3 (by decide +kernel)
theorem dX7_check_136 : decode cX7_check 136 = .ok (.istore 4, 2) := zk54 4 (by decide +kernel)
theorem dX7_check_138 : decode cX7_check 138 = .ok (.iload 4, 2) := zk21 4 (by decide +kernel)
theorem dX7_check_140 : decode cX7_check 140 = .ok (.iload_n 2, 1) := zk28 (by decide +kernel)
theorem dX7_check_141 : decode cX7_check 141 = .ok (.if_icmp .ge 32, 3) := zk162 0 32 rfl (by decide +kernel)
theorem dX7_check_144 : decode cX7_check 144 = .ok (.iload 4, 2) := zk21 4 (by decide +kernel)
theorem dX7_check_146 : decode cX7_check 146 = .ok (.iload_n 3, 1) := zk29 (by decide +kernel)
theorem dX7_check_147 : decode cX7_check 147 = .ok (.if_icmp .ge 26, 3) := zk162 0 26 rfl (by decide +kernel)
theorem dX7_check_150 : decode cX7_check 150 = .ok (.aload_n 0, 1) := zk42 (by decide +kernel)
theorem dX7_check_151 : decode cX7_check 151 = .ok (.getfield 58, 3) := zk180 0 58 (by decide +kernel)
theorem dX7_check_154 : decode cX7_check 154 = .ok (.iload 4, 2) := zk21 4 (by decide +kernel)
theorem dX7_check_156 : decode cX7_check 156 = .ok (.iaload, 1) := zk46 (by decide +kernel)
theorem dX7_check_157 : decode cX7_check 157 = .ok (.aload_n 0, 1) := zk42 (by decide +kernel)
theorem dX7_check_158 : decode cX7_check 158 = .ok (.getfield 61, 3) := zk180 0 61 (by decide +kernel)
theorem dX7_check_161 : decode cX7_check 161 = .ok (.iload 4, 2) := zk21 4 (by decide +kernel)
theorem dX7_check_163 : decode cX7_check 163 = .ok (.iaload, 1) := zk46 (by decide +kernel)
theorem dX7_check_164 : decode cX7_check 164 = .ok (.if_icmp .ne 9, 3) := zk160 0 9 rfl (by decide +kernel)
theorem dX7_check_167 : decode cX7_check 167 = .ok (.iinc 4 1, 3) := by decide +kernel
theorem dX7_check_170 : decode cX7_check 170 = .ok (.goto (-32), 3) := zk167 255 224 rfl (by decide +kernel)
theorem dX7_check_173 : decode cX7_check 173 = .ok (.iload 4, 2) := zk21 4 (by decide +kernel)
theorem dX7_check_175 : decode cX7_check 175 = .ok (.iload_n 2, 1) := zk28 (by decide +kernel)
theorem dX7_check_176 : decode cX7_check 176 = .ok (.if_icmp .ne 13, 3) := zk160 0 13 rfl (by decide +kernel)
theorem dX7_check_179 : decode cX7_check 179 = .ok (.iload 4, 2) := zk21 4 (by decide +kernel)
theorem dX7_check_181 : decode cX7_check 181 = .ok (.iload_n 3, 1) := zk29 (by decide +kernel)
theorem dX7_check_182 : decode cX7_check 182 = .ok (.if_icmp .ne 7, 3) := zk160 0 7 rfl (by decide +kernel)
theorem dX7_check_185 : decode cX7_check 185 = .ok (.iconst 0, 1) := zk3 (by decide +kernel)
theorem dX7_check_186 : decode cX7_check 186 = .ok (.goto 7, 3) := zk167 0 7 rfl (by decide +kernel)
theorem dX7_check_189 : decode cX7_check 189 = .ok (.iconst 1, 1) := zk4 (by decide +kernel)
theorem dX7_check_190 : decode cX7_check 190 = .ok (.iload 4, 2) := zk21 4 (by decide +kernel)
theorem dX7_check_192 : decode cX7_check 192 = .ok (.iadd, 1) := zk96 (by decide +kernel)
theorem dX7_check_193 : decode cX7_check 193 = .ok (.ireturn, 1) := zk172 (by decide +kernel)
set_option maxRecDepth 20000 in
theorem ggX7_keep_X7_setAside : GoodIn wsX7_keep wsX7_setAside := goodIn_r _ [8] rfl gw_wsX7_setAside
set_option maxRecDepth 20000 in
theorem gX7_keep_X7_setAside : GoodIn wsX7_keep (wsV RX7 316 RX7 yX7_setAside wsX7_setAside) := goodIn_app (goodIn_r _ [4, 5, 6, 7] rfl (by decide +kernel)) ggX7_keep_X7_setAside
theorem dX7_keep_0 : decode cX7_keep 0 = .ok (.aload_n 0, 1) := zk42 (by decide +kernel)
theorem dX7_keep_1 : decode cX7_keep 1 = .ok (.iconst 1, 1) := zk4 (by decide +kernel)
theorem dX7_keep_2 : decode cX7_keep 2 = .ok (.putfield 312, 3) := zk181 1 56 (by decide +kernel)
theorem dX7_keep_5 : decode cX7_keep 5 = .ok (.aload_n 0, 1) := zk42 (by decide +kernel)
theorem dX7_keep_6 : decode cX7_keep 6 = .ok (.aload_n 0, 1) := zk42 (by decide +kernel)
theorem dX7_keep_7 : decode cX7_keep 7 = .ok (.getfield 7, 3) := zk180 0 7 (by decide +kernel)
theorem dX7_keep_10 : decode cX7_keep 10 = .ok (.aload_n 0, 1) := zk42 (by decide +kernel)
theorem dX7_keep_11 : decode cX7_keep 11 = .ok (.getfield 13, 3) := zk180 0 13 (by decide +kernel)
theorem dX7_keep_14 : decode cX7_keep 14 = .ok (.invokevirtual 316, 3) := zk182 1 60 (by decide +kernel)
theorem dX7_keep_17 : decode cX7_keep 17 = .ok (.aload_n 0, 1) := zk42 (by decide +kernel)
theorem dX7_keep_18 : decode cX7_keep 18 = .ok (.getfield 7, 3) := zk180 0 7 (by decide +kernel)
theorem dX7_keep_21 : decode cX7_keep 21 = .ok (.iconst 0, 1) := zk3 (by decide +kernel)
theorem dX7_keep_22 : decode cX7_keep 22 = .ok (.iaload, 1) := zk46 (by decide +kernel)
theorem dX7_keep_23 : decode cX7_keep 23 = .ok (.ireturn, 1) := zk172 (by decide +kernel)
set_option maxRecDepth 20000 in
theorem ggX7_manyShaded_X7_shadedSet : GoodIn wsX7_manyShaded wsX7_shadedSet := goodIn_r _ [5, 6, 7, 8, 9, 4, 10, 11, 12, 13, 14, 15, 16, 17, 18, 19, 20, 21, 22, 23, 24, 25, 26, 27, 28, 29, 30, 31, 32, 33, 34, 35, 36, 37, 38, 39, 40, 41, 42, 43, 44, 45, 46, 47, 48, 49, 50, 51, 52] rfl gw_wsX7_shadedSet
set_option maxRecDepth 20000 in
theorem gX7_manyShaded_X7_shadedSet : GoodIn wsX7_manyShaded (wsV RX7 143 RX7 yX7_shadedSet wsX7_shadedSet) := goodIn_app (goodIn_r _ [1, 2, 3, 4] rfl (by decide +kernel)) ggX7_manyShaded_X7_shadedSet
theorem dX7_manyShaded_0 : decode cX7_manyShaded 0 = .ok (.iconst 0, 1) := zk3 (by decide +kernel)
theorem dX7_manyShaded_1 : decode cX7_manyShaded 1 = .ok (.istore_n 1, 1) := zk60 (by decide +kernel)
theorem dX7_manyShaded_2 : decode cX7_manyShaded 2 = .ok (.aload_n 0, 1) := zk42 (by decide +kernel)
theorem dX7_manyShaded_3 : decode cX7_manyShaded 3 = .ok (.invokevirtual 143, 3) := zk182 0 143 (by decide +kernel)
theorem dX7_manyShaded_6 : decode cX7_manyShaded 6 = .ok (.istore_n 2, 1) := zk61 (by decide +kernel)
theorem dX7_manyShaded_7 : decode cX7_manyShaded 7 = .ok (.iload_n 2, 1) := zk28 (by decide +kernel)
theorem dX7_manyShaded_8 : decode cX7_manyShaded 8 = .ok (.ifCond .eq 15, 3) := zk153 0 15 rfl (by decide +kernel)
theorem dX7_manyShaded_11 : decode cX7_manyShaded 11 = .ok (.iinc 1 1, 3) := by decide +kernel
theorem dX7_manyShaded_14 : decode cX7_manyShaded 14 = .ok (.iload_n 2, 1) := zk28 (by decide +kernel)
theorem dX7_manyShaded_15 : decode cX7_manyShaded 15 = .ok (.iload_n 2, 1) := zk28 (by decide +kernel)
theorem dX7_manyShaded_16 : decode cX7_manyShaded 16 = .ok (.iconst 1, 1) := zk4 (by decide +kernel)
theorem dX7_manyShaded_17 : decode cX7_manyShaded 17 = .ok (.isub, 1) := zk100 (by decide +kernel)
theorem dX7_manyShaded_18 : decode cX7_manyShaded 18 = .ok (.iand, 1) := zk126 (by decide +kernel)
theorem dX7_manyShaded_19 : decode cX7_manyShaded 19 = .ok (.istore_n 2, 1) := zk61 (by decide +kernel)
theorem dX7_manyShaded_20 : decode cX7_manyShaded 20 = .ok (.goto (-13), 3) := zk167 255 243 rfl (by decide +kernel)
theorem dX7_manyShaded_23 : decode cX7_manyShaded 23 = .ok (.iload_n 1, 1) := zk27 (by decide +kernel)
theorem dX7_manyShaded_24 : decode cX7_manyShaded 24 = .ok (.ireturn, 1) := zk172 (by decide +kernel)
set_option maxRecDepth 20000 in
theorem gw_wsX7_manyShaded : wsX7_manyShaded.all goodWord = true := by decide +kernel
def bs_wsX7_count : List (List Cond) := [[.code yX7_count cX7_count 2 (some .int)], wsX7_count_r1, wsX7_count_r2, wsX70]
theorem bse_wsX7_count : wsX7_count = bs_wsX7_count.flatten := by
  unfold wsX7_count bs_wsX7_count
  simp only [List.flatten_cons, List.flatten_nil, List.append_nil, List.append_assoc, List.cons_append, List.nil_append]
set_option maxRecDepth 20000 in
theorem ggX7_count_X7_manyShaded : GoodIn wsX7_count wsX7_manyShaded := goodIn_pc bs_wsX7_count bse_wsX7_count _ [(1, [8, 9, 10, 11, 7, 12, 0, 13, 14, 15, 16, 17, 18, 19, 20, 21, 22, 23]), (2, [0, 1, 2, 3]), (3, [0, 1, 2, 3, 4, 5, 6, 7, 8, 9, 10, 11, 12, 13, 14, 15, 16, 17, 18, 19, 20, 21, 22, 23, 24, 25, 26, 27, 28, 29, 30])] rfl gw_wsX7_manyShaded
set_option maxRecDepth 20000 in
theorem gX7_count_X7_manyShaded : GoodIn wsX7_count (wsV RX7 320 RX7 yX7_manyShaded wsX7_manyShaded) := goodIn_app (goodIn_pc bs_wsX7_count bse_wsX7_count _ [(1, [4, 5, 6, 7])] rfl (by decide +kernel)) ggX7_count_X7_manyShaded
theorem dX7_count_0 : decode cX7_count 0 = .ok (.iload_n 1, 1) := zk27 (by decide +kernel)
theorem dX7_count_1 : decode cX7_count 1 = .ok (.tableswitch 87 0 6 #[43, 50, 57, 62, 69, 74, 79], 43) := by decide +kernel
theorem dX7_count_44 : decode cX7_count 44 = .ok (.aload_n 0, 1) := zk42 (by decide +kernel)
theorem dX7_count_45 : decode cX7_count 45 = .ok (.getfield 7, 3) := zk180 0 7 (by decide +kernel)
theorem dX7_count_48 : decode cX7_count 48 = .ok (.iconst 0, 1) := zk3 (by decide +kernel)
theorem dX7_count_49 : decode cX7_count 49 = .ok (.iaload, 1) := zk46 (by decide +kernel)
theorem dX7_count_50 : decode cX7_count 50 = .ok (.ireturn, 1) := zk172 (by decide +kernel)
theorem dX7_count_51 : decode cX7_count 51 = .ok (.aload_n 0, 1) := zk42 (by decide +kernel)
theorem dX7_count_52 : decode cX7_count 52 = .ok (.getfield 7, 3) := zk180 0 7 (by decide +kernel)
theorem dX7_count_55 : decode cX7_count 55 = .ok (.iconst 2, 1) := zk5 (by decide +kernel)
theorem dX7_count_56 : decode cX7_count 56 = .ok (.iaload, 1) := zk46 (by decide +kernel)
theorem dX7_count_57 : decode cX7_count 57 = .ok (.ireturn, 1) := zk172 (by decide +kernel)
theorem dX7_count_58 : decode cX7_count 58 = .ok (.aload_n 0, 1) := zk42 (by decide +kernel)
theorem dX7_count_59 : decode cX7_count 59 = .ok (.invokevirtual 320, 3) := zk182 1 64 (by decide +kernel)
theorem dX7_count_62 : decode cX7_count 62 = .ok (.ireturn, 1) := zk172 (by decide +kernel)
theorem dX7_count_63 : decode cX7_count 63 = .ok (.aload_n 0, 1) := zk42 (by decide +kernel)
theorem dX7_count_64 : decode cX7_count 64 = .ok (.getfield 7, 3) := zk180 0 7 (by decide +kernel)
theorem dX7_count_67 : decode cX7_count 67 = .ok (.iconst 1, 1) := zk4 (by decide +kernel)
theorem dX7_count_68 : decode cX7_count 68 = .ok (.iaload, 1) := zk46 (by decide +kernel)
theorem dX7_count_69 : decode cX7_count 69 = .ok (.ireturn, 1) := zk172 (by decide +kernel)
theorem dX7_count_70 : decode cX7_count 70 = .ok (.aload_n 0, 1) := zk42 (by decide +kernel)
theorem dX7_count_71 : decode cX7_count 71 = .ok (.getfield 307, 3) := zk180 1 51 (by decide +kernel)
theorem dX7_count_74 : decode cX7_count 74 = .ok (.ireturn, 1) := zk172 (by decide +kernel)
theorem dX7_count_75 : decode cX7_count 75 = .ok (.aload_n 0, 1) := zk42 (by decide +kernel)
theorem dX7_count_76 : decode cX7_count 76 = .ok (.getfield 188, 3) := zk180 0 188 (by decide +kernel)
theorem dX7_count_79 : decode cX7_count 79 = .ok (.ireturn, 1) := zk172 (by decide +kernel)
theorem dX7_count_80 : decode cX7_count 80 = .ok (.aload_n 0, 1) := zk42 (by decide +kernel)
theorem dX7_count_81 : decode cX7_count 81 = .ok (.getfield 7, 3) := zk180 0 7 (by decide +kernel)
theorem dX7_count_84 : decode cX7_count 84 = .ok (.bipush 6, 2) := zk16 6 rfl (by decide +kernel)
theorem dX7_count_86 : decode cX7_count 86 = .ok (.iaload, 1) := zk46 (by decide +kernel)
theorem dX7_count_87 : decode cX7_count 87 = .ok (.ireturn, 1) := zk172 (by decide +kernel)
theorem dX7_count_88 : decode cX7_count 88 = .ok (.ldc 80, 2) := zk18 80 (by decide +kernel)
theorem dX7_count_90 : decode cX7_count 90 = .ok (.ireturn, 1) := zk172 (by decide +kernel)
