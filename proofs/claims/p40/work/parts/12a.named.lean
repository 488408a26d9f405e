theorem dX3_refuses_0 : decode cX3_refuses 0 = .ok (.aload_n 0, 1) := zk42 (by decide +kernel)
theorem dX3_refuses_1 : decode cX3_refuses 1 = .ok (.getfield 9, 3) := zk180 0 9 (by decide +kernel)
theorem dX3_refuses_4 : decode cX3_refuses 4 = .ok (.ifCond .ne 6, 3) := zk154 0 6 rfl (by decide +kernel)
theorem dX3_refuses_7 : decode cX3_refuses 7 = .ok (.ldc 29, 2) := zk18 29 (by decide +kernel)
theorem dX3_refuses_9 : decode cX3_refuses 9 = .ok (.ireturn, 1) := zk172 (by decide +kernel)
theorem dX3_refuses_10 : decode cX3_refuses 10 = .ok (.aload_n 0, 1) := zk42 (by decide +kernel)
theorem dX3_refuses_11 : decode cX3_refuses 11 = .ok (.getfield 9, 3) := zk180 0 9 (by decide +kernel)
theorem dX3_refuses_14 : decode cX3_refuses 14 = .ok (.iload_n 1, 1) := zk27 (by decide +kernel)
theorem dX3_refuses_15 : decode cX3_refuses 15 = .ok (.if_icmp .ne 7, 3) := zk160 0 7 rfl (by decide +kernel)
theorem dX3_refuses_18 : decode cX3_refuses 18 = .ok (.iconst 0, 1) := zk3 (by decide +kernel)
theorem dX3_refuses_19 : decode cX3_refuses 19 = .ok (.goto 5, 3) := zk167 0 5 rfl (by decide +kernel)
theorem dX3_refuses_22 : decode cX3_refuses 22 = .ok (.ldc 30, 2) := zk18 30 (by decide +kernel)
theorem dX3_refuses_24 : decode cX3_refuses 24 = .ok (.ireturn, 1) := zk172 (by decide +kernel)
set_option maxRecDepth 20000 in
theorem ggX4_isOf_X6_within : GoodIn wsX4_isOf wsX6_within := goodIn_r _ [4] rfl gw_wsX6_within
set_option maxRecDepth 20000 in
theorem gX4_isOf_X6_within_n24 : GoodIn wsX4_isOf (wsX6_within) := ggX4_isOf_X6_within
theorem dX4_isOf_0 : decode cX4_isOf 0 = .ok (.aload_n 0, 1) := zk42 (by decide +kernel)
theorem dX4_isOf_1 : decode cX4_isOf 1 = .ok (.getfield 9, 3) := zk180 0 9 (by decide +kernel)
theorem dX4_isOf_4 : decode cX4_isOf 4 = .ok (.istore_n 2, 1) := zk61 (by decide +kernel)
theorem dX4_isOf_5 : decode cX4_isOf 5 = .ok (.iconst 0, 1) := zk3 (by decide +kernel)
theorem dX4_isOf_6 : decode cX4_isOf 6 = .ok (.istore_n 3, 1) := zk62 (by decide +kernel)
theorem dX4_isOf_7 : decode cX4_isOf 7 = .ok (.iload_n 3, 1) := zk29 (by decide +kernel)
theorem dX4_isOf_8 : decode cX4_isOf 8 = .ok (.bipush 6, 2) := zk16 6 rfl (by decide +kernel)
theorem dX4_isOf_10 : decode cX4_isOf 10 = .ok (.if_icmp .ge 31, 3) := zk162 0 31 rfl (by decide +kernel)
theorem dX4_isOf_13 : decode cX4_isOf 13 = .ok (.iload_n 2, 1) := zk28 (by decide +kernel)
theorem dX4_isOf_14 : decode cX4_isOf 14 = .ok (.iconst 0, 1) := zk3 (by decide +kernel)
theorem dX4_isOf_15 : decode cX4_isOf 15 = .ok (.iconst 5, 1) := zk8 (by decide +kernel)
theorem dX4_isOf_16 : decode cX4_isOf 16 = .ok (.invokestatic 24, 3) := zk184 0 24 (by decide +kernel)
theorem dX4_isOf_19 : decode cX4_isOf 19 = .ok (.ifCond .eq 22, 3) := zk153 0 22 rfl (by decide +kernel)
theorem dX4_isOf_22 : decode cX4_isOf 22 = .ok (.iload_n 2, 1) := zk28 (by decide +kernel)
theorem dX4_isOf_23 : decode cX4_isOf 23 = .ok (.iload_n 1, 1) := zk27 (by decide +kernel)
theorem dX4_isOf_24 : decode cX4_isOf 24 = .ok (.if_icmp .ne 5, 3) := zk160 0 5 rfl (by decide +kernel)
theorem dX4_isOf_27 : decode cX4_isOf 27 = .ok (.iconst 1, 1) := zk4 (by decide +kernel)
theorem dX4_isOf_28 : decode cX4_isOf 28 = .ok (.ireturn, 1) := zk172 (by decide +kernel)
theorem dX4_isOf_29 : decode cX4_isOf 29 = .ok (.getstatic 28, 3) := zk178 0 28 (by decide +kernel)
theorem dX4_isOf_32 : decode cX4_isOf 32 = .ok (.iload_n 2, 1) := zk28 (by decide +kernel)
theorem dX4_isOf_33 : decode cX4_isOf 33 = .ok (.iaload, 1) := zk46 (by decide +kernel)
theorem dX4_isOf_34 : decode cX4_isOf 34 = .ok (.istore_n 2, 1) := zk61 (by decide +kernel)
theorem dX4_isOf_35 : decode cX4_isOf 35 = .ok (.iinc 3 1, 3) := by decide +kernel
theorem dX4_isOf_38 : decode cX4_isOf 38 = .ok (.goto (-31), 3) := zk167 255 225 rfl (by decide +kernel)
theorem dX4_isOf_41 : decode cX4_isOf 41 = .ok (.iconst 0, 1) := zk3 (by decide +kernel)
theorem dX4_isOf_42 : decode cX4_isOf 42 = .ok (.ireturn, 1) := zk172 (by decide +kernel)
theorem dX4_worth_0 : decode cX4_worth 0 = .ok (.aload_n 0, 1) := zk42 (by decide +kernel)
theorem dX4_worth_1 : decode cX4_worth 1 = .ok (.getfield 9, 3) := zk180 0 9 (by decide +kernel)
theorem dX4_worth_4 : decode cX4_worth 4 = .ok (.tableswitch 75 1 5 #[36, 54, 44, 62, 73], 36) := by decide +kernel
theorem dX4_worth_40 : decode cX4_worth 40 = .ok (.aload_n 0, 1) := zk42 (by decide +kernel)
theorem dX4_worth_41 : decode cX4_worth 41 = .ok (.getfield 21, 3) := zk180 0 21 (by decide +kernel)
theorem dX4_worth_44 : decode cX4_worth 44 = .ok (.bipush 6, 2) := zk16 6 rfl (by decide +kernel)
theorem dX4_worth_46 : decode cX4_worth 46 = .ok (.iadd, 1) := zk96 (by decide +kernel)
theorem dX4_worth_47 : decode cX4_worth 47 = .ok (.ireturn, 1) := zk172 (by decide +kernel)
theorem dX4_worth_48 : decode cX4_worth 48 = .ok (.iconst 2, 1) := zk5 (by decide +kernel)
theorem dX4_worth_49 : decode cX4_worth 49 = .ok (.aload_n 0, 1) := zk42 (by decide +kernel)
theorem dX4_worth_50 : decode cX4_worth 50 = .ok (.getfield 21, 3) := zk180 0 21 (by decide +kernel)
theorem dX4_worth_53 : decode cX4_worth 53 = .ok (.bipush 6, 2) := zk16 6 rfl (by decide +kernel)
theorem dX4_worth_55 : decode cX4_worth 55 = .ok (.iadd, 1) := zk96 (by decide +kernel)
theorem dX4_worth_56 : decode cX4_worth 56 = .ok (.imul, 1) := zk104 (by decide +kernel)
theorem dX4_worth_57 : decode cX4_worth 57 = .ok (.ireturn, 1) := zk172 (by decide +kernel)
theorem dX4_worth_58 : decode cX4_worth 58 = .ok (.bipush 99, 2) := zk16 99 rfl (by decide +kernel)
theorem dX4_worth_60 : decode cX4_worth 60 = .ok (.aload_n 0, 1) := zk42 (by decide +kernel)
theorem dX4_worth_61 : decode cX4_worth 61 = .ok (.getfield 21, 3) := zk180 0 21 (by decide +kernel)
theorem dX4_worth_64 : decode cX4_worth 64 = .ok (.isub, 1) := zk100 (by decide +kernel)
theorem dX4_worth_65 : decode cX4_worth 65 = .ok (.ireturn, 1) := zk172 (by decide +kernel)
theorem dX4_worth_66 : decode cX4_worth 66 = .ok (.bipush 99, 2) := zk16 99 rfl (by decide +kernel)
theorem dX4_worth_68 : decode cX4_worth 68 = .ok (.aload_n 0, 1) := zk42 (by decide +kernel)
theorem dX4_worth_69 : decode cX4_worth 69 = .ok (.getfield 21, 3) := zk180 0 21 (by decide +kernel)
theorem dX4_worth_72 : decode cX4_worth 72 = .ok (.isub, 1) := zk100 (by decide +kernel)
theorem dX4_worth_73 : decode cX4_worth 73 = .ok (.bipush 8, 2) := zk16 8 rfl (by decide +kernel)
theorem dX4_worth_75 : decode cX4_worth 75 = .ok (.isub, 1) := zk100 (by decide +kernel)
theorem dX4_worth_76 : decode cX4_worth 76 = .ok (.ireturn, 1) := zk172 (by decide +kernel)
theorem dX4_worth_77 : decode cX4_worth 77 = .ok (.iconst 2, 1) := zk5 (by decide +kernel)
theorem dX4_worth_78 : decode cX4_worth 78 = .ok (.ireturn, 1) := zk172 (by decide +kernel)
theorem dX4_worth_79 : decode cX4_worth 79 = .ok (.aload_n 0, 1) := zk42 (by decide +kernel)
theorem dX4_worth_80 : decode cX4_worth 80 = .ok (.getfield 21, 3) := zk180 0 21 (by decide +kernel)
theorem dX4_worth_83 : decode cX4_worth 83 = .ok (.ireturn, 1) := zk172 (by decide +kernel)
set_option maxRecDepth 20000 in
theorem gw_wsX6_isStall : wsX6_isStall.all goodWord = true := by decide +kernel
set_option maxRecDepth 20000 in
theorem ggX6_as_X6_isStall : GoodIn wsX6_as wsX6_isStall := goodIn_r _ [10, 2, 11, 12, 13, 9, 14, 21, 22, 23, 24, 25, 26, 27, 28, 29, 30, 31, 32, 33, 34, 35, 36, 37, 38, 39, 40, 41, 42, 43, 44, 45, 46, 47, 48, 49] rfl gw_wsX6_isStall
set_option maxRecDepth 20000 in
theorem gX6_as_X6_isStall : GoodIn wsX6_as (wsV RX6 79 RX6 yX6_isStall wsX6_isStall) := goodIn_app (goodIn_r _ [6, 7, 8, 9] rfl (by decide +kernel)) ggX6_as_X6_isStall
set_option maxRecDepth 20000 in
theorem ggX6_as_X6_within : GoodIn wsX6_as wsX6_within := goodIn_r _ [14] rfl gw_wsX6_within
set_option maxRecDepth 20000 in
theorem gX6_as_X6_within : GoodIn wsX6_as (va_wsS RX6 65 yX6_within wsX6_within) := goodIn_app (goodIn_r _ [12, 13, 9] rfl (by decide +kernel)) ggX6_as_X6_within
set_option maxRecDepth 20000 in
theorem gw_wsX4_isOf : wsX4_isOf.all goodWord = true := by decide +kernel
set_option maxRecDepth 20000 in
theorem ggX6_as_X4_isOf : GoodIn wsX6_as wsX4_isOf := goodIn_r _ [19, 20, 13, 9, 14, 50, 51, 52, 53] rfl gw_wsX4_isOf
set_option maxRecDepth 20000 in
theorem gX6_as_X4_isOf : GoodIn wsX6_as (wsV RX6 112 RX4 yX4_isOf wsX4_isOf) := goodIn_app (goodIn_r _ [15, 16, 17, 18] rfl (by decide +kernel)) ggX6_as_X4_isOf
theorem dX6_as_0 : decode cX6_as 0 = .ok (.aload_n 0, 1) := zk42 (by decide +kernel)
theorem dX6_as_1 : decode cX6_as 1 = .ok (.iload_n 1, 1) := zk27 (by decide +kernel)
theorem dX6_as_2 : decode cX6_as 2 = .ok (.invokevirtual 79, 3) := zk182 0 79 (by decide +kernel)
theorem dX6_as_5 : decode cX6_as 5 = .ok (.ifCond .eq 12, 3) := zk153 0 12 rfl (by decide +kernel)
theorem dX6_as_8 : decode cX6_as 8 = .ok (.iload_n 2, 1) := zk28 (by decide +kernel)
theorem dX6_as_9 : decode cX6_as 9 = .ok (.iconst 0, 1) := zk3 (by decide +kernel)
theorem dX6_as_10 : decode cX6_as 10 = .ok (.iconst 5, 1) := zk8 (by decide +kernel)
theorem dX6_as_11 : decode cX6_as 11 = .ok (.invokestatic 65, 3) := zk184 0 65 (by decide +kernel)
theorem dX6_as_14 : decode cX6_as 14 = .ok (.ifCond .ne 6, 3) := zk154 0 6 rfl (by decide +kernel)
theorem dX6_as_17 : decode cX6_as 17 = .ok (.ldc 69, 2) := zk18 69 (by decide +kernel)
theorem dX6_as_19 : decode cX6_as 19 = .ok (.ireturn, 1) := zk172 (by decide +kernel)
theorem dX6_as_20 : decode cX6_as 20 = .ok (.aload_n 0, 1) := zk42 (by decide +kernel)
theorem dX6_as_21 : decode cX6_as 21 = .ok (.getfield 39, 3) := zk180 0 39 (by decide +kernel)
theorem dX6_as_24 : decode cX6_as 24 = .ok (.getfield 83, 3) := zk180 0 83 (by decide +kernel)
theorem dX6_as_27 : decode cX6_as 27 = .ok (.iload_n 1, 1) := zk27 (by decide +kernel)
theorem dX6_as_28 : decode cX6_as 28 = .ok (.aaload, 1) := zk50 (by decide +kernel)
theorem dX6_as_29 : decode cX6_as 29 = .ok (.astore_n 3, 1) := zk78 (by decide +kernel)
theorem dX6_as_30 : decode cX6_as 30 = .ok (.aload_n 3, 1) := zk45 (by decide +kernel)
theorem dX6_as_31 : decode cX6_as 31 = .ok (.iload_n 2, 1) := zk28 (by decide +kernel)
theorem dX6_as_32 : decode cX6_as 32 = .ok (.invokevirtual 112, 3) := zk182 0 112 (by decide +kernel)
theorem dX6_as_35 : decode cX6_as 35 = .ok (.ifCond .eq 10, 3) := zk153 0 10 rfl (by decide +kernel)
theorem dX6_as_38 : decode cX6_as 38 = .ok (.aload_n 3, 1) := zk45 (by decide +kernel)
theorem dX6_as_39 : decode cX6_as 39 = .ok (.getfield 98, 3) := zk180 0 98 (by decide +kernel)
theorem dX6_as_42 : decode cX6_as 42 = .ok (.goto 5, 3) := zk167 0 5 rfl (by decide +kernel)
theorem dX6_as_45 : decode cX6_as 45 = .ok (.ldc 115, 2) := zk18 115 (by decide +kernel)
theorem dX6_as_47 : decode cX6_as 47 = .ok (.ireturn, 1) := zk172 (by decide +kernel)
def bs_wsX6_cloth : List (List Cond) := [[.code yX6_cloth cX6_cloth 2 (some .int)], wsX6_cloth_r1, wsX6_cloth_r2, wsX60, wsX00, wsX40]
theorem bse_wsX6_cloth : wsX6_cloth = bs_wsX6_cloth.flatten := by
  unfold wsX6_cloth bs_wsX6_cloth
  simp only [List.flatten_cons, List.flatten_nil, List.append_nil, List.append_assoc, List.cons_append, List.nil_append]
set_option maxRecDepth 20000 in
theorem ggX6_cloth_X0_heat : GoodIn wsX6_cloth wsX0_heat := goodIn_pc bs_wsX6_cloth bse_wsX6_cloth _ [(1, [10, 11, 12, 13, 14, 15]), (4, [0, 1, 2, 3, 4, 5, 6, 7, 8, 9, 10, 11, 12, 13])] rfl gw_wsX0_heat
set_option maxRecDepth 20000 in
theorem gX6_cloth_X0_heat : GoodIn wsX6_cloth (wsV RX6 138 RX0 yX0_heat wsX0_heat) := goodIn_app (goodIn_pc bs_wsX6_cloth bse_wsX6_cloth _ [(1, [6, 7, 8, 9])] rfl (by decide +kernel)) ggX6_cloth_X0_heat
set_option maxRecDepth 20000 in
theorem gw_wsX0_firstShaded : wsX0_firstShaded.all goodWord = true := by decide +kernel
set_option maxRecDepth 20000 in
theorem ggX6_cloth_X0_firstShaded : GoodIn wsX6_cloth wsX0_firstShaded := goodIn_pc bs_wsX6_cloth bse_wsX6_cloth _ [(1, [19, 20, 21, 22, 23, 9]), (2, [0, 1, 2, 3, 4, 5, 6, 7, 8, 9, 10]), (1, [11]), (4, [0, 1, 2, 3, 4, 5, 6, 7, 8, 9, 10, 11, 12, 13])] rfl gw_wsX0_firstShaded
set_option maxRecDepth 20000 in
theorem gX6_cloth_X0_firstShaded : GoodIn wsX6_cloth (wsV RX6 141 RX0 yX0_firstShaded wsX0_firstShaded) := goodIn_app (goodIn_pc bs_wsX6_cloth bse_wsX6_cloth _ [(1, [16, 17, 18, 9])] rfl (by decide +kernel)) ggX6_cloth_X0_firstShaded
set_option maxRecDepth 20000 in
theorem gw_wsX0_shadedSet : wsX0_shadedSet.all goodWord = true := by decide +kernel
set_option maxRecDepth 20000 in
theorem ggX6_cloth_X0_shadedSet : GoodIn wsX6_cloth wsX0_shadedSet := goodIn_pc bs_wsX6_cloth bse_wsX6_cloth _ [(2, [14, 15, 16, 17]), (1, [21, 22, 23, 9]), (2, [0, 1, 2, 3, 4, 5, 6, 7, 8, 9, 10]), (1, [11]), (4, [0, 1, 2, 3, 4, 5, 6, 7, 8, 9, 10, 11, 12, 13]), (5, [0, 1, 2, 3])] rfl gw_wsX0_shadedSet
set_option maxRecDepth 20000 in
theorem gX6_cloth_X0_shadedSet : GoodIn wsX6_cloth (wsV RX6 144 RX0 yX0_shadedSet wsX0_shadedSet) := goodIn_app (goodIn_pc bs_wsX6_cloth bse_wsX6_cloth _ [(2, [11, 12, 13]), (1, [9])] rfl (by decide +kernel)) ggX6_cloth_X0_shadedSet
theorem dX6_cloth_0 : decode cX6_cloth 0 = .ok (.iload_n 1, 1) := zk27 (by decide +kernel)
theorem dX6_cloth_1 : decode cX6_cloth 1 = .ok (.tableswitch 99 0 6 #[43, 51, 59, 67, 75, 83, 91], 43) := by decide +kernel
theorem dX6_cloth_44 : decode cX6_cloth 44 = .ok (.aload_n 0, 1) := zk42 (by decide +kernel)
theorem dX6_cloth_45 : decode cX6_cloth 45 = .ok (.getfield 39, 3) := zk180 0 39 (by decide +kernel)
theorem dX6_cloth_48 : decode cX6_cloth 48 = .ok (.getfield 126, 3) := zk180 0 126 (by decide +kernel)
theorem dX6_cloth_51 : decode cX6_cloth 51 = .ok (.ireturn, 1) := zk172 (by decide +kernel)
theorem dX6_cloth_52 : decode cX6_cloth 52 = .ok (.aload_n 0, 1) := zk42 (by decide +kernel)
theorem dX6_cloth_53 : decode cX6_cloth 53 = .ok (.getfield 39, 3) := zk180 0 39 (by decide +kernel)
theorem dX6_cloth_56 : decode cX6_cloth 56 = .ok (.getfield 129, 3) := zk180 0 129 (by decide +kernel)
theorem dX6_cloth_59 : decode cX6_cloth 59 = .ok (.ireturn, 1) := zk172 (by decide +kernel)
theorem dX6_cloth_60 : decode cX6_cloth 60 = .ok (.aload_n 0, 1) := zk42 (by decide +kernel)
theorem dX6_cloth_61 : decode cX6_cloth 61 = .ok (.getfield 39, 3) := zk180 0 39 (by decide +kernel)
theorem dX6_cloth_64 : decode cX6_cloth 64 = .ok (.getfield 132, 3) := zk180 0 132 (by decide +kernel)
theorem dX6_cloth_67 : decode cX6_cloth 67 = .ok (.ireturn, 1) := zk172 (by decide +kernel)
theorem dX6_cloth_68 : decode cX6_cloth 68 = .ok (.aload_n 0, 1) := zk42 (by decide +kernel)
theorem dX6_cloth_69 : decode cX6_cloth 69 = .ok (.getfield 39, 3) := zk180 0 39 (by decide +kernel)
theorem dX6_cloth_72 : decode cX6_cloth 72 = .ok (.getfield 135, 3) := zk180 0 135 (by decide +kernel)
theorem dX6_cloth_75 : decode cX6_cloth 75 = .ok (.ireturn, 1) := zk172 (by decide +kernel)
theorem dX6_cloth_76 : decode cX6_cloth 76 = .ok (.aload_n 0, 1) := zk42 (by decide +kernel)
theorem dX6_cloth_77 : decode cX6_cloth 77 = .ok (.getfield 39, 3) := zk180 0 39 (by decide +kernel)
theorem dX6_cloth_80 : decode cX6_cloth 80 = .ok (.invokevirtual 138, 3) := zk182 0 138 (by decide +kernel)
theorem dX6_cloth_83 : decode cX6_cloth 83 = .ok (.ireturn, 1) := zk172 (by decide +kernel)
theorem dX6_cloth_84 : decode cX6_cloth 84 = .ok (.aload_n 0, 1) := zk42 (by decide +kernel)
theorem dX6_cloth_85 : decode cX6_cloth 85 = .ok (.getfield 39, 3) := zk180 0 39 (by decide +kernel)
theorem dX6_cloth_88 : decode cX6_cloth 88 = .ok (.invokevirtual 141, 3) := zk182 0 141 (by decide +kernel)
theorem dX6_cloth_91 : decode cX6_cloth 91 = .ok (.ireturn, 1) := zk172 (by decide +kernel)
theorem dX6_cloth_92 : decode cX6_cloth 92 = .ok (.aload_n 0, 1) := zk42 (by decide +kernel)
theorem dX6_cloth_93 : decode cX6_cloth 93 = .ok (.getfield 39, 3) := zk180 0 39 (by decide +kernel)
theorem dX6_cloth_96 : decode cX6_cloth 96 = .ok (.invokevirtual 144, 3) := zk182 0 144 (by decide +kernel)
theorem dX6_cloth_99 : decode cX6_cloth 99 = .ok (.ireturn, 1) := zk172 (by decide +kernel)
theorem dX6_cloth_100 : decode cX6_cloth 100 = .ok (.ldc 69, 2) := zk18 69 (by decide +kernel)
theorem dX6_cloth_102 : decode cX6_cloth 102 = .ok (.ireturn, 1) := zk172 (by decide +kernel)
def bs_wsX6_deal : List (List Cond) := [[.code yX6_deal cX6_deal 7 (some .int)], wsX6_deal_r1, wsX6_deal_r2, wsX60, wsX00, wsX40]
theorem bse_wsX6_deal : wsX6_deal = bs_wsX6_deal.flatten := by
  unfold wsX6_deal bs_wsX6_deal
  simp only [List.flatten_cons, List.flatten_nil, List.append_nil, List.append_assoc, List.cons_append, List.nil_append]
set_option maxRecDepth 20000 in
theorem ggX6_deal_X6_within : GoodIn wsX6_deal wsX6_within := goodIn_pc bs_wsX6_deal bse_wsX6_deal _ [(1, [10])] rfl gw_wsX6_within
set_option maxRecDepth 20000 in
theorem gX6_deal_X6_within : GoodIn wsX6_deal (va_wsS RX6 65 yX6_within wsX6_within) := goodIn_app (goodIn_pc bs_wsX6_deal bse_wsX6_deal _ [(1, [7, 8, 9])] rfl (by decide +kernel)) ggX6_deal_X6_within
set_option maxRecDepth 20000 in
theorem ggX6_deal_X0_draw : GoodIn wsX6_deal wsX0_draw := goodIn_pc bs_wsX6_deal bse_wsX6_deal _ [(1, [15, 16, 17]), (4, [0, 1, 2, 3, 4, 5, 6, 7, 8, 9, 10, 11, 12, 13])] rfl gw_wsX0_draw
set_option maxRecDepth 20000 in
theorem gX6_deal_X0_draw : GoodIn wsX6_deal (wsV RX6 173 RX0 yX0_draw wsX0_draw) := goodIn_app (goodIn_pc bs_wsX6_deal bse_wsX6_deal _ [(1, [11, 12, 13, 14])] rfl (by decide +kernel)) ggX6_deal_X0_draw
set_option maxRecDepth 20000 in
theorem gw_wsX0_open : wsX0_open.all goodWord = true := by decide +kernel
set_option maxRecDepth 20000 in
theorem ggX6_deal_X0_open : GoodIn wsX6_deal wsX0_open := goodIn_pc bs_wsX6_deal bse_wsX6_deal _ [(1, [21, 22, 23]), (2, [0, 1, 2, 3, 4]), (4, [0, 1, 2, 3, 4, 5, 6, 7, 8, 9, 10, 11, 12, 13]), (5, [0, 1, 2, 3])] rfl gw_wsX0_open
set_option maxRecDepth 20000 in
theorem gX6_deal_X0_open : GoodIn wsX6_deal (wsV RX6 75 RX0 yX0_open wsX0_open) := goodIn_app (goodIn_pc bs_wsX6_deal bse_wsX6_deal _ [(1, [18, 19, 20, 14])] rfl (by decide +kernel)) ggX6_deal_X0_open
theorem dX6_deal_0 : decode cX6_deal 0 = .ok (.iload_n 1, 1) := zk27 (by decide +kernel)
theorem dX6_deal_1 : decode cX6_deal 1 = .ok (.iconst 1, 1) := zk4 (by decide +kernel)
theorem dX6_deal_2 : decode cX6_deal 2 = .ok (.bipush 9, 2) := zk16 9 rfl (by decide +kernel)
theorem dX6_deal_4 : decode cX6_deal 4 = .ok (.invokestatic 65, 3) := zk184 0 65 (by decide +kernel)
theorem dX6_deal_7 : decode cX6_deal 7 = .ok (.ifCond .ne 6, 3) := zk154 0 6 rfl (by decide +kernel)
theorem dX6_deal_10 : decode cX6_deal 10 = .ok (.ldc 69, 2) := zk18 69 (by decide +kernel)
theorem dX6_deal_12 : decode cX6_deal 12 = .ok (.ireturn, 1) := zk172 (by decide +kernel)
theorem dX6_deal_13 : decode cX6_deal 13 = .ok (.iload_n 1, 1) := zk27 (by decide +kernel)
theorem dX6_deal_14 : decode cX6_deal 14 = .ok (.bipush 9, 2) := zk16 9 rfl (by decide +kernel)
theorem dX6_deal_16 : decode cX6_deal 16 = .ok (.aload_n 0, 1) := zk42 (by decide +kernel)
theorem dX6_deal_17 : decode cX6_deal 17 = .ok (.getfield 39, 3) := zk180 0 39 (by decide +kernel)
theorem dX6_deal_20 : decode cX6_deal 20 = .ok (.getfield 70, 3) := zk180 0 70 (by decide +kernel)
theorem dX6_deal_23 : decode cX6_deal 23 = .ok (.isub, 1) := zk100 (by decide +kernel)
theorem dX6_deal_24 : decode cX6_deal 24 = .ok (.invokestatic 167, 3) := zk184 0 167 (by decide +kernel)
theorem dX6_deal_27 : decode cX6_deal 27 = .ok (.istore_n 2, 1) := zk61 (by decide +kernel)
theorem dX6_deal_28 : decode cX6_deal 28 = .ok (.iconst 0, 1) := zk3 (by decide +kernel)
theorem dX6_deal_29 : decode cX6_deal 29 = .ok (.istore_n 3, 1) := zk62 (by decide +kernel)
theorem dX6_deal_30 : decode cX6_deal 30 = .ok (.iload_n 3, 1) := zk29 (by decide +kernel)
theorem dX6_deal_31 : decode cX6_deal 31 = .ok (.iload_n 2, 1) := zk28 (by decide +kernel)
theorem dX6_deal_32 : decode cX6_deal 32 = .ok (.if_icmp .ge 59, 3) := zk162 0 59 rfl (by decide +kernel)
theorem dX6_deal_35 : decode cX6_deal 35 = .ok (.aload_n 0, 1) := zk42 (by decide +kernel)
theorem dX6_deal_36 : decode cX6_deal 36 = .ok (.getfield 39, 3) := zk180 0 39 (by decide +kernel)
theorem dX6_deal_39 : decode cX6_deal 39 = .ok (.invokevirtual 173, 3) := zk182 0 173 (by decide +kernel)
theorem dX6_deal_42 : decode cX6_deal 42 = .ok (.bipush 6, 2) := zk16 6 rfl (by decide +kernel)
theorem dX6_deal_44 : decode cX6_deal 44 = .ok (.irem, 1) := zk112 (by decide +kernel)
theorem dX6_deal_45 : decode cX6_deal 45 = .ok (.istore 4, 2) := zk54 4 (by decide +kernel)
theorem dX6_deal_47 : decode cX6_deal 47 = .ok (.aload_n 0, 1) := zk42 (by decide +kernel)
theorem dX6_deal_48 : decode cX6_deal 48 = .ok (.getfield 39, 3) := zk180 0 39 (by decide +kernel)
theorem dX6_deal_51 : decode cX6_deal 51 = .ok (.invokevirtual 173, 3) := zk182 0 173 (by decide +kernel)
theorem dX6_deal_54 : decode cX6_deal 54 = .ok (.bipush 12, 2) := zk16 12 rfl (by decide +kernel)
theorem dX6_deal_56 : decode cX6_deal 56 = .ok (.irem, 1) := zk112 (by decide +kernel)
theorem dX6_deal_57 : decode cX6_deal 57 = .ok (.istore 5, 2) := zk54 5 (by decide +kernel)
theorem dX6_deal_59 : decode cX6_deal 59 = .ok (.aload_n 0, 1) := zk42 (by decide +kernel)
theorem dX6_deal_60 : decode cX6_deal 60 = .ok (.getfield 39, 3) := zk180 0 39 (by decide +kernel)
theorem dX6_deal_63 : decode cX6_deal 63 = .ok (.invokevirtual 173, 3) := zk182 0 173 (by decide +kernel)
theorem dX6_deal_66 : decode cX6_deal 66 = .ok (.bipush 40, 2) := zk16 40 rfl (by decide +kernel)
theorem dX6_deal_68 : decode cX6_deal 68 = .ok (.irem, 1) := zk112 (by decide +kernel)
theorem dX6_deal_69 : decode cX6_deal 69 = .ok (.istore 6, 2) := zk54 6 (by decide +kernel)
theorem dX6_deal_71 : decode cX6_deal 71 = .ok (.aload_n 0, 1) := zk42 (by decide +kernel)
theorem dX6_deal_72 : decode cX6_deal 72 = .ok (.getfield 39, 3) := zk180 0 39 (by decide +kernel)
theorem dX6_deal_75 : decode cX6_deal 75 = .ok (.iload 4, 2) := zk21 4 (by decide +kernel)
theorem dX6_deal_77 : decode cX6_deal 77 = .ok (.iload 5, 2) := zk21 5 (by decide +kernel)
theorem dX6_deal_79 : decode cX6_deal 79 = .ok (.iload 6, 2) := zk21 6 (by decide +kernel)
theorem dX6_deal_81 : decode cX6_deal 81 = .ok (.invokevirtual 75, 3) := zk182 0 75 (by decide +kernel)
theorem dX6_deal_84 : decode cX6_deal 84 = .ok (.pop, 1) := zk87 (by decide +kernel)
theorem dX6_deal_85 : decode cX6_deal 85 = .ok (.iinc 3 1, 3) := by decide +kernel
theorem dX6_deal_88 : decode cX6_deal 88 = .ok (.goto (-58), 3) := zk167 255 198 rfl (by decide +kernel)
theorem dX6_deal_91 : decode cX6_deal 91 = .ok (.iload_n 2, 1) := zk28 (by decide +kernel)
theorem dX6_deal_92 : decode cX6_deal 92 = .ok (.ireturn, 1) := zk172 (by decide +kernel)
def bs_wsX6_hours : List (List Cond) := [[.code yX6_hours cX6_hours 5 (some .int)], wsX6_hours_r1, wsX6_hours_r2, wsX6_hours_r3, wsX6_hours_r4, wsX6_hours_r5, wsX6_hours_r6, wsX60, wsX00, wsX40, wsX50]
theorem bse_wsX6_hours : wsX6_hours = bs_wsX6_hours.flatten := by
  unfold wsX6_hours bs_wsX6_hours
  simp only [List.flatten_cons, List.flatten_nil, List.append_nil, List.append_assoc, List.cons_append, List.nil_append]
set_option maxRecDepth 20000 in
theorem ggX6_hours_X6_within : GoodIn wsX6_hours wsX6_within := goodIn_pc bs_wsX6_hours bse_wsX6_hours _ [(1, [11])] rfl gw_wsX6_within
set_option maxRecDepth 20000 in
theorem gX6_hours_X6_within : GoodIn wsX6_hours (va_wsS RX6 65 yX6_within wsX6_within) := goodIn_app (goodIn_pc bs_wsX6_hours bse_wsX6_hours _ [(1, [8, 9, 10])] rfl (by decide +kernel)) ggX6_hours_X6_within
set_option maxRecDepth 20000 in
theorem gw_wsX0_hauling : wsX0_hauling.all goodWord = true := by decide +kernel
set_option maxRecDepth 20000 in
theorem ggX6_hours_X0_hauling : GoodIn wsX6_hours wsX0_hauling := goodIn_pc bs_wsX6_hours bse_wsX6_hours _ [(1, [16, 17, 18, 19, 20, 15, 21, 22, 23]), (2, [0, 1, 2, 3, 4, 5, 6, 7, 8, 9, 10, 11, 12, 13, 14, 15, 16, 17, 18, 19, 20, 21]), (1, [5, 6, 7]), (2, [22, 23]), (3, [0, 1, 2, 3, 4, 5, 6, 7, 8, 9, 10]), (1, [9, 10, 11]), (3, [11, 12, 13, 14, 15, 16, 17, 18, 19, 20, 21, 22, 23]), (4, [0, 1, 2, 3, 4, 5, 6]), (1, [4]), (4, [7, 8, 9, 10, 11, 12, 13, 14, 15, 16, 17, 18, 19, 20, 21, 22, 23]), (5, [0, 1, 2, 3, 4, 5, 6]), (8, [0, 1, 2, 3, 4, 5, 6, 7, 8, 9, 10, 11, 12, 13]), (9, [0, 1, 2, 3]), (10, [0, 1, 2, 3, 4])] rfl gw_wsX0_hauling
set_option maxRecDepth 20000 in
theorem gX6_hours_X0_hauling : GoodIn wsX6_hours (wsV RX6 185 RX0 yX0_hauling wsX0_hauling) := goodIn_app (goodIn_pc bs_wsX6_hours bse_wsX6_hours _ [(1, [12, 13, 14, 15])] rfl (by decide +kernel)) ggX6_hours_X0_hauling
set_option maxRecDepth 20000 in
theorem gw_wsX0_passHour : wsX0_passHour.all goodWord = true := by decide +kernel
set_option maxRecDepth 20000 in
theorem ggX6_hours_X0_passHour : GoodIn wsX6_hours wsX0_passHour := goodIn_pc bs_wsX6_hours bse_wsX6_hours _ [(5, [10]), (2, [1]), (1, [22, 23]), (2, [20]), (5, [11]), (2, [0]), (5, [12]), (3, [10]), (2, [15]), (4, [18, 19, 20]), (1, [15]), (4, [21, 22, 8]), (1, [6]), (4, [9]), (2, [21]), (1, [5, 7]), (4, [23]), (5, [0, 1, 2]), (2, [10, 16, 17, 18, 19, 2, 3, 4, 5, 6, 7, 8, 9, 11, 12, 13, 14, 22, 23]), (3, [0, 1, 2, 3, 4, 5, 6, 7, 8, 9]), (1, [9, 10, 11]), (3, [11, 12, 13, 14, 15, 16, 17, 18, 19, 20, 21, 22, 23]), (4, [0, 1, 2, 3, 4, 5, 6]), (1, [4]), (4, [7, 10, 11, 12, 13]), (5, [13, 14, 15, 16, 17, 18, 19, 20, 21, 22, 23]), (6, [0]), (8, [0, 1, 2, 3, 4, 5, 6, 7, 8, 9, 10, 11, 12, 13]), (9, [0, 1, 2, 3]), (10, [0, 1, 2, 3, 4])] rfl gw_wsX0_passHour
set_option maxRecDepth 20000 in
theorem gX6_hours_X0_passHour : GoodIn wsX6_hours (wsV RX6 188 RX0 yX0_passHour wsX0_passHour) := goodIn_app (goodIn_pc bs_wsX6_hours bse_wsX6_hours _ [(5, [7, 8, 9]), (1, [15])] rfl (by decide +kernel)) ggX6_hours_X0_passHour
theorem dX6_hours_0 : decode cX6_hours 0 = .ok (.iload_n 1, 1) := zk27 (by decide +kernel)
theorem dX6_hours_1 : decode cX6_hours 1 = .ok (.iconst 1, 1) := zk4 (by decide +kernel)
theorem dX6_hours_2 : decode cX6_hours 2 = .ok (.bipush 100, 2) := zk16 100 rfl (by decide +kernel)
theorem dX6_hours_4 : decode cX6_hours 4 = .ok (.invokestatic 65, 3) := zk184 0 65 (by decide +kernel)
theorem dX6_hours_7 : decode cX6_hours 7 = .ok (.ifCond .ne 6, 3) := zk154 0 6 rfl (by decide +kernel)
theorem dX6_hours_10 : decode cX6_hours 10 = .ok (.ldc 69, 2) := zk18 69 (by decide +kernel)
theorem dX6_hours_12 : decode cX6_hours 12 = .ok (.ireturn, 1) := zk172 (by decide +kernel)
theorem dX6_hours_13 : decode cX6_hours 13 = .ok (.aload_n 0, 1) := zk42 (by decide +kernel)
theorem dX6_hours_14 : decode cX6_hours 14 = .ok (.getfield 39, 3) := zk180 0 39 (by decide +kernel)
theorem dX6_hours_17 : decode cX6_hours 17 = .ok (.getfield 179, 3) := zk180 0 179 (by decide +kernel)
theorem dX6_hours_20 : decode cX6_hours 20 = .ok (.istore_n 2, 1) := zk61 (by decide +kernel)
theorem dX6_hours_21 : decode cX6_hours 21 = .ok (.iload_n 1, 1) := zk27 (by decide +kernel)
theorem dX6_hours_22 : decode cX6_hours 22 = .ok (.sipush 9999, 3) := zk17 39 15 rfl (by decide +kernel)
theorem dX6_hours_25 : decode cX6_hours 25 = .ok (.aload_n 0, 1) := zk42 (by decide +kernel)
theorem dX6_hours_26 : decode cX6_hours 26 = .ok (.getfield 39, 3) := zk180 0 39 (by decide +kernel)
theorem dX6_hours_29 : decode cX6_hours 29 = .ok (.getfield 182, 3) := zk180 0 182 (by decide +kernel)
theorem dX6_hours_32 : decode cX6_hours 32 = .ok (.isub, 1) := zk100 (by decide +kernel)
theorem dX6_hours_33 : decode cX6_hours 33 = .ok (.invokestatic 167, 3) := zk184 0 167 (by decide +kernel)
theorem dX6_hours_36 : decode cX6_hours 36 = .ok (.istore_n 3, 1) := zk62 (by decide +kernel)
theorem dX6_hours_37 : decode cX6_hours 37 = .ok (.iconst 0, 1) := zk3 (by decide +kernel)
theorem dX6_hours_38 : decode cX6_hours 38 = .ok (.istore 4, 2) := zk54 4 (by decide +kernel)
theorem dX6_hours_40 : decode cX6_hours 40 = .ok (.iload 4, 2) := zk21 4 (by decide +kernel)
theorem dX6_hours_42 : decode cX6_hours 42 = .ok (.iload_n 3, 1) := zk29 (by decide +kernel)
theorem dX6_hours_43 : decode cX6_hours 43 = .ok (.if_icmp .ge 23, 3) := zk162 0 23 rfl (by decide +kernel)
theorem dX6_hours_46 : decode cX6_hours 46 = .ok (.aload_n 0, 1) := zk42 (by decide +kernel)
theorem dX6_hours_47 : decode cX6_hours 47 = .ok (.getfield 39, 3) := zk180 0 39 (by decide +kernel)
theorem dX6_hours_50 : decode cX6_hours 50 = .ok (.aload_n 0, 1) := zk42 (by decide +kernel)
theorem dX6_hours_51 : decode cX6_hours 51 = .ok (.getfield 39, 3) := zk180 0 39 (by decide +kernel)
theorem dX6_hours_54 : decode cX6_hours 54 = .ok (.invokevirtual 185, 3) := zk182 0 185 (by decide +kernel)
theorem dX6_hours_57 : decode cX6_hours 57 = .ok (.invokevirtual 188, 3) := zk182 0 188 (by decide +kernel)
theorem dX6_hours_60 : decode cX6_hours 60 = .ok (.iinc 4 1, 3) := by decide +kernel
theorem dX6_hours_63 : decode cX6_hours 63 = .ok (.goto (-23), 3) := zk167 255 233 rfl (by decide +kernel)
theorem dX6_hours_66 : decode cX6_hours 66 = .ok (.aload_n 0, 1) := zk42 (by decide +kernel)
theorem dX6_hours_67 : decode cX6_hours 67 = .ok (.getfield 39, 3) := zk180 0 39 (by decide +kernel)
theorem dX6_hours_70 : decode cX6_hours 70 = .ok (.getfield 179, 3) := zk180 0 179 (by decide +kernel)
theorem dX6_hours_73 : decode cX6_hours 73 = .ok (.iload_n 2, 1) := zk28 (by decide +kernel)
theorem dX6_hours_74 : decode cX6_hours 74 = .ok (.isub, 1) := zk100 (by decide +kernel)
theorem dX6_hours_75 : decode cX6_hours 75 = .ok (.ireturn, 1) := zk172 (by decide +kernel)
set_option maxRecDepth 20000 in
theorem gw_wsX0_allGoods : wsX0_allGoods.all goodWord = true := by decide +kernel
set_option maxRecDepth 20000 in
theorem ggX6_book_X0_allGoods : GoodIn wsX6_book wsX0_allGoods := goodIn_r _ [10, 11, 12, 13, 29, 30, 31, 32, 33, 34, 35, 36, 37, 38, 39, 40, 41, 42, 43, 44, 45, 46] rfl gw_wsX0_allGoods
set_option maxRecDepth 20000 in
theorem gX6_book_X0_allGoods : GoodIn wsX6_book (wsV RX6 197 RX0 yX0_allGoods wsX0_allGoods) := goodIn_app (goodIn_r _ [6, 7, 8, 9] rfl (by decide +kernel)) ggX6_book_X0_allGoods
theorem dX6_book_0 : decode cX6_book 0 = .ok (.iload_n 1, 1) := zk27 (by decide +kernel)
theorem dX6_book_1 : decode cX6_book 1 = .ok (.tableswitch 63 0 3 #[31, 39, 47, 55], 31) := by decide +kernel
theorem dX6_book_32 : decode cX6_book 32 = .ok (.aload_n 0, 1) := zk42 (by decide +kernel)
theorem dX6_book_33 : decode cX6_book 33 = .ok (.getfield 39, 3) := zk180 0 39 (by decide +kernel)
theorem dX6_book_36 : decode cX6_book 36 = .ok (.getfield 179, 3) := zk180 0 179 (by decide +kernel)
theorem dX6_book_39 : decode cX6_book 39 = .ok (.ireturn, 1) := zk172 (by decide +kernel)
theorem dX6_book_40 : decode cX6_book 40 = .ok (.aload_n 0, 1) := zk42 (by decide +kernel)
theorem dX6_book_41 : decode cX6_book 41 = .ok (.getfield 39, 3) := zk180 0 39 (by decide +kernel)
theorem dX6_book_44 : decode cX6_book 44 = .ok (.getfield 191, 3) := zk180 0 191 (by decide +kernel)
theorem dX6_book_47 : decode cX6_book 47 = .ok (.ireturn, 1) := zk172 (by decide +kernel)
theorem dX6_book_48 : decode cX6_book 48 = .ok (.aload_n 0, 1) := zk42 (by decide +kernel)
theorem dX6_book_49 : decode cX6_book 49 = .ok (.getfield 39, 3) := zk180 0 39 (by decide +kernel)
theorem dX6_book_52 : decode cX6_book 52 = .ok (.getfield 194, 3) := zk180 0 194 (by decide +kernel)
theorem dX6_book_55 : decode cX6_book 55 = .ok (.ireturn, 1) := zk172 (by decide +kernel)
theorem dX6_book_56 : decode cX6_book 56 = .ok (.aload_n 0, 1) := zk42 (by decide +kernel)
theorem dX6_book_57 : decode cX6_book 57 = .ok (.getfield 39, 3) := zk180 0 39 (by decide +kernel)
theorem dX6_book_60 : decode cX6_book 60 = .ok (.invokevirtual 197, 3) := zk182 0 197 (by decide +kernel)
theorem dX6_book_63 : decode cX6_book 63 = .ok (.ireturn, 1) := zk172 (by decide +kernel)
theorem dX6_book_64 : decode cX6_book 64 = .ok (.ldc 69, 2) := zk18 69 (by decide +kernel)
theorem dX6_book_66 : decode cX6_book 66 = .ok (.ireturn, 1) := zk172 (by decide +kernel)
def bs_wsX6_behind : List (List Cond) := [[.code yX6_behind cX6_behind 3 (some .int)], wsX6_behind_r1, wsX6_behind_r2, wsX6_behind_r3, wsX6_behind_r4, wsX6_behind_r5, wsX6_behind_r6, wsX60, wsX00, wsX40, wsX50]
theorem bse_wsX6_behind : wsX6_behind = bs_wsX6_behind.flatten := by
  unfold wsX6_behind bs_wsX6_behind
  simp only [List.flatten_cons, List.flatten_nil, List.append_nil, List.append_assoc, List.cons_append, List.nil_append]
set_option maxRecDepth 20000 in
theorem ggX6_behind_X6_within : GoodIn wsX6_behind wsX6_within := goodIn_pc bs_wsX6_behind bse_wsX6_behind _ [(1, [10])] rfl gw_wsX6_within
set_option maxRecDepth 20000 in
theorem gX6_behind_X6_within : GoodIn wsX6_behind (va_wsS RX6 65 yX6_within wsX6_within) := goodIn_app (goodIn_pc bs_wsX6_behind bse_wsX6_behind _ [(1, [7, 8, 9])] rfl (by decide +kernel)) ggX6_behind_X6_within
set_option maxRecDepth 20000 in
theorem gw_wsX0_takeOver : wsX0_takeOver.all goodWord = true := by decide +kernel
set_option maxRecDepth 20000 in
theorem ggX6_behind_X0_takeOver : GoodIn wsX6_behind wsX0_takeOver := goodIn_pc bs_wsX6_behind bse_wsX6_behind _ [(1, [15, 16, 17, 18, 19, 20, 21, 22, 23]), (2, [0, 1, 2, 3, 4, 5, 6, 7, 8, 9, 10, 11, 12, 13]), (8, [0, 1, 2, 3, 4, 5, 6, 7, 8, 9, 10, 11, 12, 13]), (9, [0, 1, 2, 3])] rfl gw_wsX0_takeOver
set_option maxRecDepth 20000 in
theorem gX6_behind_X0_takeOver : GoodIn wsX6_behind (wsV RX6 200 RX0 yX0_takeOver wsX0_takeOver) := goodIn_app (goodIn_pc bs_wsX6_behind bse_wsX6_behind _ [(1, [11, 12, 13, 14])] rfl (by decide +kernel)) ggX6_behind_X0_takeOver
set_option maxRecDepth 20000 in
theorem gw_wsX6_thinkOn : wsX6_thinkOn.all goodWord = true := by decide +kernel
set_option maxRecDepth 20000 in
theorem ggX6_behind_X6_thinkOn : GoodIn wsX6_behind wsX6_thinkOn := goodIn_pc bs_wsX6_behind bse_wsX6_behind _ [(2, [17]), (1, [1]), (2, [18, 19, 20]), (1, [14]), (2, [21, 0, 22, 23]), (3, [0, 1]), (1, [16, 17]), (3, [2]), (1, [21]), (3, [3, 4, 5, 6, 7, 8, 9, 10]), (1, [20]), (3, [11, 12, 13, 14]), (1, [22]), (3, [15, 16, 17, 18, 19, 20, 21, 22, 23]), (4, [0, 1, 2]), (2, [8]), (4, [3]), (2, [10]), (4, [4, 5, 6, 7]), (1, [19]), (4, [8, 9]), (1, [8, 9, 10]), (4, [10, 11, 12, 13, 14, 15, 16, 17, 18, 19, 20, 21, 22, 23]), (5, [0, 1, 2, 3, 4, 5, 6, 7, 8, 9, 10, 11, 12, 13, 14, 15, 16, 17, 18, 19, 20, 21, 22, 23]), (6, [0, 1, 2, 3, 4, 5, 6, 7, 8, 9, 10]), (2, [2, 1]), (6, [11, 12, 13, 14]), (1, [23]), (2, [3]), (6, [15, 16, 17, 18]), (2, [4]), (6, [19]), (7, [0, 1, 2, 3, 4, 5, 6, 7, 8, 9, 10, 11, 12, 13, 14]), (8, [0, 1, 2, 3, 4, 5, 6, 7, 8, 9, 10, 11, 12, 13]), (9, [0, 1, 2, 3]), (10, [0, 1, 2, 3, 4])] rfl gw_wsX6_thinkOn
set_option maxRecDepth 20000 in
theorem gX6_behind_X6_thinkOn : GoodIn wsX6_behind (wsV RX6 204 RX6 yX6_thinkOn wsX6_thinkOn) := goodIn_app (goodIn_pc bs_wsX6_behind bse_wsX6_behind _ [(2, [14, 15, 16]), (1, [9])] rfl (by decide +kernel)) ggX6_behind_X6_thinkOn
theorem dX6_behind_0 : decode cX6_behind 0 = .ok (.iload_n 1, 1) := zk27 (by decide +kernel)
theorem dX6_behind_1 : decode cX6_behind 1 = .ok (.iconst 0, 1) := zk3 (by decide +kernel)
theorem dX6_behind_2 : decode cX6_behind 2 = .ok (.bipush 100, 2) := zk16 100 rfl (by decide +kernel)
theorem dX6_behind_4 : decode cX6_behind 4 = .ok (.invokestatic 65, 3) := zk184 0 65 (by decide +kernel)
theorem dX6_behind_7 : decode cX6_behind 7 = .ok (.ifCond .eq 12, 3) := zk153 0 12 rfl (by decide +kernel)
theorem dX6_behind_10 : decode cX6_behind 10 = .ok (.iload_n 2, 1) := zk28 (by decide +kernel)
theorem dX6_behind_11 : decode cX6_behind 11 = .ok (.iconst 0, 1) := zk3 (by decide +kernel)
theorem dX6_behind_12 : decode cX6_behind 12 = .ok (.iconst 3, 1) := zk6 (by decide +kernel)
theorem dX6_behind_13 : decode cX6_behind 13 = .ok (.invokestatic 65, 3) := zk184 0 65 (by decide +kernel)
theorem dX6_behind_16 : decode cX6_behind 16 = .ok (.ifCond .ne 6, 3) := zk154 0 6 rfl (by decide +kernel)
theorem dX6_behind_19 : decode cX6_behind 19 = .ok (.ldc 69, 2) := zk18 69 (by decide +kernel)
theorem dX6_behind_21 : decode cX6_behind 21 = .ok (.ireturn, 1) := zk172 (by decide +kernel)
theorem dX6_behind_22 : decode cX6_behind 22 = .ok (.aload_n 0, 1) := zk42 (by decide +kernel)
theorem dX6_behind_23 : decode cX6_behind 23 = .ok (.getfield 43, 3) := zk180 0 43 (by decide +kernel)
theorem dX6_behind_26 : decode cX6_behind 26 = .ok (.aload_n 0, 1) := zk42 (by decide +kernel)
theorem dX6_behind_27 : decode cX6_behind 27 = .ok (.getfield 39, 3) := zk180 0 39 (by decide +kernel)
theorem dX6_behind_30 : decode cX6_behind 30 = .ok (.invokevirtual 200, 3) := zk182 0 200 (by decide +kernel)
theorem dX6_behind_33 : decode cX6_behind 33 = .ok (.aload_n 0, 1) := zk42 (by decide +kernel)
theorem dX6_behind_34 : decode cX6_behind 34 = .ok (.iload_n 1, 1) := zk27 (by decide +kernel)
theorem dX6_behind_35 : decode cX6_behind 35 = .ok (.invokevirtual 204, 3) := zk182 0 204 (by decide +kernel)
theorem dX6_behind_38 : decode cX6_behind 38 = .ok (.iload_n 2, 1) := zk28 (by decide +kernel)
theorem dX6_behind_39 : decode cX6_behind 39 = .ok (.tableswitch 49 0 2 #[25, 33, 41], 25) := by decide +kernel
theorem dX6_behind_64 : decode cX6_behind 64 = .ok (.aload_n 0, 1) := zk42 (by decide +kernel)
theorem dX6_behind_65 : decode cX6_behind 65 = .ok (.getfield 43, 3) := zk180 0 43 (by decide +kernel)
theorem dX6_behind_68 : decode cX6_behind 68 = .ok (.getfield 179, 3) := zk180 0 179 (by decide +kernel)
theorem dX6_behind_71 : decode cX6_behind 71 = .ok (.ireturn, 1) := zk172 (by decide +kernel)
theorem dX6_behind_72 : decode cX6_behind 72 = .ok (.aload_n 0, 1) := zk42 (by decide +kernel)
theorem dX6_behind_73 : decode cX6_behind 73 = .ok (.getfield 43, 3) := zk180 0 43 (by decide +kernel)
theorem dX6_behind_76 : decode cX6_behind 76 = .ok (.getfield 191, 3) := zk180 0 191 (by decide +kernel)
theorem dX6_behind_79 : decode cX6_behind 79 = .ok (.ireturn, 1) := zk172 (by decide +kernel)
theorem dX6_behind_80 : decode cX6_behind 80 = .ok (.aload_n 0, 1) := zk42 (by decide +kernel)
theorem dX6_behind_81 : decode cX6_behind 81 = .ok (.getfield 43, 3) := zk180 0 43 (by decide +kernel)
theorem dX6_behind_84 : decode cX6_behind 84 = .ok (.getfield 126, 3) := zk180 0 126 (by decide +kernel)
theorem dX6_behind_87 : decode cX6_behind 87 = .ok (.ireturn, 1) := zk172 (by decide +kernel)
theorem dX6_behind_88 : decode cX6_behind 88 = .ok (.aload_n 0, 1) := zk42 (by decide +kernel)
theorem dX6_behind_89 : decode cX6_behind 89 = .ok (.getfield 43, 3) := zk180 0 43 (by decide +kernel)
theorem dX6_behind_92 : decode cX6_behind 92 = .ok (.getfield 194, 3) := zk180 0 194 (by decide +kernel)
theorem dX6_behind_95 : decode cX6_behind 95 = .ok (.ireturn, 1) := zk172 (by decide +kernel)
def bs_wsX6_goods : List (List Cond) := [[.code yX6_goods cX6_goods 3 (some .int)], wsX6_goods_r1, wsX6_goods_r2, wsX6_goods_r3, wsX6_goods_r4, wsX6_goods_r5, wsX6_goods_r6, wsX60, wsX00, wsX40, wsX50]
theorem bse_wsX6_goods : wsX6_goods = bs_wsX6_goods.flatten := by
  unfold wsX6_goods bs_wsX6_goods
  simp only [List.flatten_cons, List.flatten_nil, List.append_nil, List.append_assoc, List.cons_append, List.nil_append]
set_option maxRecDepth 20000 in
theorem ggX6_goods_X6_isStall : GoodIn wsX6_goods wsX6_isStall := goodIn_pc bs_wsX6_goods bse_wsX6_goods _ [(1, [9, 2, 10, 11, 12, 8, 13]), (7, [0, 1, 2, 3, 4, 5, 6, 7, 8, 9, 10, 11, 12, 13, 14]), (8, [0, 1, 2, 3, 4, 5, 6, 7, 8, 9, 10, 11, 12, 13])] rfl gw_wsX6_isStall
set_option maxRecDepth 20000 in
theorem gX6_goods_X6_isStall : GoodIn wsX6_goods (wsV RX6 79 RX6 yX6_isStall wsX6_isStall) := goodIn_app (goodIn_pc bs_wsX6_goods bse_wsX6_goods _ [(1, [5, 6, 7, 8])] rfl (by decide +kernel)) ggX6_goods_X6_isStall
set_option maxRecDepth 20000 in
theorem ggX6_goods_X6_within : GoodIn wsX6_goods wsX6_within := goodIn_pc bs_wsX6_goods bse_wsX6_goods _ [(1, [13])] rfl gw_wsX6_within
set_option maxRecDepth 20000 in
theorem gX6_goods_X6_within : GoodIn wsX6_goods (va_wsS RX6 65 yX6_within wsX6_within) := goodIn_app (goodIn_pc bs_wsX6_goods bse_wsX6_goods _ [(1, [11, 12, 8])] rfl (by decide +kernel)) ggX6_goods_X6_within
set_option maxRecDepth 20000 in
theorem ggX6_goods_X0_takeOver : GoodIn wsX6_goods wsX0_takeOver := goodIn_pc bs_wsX6_goods bse_wsX6_goods _ [(1, [18, 19, 20, 21, 22, 23]), (2, [0, 1, 2, 3, 4, 5, 6, 7, 8, 9, 10, 11, 12, 13, 14, 15, 16]), (8, [0, 1, 2, 3, 4, 5, 6, 7, 8, 9, 10, 11, 12, 13]), (9, [0, 1, 2, 3])] rfl gw_wsX0_takeOver
set_option maxRecDepth 20000 in
theorem gX6_goods_X0_takeOver : GoodIn wsX6_goods (wsV RX6 200 RX0 yX0_takeOver wsX0_takeOver) := goodIn_app (goodIn_pc bs_wsX6_goods bse_wsX6_goods _ [(1, [14, 15, 16, 17])] rfl (by decide +kernel)) ggX6_goods_X0_takeOver
set_option maxRecDepth 20000 in
theorem ggX6_goods_X6_thinkOn : GoodIn wsX6_goods wsX6_thinkOn := goodIn_pc bs_wsX6_goods bse_wsX6_goods _ [(2, [20]), (1, [1]), (2, [21, 22, 23]), (1, [17]), (3, [0]), (2, [3]), (3, [1, 2, 3, 4]), (1, [19, 20]), (3, [5]), (2, [0]), (3, [6, 7, 8, 9, 10, 11, 12, 13]), (1, [23]), (3, [14, 15, 16, 17]), (2, [1]), (3, [18, 19, 20, 21, 22, 23]), (4, [0, 1, 2, 3, 4, 5]), (2, [11]), (4, [6]), (2, [13]), (4, [7, 8, 9, 10]), (1, [22]), (4, [11, 12]), (1, [12, 8, 13]), (4, [13, 14, 15, 16, 17, 18, 19, 20, 21, 22, 23]), (5, [0, 1, 2, 3, 4, 5, 6, 7, 8, 9, 10, 11, 12, 13, 14, 15, 16, 17, 18, 19, 20, 21, 22, 23]), (6, [0, 1, 2, 3, 4, 5, 6, 7, 8, 9, 10, 11, 12, 13]), (2, [5, 4]), (6, [14, 15, 16, 17]), (2, [2, 6]), (6, [18, 19, 20, 21]), (2, [7]), (6, [22]), (7, [0, 1, 2, 3, 4, 5, 6, 7, 8, 9, 10, 11, 12, 13, 14]), (8, [0, 1, 2, 3, 4, 5, 6, 7, 8, 9, 10, 11, 12, 13]), (9, [0, 1, 2, 3]), (10, [0, 1, 2, 3, 4])] rfl gw_wsX6_thinkOn
set_option maxRecDepth 20000 in
theorem gX6_goods_X6_thinkOn : GoodIn wsX6_goods (wsV RX6 204 RX6 yX6_thinkOn wsX6_thinkOn) := goodIn_app (goodIn_pc bs_wsX6_goods bse_wsX6_goods _ [(2, [17, 18, 19]), (1, [8])] rfl (by decide +kernel)) ggX6_goods_X6_thinkOn
theorem dX6_goods_0 : decode cX6_goods 0 = .ok (.aload_n 0, 1) := zk42 (by decide +kernel)
theorem dX6_goods_1 : decode cX6_goods 1 = .ok (.iload_n 1, 1) := zk27 (by decide +kernel)
theorem dX6_goods_2 : decode cX6_goods 2 = .ok (.invokevirtual 79, 3) := zk182 0 79 (by decide +kernel)
theorem dX6_goods_5 : decode cX6_goods 5 = .ok (.ifCond .eq 13, 3) := zk153 0 13 rfl (by decide +kernel)
theorem dX6_goods_8 : decode cX6_goods 8 = .ok (.iload_n 2, 1) := zk28 (by decide +kernel)
theorem dX6_goods_9 : decode cX6_goods 9 = .ok (.iconst 0, 1) := zk3 (by decide +kernel)
theorem dX6_goods_10 : decode cX6_goods 10 = .ok (.bipush 100, 2) := zk16 100 rfl (by decide +kernel)
theorem dX6_goods_12 : decode cX6_goods 12 = .ok (.invokestatic 65, 3) := zk184 0 65 (by decide +kernel)
theorem dX6_goods_15 : decode cX6_goods 15 = .ok (.ifCond .ne 6, 3) := zk154 0 6 rfl (by decide +kernel)
theorem dX6_goods_18 : decode cX6_goods 18 = .ok (.ldc 69, 2) := zk18 69 (by decide +kernel)
theorem dX6_goods_20 : decode cX6_goods 20 = .ok (.ireturn, 1) := zk172 (by decide +kernel)
theorem dX6_goods_21 : decode cX6_goods 21 = .ok (.aload_n 0, 1) := zk42 (by decide +kernel)
theorem dX6_goods_22 : decode cX6_goods 22 = .ok (.getfield 43, 3) := zk180 0 43 (by decide +kernel)
theorem dX6_goods_25 : decode cX6_goods 25 = .ok (.aload_n 0, 1) := zk42 (by decide +kernel)
theorem dX6_goods_26 : decode cX6_goods 26 = .ok (.getfield 39, 3) := zk180 0 39 (by decide +kernel)
theorem dX6_goods_29 : decode cX6_goods 29 = .ok (.invokevirtual 200, 3) := zk182 0 200 (by decide +kernel)
theorem dX6_goods_32 : decode cX6_goods 32 = .ok (.aload_n 0, 1) := zk42 (by decide +kernel)
theorem dX6_goods_33 : decode cX6_goods 33 = .ok (.iload_n 2, 1) := zk28 (by decide +kernel)
theorem dX6_goods_34 : decode cX6_goods 34 = .ok (.invokevirtual 204, 3) := zk182 0 204 (by decide +kernel)
theorem dX6_goods_37 : decode cX6_goods 37 = .ok (.aload_n 0, 1) := zk42 (by decide +kernel)
theorem dX6_goods_38 : decode cX6_goods 38 = .ok (.getfield 43, 3) := zk180 0 43 (by decide +kernel)
theorem dX6_goods_41 : decode cX6_goods 41 = .ok (.getfield 83, 3) := zk180 0 83 (by decide +kernel)
theorem dX6_goods_44 : decode cX6_goods 44 = .ok (.iload_n 1, 1) := zk27 (by decide +kernel)
theorem dX6_goods_45 : decode cX6_goods 45 = .ok (.aaload, 1) := zk50 (by decide +kernel)
theorem dX6_goods_46 : decode cX6_goods 46 = .ok (.getfield 95, 3) := zk180 0 95 (by decide +kernel)
theorem dX6_goods_49 : decode cX6_goods 49 = .ok (.ireturn, 1) := zk172 (by decide +kernel)
def bs_wsX6_best : List (List Cond) := [[.code yX6_best cX6_best 3 (some .int)], wsX6_best_r1, wsX6_best_r2, wsX6_best_r3, wsX6_best_r4, wsX6_best_r5, wsX6_best_r6, wsX60, wsX00, wsX40, wsX50]
theorem bse_wsX6_best : wsX6_best = bs_wsX6_best.flatten := by
  unfold wsX6_best bs_wsX6_best
  simp only [List.flatten_cons, List.flatten_nil, List.append_nil, List.append_assoc, List.cons_append, List.nil_append]
set_option maxRecDepth 20000 in
theorem ggX6_best_X6_within : GoodIn wsX6_best wsX6_within := goodIn_pc bs_wsX6_best bse_wsX6_best _ [(1, [9])] rfl gw_wsX6_within
set_option maxRecDepth 20000 in
theorem gX6_best_X6_within : GoodIn wsX6_best (va_wsS RX6 65 yX6_within wsX6_within) := goodIn_app (goodIn_pc bs_wsX6_best bse_wsX6_best _ [(1, [6, 7, 8])] rfl (by decide +kernel)) ggX6_best_X6_within
set_option maxRecDepth 20000 in
theorem ggX6_best_X0_takeOver : GoodIn wsX6_best wsX0_takeOver := goodIn_pc bs_wsX6_best bse_wsX6_best _ [(1, [14, 15, 16, 17, 18, 19, 20, 21, 22, 23]), (2, [0, 1, 2, 3, 4, 5, 6, 7, 8, 9, 10, 11, 12]), (8, [0, 1, 2, 3, 4, 5, 6, 7, 8, 9, 10, 11, 12, 13]), (9, [0, 1, 2, 3])] rfl gw_wsX0_takeOver
set_option maxRecDepth 20000 in
theorem gX6_best_X0_takeOver : GoodIn wsX6_best (wsV RX6 200 RX0 yX0_takeOver wsX0_takeOver) := goodIn_app (goodIn_pc bs_wsX6_best bse_wsX6_best _ [(1, [10, 11, 12, 13])] rfl (by decide +kernel)) ggX6_best_X0_takeOver
set_option maxRecDepth 20000 in
theorem gw_wsX6_tryHaulings : wsX6_tryHaulings.all goodWord = true := by decide +kernel
set_option maxRecDepth 20000 in
theorem ggX6_best_X6_tryHaulings : GoodIn wsX6_best wsX6_tryHaulings := goodIn_pc bs_wsX6_best bse_wsX6_best _ [(2, [16]), (1, [4]), (2, [17]), (1, [2, 3, 10, 11, 12, 13, 14, 15, 16, 17, 18, 19, 20, 21, 22, 23]), (2, [0, 1, 2, 3, 4, 5, 6, 7, 8, 9, 10, 11, 12, 18, 19, 20, 21, 22, 23]), (3, [0, 1, 2, 3, 4, 5, 6, 7, 8, 9, 10, 11, 12, 13, 14, 15, 16, 17, 18, 19, 20, 21, 22, 23]), (4, [0, 1, 2, 3, 4, 5, 6, 7, 8, 9, 10, 11, 12, 13, 14, 15, 16]), (1, [7, 8, 9]), (4, [17, 18, 19, 20, 21, 22, 23]), (5, [0, 1, 2, 3, 4, 5, 6, 7, 8, 9, 10, 11, 12, 13, 14, 15, 16, 17, 18, 19, 20, 21, 22, 23]), (6, [0, 1, 2, 3]), (2, [13, 14, 15]), (7, [0, 1, 2, 3, 4, 5, 6, 7, 8, 9, 10, 11, 12, 13, 14]), (8, [0, 1, 2, 3, 4, 5, 6, 7, 8, 9, 10, 11, 12, 13]), (9, [0, 1, 2, 3]), (10, [0, 1, 2, 3, 4])] rfl gw_wsX6_tryHaulings
set_option maxRecDepth 20000 in
theorem gX6_best_X6_tryHaulings : GoodIn wsX6_best (wsV RX6 214 RX6 yX6_tryHaulings wsX6_tryHaulings) := goodIn_app (goodIn_pc bs_wsX6_best bse_wsX6_best _ [(2, [13, 14, 15]), (1, [8])] rfl (by decide +kernel)) ggX6_best_X6_tryHaulings
theorem dX6_best_0 : decode cX6_best 0 = .ok (.iload_n 1, 1) := zk27 (by decide +kernel)
theorem dX6_best_1 : decode cX6_best 1 = .ok (.iconst 1, 1) := zk4 (by decide +kernel)
theorem dX6_best_2 : decode cX6_best 2 = .ok (.iconst 5, 1) := zk8 (by decide +kernel)
theorem dX6_best_3 : decode cX6_best 3 = .ok (.invokestatic 65, 3) := zk184 0 65 (by decide +kernel)
theorem dX6_best_6 : decode cX6_best 6 = .ok (.ifCond .eq 12, 3) := zk153 0 12 rfl (by decide +kernel)
theorem dX6_best_9 : decode cX6_best 9 = .ok (.iload_n 2, 1) := zk28 (by decide +kernel)
theorem dX6_best_10 : decode cX6_best 10 = .ok (.iconst 0, 1) := zk3 (by decide +kernel)
theorem dX6_best_11 : decode cX6_best 11 = .ok (.iconst 1, 1) := zk4 (by decide +kernel)
theorem dX6_best_12 : decode cX6_best 12 = .ok (.invokestatic 65, 3) := zk184 0 65 (by decide +kernel)
theorem dX6_best_15 : decode cX6_best 15 = .ok (.ifCond .ne 6, 3) := zk154 0 6 rfl (by decide +kernel)
theorem dX6_best_18 : decode cX6_best 18 = .ok (.ldc 69, 2) := zk18 69 (by decide +kernel)
theorem dX6_best_20 : decode cX6_best 20 = .ok (.ireturn, 1) := zk172 (by decide +kernel)
theorem dX6_best_21 : decode cX6_best 21 = .ok (.aload_n 0, 1) := zk42 (by decide +kernel)
theorem dX6_best_22 : decode cX6_best 22 = .ok (.ldc 207, 2) := zk18 207 (by decide +kernel)
theorem dX6_best_24 : decode cX6_best 24 = .ok (.putfield 208, 3) := zk181 0 208 (by decide +kernel)
theorem dX6_best_27 : decode cX6_best 27 = .ok (.aload_n 0, 1) := zk42 (by decide +kernel)
theorem dX6_best_28 : decode cX6_best 28 = .ok (.iconst 0, 1) := zk3 (by decide +kernel)
theorem dX6_best_29 : decode cX6_best 29 = .ok (.putfield 211, 3) := zk181 0 211 (by decide +kernel)
theorem dX6_best_32 : decode cX6_best 32 = .ok (.aload_n 0, 1) := zk42 (by decide +kernel)
theorem dX6_best_33 : decode cX6_best 33 = .ok (.getfield 11, 3) := zk180 0 11 (by decide +kernel)
theorem dX6_best_36 : decode cX6_best 36 = .ok (.iconst 0, 1) := zk3 (by decide +kernel)
theorem dX6_best_37 : decode cX6_best 37 = .ok (.aaload, 1) := zk50 (by decide +kernel)
theorem dX6_best_38 : decode cX6_best 38 = .ok (.aload_n 0, 1) := zk42 (by decide +kernel)
theorem dX6_best_39 : decode cX6_best 39 = .ok (.getfield 39, 3) := zk180 0 39 (by decide +kernel)
theorem dX6_best_42 : decode cX6_best 42 = .ok (.invokevirtual 200, 3) := zk182 0 200 (by decide +kernel)
theorem dX6_best_45 : decode cX6_best 45 = .ok (.aload_n 0, 1) := zk42 (by decide +kernel)
theorem dX6_best_46 : decode cX6_best 46 = .ok (.iconst 0, 1) := zk3 (by decide +kernel)
theorem dX6_best_47 : decode cX6_best 47 = .ok (.iload_n 1, 1) := zk27 (by decide +kernel)
theorem dX6_best_48 : decode cX6_best 48 = .ok (.iconst 0, 1) := zk3 (by decide +kernel)
theorem dX6_best_49 : decode cX6_best 49 = .ok (.invokevirtual 214, 3) := zk182 0 214 (by decide +kernel)
theorem dX6_best_52 : decode cX6_best 52 = .ok (.iload_n 2, 1) := zk28 (by decide +kernel)
theorem dX6_best_53 : decode cX6_best 53 = .ok (.ifCond .ne 10, 3) := zk154 0 10 rfl (by decide +kernel)
theorem dX6_best_56 : decode cX6_best 56 = .ok (.aload_n 0, 1) := zk42 (by decide +kernel)
theorem dX6_best_57 : decode cX6_best 57 = .ok (.getfield 211, 3) := zk180 0 211 (by decide +kernel)
theorem dX6_best_60 : decode cX6_best 60 = .ok (.goto 7, 3) := zk167 0 7 rfl (by decide +kernel)
theorem dX6_best_63 : decode cX6_best 63 = .ok (.aload_n 0, 1) := zk42 (by decide +kernel)
theorem dX6_best_64 : decode cX6_best 64 = .ok (.getfield 208, 3) := zk180 0 208 (by decide +kernel)
theorem dX6_best_67 : decode cX6_best 67 = .ok (.ireturn, 1) := zk172 (by decide +kernel)
def bs_wsX6_tryHaulings : List (List Cond) := [[.code yX6_tryHaulings cX6_tryHaulings 6 none], wsX6_tryHaulings_r1, wsX6_tryHaulings_r2, wsX6_tryHaulings_r3, wsX6_tryHaulings_r4, wsX6_tryHaulings_r5, wsX60, wsX00, wsX40, wsX50]
theorem bse_wsX6_tryHaulings : wsX6_tryHaulings = bs_wsX6_tryHaulings.flatten := by
  unfold wsX6_tryHaulings bs_wsX6_tryHaulings
  simp only [List.flatten_cons, List.flatten_nil, List.append_nil, List.append_assoc, List.cons_append, List.nil_append]
set_option maxRecDepth 20000 in
theorem ggX6_tryHaulings_X0_takeOver : GoodIn wsX6_tryHaulings wsX0_takeOver := goodIn_pc bs_wsX6_tryHaulings bse_wsX6_tryHaulings _ [(1, [8, 9, 10, 11, 12, 13, 14, 15, 16, 17, 18, 19, 20, 21, 22, 23]), (2, [0, 1, 2, 3, 4, 5, 6]), (7, [0, 1, 2, 3, 4, 5, 6, 7, 8, 9, 10, 11, 12, 13]), (8, [0, 1, 2, 3])] rfl gw_wsX0_takeOver
set_option maxRecDepth 20000 in
theorem gX6_tryHaulings_X0_takeOver : GoodIn wsX6_tryHaulings (wsV RX6 200 RX0 yX0_takeOver wsX0_takeOver) := goodIn_app (goodIn_pc bs_wsX6_tryHaulings bse_wsX6_tryHaulings _ [(1, [4, 5, 6, 7])] rfl (by decide +kernel)) ggX6_tryHaulings_X0_takeOver
set_option maxRecDepth 20000 in
theorem ggX6_tryHaulings_X0_passHour : GoodIn wsX6_tryHaulings wsX0_passHour := goodIn_pc bs_wsX6_tryHaulings bse_wsX6_tryHaulings _ [(2, [10]), (1, [14, 9, 10]), (2, [11]), (1, [19]), (2, [12]), (1, [18]), (2, [13]), (1, [15]), (2, [14, 15, 16]), (1, [7]), (2, [17, 18, 19, 20, 21, 22, 23]), (3, [0, 1, 2, 3, 4]), (1, [13]), (3, [5, 6, 7, 8, 9, 10, 11, 12, 13, 14, 15, 16, 17, 18, 19, 20, 21, 22, 23]), (2, [1]), (4, [0]), (2, [3]), (4, [1, 2, 3, 4]), (1, [12]), (4, [5, 6, 7, 8, 9, 10, 11, 12, 13, 14, 15, 16, 17, 18, 19, 20, 21, 22, 23]), (5, [0, 1, 2, 3, 4, 5, 6, 7, 8, 9, 10, 11, 12, 13, 14]), (1, [16, 20]), (5, [15, 16, 17, 18]), (1, [21]), (5, [19]), (7, [0, 1, 2, 3, 4, 5, 6, 7, 8, 9, 10, 11, 12, 13]), (8, [0, 1, 2, 3]), (9, [0, 1, 2, 3, 4])] rfl gw_wsX0_passHour
set_option maxRecDepth 20000 in
theorem gX6_tryHaulings_X0_passHour : GoodIn wsX6_tryHaulings (wsV RX6 188 RX0 yX0_passHour wsX0_passHour) := goodIn_app (goodIn_pc bs_wsX6_tryHaulings bse_wsX6_tryHaulings _ [(2, [7, 8, 9]), (1, [7])] rfl (by decide +kernel)) ggX6_tryHaulings_X0_passHour
set_option maxRecDepth 20000 in
theorem ggX6_tryHaulings_X6_tryHaulings : GoodIn wsX6_tryHaulings wsX6_tryHaulings := goodIn_pc bs_wsX6_tryHaulings bse_wsX6_tryHaulings _ [(0, [0]), (1, [0, 1, 2, 3, 4, 5, 6, 7, 8, 9, 10, 11, 12, 13, 14, 15, 16, 17, 18, 19, 20, 21, 22, 23]), (2, [0, 1, 2, 3, 4, 5, 6, 7, 8, 9, 10, 11, 12, 13, 14, 15, 16, 17, 18, 19, 20, 21, 22, 23]), (3, [0, 1, 2, 3, 4, 5, 6, 7, 8, 9, 10, 11, 12, 13, 14, 15, 16, 17, 18, 19, 20, 21, 22, 23]), (4, [0, 1, 2, 3, 4, 5, 6, 7, 8, 9, 10, 11, 12, 13, 14, 15, 16, 17, 18, 19, 20, 21, 22, 23]), (5, [0, 1, 2, 3, 4, 5, 6, 7, 8, 9, 10, 11, 12, 13, 14, 15, 16, 17, 18, 19, 20, 21, 22]), (6, [0, 1, 2, 3, 4, 5, 6, 7, 8, 9, 10, 11, 12, 13, 14]), (7, [0, 1, 2, 3, 4, 5, 6, 7, 8, 9, 10, 11, 12, 13]), (8, [0, 1, 2, 3]), (9, [0, 1, 2, 3, 4])] rfl gw_wsX6_tryHaulings
set_option maxRecDepth 20000 in
theorem gX6_tryHaulings_X6_tryHaulings : GoodIn wsX6_tryHaulings (wsV RX6 214 RX6 yX6_tryHaulings wsX6_tryHaulings) := goodIn_app (goodIn_pc bs_wsX6_tryHaulings bse_wsX6_tryHaulings _ [(5, [20, 21, 22]), (4, [7])] rfl (by decide +kernel)) ggX6_tryHaulings_X6_tryHaulings
theorem dX6_tryHaulings_0 : decode cX6_tryHaulings 0 = .ok (.iload_n 1, 1) := zk27 (by decide +kernel)
theorem dX6_tryHaulings_1 : decode cX6_tryHaulings 1 = .ok (.ifCond .lt 8, 3) := zk155 0 8 rfl (by decide +kernel)
theorem dX6_tryHaulings_4 : decode cX6_tryHaulings 4 = .ok (.iload_n 1, 1) := zk27 (by decide +kernel)
theorem dX6_tryHaulings_5 : decode cX6_tryHaulings 5 = .ok (.iconst 5, 1) := zk8 (by decide +kernel)
theorem dX6_tryHaulings_6 : decode cX6_tryHaulings 6 = .ok (.if_icmp .le 4, 3) := zk164 0 4 rfl (by decide +kernel)
theorem dX6_tryHaulings_9 : decode cX6_tryHaulings 9 = .ok (.return_, 1) := zk177 (by decide +kernel)
theorem dX6_tryHaulings_10 : decode cX6_tryHaulings 10 = .ok (.aload_n 0, 1) := zk42 (by decide +kernel)
theorem dX6_tryHaulings_11 : decode cX6_tryHaulings 11 = .ok (.getfield 11, 3) := zk180 0 11 (by decide +kernel)
theorem dX6_tryHaulings_14 : decode cX6_tryHaulings 14 = .ok (.iload_n 1, 1) := zk27 (by decide +kernel)
theorem dX6_tryHaulings_15 : decode cX6_tryHaulings 15 = .ok (.aaload, 1) := zk50 (by decide +kernel)
theorem dX6_tryHaulings_16 : decode cX6_tryHaulings 16 = .ok (.astore 4, 2) := zk58 4 (by decide +kernel)
theorem dX6_tryHaulings_18 : decode cX6_tryHaulings 18 = .ok (.aload 4, 2) := zk25 4 (by decide +kernel)
theorem dX6_tryHaulings_20 : decode cX6_tryHaulings 20 = .ok (.getfield 179, 3) := zk180 0 179 (by decide +kernel)
theorem dX6_tryHaulings_23 : decode cX6_tryHaulings 23 = .ok (.aload_n 0, 1) := zk42 (by decide +kernel)
theorem dX6_tryHaulings_24 : decode cX6_tryHaulings 24 = .ok (.getfield 208, 3) := zk180 0 208 (by decide +kernel)
theorem dX6_tryHaulings_27 : decode cX6_tryHaulings 27 = .ok (.if_icmp .lt 4, 3) := zk161 0 4 rfl (by decide +kernel)
theorem dX6_tryHaulings_30 : decode cX6_tryHaulings 30 = .ok (.return_, 1) := zk177 (by decide +kernel)
theorem dX6_tryHaulings_31 : decode cX6_tryHaulings 31 = .ok (.iload_n 1, 1) := zk27 (by decide +kernel)
theorem dX6_tryHaulings_32 : decode cX6_tryHaulings 32 = .ok (.iload_n 2, 1) := zk28 (by decide +kernel)
theorem dX6_tryHaulings_33 : decode cX6_tryHaulings 33 = .ok (.if_icmp .ge 8, 3) := zk162 0 8 rfl (by decide +kernel)
theorem dX6_tryHaulings_36 : decode cX6_tryHaulings 36 = .ok (.iload_n 1, 1) := zk27 (by decide +kernel)
theorem dX6_tryHaulings_37 : decode cX6_tryHaulings 37 = .ok (.iconst 5, 1) := zk8 (by decide +kernel)
theorem dX6_tryHaulings_38 : decode cX6_tryHaulings 38 = .ok (.if_icmp .ne 18, 3) := zk160 0 18 rfl (by decide +kernel)
theorem dX6_tryHaulings_41 : decode cX6_tryHaulings 41 = .ok (.aload_n 0, 1) := zk42 (by decide +kernel)
theorem dX6_tryHaulings_42 : decode cX6_tryHaulings 42 = .ok (.aload 4, 2) := zk25 4 (by decide +kernel)
theorem dX6_tryHaulings_44 : decode cX6_tryHaulings 44 = .ok (.getfield 179, 3) := zk180 0 179 (by decide +kernel)
theorem dX6_tryHaulings_47 : decode cX6_tryHaulings 47 = .ok (.putfield 208, 3) := zk181 0 208 (by decide +kernel)
theorem dX6_tryHaulings_50 : decode cX6_tryHaulings 50 = .ok (.aload_n 0, 1) := zk42 (by decide +kernel)
theorem dX6_tryHaulings_51 : decode cX6_tryHaulings 51 = .ok (.iload_n 3, 1) := zk29 (by decide +kernel)
theorem dX6_tryHaulings_52 : decode cX6_tryHaulings 52 = .ok (.putfield 211, 3) := zk181 0 211 (by decide +kernel)
theorem dX6_tryHaulings_55 : decode cX6_tryHaulings 55 = .ok (.return_, 1) := zk177 (by decide +kernel)
theorem dX6_tryHaulings_56 : decode cX6_tryHaulings 56 = .ok (.iconst 0, 1) := zk3 (by decide +kernel)
theorem dX6_tryHaulings_57 : decode cX6_tryHaulings 57 = .ok (.istore 5, 2) := zk54 5 (by decide +kernel)
theorem dX6_tryHaulings_59 : decode cX6_tryHaulings 59 = .ok (.iload 5, 2) := zk21 5 (by decide +kernel)
theorem dX6_tryHaulings_61 : decode cX6_tryHaulings 61 = .ok (.iconst 3, 1) := zk6 (by decide +kernel)
theorem dX6_tryHaulings_62 : decode cX6_tryHaulings 62 = .ok (.if_icmp .ge 49, 3) := zk162 0 49 rfl (by decide +kernel)
theorem dX6_tryHaulings_65 : decode cX6_tryHaulings 65 = .ok (.aload_n 0, 1) := zk42 (by decide +kernel)
theorem dX6_tryHaulings_66 : decode cX6_tryHaulings 66 = .ok (.getfield 11, 3) := zk180 0 11 (by decide +kernel)
theorem dX6_tryHaulings_69 : decode cX6_tryHaulings 69 = .ok (.iload_n 1, 1) := zk27 (by decide +kernel)
theorem dX6_tryHaulings_70 : decode cX6_tryHaulings 70 = .ok (.iconst 1, 1) := zk4 (by decide +kernel)
theorem dX6_tryHaulings_71 : decode cX6_tryHaulings 71 = .ok (.iadd, 1) := zk96 (by decide +kernel)
theorem dX6_tryHaulings_72 : decode cX6_tryHaulings 72 = .ok (.aaload, 1) := zk50 (by decide +kernel)
theorem dX6_tryHaulings_73 : decode cX6_tryHaulings 73 = .ok (.aload 4, 2) := zk25 4 (by decide +kernel)
theorem dX6_tryHaulings_75 : decode cX6_tryHaulings 75 = .ok (.invokevirtual 200, 3) := zk182 0 200 (by decide +kernel)
theorem dX6_tryHaulings_78 : decode cX6_tryHaulings 78 = .ok (.aload_n 0, 1) := zk42 (by decide +kernel)
theorem dX6_tryHaulings_79 : decode cX6_tryHaulings 79 = .ok (.getfield 11, 3) := zk180 0 11 (by decide +kernel)
theorem dX6_tryHaulings_82 : decode cX6_tryHaulings 82 = .ok (.iload_n 1, 1) := zk27 (by decide +kernel)
theorem dX6_tryHaulings_83 : decode cX6_tryHaulings 83 = .ok (.iconst 1, 1) := zk4 (by decide +kernel)
theorem dX6_tryHaulings_84 : decode cX6_tryHaulings 84 = .ok (.iadd, 1) := zk96 (by decide +kernel)
theorem dX6_tryHaulings_85 : decode cX6_tryHaulings 85 = .ok (.aaload, 1) := zk50 (by decide +kernel)
theorem dX6_tryHaulings_86 : decode cX6_tryHaulings 86 = .ok (.iload 5, 2) := zk21 5 (by decide +kernel)
theorem dX6_tryHaulings_88 : decode cX6_tryHaulings 88 = .ok (.invokevirtual 188, 3) := zk182 0 188 (by decide +kernel)
theorem dX6_tryHaulings_91 : decode cX6_tryHaulings 91 = .ok (.aload_n 0, 1) := zk42 (by decide +kernel)
theorem dX6_tryHaulings_92 : decode cX6_tryHaulings 92 = .ok (.iload_n 1, 1) := zk27 (by decide +kernel)
theorem dX6_tryHaulings_93 : decode cX6_tryHaulings 93 = .ok (.iconst 1, 1) := zk4 (by decide +kernel)
theorem dX6_tryHaulings_94 : decode cX6_tryHaulings 94 = .ok (.iadd, 1) := zk96 (by decide +kernel)
theorem dX6_tryHaulings_95 : decode cX6_tryHaulings 95 = .ok (.iload_n 2, 1) := zk28 (by decide +kernel)
theorem dX6_tryHaulings_96 : decode cX6_tryHaulings 96 = .ok (.iload_n 3, 1) := zk29 (by decide +kernel)
theorem dX6_tryHaulings_97 : decode cX6_tryHaulings 97 = .ok (.iconst 3, 1) := zk6 (by decide +kernel)
theorem dX6_tryHaulings_98 : decode cX6_tryHaulings 98 = .ok (.imul, 1) := zk104 (by decide +kernel)
theorem dX6_tryHaulings_99 : decode cX6_tryHaulings 99 = .ok (.iload 5, 2) := zk21 5 (by decide +kernel)
theorem dX6_tryHaulings_101 : decode cX6_tryHaulings 101 = .ok (.iadd, 1) := zk96 (by decide +kernel)
theorem dX6_tryHaulings_102 : decode cX6_tryHaulings 102 = .ok (.invokevirtual 214, 3) := zk182 0 214 (by decide +kernel)
theorem dX6_tryHaulings_105 : decode cX6_tryHaulings 105 = .ok (.iinc 5 1, 3) := by decide +kernel
theorem dX6_tryHaulings_108 : decode cX6_tryHaulings 108 = .ok (.goto (-49), 3) := zk167 255 207 rfl (by decide +kernel)
theorem dX6_tryHaulings_111 : decode cX6_tryHaulings 111 = .ok (.return_, 1) := zk177 (by decide +kernel)
def bs_wsX6_thinkOn : List (List Cond) := [[.code yX6_thinkOn cX6_thinkOn 3 none], wsX6_thinkOn_r1, wsX6_thinkOn_r2, wsX6_thinkOn_r3, wsX6_thinkOn_r4, wsX6_thinkOn_r5, wsX60, wsX00, wsX40, wsX50]
theorem bse_wsX6_thinkOn : wsX6_thinkOn = bs_wsX6_thinkOn.flatten := by
  unfold wsX6_thinkOn bs_wsX6_thinkOn
  simp only [List.flatten_cons, List.flatten_nil, List.append_nil, List.append_assoc, List.cons_append, List.nil_append]
set_option maxRecDepth 20000 in
theorem ggX6_thinkOn_X0_hauling : GoodIn wsX6_thinkOn wsX0_hauling := goodIn_pc bs_wsX6_thinkOn bse_wsX6_thinkOn _ [(1, [5, 6, 7, 8, 9, 4, 10, 11, 12, 13, 14, 15, 16, 17, 18, 19, 20, 21, 22, 23]), (2, [0, 1, 2, 3, 4, 5, 6, 7, 8, 9, 10, 11, 12, 13, 14, 15, 16, 17, 18, 19, 20, 21, 22, 23]), (3, [0, 1, 2, 3, 4, 5, 6, 7, 8, 9, 10, 11, 12, 13, 14, 15, 16, 17, 18, 19, 20, 21, 22, 23]), (4, [0, 1, 2, 3, 4, 5, 6, 7, 8, 9, 10, 11, 12, 13, 14, 15, 16, 17, 18, 19, 20, 21, 22, 23]), (5, [0, 1, 2]), (7, [0, 1, 2, 3, 4, 5, 6, 7, 8, 9, 10, 11, 12, 13]), (8, [0, 1, 2, 3]), (9, [0, 1, 2, 3, 4])] rfl gw_wsX0_hauling
set_option maxRecDepth 20000 in
theorem gX6_thinkOn_X0_hauling : GoodIn wsX6_thinkOn (wsV RX6 185 RX0 yX0_hauling wsX0_hauling) := goodIn_app (goodIn_pc bs_wsX6_thinkOn bse_wsX6_thinkOn _ [(1, [1, 2, 3, 4])] rfl (by decide +kernel)) ggX6_thinkOn_X0_hauling
set_option maxRecDepth 20000 in
theorem ggX6_thinkOn_X0_passHour : GoodIn wsX6_thinkOn wsX0_passHour := goodIn_pc bs_wsX6_thinkOn bse_wsX6_thinkOn _ [(5, [6]), (1, [14, 11, 12]), (2, [9]), (5, [7]), (1, [13]), (5, [8]), (3, [2]), (2, [4]), (4, [14, 15, 16]), (1, [4]), (4, [17, 18, 4]), (2, [12]), (4, [5]), (2, [10, 11, 13]), (4, [19, 20, 21, 22]), (1, [23]), (2, [5, 6, 7, 8]), (1, [15, 16, 17, 18, 19, 20, 21, 22]), (2, [0, 1, 2, 3, 14, 15, 16, 17, 18, 19, 20, 21, 22, 23]), (3, [0, 1, 3, 4, 5, 6, 7, 8, 9, 10, 11, 12, 13, 14, 15, 16, 17, 18, 19, 20, 21, 22, 23]), (4, [0, 1, 2, 3, 6, 7, 8, 9]), (5, [9, 10, 11, 12, 13, 14, 15, 16, 17, 18, 19, 20]), (7, [0, 1, 2, 3, 4, 5, 6, 7, 8, 9, 10, 11, 12, 13]), (8, [0, 1, 2, 3]), (9, [0, 1, 2, 3, 4])] rfl gw_wsX0_passHour
set_option maxRecDepth 20000 in
theorem gX6_thinkOn_X0_passHour : GoodIn wsX6_thinkOn (wsV RX6 188 RX0 yX0_passHour wsX0_passHour) := goodIn_app (goodIn_pc bs_wsX6_thinkOn bse_wsX6_thinkOn _ [(5, [3, 4, 5]), (1, [4])] rfl (by decide +kernel)) ggX6_thinkOn_X0_passHour
theorem dX6_thinkOn_0 : decode cX6_thinkOn 0 = .ok (.iconst 0, 1) := zk3 (by decide +kernel)
theorem dX6_thinkOn_1 : decode cX6_thinkOn 1 = .ok (.istore_n 2, 1) := zk61 (by decide +kernel)
theorem dX6_thinkOn_2 : decode cX6_thinkOn 2 = .ok (.iload_n 2, 1) := zk28 (by decide +kernel)
theorem dX6_thinkOn_3 : decode cX6_thinkOn 3 = .ok (.iload_n 1, 1) := zk27 (by decide +kernel)
theorem dX6_thinkOn_4 : decode cX6_thinkOn 4 = .ok (.if_icmp .ge 23, 3) := zk162 0 23 rfl (by decide +kernel)
theorem dX6_thinkOn_7 : decode cX6_thinkOn 7 = .ok (.aload_n 0, 1) := zk42 (by decide +kernel)
theorem dX6_thinkOn_8 : decode cX6_thinkOn 8 = .ok (.getfield 43, 3) := zk180 0 43 (by decide +kernel)
theorem dX6_thinkOn_11 : decode cX6_thinkOn 11 = .ok (.aload_n 0, 1) := zk42 (by decide +kernel)
theorem dX6_thinkOn_12 : decode cX6_thinkOn 12 = .ok (.getfield 43, 3) := zk180 0 43 (by decide +kernel)
theorem dX6_thinkOn_15 : decode cX6_thinkOn 15 = .ok (.invokevirtual 185, 3) := zk182 0 185 (by decide +kernel)
theorem dX6_thinkOn_18 : decode cX6_thinkOn 18 = .ok (.invokevirtual 188, 3) := zk182 0 188 (by decide +kernel)
theorem dX6_thinkOn_21 : decode cX6_thinkOn 21 = .ok (.iinc 2 1, 3) := by decide +kernel
theorem dX6_thinkOn_24 : decode cX6_thinkOn 24 = .ok (.goto (-22), 3) := zk167 255 234 rfl (by decide +kernel)
theorem dX6_thinkOn_27 : decode cX6_thinkOn 27 = .ok (.return_, 1) := zk177 (by decide +kernel)
set_option maxRecDepth 20000 in
theorem ggX6_fee_X6_within : GoodIn wsX6_fee wsX6_within := goodIn_r _ [9] rfl gw_wsX6_within
set_option maxRecDepth 20000 in
theorem gX6_fee_X6_within : GoodIn wsX6_fee (va_wsS RX6 65 yX6_within wsX6_within) := goodIn_app (goodIn_r _ [6, 7, 8] rfl (by decide +kernel)) ggX6_fee_X6_within
set_option maxRecDepth 20000 in
theorem ggX6_fee_X5_workOut : GoodIn wsX6_fee wsX5_workOut := goodIn_r _ [14, 15, 16, 17, 18, 19, 13, 20, 50, 51, 52, 53, 54] rfl gw_wsX5_workOut
set_option maxRecDepth 20000 in
theorem gX6_fee_X5_workOut : GoodIn wsX6_fee (wsV RX6 241 RX5 yX5_workOut wsX5_workOut) := goodIn_app (goodIn_r _ [10, 11, 12, 13] rfl (by decide +kernel)) ggX6_fee_X5_workOut
theorem dX6_fee_0 : decode cX6_fee 0 = .ok (.aload_n 0, 1) := zk42 (by decide +kernel)
theorem dX6_fee_1 : decode cX6_fee 1 = .ok (.getfield 39, 3) := zk180 0 39 (by decide +kernel)
theorem dX6_fee_4 : decode cX6_fee 4 = .ok (.getfield 238, 3) := zk180 0 238 (by decide +kernel)
theorem dX6_fee_7 : decode cX6_fee 7 = .ok (.iconst 1, 1) := zk4 (by decide +kernel)
theorem dX6_fee_8 : decode cX6_fee 8 = .ok (.iaload, 1) := zk46 (by decide +kernel)
theorem dX6_fee_9 : decode cX6_fee 9 = .ok (.istore_n 1, 1) := zk60 (by decide +kernel)
theorem dX6_fee_10 : decode cX6_fee 10 = .ok (.iload_n 1, 1) := zk27 (by decide +kernel)
theorem dX6_fee_11 : decode cX6_fee 11 = .ok (.iconst 0, 1) := zk3 (by decide +kernel)
theorem dX6_fee_12 : decode cX6_fee 12 = .ok (.bipush 13, 2) := zk16 13 rfl (by decide +kernel)
theorem dX6_fee_14 : decode cX6_fee 14 = .ok (.invokestatic 65, 3) := zk184 0 65 (by decide +kernel)
theorem dX6_fee_17 : decode cX6_fee 17 = .ok (.ifCond .ne 11, 3) := zk154 0 11 rfl (by decide +kernel)
theorem dX6_fee_20 : decode cX6_fee 20 = .ok (.aload_n 0, 1) := zk42 (by decide +kernel)
theorem dX6_fee_21 : decode cX6_fee 21 = .ok (.getfield 39, 3) := zk180 0 39 (by decide +kernel)
theorem dX6_fee_24 : decode cX6_fee 24 = .ok (.getfield 191, 3) := zk180 0 191 (by decide +kernel)
theorem dX6_fee_27 : decode cX6_fee 27 = .ok (.ireturn, 1) := zk172 (by decide +kernel)
theorem dX6_fee_28 : decode cX6_fee 28 = .ok (.aload_n 0, 1) := zk42 (by decide +kernel)
theorem dX6_fee_29 : decode cX6_fee 29 = .ok (.getfield 58, 3) := zk180 0 58 (by decide +kernel)
theorem dX6_fee_32 : decode cX6_fee 32 = .ok (.iload_n 1, 1) := zk27 (by decide +kernel)
theorem dX6_fee_33 : decode cX6_fee 33 = .ok (.aaload, 1) := zk50 (by decide +kernel)
theorem dX6_fee_34 : decode cX6_fee 34 = .ok (.aload_n 0, 1) := zk42 (by decide +kernel)
theorem dX6_fee_35 : decode cX6_fee 35 = .ok (.getfield 39, 3) := zk180 0 39 (by decide +kernel)
theorem dX6_fee_38 : decode cX6_fee 38 = .ok (.getfield 191, 3) := zk180 0 191 (by decide +kernel)
theorem dX6_fee_41 : decode cX6_fee 41 = .ok (.aload_n 0, 1) := zk42 (by decide +kernel)
theorem dX6_fee_42 : decode cX6_fee 42 = .ok (.getfield 39, 3) := zk180 0 39 (by decide +kernel)
theorem dX6_fee_45 : decode cX6_fee 45 = .ok (.getfield 194, 3) := zk180 0 194 (by decide +kernel)
theorem dX6_fee_48 : decode cX6_fee 48 = .ok (.iconst 0, 1) := zk3 (by decide +kernel)
theorem dX6_fee_49 : decode cX6_fee 49 = .ok (.invokevirtual 241, 3) := zk182 0 241 (by decide +kernel)
theorem dX6_fee_52 : decode cX6_fee 52 = .ok (.ireturn, 1) := zk172 (by decide +kernel)
def bs_wsX6_fine : List (List Cond) := [[.code yX6_fine cX6_fine 4 (some .int)], wsX6_fine_r1, wsX6_fine_r2, wsX60, wsX00, wsX40, wsX50]
theorem bse_wsX6_fine : wsX6_fine = bs_wsX6_fine.flatten := by
  unfold wsX6_fine bs_wsX6_fine
  simp only [List.flatten_cons, List.flatten_nil, List.append_nil, List.append_assoc, List.cons_append, List.nil_append]
set_option maxRecDepth 20000 in
theorem ggX6_fine_X6_isStall : GoodIn wsX6_fine wsX6_isStall := goodIn_pc bs_wsX6_fine bse_wsX6_fine _ [(1, [11, 1, 12, 13, 14, 10, 15]), (3, [0, 1, 2, 3, 4, 5, 6, 7, 8, 9, 10, 11, 12, 13, 14]), (4, [0, 1, 2, 3, 4, 5, 6, 7, 8, 9, 10, 11, 12, 13])] rfl gw_wsX6_isStall
set_option maxRecDepth 20000 in
theorem gX6_fine_X6_isStall : GoodIn wsX6_fine (wsV RX6 79 RX6 yX6_isStall wsX6_isStall) := goodIn_app (goodIn_pc bs_wsX6_fine bse_wsX6_fine _ [(1, [7, 8, 9, 10])] rfl (by decide +kernel)) ggX6_fine_X6_isStall
set_option maxRecDepth 20000 in
theorem ggX6_fine_X6_within : GoodIn wsX6_fine wsX6_within := goodIn_pc bs_wsX6_fine bse_wsX6_fine _ [(1, [15])] rfl gw_wsX6_within
set_option maxRecDepth 20000 in
theorem gX6_fine_X6_within : GoodIn wsX6_fine (va_wsS RX6 65 yX6_within wsX6_within) := goodIn_app (goodIn_pc bs_wsX6_fine bse_wsX6_fine _ [(1, [13, 14, 10])] rfl (by decide +kernel)) ggX6_fine_X6_within
set_option maxRecDepth 20000 in
theorem ggX6_fine_X0_shades : GoodIn wsX6_fine wsX0_shades := goodIn_pc bs_wsX6_fine bse_wsX6_fine _ [(1, [20, 21, 22, 23]), (2, [0]), (1, [19]), (2, [1, 2, 3, 4, 5, 6, 7]), (4, [0, 1, 2, 3, 4, 5, 6, 7, 8, 9, 10, 11, 12, 13])] rfl gw_wsX0_shades
set_option maxRecDepth 20000 in
theorem gX6_fine_X0_shades : GoodIn wsX6_fine (wsV RX6 105 RX0 yX0_shades wsX0_shades) := goodIn_app (goodIn_pc bs_wsX6_fine bse_wsX6_fine _ [(1, [16, 17, 18, 19])] rfl (by decide +kernel)) ggX6_fine_X0_shades
set_option maxRecDepth 20000 in
theorem ggX6_fine_X5_workOut : GoodIn wsX6_fine wsX5_workOut := goodIn_pc bs_wsX6_fine bse_wsX6_fine _ [(2, [12, 13, 14, 15, 16, 17, 11, 18]), (6, [0, 1, 2, 3, 4])] rfl gw_wsX5_workOut
set_option maxRecDepth 20000 in
theorem gX6_fine_X5_workOut : GoodIn wsX6_fine (wsV RX6 241 RX5 yX5_workOut wsX5_workOut) := goodIn_app (goodIn_pc bs_wsX6_fine bse_wsX6_fine _ [(2, [8, 9, 10, 11])] rfl (by decide +kernel)) ggX6_fine_X5_workOut
theorem dX6_fine_0 : decode cX6_fine 0 = .ok (.aload_n 0, 1) := zk42 (by decide +kernel)
theorem dX6_fine_1 : decode cX6_fine 1 = .ok (.iload_n 1, 1) := zk27 (by decide +kernel)
theorem dX6_fine_2 : decode cX6_fine 2 = .ok (.invokevirtual 79, 3) := zk182 0 79 (by decide +kernel)
theorem dX6_fine_5 : decode cX6_fine 5 = .ok (.ifCond .ne 6, 3) := zk154 0 6 rfl (by decide +kernel)
theorem dX6_fine_8 : decode cX6_fine 8 = .ok (.ldc 69, 2) := zk18 69 (by decide +kernel)
theorem dX6_fine_10 : decode cX6_fine 10 = .ok (.ireturn, 1) := zk172 (by decide +kernel)
theorem dX6_fine_11 : decode cX6_fine 11 = .ok (.aload_n 0, 1) := zk42 (by decide +kernel)
theorem dX6_fine_12 : decode cX6_fine 12 = .ok (.getfield 39, 3) := zk180 0 39 (by decide +kernel)
theorem dX6_fine_15 : decode cX6_fine 15 = .ok (.getfield 83, 3) := zk180 0 83 (by decide +kernel)
theorem dX6_fine_18 : decode cX6_fine 18 = .ok (.iload_n 1, 1) := zk27 (by decide +kernel)
theorem dX6_fine_19 : decode cX6_fine 19 = .ok (.aaload, 1) := zk50 (by decide +kernel)
theorem dX6_fine_20 : decode cX6_fine 20 = .ok (.astore_n 2, 1) := zk77 (by decide +kernel)
theorem dX6_fine_21 : decode cX6_fine 21 = .ok (.aload_n 0, 1) := zk42 (by decide +kernel)
theorem dX6_fine_22 : decode cX6_fine 22 = .ok (.getfield 39, 3) := zk180 0 39 (by decide +kernel)
theorem dX6_fine_25 : decode cX6_fine 25 = .ok (.getfield 238, 3) := zk180 0 238 (by decide +kernel)
theorem dX6_fine_28 : decode cX6_fine 28 = .ok (.iconst 2, 1) := zk5 (by decide +kernel)
theorem dX6_fine_29 : decode cX6_fine 29 = .ok (.iaload, 1) := zk46 (by decide +kernel)
theorem dX6_fine_30 : decode cX6_fine 30 = .ok (.istore_n 3, 1) := zk62 (by decide +kernel)
theorem dX6_fine_31 : decode cX6_fine 31 = .ok (.iload_n 3, 1) := zk29 (by decide +kernel)
theorem dX6_fine_32 : decode cX6_fine 32 = .ok (.iconst 0, 1) := zk3 (by decide +kernel)
theorem dX6_fine_33 : decode cX6_fine 33 = .ok (.bipush 13, 2) := zk16 13 rfl (by decide +kernel)
theorem dX6_fine_35 : decode cX6_fine 35 = .ok (.invokestatic 65, 3) := zk184 0 65 (by decide +kernel)
theorem dX6_fine_38 : decode cX6_fine 38 = .ok (.ifCond .ne 8, 3) := zk154 0 8 rfl (by decide +kernel)
theorem dX6_fine_41 : decode cX6_fine 41 = .ok (.aload_n 2, 1) := zk44 (by decide +kernel)
theorem dX6_fine_42 : decode cX6_fine 42 = .ok (.getfield 95, 3) := zk180 0 95 (by decide +kernel)
theorem dX6_fine_45 : decode cX6_fine 45 = .ok (.ireturn, 1) := zk172 (by decide +kernel)
theorem dX6_fine_46 : decode cX6_fine 46 = .ok (.aload_n 0, 1) := zk42 (by decide +kernel)
theorem dX6_fine_47 : decode cX6_fine 47 = .ok (.getfield 58, 3) := zk180 0 58 (by decide +kernel)
theorem dX6_fine_50 : decode cX6_fine 50 = .ok (.iload_n 3, 1) := zk29 (by decide +kernel)
theorem dX6_fine_51 : decode cX6_fine 51 = .ok (.aaload, 1) := zk50 (by decide +kernel)
theorem dX6_fine_52 : decode cX6_fine 52 = .ok (.aload_n 2, 1) := zk44 (by decide +kernel)
theorem dX6_fine_53 : decode cX6_fine 53 = .ok (.getfield 95, 3) := zk180 0 95 (by decide +kernel)
theorem dX6_fine_56 : decode cX6_fine 56 = .ok (.aload_n 0, 1) := zk42 (by decide +kernel)
theorem dX6_fine_57 : decode cX6_fine 57 = .ok (.getfield 39, 3) := zk180 0 39 (by decide +kernel)
theorem dX6_fine_60 : decode cX6_fine 60 = .ok (.aload_n 2, 1) := zk44 (by decide +kernel)
theorem dX6_fine_61 : decode cX6_fine 61 = .ok (.getfield 92, 3) := zk180 0 92 (by decide +kernel)
theorem dX6_fine_64 : decode cX6_fine 64 = .ok (.invokevirtual 105, 3) := zk182 0 105 (by decide +kernel)
theorem dX6_fine_67 : decode cX6_fine 67 = .ok (.ifCond .eq 7, 3) := zk153 0 7 rfl (by decide +kernel)
theorem dX6_fine_70 : decode cX6_fine 70 = .ok (.iconst 1, 1) := zk4 (by decide +kernel)
theorem dX6_fine_71 : decode cX6_fine 71 = .ok (.goto 4, 3) := zk167 0 4 rfl (by decide +kernel)
theorem dX6_fine_74 : decode cX6_fine 74 = .ok (.iconst 0, 1) := zk3 (by decide +kernel)
theorem dX6_fine_75 : decode cX6_fine 75 = .ok (.iconst 0, 1) := zk3 (by decide +kernel)
theorem dX6_fine_76 : decode cX6_fine 76 = .ok (.invokevirtual 241, 3) := zk182 0 241 (by decide +kernel)
theorem dX6_fine_79 : decode cX6_fine 79 = .ok (.ireturn, 1) := zk172 (by decide +kernel)
set_option maxRecDepth 20000 in
theorem gw_wsX6_feedBytes : wsX6_feedBytes.all goodWord = true := by decide +kernel
set_option maxRecDepth 20000 in
theorem ggX6_feed_X6_feedBytes : GoodIn wsX6_feed wsX6_feedBytes := goodIn_r _ [7, 1, 8, 9, 10, 11, 12, 13, 14, 15, 16, 17, 18, 19, 20, 21, 22, 23] rfl gw_wsX6_feedBytes
set_option maxRecDepth 20000 in
theorem gX6_feed_X6_feedBytes : GoodIn wsX6_feed (wsV RX6 247 RX6 yX6_feedBytes wsX6_feedBytes) := goodIn_app (goodIn_r _ [3, 4, 5, 6] rfl (by decide +kernel)) ggX6_feed_X6_feedBytes
theorem dX6_feed_0 : decode cX6_feed 0 = .ok (.aload_n 0, 1) := zk42 (by decide +kernel)
theorem dX6_feed_1 : decode cX6_feed 1 = .ok (.getfield 244, 3) := zk180 0 244 (by decide +kernel)
theorem dX6_feed_4 : decode cX6_feed 4 = .ok (.bipush 12, 2) := zk16 12 rfl (by decide +kernel)
theorem dX6_feed_6 : decode cX6_feed 6 = .ok (.iadd, 1) := zk96 (by decide +kernel)
theorem dX6_feed_7 : decode cX6_feed 7 = .ok (.bipush 96, 2) := zk16 96 rfl (by decide +kernel)
theorem dX6_feed_9 : decode cX6_feed 9 = .ok (.if_icmp .le 6, 3) := zk164 0 6 rfl (by decide +kernel)
theorem dX6_feed_12 : decode cX6_feed 12 = .ok (.ldc 74, 2) := zk18 74 (by decide +kernel)
theorem dX6_feed_14 : decode cX6_feed 14 = .ok (.ireturn, 1) := zk172 (by decide +kernel)
theorem dX6_feed_15 : decode cX6_feed 15 = .ok (.aload_n 0, 1) := zk42 (by decide +kernel)
theorem dX6_feed_16 : decode cX6_feed 16 = .ok (.iload_n 1, 1) := zk27 (by decide +kernel)
theorem dX6_feed_17 : decode cX6_feed 17 = .ok (.invokevirtual 247, 3) := zk182 0 247 (by decide +kernel)
theorem dX6_feed_20 : decode cX6_feed 20 = .ok (.aload_n 0, 1) := zk42 (by decide +kernel)
theorem dX6_feed_21 : decode cX6_feed 21 = .ok (.iload_n 2, 1) := zk28 (by decide +kernel)
theorem dX6_feed_22 : decode cX6_feed 22 = .ok (.invokevirtual 247, 3) := zk182 0 247 (by decide +kernel)
theorem dX6_feed_25 : decode cX6_feed 25 = .ok (.aload_n 0, 1) := zk42 (by decide +kernel)
theorem dX6_feed_26 : decode cX6_feed 26 = .ok (.iload_n 3, 1) := zk29 (by decide +kernel)
theorem dX6_feed_27 : decode cX6_feed 27 = .ok (.invokevirtual 247, 3) := zk182 0 247 (by decide +kernel)
theorem dX6_feed_30 : decode cX6_feed 30 = .ok (.aload_n 0, 1) := zk42 (by decide +kernel)
theorem dX6_feed_31 : decode cX6_feed 31 = .ok (.getfield 244, 3) := zk180 0 244 (by decide +kernel)
theorem dX6_feed_34 : decode cX6_feed 34 = .ok (.ireturn, 1) := zk172 (by decide +kernel)
theorem dX6_feedBytes_0 : decode cX6_feedBytes 0 = .ok (.bipush 24, 2) := zk16 24 rfl (by decide +kernel)
theorem dX6_feedBytes_2 : decode cX6_feedBytes 2 = .ok (.istore_n 2, 1) := zk61 (by decide +kernel)
theorem dX6_feedBytes_3 : decode cX6_feedBytes 3 = .ok (.iload_n 2, 1) := zk28 (by decide +kernel)
theorem dX6_feedBytes_4 : decode cX6_feedBytes 4 = .ok (.ifCond .lt 44, 3) := zk155 0 44 rfl (by decide +kernel)
theorem dX6_feedBytes_7 : decode cX6_feedBytes 7 = .ok (.aload_n 0, 1) := zk42 (by decide +kernel)
theorem dX6_feedBytes_8 : decode cX6_feedBytes 8 = .ok (.getfield 244, 3) := zk180 0 244 (by decide +kernel)
theorem dX6_feedBytes_11 : decode cX6_feedBytes 11 = .ok (.bipush 96, 2) := zk16 96 rfl (by decide +kernel)
theorem dX6_feedBytes_13 : decode cX6_feedBytes 13 = .ok (.if_icmp .ge 35, 3) := zk162 0 35 rfl (by decide +kernel)
theorem dX6_feedBytes_16 : decode cX6_feedBytes 16 = .ok (.aload_n 0, 1) := zk42 (by decide +kernel)
theorem dX6_feedBytes_17 : decode cX6_feedBytes 17 = .ok (.getfield 62, 3) := zk180 0 62 (by decide +kernel)
theorem dX6_feedBytes_20 : decode cX6_feedBytes 20 = .ok (.aload_n 0, 1) := zk42 (by decide +kernel)
theorem dX6_feedBytes_21 : decode cX6_feedBytes 21 = .ok (.getfield 244, 3) := zk180 0 244 (by decide +kernel)
theorem dX6_feedBytes_24 : decode cX6_feedBytes 24 = .ok (.iload_n 1, 1) := zk27 (by decide +kernel)
theorem dX6_feedBytes_25 : decode cX6_feedBytes 25 = .ok (.iload_n 2, 1) := zk28 (by decide +kernel)
theorem dX6_feedBytes_26 : decode cX6_feedBytes 26 = .ok (.iushr, 1) := zk124 (by decide +kernel)
theorem dX6_feedBytes_27 : decode cX6_feedBytes 27 = .ok (.sipush 255, 3) := zk17 0 255 rfl (by decide +kernel)
theorem dX6_feedBytes_30 : decode cX6_feedBytes 30 = .ok (.iand, 1) := zk126 (by decide +kernel)
theorem dX6_feedBytes_31 : decode cX6_feedBytes 31 = .ok (.iastore, 1) := zk79 (by decide +kernel)
theorem dX6_feedBytes_32 : decode cX6_feedBytes 32 = .ok (.aload_n 0, 1) := zk42 (by decide +kernel)
theorem dX6_feedBytes_33 : decode cX6_feedBytes 33 = .ok (.dup, 1) := zk89 (by decide +kernel)
theorem dX6_feedBytes_34 : decode cX6_feedBytes 34 = .ok (.getfield 244, 3) := zk180 0 244 (by decide +kernel)
theorem dX6_feedBytes_37 : decode cX6_feedBytes 37 = .ok (.iconst 1, 1) := zk4 (by decide +kernel)
theorem dX6_feedBytes_38 : decode cX6_feedBytes 38 = .ok (.iadd, 1) := zk96 (by decide +kernel)
theorem dX6_feedBytes_39 : decode cX6_feedBytes 39 = .ok (.putfield 244, 3) := zk181 0 244 (by decide +kernel)
theorem dX6_feedBytes_42 : decode cX6_feedBytes 42 = .ok (.iinc 2 (-8), 3) := by decide +kernel
theorem dX6_feedBytes_45 : decode cX6_feedBytes 45 = .ok (.goto (-42), 3) := zk167 255 214 rfl (by decide +kernel)
theorem dX6_feedBytes_48 : decode cX6_feedBytes 48 = .ok (.return_, 1) := zk177 (by decide +kernel)
set_option maxRecDepth 20000 in
theorem gw_wsX6_isSheet : wsX6_isSheet.all goodWord = true := by decide +kernel
def bs_wsX6_copy : List (List Cond) := [[.code yX6_copy cX6_copy 8 (some .int)], wsX6_copy_r1, wsX6_copy_r2, wsX60, wsX20]
theorem bse_wsX6_copy : wsX6_copy = bs_wsX6_copy.flatten := by
  unfold wsX6_copy bs_wsX6_copy
  simp only [List.flatten_cons, List.flatten_nil, List.append_nil, List.append_assoc, List.cons_append, List.nil_append]
set_option maxRecDepth 20000 in
theorem ggX6_copy_X6_isSheet : GoodIn wsX6_copy wsX6_isSheet := goodIn_pc bs_wsX6_copy bse_wsX6_copy _ [(1, [14, 15, 16, 13, 17])] rfl gw_wsX6_isSheet
set_option maxRecDepth 20000 in
theorem gX6_copy_X6_isSheet : GoodIn wsX6_copy (va_wsS RX6 226 yX6_isSheet wsX6_isSheet) := goodIn_app (goodIn_pc bs_wsX6_copy bse_wsX6_copy _ [(1, [11, 12, 13])] rfl (by decide +kernel)) ggX6_copy_X6_isSheet
set_option maxRecDepth 20000 in
theorem gw_wsX2_isMissing : wsX2_isMissing.all goodWord = true := by decide +kernel
set_option maxRecDepth 20000 in
theorem ggX6_copy_X2_isMissing : GoodIn wsX6_copy wsX2_isMissing := goodIn_pc bs_wsX6_copy bse_wsX6_copy _ [(1, [22, 23]), (4, [0, 1, 2])] rfl gw_wsX2_isMissing
set_option maxRecDepth 20000 in
theorem gX6_copy_X2_isMissing : GoodIn wsX6_copy (wsV RX6 229 RX2 yX2_isMissing wsX2_isMissing) := goodIn_app (goodIn_pc bs_wsX6_copy bse_wsX6_copy _ [(1, [18, 19, 20, 21])] rfl (by decide +kernel)) ggX6_copy_X2_isMissing
set_option maxRecDepth 20000 in
theorem gw_wsX2_hasPlaces : wsX2_hasPlaces.all goodWord = true := by decide +kernel
set_option maxRecDepth 20000 in
theorem ggX6_copy_X2_hasPlaces : GoodIn wsX6_copy wsX2_hasPlaces := goodIn_pc bs_wsX6_copy bse_wsX6_copy _ [(2, [3, 4]), (4, [0, 1, 2])] rfl gw_wsX2_hasPlaces
set_option maxRecDepth 20000 in
theorem gX6_copy_X2_hasPlaces : GoodIn wsX6_copy (wsV RX6 296 RX2 yX2_hasPlaces wsX2_hasPlaces) := goodIn_app (goodIn_pc bs_wsX6_copy bse_wsX6_copy _ [(2, [0, 1, 2]), (1, [21])] rfl (by decide +kernel)) ggX6_copy_X2_hasPlaces
theorem dX6_copy_0 : decode cX6_copy 0 = .ok (.iload_n 1, 1) := zk27 (by decide +kernel)
theorem dX6_copy_1 : decode cX6_copy 1 = .ok (.invokestatic 226, 3) := zk184 0 226 (by decide +kernel)
theorem dX6_copy_4 : decode cX6_copy 4 = .ok (.ifCond .eq 10, 3) := zk153 0 10 rfl (by decide +kernel)
theorem dX6_copy_7 : decode cX6_copy 7 = .ok (.iload_n 3, 1) := zk29 (by decide +kernel)
theorem dX6_copy_8 : decode cX6_copy 8 = .ok (.invokestatic 226, 3) := zk184 0 226 (by decide +kernel)
theorem dX6_copy_11 : decode cX6_copy 11 = .ok (.ifCond .ne 6, 3) := zk154 0 6 rfl (by decide +kernel)
theorem dX6_copy_14 : decode cX6_copy 14 = .ok (.ldc 69, 2) := zk18 69 (by decide +kernel)
theorem dX6_copy_16 : decode cX6_copy 16 = .ok (.ireturn, 1) := zk172 (by decide +kernel)
theorem dX6_copy_17 : decode cX6_copy 17 = .ok (.aload_n 0, 1) := zk42 (by decide +kernel)
theorem dX6_copy_18 : decode cX6_copy 18 = .ok (.getfield 17, 3) := zk180 0 17 (by decide +kernel)
theorem dX6_copy_21 : decode cX6_copy 21 = .ok (.iload_n 1, 1) := zk27 (by decide +kernel)
theorem dX6_copy_22 : decode cX6_copy 22 = .ok (.aaload, 1) := zk50 (by decide +kernel)
theorem dX6_copy_23 : decode cX6_copy 23 = .ok (.astore 6, 2) := zk58 6 (by decide +kernel)
theorem dX6_copy_25 : decode cX6_copy 25 = .ok (.aload_n 0, 1) := zk42 (by decide +kernel)
theorem dX6_copy_26 : decode cX6_copy 26 = .ok (.getfield 17, 3) := zk180 0 17 (by decide +kernel)
theorem dX6_copy_29 : decode cX6_copy 29 = .ok (.iload_n 3, 1) := zk29 (by decide +kernel)
theorem dX6_copy_30 : decode cX6_copy 30 = .ok (.aaload, 1) := zk50 (by decide +kernel)
theorem dX6_copy_31 : decode cX6_copy 31 = .ok (.astore 7, 2) := zk58 7 (by decide +kernel)
theorem dX6_copy_33 : decode cX6_copy 33 = .ok (.aload 6, 2) := zk25 6 (by decide +kernel)
theorem dX6_copy_35 : decode cX6_copy 35 = .ok (.invokevirtual 229, 3) := zk182 0 229 (by decide +kernel)
theorem dX6_copy_38 : decode cX6_copy 38 = .ok (.ifCond .ne 11, 3) := zk154 0 11 rfl (by decide +kernel)
theorem dX6_copy_41 : decode cX6_copy 41 = .ok (.aload 7, 2) := zk25 7 (by decide +kernel)
theorem dX6_copy_43 : decode cX6_copy 43 = .ok (.invokevirtual 229, 3) := zk182 0 229 (by decide +kernel)
theorem dX6_copy_46 : decode cX6_copy 46 = .ok (.ifCond .eq 6, 3) := zk153 0 6 rfl (by decide +kernel)
theorem dX6_copy_49 : decode cX6_copy 49 = .ok (.ldc 233, 2) := zk18 233 (by decide +kernel)
theorem dX6_copy_51 : decode cX6_copy 51 = .ok (.ireturn, 1) := zk172 (by decide +kernel)
theorem dX6_copy_52 : decode cX6_copy 52 = .ok (.aload 6, 2) := zk25 6 (by decide +kernel)
theorem dX6_copy_54 : decode cX6_copy 54 = .ok (.getfield 279, 3) := zk180 1 23 (by decide +kernel)
theorem dX6_copy_57 : decode cX6_copy 57 = .ok (.aload 7, 2) := zk25 7 (by decide +kernel)
theorem dX6_copy_59 : decode cX6_copy 59 = .ok (.getfield 279, 3) := zk180 1 23 (by decide +kernel)
theorem dX6_copy_62 : decode cX6_copy 62 = .ok (.if_icmp .eq 6, 3) := zk159 0 6 rfl (by decide +kernel)
theorem dX6_copy_65 : decode cX6_copy 65 = .ok (.ldc 115, 2) := zk18 115 (by decide +kernel)
theorem dX6_copy_67 : decode cX6_copy 67 = .ok (.ireturn, 1) := zk172 (by decide +kernel)
theorem dX6_copy_68 : decode cX6_copy 68 = .ok (.aload 6, 2) := zk25 6 (by decide +kernel)
theorem dX6_copy_70 : decode cX6_copy 70 = .ok (.iload_n 2, 1) := zk28 (by decide +kernel)
theorem dX6_copy_71 : decode cX6_copy 71 = .ok (.iload 5, 2) := zk21 5 (by decide +kernel)
theorem dX6_copy_73 : decode cX6_copy 73 = .ok (.invokevirtual 296, 3) := zk182 1 40 (by decide +kernel)
theorem dX6_copy_76 : decode cX6_copy 76 = .ok (.ifCond .eq 15, 3) := zk153 0 15 rfl (by decide +kernel)
theorem dX6_copy_79 : decode cX6_copy 79 = .ok (.aload 7, 2) := zk25 7 (by decide +kernel)
theorem dX6_copy_81 : decode cX6_copy 81 = .ok (.iload 4, 2) := zk21 4 (by decide +kernel)
theorem dX6_copy_83 : decode cX6_copy 83 = .ok (.iload 5, 2) := zk21 5 (by decide +kernel)
theorem dX6_copy_85 : decode cX6_copy 85 = .ok (.invokevirtual 296, 3) := zk182 1 40 (by decide +kernel)
theorem dX6_copy_88 : decode cX6_copy 88 = .ok (.ifCond .ne 7, 3) := zk154 0 7 rfl (by decide +kernel)
theorem dX6_copy_91 : decode cX6_copy 91 = .ok (.ldc_w 278, 3) := zk19 1 22 (by decide +kernel)
theorem dX6_copy_94 : decode cX6_copy 94 = .ok (.ireturn, 1) := zk172 (by decide +kernel)
theorem dX6_copy_95 : decode cX6_copy 95 = .ok (.aload 6, 2) := zk25 6 (by decide +kernel)
theorem dX6_copy_97 : decode cX6_copy 97 = .ok (.getfield 282, 3) := zk180 1 26 (by decide +kernel)
theorem dX6_copy_100 : decode cX6_copy 100 = .ok (.iload_n 2, 1) := zk28 (by decide +kernel)
theorem dX6_copy_101 : decode cX6_copy 101 = .ok (.aload 7, 2) := zk25 7 (by decide +kernel)
theorem dX6_copy_103 : decode cX6_copy 103 = .ok (.getfield 282, 3) := zk180 1 26 (by decide +kernel)
theorem dX6_copy_106 : decode cX6_copy 106 = .ok (.iload 4, 2) := zk21 4 (by decide +kernel)
theorem dX6_copy_108 : decode cX6_copy 108 = .ok (.iload 5, 2) := zk21 5 (by decide +kernel)
theorem dX6_copy_110 : decode cX6_copy 110 = .ok (.invokestatic 299, 3) := zk184 1 43 (by decide +kernel)
theorem dX6_copy_113 : decode cX6_copy 113 = .ok (.iload 5, 2) := zk21 5 (by decide +kernel)
theorem dX6_copy_115 : decode cX6_copy 115 = .ok (.ireturn, 1) := zk172 (by decide +kernel)
set_option maxRecDepth 20000 in
theorem gw_wsX6_isSlot : wsX6_isSlot.all goodWord = true := by decide +kernel
def bs_wsX6_ask : List (List Cond) := [[.code yX6_ask cX6_ask 5 (some .int)], wsX6_ask_r1, wsX6_ask_r2, wsX60, wsX30, wsX40]
theorem bse_wsX6_ask : wsX6_ask = bs_wsX6_ask.flatten := by
  unfold wsX6_ask bs_wsX6_ask
  simp only [List.flatten_cons, List.flatten_nil, List.append_nil, List.append_assoc, List.cons_append, List.nil_append]
set_option maxRecDepth 20000 in
theorem ggX6_ask_X6_isSlot : GoodIn wsX6_ask wsX6_isSlot := goodIn_pc bs_wsX6_ask bse_wsX6_ask _ [(1, [7, 8, 9, 6, 10])] rfl gw_wsX6_isSlot
set_option maxRecDepth 20000 in
theorem gX6_ask_X6_isSlot : GoodIn wsX6_ask (va_wsS RX6 305 yX6_isSlot wsX6_isSlot) := goodIn_app (goodIn_pc bs_wsX6_ask bse_wsX6_ask _ [(1, [4, 5, 6])] rfl (by decide +kernel)) ggX6_ask_X6_isSlot
set_option maxRecDepth 20000 in
theorem ggX6_ask_X6_within : GoodIn wsX6_ask wsX6_within := goodIn_pc bs_wsX6_ask bse_wsX6_ask _ [(1, [10])] rfl gw_wsX6_within
set_option maxRecDepth 20000 in
theorem gX6_ask_X6_within : GoodIn wsX6_ask (va_wsS RX6 65 yX6_within wsX6_within) := goodIn_app (goodIn_pc bs_wsX6_ask bse_wsX6_ask _ [(1, [8, 9, 6])] rfl (by decide +kernel)) ggX6_ask_X6_within
set_option maxRecDepth 20000 in
theorem gw_wsX3_refuses : wsX3_refuses.all goodWord = true := by decide +kernel
set_option maxRecDepth 20000 in
theorem ggX6_ask_X3_refuses : GoodIn wsX6_ask wsX3_refuses := goodIn_pc bs_wsX6_ask bse_wsX6_ask _ [(1, [15, 16, 17, 18]), (4, [0, 1, 2, 3])] rfl gw_wsX3_refuses
set_option maxRecDepth 20000 in
theorem gX6_ask_X3_refuses : GoodIn wsX6_ask (wsV RX6 328 RX3 yX3_refuses wsX3_refuses) := goodIn_app (goodIn_pc bs_wsX6_ask bse_wsX6_ask _ [(1, [11, 12, 13, 14])] rfl (by decide +kernel)) ggX6_ask_X3_refuses
set_option maxRecDepth 20000 in
theorem ggX6_ask_X4_isOf : GoodIn wsX6_ask wsX4_isOf := goodIn_pc bs_wsX6_ask bse_wsX6_ask _ [(1, [23]), (2, [0]), (1, [9, 6, 10]), (5, [0, 1, 2, 3])] rfl gw_wsX4_isOf
set_option maxRecDepth 20000 in
theorem gX6_ask_X4_isOf : GoodIn wsX6_ask (wsV RX6 112 RX4 yX4_isOf wsX4_isOf) := goodIn_app (goodIn_pc bs_wsX6_ask bse_wsX6_ask _ [(1, [19, 20, 21, 22])] rfl (by decide +kernel)) ggX6_ask_X4_isOf
set_option maxRecDepth 20000 in
theorem gw_wsX4_worth : wsX4_worth.all goodWord = true := by decide +kernel
set_option maxRecDepth 20000 in
theorem ggX6_ask_X4_worth : GoodIn wsX6_ask wsX4_worth := goodIn_pc bs_wsX6_ask bse_wsX6_ask _ [(2, [4, 0, 5]), (5, [0, 1, 2, 3])] rfl gw_wsX4_worth
set_option maxRecDepth 20000 in
theorem gX6_ask_X4_worth : GoodIn wsX6_ask (wsV RX6 108 RX4 yX4_worth wsX4_worth) := goodIn_app (goodIn_pc bs_wsX6_ask bse_wsX6_ask _ [(2, [1, 2, 3]), (1, [22])] rfl (by decide +kernel)) ggX6_ask_X4_worth
theorem dX6_ask_0 : decode cX6_ask 0 = .ok (.iload_n 1, 1) := zk27 (by decide +kernel)
theorem dX6_ask_1 : decode cX6_ask 1 = .ok (.invokestatic 305, 3) := zk184 1 49 (by decide +kernel)
theorem dX6_ask_4 : decode cX6_ask 4 = .ok (.ifCond .eq 12, 3) := zk153 0 12 rfl (by decide +kernel)
theorem dX6_ask_7 : decode cX6_ask 7 = .ok (.iload_n 2, 1) := zk28 (by decide +kernel)
theorem dX6_ask_8 : decode cX6_ask 8 = .ok (.iconst 0, 1) := zk3 (by decide +kernel)
theorem dX6_ask_9 : decode cX6_ask 9 = .ok (.iconst 5, 1) := zk8 (by decide +kernel)
theorem dX6_ask_10 : decode cX6_ask 10 = .ok (.invokestatic 65, 3) := zk184 0 65 (by decide +kernel)
theorem dX6_ask_13 : decode cX6_ask 13 = .ok (.ifCond .ne 6, 3) := zk154 0 6 rfl (by decide +kernel)
theorem dX6_ask_16 : decode cX6_ask 16 = .ok (.ldc 69, 2) := zk18 69 (by decide +kernel)
theorem dX6_ask_18 : decode cX6_ask 18 = .ok (.ireturn, 1) := zk172 (by decide +kernel)
theorem dX6_ask_19 : decode cX6_ask 19 = .ok (.aload_n 0, 1) := zk42 (by decide +kernel)
theorem dX6_ask_20 : decode cX6_ask 20 = .ok (.getfield 23, 3) := zk180 0 23 (by decide +kernel)
theorem dX6_ask_23 : decode cX6_ask 23 = .ok (.iload_n 1, 1) := zk27 (by decide +kernel)
theorem dX6_ask_24 : decode cX6_ask 24 = .ok (.aaload, 1) := zk50 (by decide +kernel)
theorem dX6_ask_25 : decode cX6_ask 25 = .ok (.iconst 1, 1) := zk4 (by decide +kernel)
theorem dX6_ask_26 : decode cX6_ask 26 = .ok (.invokevirtual 328, 3) := zk182 1 72 (by decide +kernel)
theorem dX6_ask_29 : decode cX6_ask 29 = .ok (.istore_n 3, 1) := zk62 (by decide +kernel)
theorem dX6_ask_30 : decode cX6_ask 30 = .ok (.iload_n 3, 1) := zk29 (by decide +kernel)
theorem dX6_ask_31 : decode cX6_ask 31 = .ok (.ifCond .eq 5, 3) := zk153 0 5 rfl (by decide +kernel)
theorem dX6_ask_34 : decode cX6_ask 34 = .ok (.iload_n 3, 1) := zk29 (by decide +kernel)
theorem dX6_ask_35 : decode cX6_ask 35 = .ok (.ireturn, 1) := zk172 (by decide +kernel)
theorem dX6_ask_36 : decode cX6_ask 36 = .ok (.aload_n 0, 1) := zk42 (by decide +kernel)
theorem dX6_ask_37 : decode cX6_ask 37 = .ok (.getfield 23, 3) := zk180 0 23 (by decide +kernel)
theorem dX6_ask_40 : decode cX6_ask 40 = .ok (.iload_n 1, 1) := zk27 (by decide +kernel)
theorem dX6_ask_41 : decode cX6_ask 41 = .ok (.aaload, 1) := zk50 (by decide +kernel)
theorem dX6_ask_42 : decode cX6_ask 42 = .ok (.getfield 311, 3) := zk180 1 55 (by decide +kernel)
theorem dX6_ask_45 : decode cX6_ask 45 = .ok (.astore 4, 2) := zk58 4 (by decide +kernel)
theorem dX6_ask_47 : decode cX6_ask 47 = .ok (.aload 4, 2) := zk25 4 (by decide +kernel)
theorem dX6_ask_49 : decode cX6_ask 49 = .ok (.iload_n 2, 1) := zk28 (by decide +kernel)
theorem dX6_ask_50 : decode cX6_ask 50 = .ok (.invokevirtual 112, 3) := zk182 0 112 (by decide +kernel)
theorem dX6_ask_53 : decode cX6_ask 53 = .ok (.ifCond .eq 11, 3) := zk153 0 11 rfl (by decide +kernel)
theorem dX6_ask_56 : decode cX6_ask 56 = .ok (.aload 4, 2) := zk25 4 (by decide +kernel)
theorem dX6_ask_58 : decode cX6_ask 58 = .ok (.invokevirtual 108, 3) := zk182 0 108 (by decide +kernel)
theorem dX6_ask_61 : decode cX6_ask 61 = .ok (.goto 5, 3) := zk167 0 5 rfl (by decide +kernel)
theorem dX6_ask_64 : decode cX6_ask 64 = .ok (.ldc 115, 2) := zk18 115 (by decide +kernel)
theorem dX6_ask_66 : decode cX6_ask 66 = .ok (.ireturn, 1) := zk172 (by decide +kernel)
def bs_wsX6_item : List (List Cond) := [[.code yX6_item cX6_item 5 (some .int)], wsX6_item_r1, wsX6_item_r2, wsX60, wsX30, wsX20]
theorem bse_wsX6_item : wsX6_item = bs_wsX6_item.flatten := by
  unfold wsX6_item bs_wsX6_item
  simp only [List.flatten_cons, List.flatten_nil, List.append_nil, List.append_assoc, List.cons_append, List.nil_append]
set_option maxRecDepth 20000 in
theorem ggX6_item_X6_isSlot : GoodIn wsX6_item wsX6_isSlot := goodIn_pc bs_wsX6_item bse_wsX6_item _ [(1, [9, 10, 11, 8, 12])] rfl gw_wsX6_isSlot
set_option maxRecDepth 20000 in
theorem gX6_item_X6_isSlot : GoodIn wsX6_item (va_wsS RX6 305 yX6_isSlot wsX6_isSlot) := goodIn_app (goodIn_pc bs_wsX6_item bse_wsX6_item _ [(1, [6, 7, 8])] rfl (by decide +kernel)) ggX6_item_X6_isSlot
set_option maxRecDepth 20000 in
theorem ggX6_item_X3_refuses : GoodIn wsX6_item wsX3_refuses := goodIn_pc bs_wsX6_item bse_wsX6_item _ [(1, [17, 18, 19, 20]), (4, [0, 1, 2, 3])] rfl gw_wsX3_refuses
set_option maxRecDepth 20000 in
theorem gX6_item_X3_refuses : GoodIn wsX6_item (wsV RX6 328 RX3 yX3_refuses wsX3_refuses) := goodIn_app (goodIn_pc bs_wsX6_item bse_wsX6_item _ [(1, [13, 14, 15, 16])] rfl (by decide +kernel)) ggX6_item_X3_refuses
set_option maxRecDepth 20000 in
theorem ggX6_item_X2_hasPlace : GoodIn wsX6_item wsX2_hasPlace := goodIn_pc bs_wsX6_item bse_wsX6_item _ [(2, [1, 2]), (1, [11, 8, 12]), (5, [0, 1, 2])] rfl gw_wsX2_hasPlace
set_option maxRecDepth 20000 in
theorem gX6_item_X2_hasPlace : GoodIn wsX6_item (wsV RX6 275 RX2 yX2_hasPlace wsX2_hasPlace) := goodIn_app (goodIn_pc bs_wsX6_item bse_wsX6_item _ [(1, [21, 22, 23]), (2, [0])] rfl (by decide +kernel)) ggX6_item_X2_hasPlace
set_option maxRecDepth 20000 in
theorem ggX6_item_X2_hasNumber : GoodIn wsX6_item wsX2_hasNumber := goodIn_pc bs_wsX6_item bse_wsX6_item _ [(2, [6, 7, 8, 9]), (1, [22, 23]), (2, [0, 1, 2]), (1, [11, 8, 12]), (5, [0, 1, 2])] rfl gw_wsX2_hasNumber
set_option maxRecDepth 20000 in
theorem gX6_item_X2_hasNumber : GoodIn wsX6_item (wsV RX6 287 RX2 yX2_hasNumber wsX2_hasNumber) := goodIn_app (goodIn_pc bs_wsX6_item bse_wsX6_item _ [(2, [3, 4, 5, 0])] rfl (by decide +kernel)) ggX6_item_X2_hasNumber
theorem dX6_item_0 : decode cX6_item 0 = .ok (.iload_n 1, 1) := zk27 (by decide +kernel)
theorem dX6_item_1 : decode cX6_item 1 = .ok (.invokestatic 305, 3) := zk184 1 49 (by decide +kernel)
theorem dX6_item_4 : decode cX6_item 4 = .ok (.ifCond .ne 6, 3) := zk154 0 6 rfl (by decide +kernel)
theorem dX6_item_7 : decode cX6_item 7 = .ok (.ldc 69, 2) := zk18 69 (by decide +kernel)
theorem dX6_item_9 : decode cX6_item 9 = .ok (.ireturn, 1) := zk172 (by decide +kernel)
theorem dX6_item_10 : decode cX6_item 10 = .ok (.aload_n 0, 1) := zk42 (by decide +kernel)
theorem dX6_item_11 : decode cX6_item 11 = .ok (.getfield 23, 3) := zk180 0 23 (by decide +kernel)
theorem dX6_item_14 : decode cX6_item 14 = .ok (.iload_n 1, 1) := zk27 (by decide +kernel)
theorem dX6_item_15 : decode cX6_item 15 = .ok (.aaload, 1) := zk50 (by decide +kernel)
theorem dX6_item_16 : decode cX6_item 16 = .ok (.iconst 2, 1) := zk5 (by decide +kernel)
theorem dX6_item_17 : decode cX6_item 17 = .ok (.invokevirtual 328, 3) := zk182 1 72 (by decide +kernel)
theorem dX6_item_20 : decode cX6_item 20 = .ok (.istore_n 3, 1) := zk62 (by decide +kernel)
theorem dX6_item_21 : decode cX6_item 21 = .ok (.iload_n 3, 1) := zk29 (by decide +kernel)
theorem dX6_item_22 : decode cX6_item 22 = .ok (.ifCond .eq 5, 3) := zk153 0 5 rfl (by decide +kernel)
theorem dX6_item_25 : decode cX6_item 25 = .ok (.iload_n 3, 1) := zk29 (by decide +kernel)
theorem dX6_item_26 : decode cX6_item 26 = .ok (.ireturn, 1) := zk172 (by decide +kernel)
theorem dX6_item_27 : decode cX6_item 27 = .ok (.aload_n 0, 1) := zk42 (by decide +kernel)
theorem dX6_item_28 : decode cX6_item 28 = .ok (.getfield 23, 3) := zk180 0 23 (by decide +kernel)
theorem dX6_item_31 : decode cX6_item 31 = .ok (.iload_n 1, 1) := zk27 (by decide +kernel)
theorem dX6_item_32 : decode cX6_item 32 = .ok (.aaload, 1) := zk50 (by decide +kernel)
theorem dX6_item_33 : decode cX6_item 33 = .ok (.getfield 318, 3) := zk180 1 62 (by decide +kernel)
theorem dX6_item_36 : decode cX6_item 36 = .ok (.astore 4, 2) := zk58 4 (by decide +kernel)
theorem dX6_item_38 : decode cX6_item 38 = .ok (.aload 4, 2) := zk25 4 (by decide +kernel)
theorem dX6_item_40 : decode cX6_item 40 = .ok (.iload_n 2, 1) := zk28 (by decide +kernel)
theorem dX6_item_41 : decode cX6_item 41 = .ok (.invokevirtual 275, 3) := zk182 1 19 (by decide +kernel)
theorem dX6_item_44 : decode cX6_item 44 = .ok (.ifCond .ne 7, 3) := zk154 0 7 rfl (by decide +kernel)
theorem dX6_item_47 : decode cX6_item 47 = .ok (.ldc_w 278, 3) := zk19 1 22 (by decide +kernel)
theorem dX6_item_50 : decode cX6_item 50 = .ok (.ireturn, 1) := zk172 (by decide +kernel)
theorem dX6_item_51 : decode cX6_item 51 = .ok (.aload 4, 2) := zk25 4 (by decide +kernel)
theorem dX6_item_53 : decode cX6_item 53 = .ok (.iload_n 2, 1) := zk28 (by decide +kernel)
theorem dX6_item_54 : decode cX6_item 54 = .ok (.invokevirtual 287, 3) := zk182 1 31 (by decide +kernel)
theorem dX6_item_57 : decode cX6_item 57 = .ok (.ifCond .eq 13, 3) := zk153 0 13 rfl (by decide +kernel)
theorem dX6_item_60 : decode cX6_item 60 = .ok (.aload 4, 2) := zk25 4 (by decide +kernel)
theorem dX6_item_62 : decode cX6_item 62 = .ok (.getfield 282, 3) := zk180 1 26 (by decide +kernel)
theorem dX6_item_65 : decode cX6_item 65 = .ok (.iload_n 2, 1) := zk28 (by decide +kernel)
theorem dX6_item_66 : decode cX6_item 66 = .ok (.iaload, 1) := zk46 (by decide +kernel)
theorem dX6_item_67 : decode cX6_item 67 = .ok (.goto 5, 3) := zk167 0 5 rfl (by decide +kernel)
theorem dX6_item_70 : decode cX6_item 70 = .ok (.ldc 115, 2) := zk18 115 (by decide +kernel)
theorem dX6_item_72 : decode cX6_item 72 = .ok (.ireturn, 1) := zk172 (by decide +kernel)
def bs_wsX6_check : List (List Cond) := [[.code yX6_check cX6_check 6 (some .int)], wsX6_check_r1, wsX6_check_r2, wsX6_check_r3, wsX6_check_r4, wsX6_check_r5, wsX6_check_r6, wsX60, wsX00, wsX40, wsX50]
theorem bse_wsX6_check : wsX6_check = bs_wsX6_check.flatten := by
  unfold wsX6_check bs_wsX6_check
  simp only [List.flatten_cons, List.flatten_nil, List.append_nil, List.append_assoc, List.cons_append, List.nil_append]
set_option maxRecDepth 20000 in
theorem ggX6_check_X6_within : GoodIn wsX6_check wsX6_within := goodIn_pc bs_wsX6_check bse_wsX6_check _ [(1, [17])] rfl gw_wsX6_within
set_option maxRecDepth 20000 in
theorem gX6_check_X6_within : GoodIn wsX6_check (va_wsS RX6 65 yX6_within wsX6_within) := goodIn_app (goodIn_pc bs_wsX6_check bse_wsX6_check _ [(1, [14, 15, 16])] rfl (by decide +kernel)) ggX6_check_X6_within
set_option maxRecDepth 20000 in
theorem ggX6_check_X0_takeOver : GoodIn wsX6_check wsX0_takeOver := goodIn_pc bs_wsX6_check bse_wsX6_check _ [(1, [22, 23]), (2, [0, 1, 2, 3, 4, 5, 6, 7, 8, 9, 10, 11, 12, 13, 14, 15, 16, 17, 18, 19, 20]), (8, [0, 1, 2, 3, 4, 5, 6, 7, 8, 9, 10, 11, 12, 13]), (9, [0, 1, 2, 3])] rfl gw_wsX0_takeOver
set_option maxRecDepth 20000 in
theorem gX6_check_X0_takeOver : GoodIn wsX6_check (wsV RX6 200 RX0 yX0_takeOver wsX0_takeOver) := goodIn_app (goodIn_pc bs_wsX6_check bse_wsX6_check _ [(1, [18, 19, 20, 21])] rfl (by decide +kernel)) ggX6_check_X0_takeOver
set_option maxRecDepth 20000 in
theorem ggX6_check_X0_hauling : GoodIn wsX6_check wsX0_hauling := goodIn_pc bs_wsX6_check bse_wsX6_check _ [(3, [0]), (2, [7]), (3, [1, 2, 3]), (1, [21]), (3, [4]), (1, [23]), (2, [0]), (3, [5]), (2, [4]), (3, [6, 7, 8, 9, 10, 11, 12, 13]), (2, [3]), (3, [14, 15, 16, 17]), (2, [5]), (3, [18, 19, 20, 21, 22, 23]), (1, [8, 9, 10]), (4, [0, 1, 2]), (2, [15]), (4, [3]), (2, [17]), (4, [4, 5, 6, 7]), (2, [2]), (4, [8, 9]), (1, [15, 16, 17]), (4, [10, 11, 12, 13, 14, 15, 16, 17, 18, 19, 20, 21, 22, 23]), (5, [0, 1, 2, 3, 4, 5]), (1, [7]), (5, [6, 7, 8, 9, 10, 11, 12, 13, 14, 15, 16, 17, 18, 19, 20, 21, 22, 23]), (6, [0, 1, 2, 3, 4, 5]), (8, [0, 1, 2, 3, 4, 5, 6, 7, 8, 9, 10, 11, 12, 13]), (9, [0, 1, 2, 3]), (10, [0, 1, 2, 3, 4])] rfl gw_wsX0_hauling
set_option maxRecDepth 20000 in
theorem gX6_check_X0_hauling : GoodIn wsX6_check (wsV RX6 185 RX0 yX0_hauling wsX0_hauling) := goodIn_app (goodIn_pc bs_wsX6_check bse_wsX6_check _ [(2, [21, 22, 23]), (1, [21])] rfl (by decide +kernel)) ggX6_check_X0_hauling
set_option maxRecDepth 20000 in
theorem ggX6_check_X0_passHour : GoodIn wsX6_check wsX0_passHour := goodIn_pc bs_wsX6_check bse_wsX6_check _ [(6, [9]), (2, [4]), (1, [23]), (2, [0]), (3, [22]), (2, [9]), (3, [5]), (2, [8]), (4, [9]), (2, [5]), (5, [17, 18, 19]), (1, [21]), (5, [20, 21, 7]), (1, [9]), (5, [8]), (3, [23]), (1, [8, 10]), (5, [22, 23]), (6, [0, 1]), (2, [3]), (3, [18, 19, 20, 21, 6, 7, 8, 9, 10, 11, 12, 13, 14, 15, 16, 17]), (4, [0, 1, 2]), (2, [15]), (4, [3]), (2, [17]), (4, [4, 5, 6, 7]), (2, [2]), (4, [8]), (1, [15, 16, 17]), (4, [10, 11, 12, 13, 14, 15, 16, 17, 18, 19, 20, 21, 22, 23]), (5, [0, 1, 2, 3, 4, 5]), (1, [7]), (5, [6, 9, 10, 11, 12]), (6, [10, 11, 12, 13]), (2, [6, 10]), (6, [14, 15, 16, 17]), (2, [11]), (6, [18]), (8, [0, 1, 2, 3, 4, 5, 6, 7, 8, 9, 10, 11, 12, 13]), (9, [0, 1, 2, 3]), (10, [0, 1, 2, 3, 4])] rfl gw_wsX0_passHour
set_option maxRecDepth 20000 in
theorem gX6_check_X0_passHour : GoodIn wsX6_check (wsV RX6 188 RX0 yX0_passHour wsX0_passHour) := goodIn_app (goodIn_pc bs_wsX6_check bse_wsX6_check _ [(6, [6, 7, 8]), (1, [21])] rfl (by decide +kernel)) ggX6_check_X0_passHour
theorem dX6_check_0 : decode cX6_check 0 = .ok (.aload_n 0, 1) := zk42 (by decide +kernel)
theorem dX6_check_1 : decode cX6_check 1 = .ok (.getfield 332, 3) := zk180 1 76 (by decide +kernel)
theorem dX6_check_4 : decode cX6_check 4 = .ok (.istore_n 2, 1) := zk61 (by decide +kernel)
theorem dX6_check_5 : decode cX6_check 5 = .ok (.aload_n 0, 1) := zk42 (by decide +kernel)
theorem dX6_check_6 : decode cX6_check 6 = .ok (.iconst 0, 1) := zk3 (by decide +kernel)
theorem dX6_check_7 : decode cX6_check 7 = .ok (.putfield 332, 3) := zk181 1 76 (by decide +kernel)
theorem dX6_check_10 : decode cX6_check 10 = .ok (.iload_n 1, 1) := zk27 (by decide +kernel)
theorem dX6_check_11 : decode cX6_check 11 = .ok (.iconst 1, 1) := zk4 (by decide +kernel)
theorem dX6_check_12 : decode cX6_check 12 = .ok (.bipush 30, 2) := zk16 30 rfl (by decide +kernel)
theorem dX6_check_14 : decode cX6_check 14 = .ok (.invokestatic 65, 3) := zk184 0 65 (by decide +kernel)
theorem dX6_check_17 : decode cX6_check 17 = .ok (.ifCond .ne 6, 3) := zk154 0 6 rfl (by decide +kernel)
theorem dX6_check_20 : decode cX6_check 20 = .ok (.ldc 69, 2) := zk18 69 (by decide +kernel)
theorem dX6_check_22 : decode cX6_check 22 = .ok (.ireturn, 1) := zk172 (by decide +kernel)
theorem dX6_check_23 : decode cX6_check 23 = .ok (.aload_n 0, 1) := zk42 (by decide +kernel)
theorem dX6_check_24 : decode cX6_check 24 = .ok (.getfield 335, 3) := zk180 1 79 (by decide +kernel)
theorem dX6_check_27 : decode cX6_check 27 = .ok (.ifCond .ne 7, 3) := zk154 0 7 rfl (by decide +kernel)
theorem dX6_check_30 : decode cX6_check 30 = .ok (.ldc_w 331, 3) := zk19 1 75 (by decide +kernel)
theorem dX6_check_33 : decode cX6_check 33 = .ok (.ireturn, 1) := zk172 (by decide +kernel)
theorem dX6_check_34 : decode cX6_check 34 = .ok (.aload_n 0, 1) := zk42 (by decide +kernel)
theorem dX6_check_35 : decode cX6_check 35 = .ok (.getfield 43, 3) := zk180 0 43 (by decide +kernel)
theorem dX6_check_38 : decode cX6_check 38 = .ok (.aload_n 0, 1) := zk42 (by decide +kernel)
theorem dX6_check_39 : decode cX6_check 39 = .ok (.getfield 46, 3) := zk180 0 46 (by decide +kernel)
theorem dX6_check_42 : decode cX6_check 42 = .ok (.invokevirtual 200, 3) := zk182 0 200 (by decide +kernel)
theorem dX6_check_45 : decode cX6_check 45 = .ok (.iload_n 1, 1) := zk27 (by decide +kernel)
theorem dX6_check_46 : decode cX6_check 46 = .ok (.sipush 9999, 3) := zk17 39 15 rfl (by decide +kernel)
theorem dX6_check_49 : decode cX6_check 49 = .ok (.aload_n 0, 1) := zk42 (by decide +kernel)
theorem dX6_check_50 : decode cX6_check 50 = .ok (.getfield 46, 3) := zk180 0 46 (by decide +kernel)
theorem dX6_check_53 : decode cX6_check 53 = .ok (.getfield 182, 3) := zk180 0 182 (by decide +kernel)
theorem dX6_check_56 : decode cX6_check 56 = .ok (.isub, 1) := zk100 (by decide +kernel)
theorem dX6_check_57 : decode cX6_check 57 = .ok (.invokestatic 167, 3) := zk184 0 167 (by decide +kernel)
theorem dX6_check_60 : decode cX6_check 60 = .ok (.istore_n 3, 1) := zk62 (by decide +kernel)
theorem dX6_check_61 : decode cX6_check 61 = .ok (.iconst 0, 1) := zk3 (by decide +kernel)
theorem dX6_check_62 : decode cX6_check 62 = .ok (.istore 4, 2) := zk54 4 (by decide +kernel)
theorem dX6_check_64 : decode cX6_check 64 = .ok (.iload 4, 2) := zk21 4 (by decide +kernel)
theorem dX6_check_66 : decode cX6_check 66 = .ok (.iload_n 3, 1) := zk29 (by decide +kernel)
theorem dX6_check_67 : decode cX6_check 67 = .ok (.if_icmp .ge 89, 3) := zk162 0 89 rfl (by decide +kernel)
theorem dX6_check_70 : decode cX6_check 70 = .ok (.aload_n 0, 1) := zk42 (by decide +kernel)
theorem dX6_check_71 : decode cX6_check 71 = .ok (.getfield 43, 3) := zk180 0 43 (by decide +kernel)
theorem dX6_check_74 : decode cX6_check 74 = .ok (.aload_n 0, 1) := zk42 (by decide +kernel)
theorem dX6_check_75 : decode cX6_check 75 = .ok (.getfield 43, 3) := zk180 0 43 (by decide +kernel)
theorem dX6_check_78 : decode cX6_check 78 = .ok (.invokevirtual 185, 3) := zk182 0 185 (by decide +kernel)
theorem dX6_check_81 : decode cX6_check 81 = .ok (.invokevirtual 188, 3) := zk182 0 188 (by decide +kernel)
theorem dX6_check_84 : decode cX6_check 84 = .ok (.iconst 2, 1) := zk5 (by decide +kernel)
theorem dX6_check_85 : decode cX6_check 85 = .ok (.iload 4, 2) := zk21 4 (by decide +kernel)
theorem dX6_check_87 : decode cX6_check 87 = .ok (.imul, 1) := zk104 (by decide +kernel)
theorem dX6_check_88 : decode cX6_check 88 = .ok (.istore 5, 2) := zk54 5 (by decide +kernel)
theorem dX6_check_90 : decode cX6_check 90 = .ok (.iload 5, 2) := zk21 5 (by decide +kernel)
theorem dX6_check_92 : decode cX6_check 92 = .ok (.iload_n 2, 1) := zk28 (by decide +kernel)
theorem dX6_check_93 : decode cX6_check 93 = .ok (.if_icmp .ge 20, 3) := zk162 0 20 rfl (by decide +kernel)
theorem dX6_check_96 : decode cX6_check 96 = .ok (.aload_n 0, 1) := zk42 (by decide +kernel)
theorem dX6_check_97 : decode cX6_check 97 = .ok (.getfield 27, 3) := zk180 0 27 (by decide +kernel)
theorem dX6_check_100 : decode cX6_check 100 = .ok (.iload 5, 2) := zk21 5 (by decide +kernel)
theorem dX6_check_102 : decode cX6_check 102 = .ok (.iaload, 1) := zk46 (by decide +kernel)
theorem dX6_check_103 : decode cX6_check 103 = .ok (.aload_n 0, 1) := zk42 (by decide +kernel)
theorem dX6_check_104 : decode cX6_check 104 = .ok (.getfield 43, 3) := zk180 0 43 (by decide +kernel)
theorem dX6_check_107 : decode cX6_check 107 = .ok (.getfield 179, 3) := zk180 0 179 (by decide +kernel)
theorem dX6_check_110 : decode cX6_check 110 = .ok (.if_icmp .eq 8, 3) := zk159 0 8 rfl (by decide +kernel)
theorem dX6_check_113 : decode cX6_check 113 = .ok (.iconst 1, 1) := zk4 (by decide +kernel)
theorem dX6_check_114 : decode cX6_check 114 = .ok (.iload 5, 2) := zk21 5 (by decide +kernel)
theorem dX6_check_116 : decode cX6_check 116 = .ok (.iadd, 1) := zk96 (by decide +kernel)
theorem dX6_check_117 : decode cX6_check 117 = .ok (.ireturn, 1) := zk172 (by decide +kernel)
theorem dX6_check_118 : decode cX6_check 118 = .ok (.iload 5, 2) := zk21 5 (by decide +kernel)
theorem dX6_check_120 : decode cX6_check 120 = .ok (.iconst 1, 1) := zk4 (by decide +kernel)
theorem dX6_check_121 : decode cX6_check 121 = .ok (.iadd, 1) := zk96 (by decide +kernel)
theorem dX6_check_122 : decode cX6_check 122 = .ok (.iload_n 2, 1) := zk28 (by decide +kernel)
theorem dX6_check_123 : decode cX6_check 123 = .ok (.if_icmp .ge 22, 3) := zk162 0 22 rfl (by decide +kernel)
theorem dX6_check_126 : decode cX6_check 126 = .ok (.aload_n 0, 1) := zk42 (by decide +kernel)
theorem dX6_check_127 : decode cX6_check 127 = .ok (.getfield 27, 3) := zk180 0 27 (by decide +kernel)
theorem dX6_check_130 : decode cX6_check 130 = .ok (.iload 5, 2) := zk21 5 (by decide +kernel)
theorem dX6_check_132 : decode cX6_check 132 = .ok (.iconst 1, 1) := zk4 (by decide +kernel)
theorem dX6_check_133 : decode cX6_check 133 = .ok (.iadd, 1) := zk96 (by decide +kernel)
theorem dX6_check_134 : decode cX6_check 134 = .ok (.iaload, 1) := zk46 (by decide +kernel)
theorem dX6_check_135 : decode cX6_check 135 = .ok (.aload_n 0, 1) := zk42 (by decide +kernel)
theorem dX6_check_136 : decode cX6_check 136 = .ok (.getfield 43, 3) := zk180 0 43 (by decide +kernel)
theorem dX6_check_139 : decode cX6_check 139 = .ok (.getfield 126, 3) := zk180 0 126 (by decide +kernel)
theorem dX6_check_142 : decode cX6_check 142 = .ok (.if_icmp .eq 8, 3) := zk159 0 8 rfl (by decide +kernel)
theorem dX6_check_145 : decode cX6_check 145 = .ok (.iconst 2, 1) := zk5 (by decide +kernel)
theorem dX6_check_146 : decode cX6_check 146 = .ok (.iload 5, 2) := zk21 5 (by decide +kernel)
theorem dX6_check_148 : decode cX6_check 148 = .ok (.iadd, 1) := zk96 (by decide +kernel)
theorem dX6_check_149 : decode cX6_check 149 = .ok (.ireturn, 1) := zk172 (by decide +kernel)
theorem dX6_check_150 : decode cX6_check 150 = .ok (.iinc 4 1, 3) := by decide +kernel
theorem dX6_check_153 : decode cX6_check 153 = .ok (.goto (-89), 3) := zk167 255 167 rfl (by decide +kernel)
theorem dX6_check_156 : decode cX6_check 156 = .ok (.iconst 2, 1) := zk5 (by decide +kernel)
theorem dX6_check_157 : decode cX6_check 157 = .ok (.iload_n 3, 1) := zk29 (by decide +kernel)
theorem dX6_check_158 : decode cX6_check 158 = .ok (.imul, 1) := zk104 (by decide +kernel)
theorem dX6_check_159 : decode cX6_check 159 = .ok (.istore 4, 2) := zk54 4 (by decide +kernel)
theorem dX6_check_161 : decode cX6_check 161 = .ok (.iload_n 2, 1) := zk28 (by decide +kernel)
theorem dX6_check_162 : decode cX6_check 162 = .ok (.iload 4, 2) := zk21 4 (by decide +kernel)
theorem dX6_check_164 : decode cX6_check 164 = .ok (.if_icmp .le 10, 3) := zk164 0 10 rfl (by decide +kernel)
theorem dX6_check_167 : decode cX6_check 167 = .ok (.iconst 1, 1) := zk4 (by decide +kernel)
theorem dX6_check_168 : decode cX6_check 168 = .ok (.iload 4, 2) := zk21 4 (by decide +kernel)
theorem dX6_check_170 : decode cX6_check 170 = .ok (.iadd, 1) := zk96 (by decide +kernel)
theorem dX6_check_171 : decode cX6_check 171 = .ok (.goto 4, 3) := zk167 0 4 rfl (by decide +kernel)
theorem dX6_check_174 : decode cX6_check 174 = .ok (.iconst 0, 1) := zk3 (by decide +kernel)
theorem dX6_check_175 : decode cX6_check 175 = .ok (.ireturn, 1) := zk172 (by decide +kernel)
def bs_wsX6_keep : List (List Cond) := [[.code yX6_keep cX6_keep 1 (some .int)], wsX6_keep_r1, wsX6_keep_r2, wsX60, wsX00, wsX40]
theorem bse_wsX6_keep : wsX6_keep = bs_wsX6_keep.flatten := by
  unfold wsX6_keep bs_wsX6_keep
  simp only [List.flatten_cons, List.flatten_nil, List.append_nil, List.append_assoc, List.cons_append, List.nil_append]
set_option maxRecDepth 20000 in
theorem ggX6_keep_X0_takeOver : GoodIn wsX6_keep wsX0_takeOver := goodIn_pc bs_wsX6_keep bse_wsX6_keep _ [(1, [8, 9, 10, 11, 12, 13, 14, 15, 16, 17, 18, 19, 20, 21, 22, 23]), (2, [0, 1, 2, 3, 4, 5, 6]), (4, [0, 1, 2, 3, 4, 5, 6, 7, 8, 9, 10, 11, 12, 13]), (5, [0, 1, 2, 3])] rfl gw_wsX0_takeOver
set_option maxRecDepth 20000 in
theorem gX6_keep_X0_takeOver : GoodIn wsX6_keep (wsV RX6 200 RX0 yX0_takeOver wsX0_takeOver) := goodIn_app (goodIn_pc bs_wsX6_keep bse_wsX6_keep _ [(1, [4, 5, 6, 7])] rfl (by decide +kernel)) ggX6_keep_X0_takeOver
theorem dX6_keep_0 : decode cX6_keep 0 = .ok (.aload_n 0, 1) := zk42 (by decide +kernel)
theorem dX6_keep_1 : decode cX6_keep 1 = .ok (.getfield 46, 3) := zk180 0 46 (by decide +kernel)
theorem dX6_keep_4 : decode cX6_keep 4 = .ok (.aload_n 0, 1) := zk42 (by decide +kernel)
theorem dX6_keep_5 : decode cX6_keep 5 = .ok (.getfield 39, 3) := zk180 0 39 (by decide +kernel)
theorem dX6_keep_8 : decode cX6_keep 8 = .ok (.invokevirtual 200, 3) := zk182 0 200 (by decide +kernel)
theorem dX6_keep_11 : decode cX6_keep 11 = .ok (.aload_n 0, 1) := zk42 (by decide +kernel)
theorem dX6_keep_12 : decode cX6_keep 12 = .ok (.iconst 1, 1) := zk4 (by decide +kernel)
theorem dX6_keep_13 : decode cX6_keep 13 = .ok (.putfield 335, 3) := zk181 1 79 (by decide +kernel)
theorem dX6_keep_16 : decode cX6_keep 16 = .ok (.aload_n 0, 1) := zk42 (by decide +kernel)
theorem dX6_keep_17 : decode cX6_keep 17 = .ok (.getfield 39, 3) := zk180 0 39 (by decide +kernel)
theorem dX6_keep_20 : decode cX6_keep 20 = .ok (.getfield 70, 3) := zk180 0 70 (by decide +kernel)
theorem dX6_keep_23 : decode cX6_keep 23 = .ok (.ireturn, 1) := zk172 (by decide +kernel)
def bs_wsX6_back : List (List Cond) := [[.code yX6_back cX6_back 1 (some .int)], wsX6_back_r1, wsX6_back_r2, wsX60, wsX00, wsX40]
theorem bse_wsX6_back : wsX6_back = bs_wsX6_back.flatten := by
  unfold wsX6_back bs_wsX6_back
  simp only [List.flatten_cons, List.flatten_nil, List.append_nil, List.append_assoc, List.cons_append, List.nil_append]
set_option maxRecDepth 20000 in
theorem ggX6_back_X0_takeOver : GoodIn wsX6_back wsX0_takeOver := goodIn_pc bs_wsX6_back bse_wsX6_back _ [(1, [9, 10, 11, 12, 13, 14, 15, 16, 17, 18, 19, 20, 21, 22, 23]), (2, [0, 1, 2, 3, 4, 5, 6, 7]), (4, [0, 1, 2, 3, 4, 5, 6, 7, 8, 9, 10, 11, 12, 13]), (5, [0, 1, 2, 3])] rfl gw_wsX0_takeOver
set_option maxRecDepth 20000 in
theorem gX6_back_X0_takeOver : GoodIn wsX6_back (wsV RX6 200 RX0 yX0_takeOver wsX0_takeOver) := goodIn_app (goodIn_pc bs_wsX6_back bse_wsX6_back _ [(1, [5, 6, 7, 8])] rfl (by decide +kernel)) ggX6_back_X0_takeOver
theorem dX6_back_0 : decode cX6_back 0 = .ok (.aload_n 0, 1) := zk42 (by decide +kernel)
theorem dX6_back_1 : decode cX6_back 1 = .ok (.getfield 335, 3) := zk180 1 79 (by decide +kernel)
theorem dX6_back_4 : decode cX6_back 4 = .ok (.ifCond .ne 7, 3) := zk154 0 7 rfl (by decide +kernel)
theorem dX6_back_7 : decode cX6_back 7 = .ok (.ldc_w 331, 3) := zk19 1 75 (by decide +kernel)
theorem dX6_back_10 : decode cX6_back 10 = .ok (.ireturn, 1) := zk172 (by decide +kernel)
theorem dX6_back_11 : decode cX6_back 11 = .ok (.aload_n 0, 1) := zk42 (by decide +kernel)
theorem dX6_back_12 : decode cX6_back 12 = .ok (.getfield 39, 3) := zk180 0 39 (by decide +kernel)
theorem dX6_back_15 : decode cX6_back 15 = .ok (.aload_n 0, 1) := zk42 (by decide +kernel)
theorem dX6_back_16 : decode cX6_back 16 = .ok (.getfield 46, 3) := zk180 0 46 (by decide +kernel)
theorem dX6_back_19 : decode cX6_back 19 = .ok (.invokevirtual 200, 3) := zk182 0 200 (by decide +kernel)
theorem dX6_back_22 : decode cX6_back 22 = .ok (.aload_n 0, 1) := zk42 (by decide +kernel)
theorem dX6_back_23 : decode cX6_back 23 = .ok (.getfield 39, 3) := zk180 0 39 (by decide +kernel)
theorem dX6_back_26 : decode cX6_back 26 = .ok (.getfield 70, 3) := zk180 0 70 (by decide +kernel)
theorem dX6_back_29 : decode cX6_back 29 = .ok (.ireturn, 1) := zk172 (by decide +kernel)
def bs_wsX6_count : List (List Cond) := [[.code yX6_count cX6_count 2 (some .int)], wsX6_count_r1, wsX6_count_r2, wsX60, wsX00, wsX40]
theorem bse_wsX6_count : wsX6_count = bs_wsX6_count.flatten := by
  unfold wsX6_count bs_wsX6_count
  simp only [List.flatten_cons, List.flatten_nil, List.append_nil, List.append_assoc, List.cons_append, List.nil_append]
set_option maxRecDepth 20000 in
theorem ggX6_count_X0_shadedSet : GoodIn wsX6_count wsX0_shadedSet := goodIn_pc bs_wsX6_count bse_wsX6_count _ [(1, [12, 13, 14, 15, 16, 17, 18, 11, 19, 20, 21, 22, 23]), (2, [0, 1, 2, 3, 4, 5, 6]), (4, [0, 1, 2, 3, 4, 5, 6, 7, 8, 9, 10, 11, 12, 13]), (5, [0, 1, 2, 3])] rfl gw_wsX0_shadedSet
set_option maxRecDepth 20000 in
theorem gX6_count_X0_shadedSet : GoodIn wsX6_count (wsV RX6 144 RX0 yX0_shadedSet wsX0_shadedSet) := goodIn_app (goodIn_pc bs_wsX6_count bse_wsX6_count _ [(1, [8, 9, 10, 11])] rfl (by decide +kernel)) ggX6_count_X0_shadedSet
set_option maxRecDepth 20000 in
theorem gw_wsJ6_bitCount_0f7a4 : wsJ6_bitCount_0f7a4.all goodWord = true := by decide +kernel
set_option maxRecDepth 20000 in
theorem ggX6_count_J6_bitCount_0f7a4 : GoodIn wsX6_count wsJ6_bitCount_0f7a4 := goodIn_pc bs_wsX6_count bse_wsX6_count _ [(2, [10, 11, 12, 13])] rfl gw_wsJ6_bitCount_0f7a4
set_option maxRecDepth 20000 in
theorem gX6_count_J6_bitCount_0f7a4 : GoodIn wsX6_count (va_wsS RX6 339 yJ6_bitCount_0f7a4 wsJ6_bitCount_0f7a4) := goodIn_app (goodIn_pc bs_wsX6_count bse_wsX6_count _ [(2, [7, 8, 9])] rfl (by decide +kernel)) ggX6_count_J6_bitCount_0f7a4
theorem dX6_count_0 : decode cX6_count 0 = .ok (.iload_n 1, 1) := zk27 (by decide +kernel)
theorem dX6_count_1 : decode cX6_count 1 = .ok (.tableswitch 96 0 6 #[43, 51, 59, 70, 78, 83, 88], 43) := by decide +kernel
theorem dX6_count_44 : decode cX6_count 44 = .ok (.aload_n 0, 1) := zk42 (by decide +kernel)
theorem dX6_count_45 : decode cX6_count 45 = .ok (.getfield 39, 3) := zk180 0 39 (by decide +kernel)
theorem dX6_count_48 : decode cX6_count 48 = .ok (.getfield 70, 3) := zk180 0 70 (by decide +kernel)
theorem dX6_count_51 : decode cX6_count 51 = .ok (.ireturn, 1) := zk172 (by decide +kernel)
theorem dX6_count_52 : decode cX6_count 52 = .ok (.aload_n 0, 1) := zk42 (by decide +kernel)
theorem dX6_count_53 : decode cX6_count 53 = .ok (.getfield 39, 3) := zk180 0 39 (by decide +kernel)
theorem dX6_count_56 : decode cX6_count 56 = .ok (.getfield 182, 3) := zk180 0 182 (by decide +kernel)
theorem dX6_count_59 : decode cX6_count 59 = .ok (.ireturn, 1) := zk172 (by decide +kernel)
theorem dX6_count_60 : decode cX6_count 60 = .ok (.aload_n 0, 1) := zk42 (by decide +kernel)
theorem dX6_count_61 : decode cX6_count 61 = .ok (.getfield 39, 3) := zk180 0 39 (by decide +kernel)
theorem dX6_count_64 : decode cX6_count 64 = .ok (.invokevirtual 144, 3) := zk182 0 144 (by decide +kernel)
theorem dX6_count_67 : decode cX6_count 67 = .ok (.invokestatic 339, 3) := zk184 1 83 (by decide +kernel)
theorem dX6_count_70 : decode cX6_count 70 = .ok (.ireturn, 1) := zk172 (by decide +kernel)
theorem dX6_count_71 : decode cX6_count 71 = .ok (.aload_n 0, 1) := zk42 (by decide +kernel)
theorem dX6_count_72 : decode cX6_count 72 = .ok (.getfield 39, 3) := zk180 0 39 (by decide +kernel)
theorem dX6_count_75 : decode cX6_count 75 = .ok (.getfield 253, 3) := zk180 0 253 (by decide +kernel)
theorem dX6_count_78 : decode cX6_count 78 = .ok (.ireturn, 1) := zk172 (by decide +kernel)
theorem dX6_count_79 : decode cX6_count 79 = .ok (.aload_n 0, 1) := zk42 (by decide +kernel)
theorem dX6_count_80 : decode cX6_count 80 = .ok (.getfield 332, 3) := zk180 1 76 (by decide +kernel)
theorem dX6_count_83 : decode cX6_count 83 = .ok (.ireturn, 1) := zk172 (by decide +kernel)
theorem dX6_count_84 : decode cX6_count 84 = .ok (.aload_n 0, 1) := zk42 (by decide +kernel)
theorem dX6_count_85 : decode cX6_count 85 = .ok (.getfield 244, 3) := zk180 0 244 (by decide +kernel)
theorem dX6_count_88 : decode cX6_count 88 = .ok (.ireturn, 1) := zk172 (by decide +kernel)
theorem dX6_count_89 : decode cX6_count 89 = .ok (.aload_n 0, 1) := zk42 (by decide +kernel)
theorem dX6_count_90 : decode cX6_count 90 = .ok (.getfield 39, 3) := zk180 0 39 (by decide +kernel)
theorem dX6_count_93 : decode cX6_count 93 = .ok (.getfield 176, 3) := zk180 0 176 (by decide +kernel)
theorem dX6_count_96 : decode cX6_count 96 = .ok (.ireturn, 1) := zk172 (by decide +kernel)
theorem dX6_count_97 : decode cX6_count 97 = .ok (.ldc 69, 2) := zk18 69 (by decide +kernel)
theorem dX6_count_99 : decode cX6_count 99 = .ok (.ireturn, 1) := zk172 (by decide +kernel)
set_option maxRecDepth 20000 in
theorem ggX6_isStall_X6_within : GoodIn wsX6_isStall wsX6_within := goodIn_r _ [6] rfl gw_wsX6_within
set_option maxRecDepth 20000 in
theorem gX6_isStall_X6_within : GoodIn wsX6_isStall (va_wsS RX6 65 yX6_within wsX6_within) := goodIn_app (goodIn_r _ [3, 4, 5] rfl (by decide +kernel)) ggX6_isStall_X6_within
theorem dX6_isStall_0 : decode cX6_isStall 0 = .ok (.iload_n 1, 1) := zk27 (by decide +kernel)
theorem dX6_isStall_1 : decode cX6_isStall 1 = .ok (.iconst 0, 1) := zk3 (by decide +kernel)
theorem dX6_isStall_2 : decode cX6_isStall 2 = .ok (.aload_n 0, 1) := zk42 (by decide +kernel)
theorem dX6_isStall_3 : decode cX6_isStall 3 = .ok (.getfield 39, 3) := zk180 0 39 (by decide +kernel)
theorem dX6_isStall_6 : decode cX6_isStall 6 = .ok (.getfield 70, 3) := zk180 0 70 (by decide +kernel)
theorem dX6_isStall_9 : decode cX6_isStall 9 = .ok (.iconst 1, 1) := zk4 (by decide +kernel)
theorem dX6_isStall_10 : decode cX6_isStall 10 = .ok (.isub, 1) := zk100 (by decide +kernel)
theorem dX6_isStall_11 : decode cX6_isStall 11 = .ok (.invokestatic 65, 3) := zk184 0 65 (by decide +kernel)
theorem dX6_isStall_14 : decode cX6_isStall 14 = .ok (.ireturn, 1) := zk172 (by decide +kernel)
set_option maxRecDepth 20000 in
theorem ggX6_isSheet_X6_within : GoodIn wsX6_isSheet wsX6_within := goodIn_r _ [4] rfl gw_wsX6_within
set_option maxRecDepth 20000 in
theorem gX6_isSheet_X6_within : GoodIn wsX6_isSheet (va_wsS RX6 65 yX6_within wsX6_within) := goodIn_app (goodIn_r _ [1, 2, 3] rfl (by decide +kernel)) ggX6_isSheet_X6_within
theorem dX6_isSheet_0 : decode cX6_isSheet 0 = .ok (.iload_n 0, 1) := zk26 (by decide +kernel)
theorem dX6_isSheet_1 : decode cX6_isSheet 1 = .ok (.iconst 0, 1) := zk3 (by decide +kernel)
theorem dX6_isSheet_2 : decode cX6_isSheet 2 = .ok (.iconst 3, 1) := zk6 (by decide +kernel)
theorem dX6_isSheet_3 : decode cX6_isSheet 3 = .ok (.invokestatic 65, 3) := zk184 0 65 (by decide +kernel)
theorem dX6_isSheet_6 : decode cX6_isSheet 6 = .ok (.ireturn, 1) := zk172 (by decide +kernel)
set_option maxRecDepth 20000 in
theorem ggX6_isSlot_X6_within : GoodIn wsX6_isSlot wsX6_within := goodIn_r _ [4] rfl gw_wsX6_within
set_option maxRecDepth 20000 in
theorem gX6_isSlot_X6_within : GoodIn wsX6_isSlot (va_wsS RX6 65 yX6_within wsX6_within) := goodIn_app (goodIn_r _ [1, 2, 3] rfl (by decide +kernel)) ggX6_isSlot_X6_within
theorem dX6_isSlot_0 : decode cX6_isSlot 0 = .ok (.iload_n 0, 1) := zk26 (by decide +kernel)
theorem dX6_isSlot_1 : decode cX6_isSlot 1 = .ok (.iconst 0, 1) := zk3 (by decide +kernel)
theorem dX6_isSlot_2 : decode cX6_isSlot 2 = .ok (.iconst 4, 1) := zk7 (by decide +kernel)
theorem dX6_isSlot_3 : decode cX6_isSlot 3 = .ok (.invokestatic 65, 3) := zk184 0 65 (by decide +kernel)
theorem dX6_isSlot_6 : decode cX6_isSlot 6 = .ok (.ireturn, 1) := zk172 (by decide +kernel)
