set_option maxRecDepth 20000 in
theorem ggX0_init_X4_init : GoodIn wsX0_init wsX4_init := goodIn_r _ [17, 18, 2, 3] (by decide +kernel) (by decide +kernel)
set_option maxRecDepth 20000 in
theorem gX0_init_X4_init_n39 : GoodIn wsX0_init (wsX4_init) := ggX0_init_X4_init
theorem dX0_init_0 : decode cX0_init 0 = .ok (.aload_n 0, 1) := by decide +kernel
theorem dX0_init_1 : decode cX0_init 1 = .ok (.invokespecial 3, 3) := by decide +kernel
theorem dX0_init_4 : decode cX0_init 4 = .ok (.aload_n 0, 1) := by decide +kernel
theorem dX0_init_5 : decode cX0_init 5 = .ok (.bipush 9, 2) := by decide +kernel
theorem dX0_init_7 : decode cX0_init 7 = .ok (.anewarray 9, 3) := by decide +kernel
theorem dX0_init_10 : decode cX0_init 10 = .ok (.putfield 11, 3) := by decide +kernel
theorem dX0_init_13 : decode cX0_init 13 = .ok (.aload_n 0, 1) := by decide +kernel
theorem dX0_init_14 : decode cX0_init 14 = .ok (.iconst 3, 1) := by decide +kernel
theorem dX0_init_15 : decode cX0_init 15 = .ok (.newarray .int, 2) := by decide +kernel
theorem dX0_init_17 : decode cX0_init 17 = .ok (.dup, 1) := by decide +kernel
theorem dX0_init_18 : decode cX0_init 18 = .ok (.iconst 0, 1) := by decide +kernel
theorem dX0_init_19 : decode cX0_init 19 = .ok (.ldc 17, 2) := by decide +kernel
theorem dX0_init_21 : decode cX0_init 21 = .ok (.iastore, 1) := by decide +kernel
theorem dX0_init_22 : decode cX0_init 22 = .ok (.dup, 1) := by decide +kernel
theorem dX0_init_23 : decode cX0_init 23 = .ok (.iconst 1, 1) := by decide +kernel
theorem dX0_init_24 : decode cX0_init 24 = .ok (.ldc 17, 2) := by decide +kernel
theorem dX0_init_26 : decode cX0_init 26 = .ok (.iastore, 1) := by decide +kernel
theorem dX0_init_27 : decode cX0_init 27 = .ok (.dup, 1) := by decide +kernel
theorem dX0_init_28 : decode cX0_init 28 = .ok (.iconst 2, 1) := by decide +kernel
theorem dX0_init_29 : decode cX0_init 29 = .ok (.ldc 17, 2) := by decide +kernel
theorem dX0_init_31 : decode cX0_init 31 = .ok (.iastore, 1) := by decide +kernel
theorem dX0_init_32 : decode cX0_init 32 = .ok (.putfield 18, 3) := by decide +kernel
theorem dX0_init_35 : decode cX0_init 35 = .ok (.aload_n 0, 1) := by decide +kernel
theorem dX0_init_36 : decode cX0_init 36 = .ok (.iconst 3, 1) := by decide +kernel
theorem dX0_init_37 : decode cX0_init 37 = .ok (.putfield 22, 3) := by decide +kernel
theorem dX0_init_40 : decode cX0_init 40 = .ok (.aload_n 0, 1) := by decide +kernel
theorem dX0_init_41 : decode cX0_init 41 = .ok (.bipush 10, 2) := by decide +kernel
theorem dX0_init_43 : decode cX0_init 43 = .ok (.putfield 26, 3) := by decide +kernel
theorem dX0_init_46 : decode cX0_init 46 = .ok (.aload_n 0, 1) := by decide +kernel
theorem dX0_init_47 : decode cX0_init 47 = .ok (.iconst 0, 1) := by decide +kernel
theorem dX0_init_48 : decode cX0_init 48 = .ok (.putfield 29, 3) := by decide +kernel
theorem dX0_init_51 : decode cX0_init 51 = .ok (.aload_n 0, 1) := by decide +kernel
theorem dX0_init_52 : decode cX0_init 52 = .ok (.iconst 1, 1) := by decide +kernel
theorem dX0_init_53 : decode cX0_init 53 = .ok (.putfield 32, 3) := by decide +kernel
theorem dX0_init_56 : decode cX0_init 56 = .ok (.aload_n 0, 1) := by decide +kernel
theorem dX0_init_57 : decode cX0_init 57 = .ok (.aload_n 1, 1) := by decide +kernel
theorem dX0_init_58 : decode cX0_init 58 = .ok (.putfield 35, 3) := by decide +kernel
theorem dX0_init_61 : decode cX0_init 61 = .ok (.iconst 0, 1) := by decide +kernel
theorem dX0_init_62 : decode cX0_init 62 = .ok (.istore_n 2, 1) := by decide +kernel
theorem dX0_init_63 : decode cX0_init 63 = .ok (.iload_n 2, 1) := by decide +kernel
theorem dX0_init_64 : decode cX0_init 64 = .ok (.bipush 9, 2) := by decide +kernel
theorem dX0_init_66 : decode cX0_init 66 = .ok (.if_icmp .ge 22, 3) := by decide +kernel
theorem dX0_init_69 : decode cX0_init 69 = .ok (.aload_n 0, 1) := by decide +kernel
theorem dX0_init_70 : decode cX0_init 70 = .ok (.getfield 11, 3) := by decide +kernel
theorem dX0_init_73 : decode cX0_init 73 = .ok (.iload_n 2, 1) := by decide +kernel
theorem dX0_init_74 : decode cX0_init 74 = .ok (.new 9, 3) := by decide +kernel
theorem dX0_init_77 : decode cX0_init 77 = .ok (.dup, 1) := by decide +kernel
theorem dX0_init_78 : decode cX0_init 78 = .ok (.invokespecial 39, 3) := by decide +kernel
theorem dX0_init_81 : decode cX0_init 81 = .ok (.aastore, 1) := by decide +kernel
theorem dX0_init_82 : decode cX0_init 82 = .ok (.iinc 2 1, 3) := by decide +kernel
theorem dX0_init_85 : decode cX0_init 85 = .ok (.goto (-22), 3) := by decide +kernel
theorem dX0_init_88 : decode cX0_init 88 = .ok (.return_, 1) := by decide +kernel
theorem dX0_takeOver_0 : decode cX0_takeOver 0 = .ok (.aload_n 0, 1) := by decide +kernel
theorem dX0_takeOver_1 : decode cX0_takeOver 1 = .ok (.aload_n 1, 1) := by decide +kernel
theorem dX0_takeOver_2 : decode cX0_takeOver 2 = .ok (.getfield 40, 3) := by decide +kernel
theorem dX0_takeOver_5 : decode cX0_takeOver 5 = .ok (.putfield 40, 3) := by decide +kernel
theorem dX0_takeOver_8 : decode cX0_takeOver 8 = .ok (.iconst 0, 1) := by decide +kernel
theorem dX0_takeOver_9 : decode cX0_takeOver 9 = .ok (.istore_n 2, 1) := by decide +kernel
theorem dX0_takeOver_10 : decode cX0_takeOver 10 = .ok (.iload_n 2, 1) := by decide +kernel
theorem dX0_takeOver_11 : decode cX0_takeOver 11 = .ok (.aload_n 0, 1) := by decide +kernel
theorem dX0_takeOver_12 : decode cX0_takeOver 12 = .ok (.getfield 40, 3) := by decide +kernel
theorem dX0_takeOver_15 : decode cX0_takeOver 15 = .ok (.if_icmp .ge 24, 3) := by decide +kernel
theorem dX0_takeOver_39 : decode cX0_takeOver 39 = .ok (.aload_n 0, 1) := by decide +kernel
theorem dX0_takeOver_40 : decode cX0_takeOver 40 = .ok (.aload_n 1, 1) := by decide +kernel
theorem dX0_takeOver_41 : decode cX0_takeOver 41 = .ok (.getfield 47, 3) := by decide +kernel
theorem dX0_takeOver_44 : decode cX0_takeOver 44 = .ok (.putfield 47, 3) := by decide +kernel
theorem dX0_takeOver_47 : decode cX0_takeOver 47 = .ok (.iconst 0, 1) := by decide +kernel
theorem dX0_takeOver_48 : decode cX0_takeOver 48 = .ok (.istore_n 2, 1) := by decide +kernel
theorem dX0_takeOver_49 : decode cX0_takeOver 49 = .ok (.iload_n 2, 1) := by decide +kernel
theorem dX0_takeOver_50 : decode cX0_takeOver 50 = .ok (.iconst 3, 1) := by decide +kernel
theorem dX0_takeOver_51 : decode cX0_takeOver 51 = .ok (.if_icmp .ge 21, 3) := by decide +kernel
theorem dX0_takeOver_54 : decode cX0_takeOver 54 = .ok (.aload_n 0, 1) := by decide +kernel
theorem dX0_takeOver_55 : decode cX0_takeOver 55 = .ok (.getfield 18, 3) := by decide +kernel
theorem dX0_takeOver_58 : decode cX0_takeOver 58 = .ok (.iload_n 2, 1) := by decide +kernel
theorem dX0_takeOver_59 : decode cX0_takeOver 59 = .ok (.aload_n 1, 1) := by decide +kernel
theorem dX0_takeOver_60 : decode cX0_takeOver 60 = .ok (.getfield 18, 3) := by decide +kernel
theorem dX0_takeOver_63 : decode cX0_takeOver 63 = .ok (.iload_n 2, 1) := by decide +kernel
theorem dX0_takeOver_64 : decode cX0_takeOver 64 = .ok (.iaload, 1) := by decide +kernel
theorem dX0_takeOver_65 : decode cX0_takeOver 65 = .ok (.iastore, 1) := by decide +kernel
theorem dX0_takeOver_66 : decode cX0_takeOver 66 = .ok (.iinc 2 1, 3) := by decide +kernel
theorem dX0_takeOver_69 : decode cX0_takeOver 69 = .ok (.goto (-20), 3) := by decide +kernel
theorem dX0_takeOver_72 : decode cX0_takeOver 72 = .ok (.aload_n 0, 1) := by decide +kernel
theorem dX0_takeOver_73 : decode cX0_takeOver 73 = .ok (.aload_n 1, 1) := by decide +kernel
theorem dX0_takeOver_74 : decode cX0_takeOver 74 = .ok (.getfield 22, 3) := by decide +kernel
theorem dX0_takeOver_77 : decode cX0_takeOver 77 = .ok (.putfield 22, 3) := by decide +kernel
theorem dX0_takeOver_80 : decode cX0_takeOver 80 = .ok (.aload_n 0, 1) := by decide +kernel
theorem dX0_takeOver_81 : decode cX0_takeOver 81 = .ok (.aload_n 1, 1) := by decide +kernel
theorem dX0_takeOver_82 : decode cX0_takeOver 82 = .ok (.getfield 50, 3) := by decide +kernel
theorem dX0_takeOver_85 : decode cX0_takeOver 85 = .ok (.putfield 50, 3) := by decide +kernel
theorem dX0_takeOver_88 : decode cX0_takeOver 88 = .ok (.aload_n 0, 1) := by decide +kernel
theorem dX0_takeOver_89 : decode cX0_takeOver 89 = .ok (.aload_n 1, 1) := by decide +kernel
theorem dX0_takeOver_90 : decode cX0_takeOver 90 = .ok (.getfield 53, 3) := by decide +kernel
theorem dX0_takeOver_93 : decode cX0_takeOver 93 = .ok (.putfield 53, 3) := by decide +kernel
theorem dX0_takeOver_96 : decode cX0_takeOver 96 = .ok (.aload_n 0, 1) := by decide +kernel
theorem dX0_takeOver_97 : decode cX0_takeOver 97 = .ok (.aload_n 1, 1) := by decide +kernel
theorem dX0_takeOver_98 : decode cX0_takeOver 98 = .ok (.getfield 26, 3) := by decide +kernel
theorem dX0_takeOver_101 : decode cX0_takeOver 101 = .ok (.putfield 26, 3) := by decide +kernel
theorem dX0_takeOver_104 : decode cX0_takeOver 104 = .ok (.aload_n 0, 1) := by decide +kernel
theorem dX0_takeOver_105 : decode cX0_takeOver 105 = .ok (.aload_n 1, 1) := by decide +kernel
theorem dX0_takeOver_106 : decode cX0_takeOver 106 = .ok (.getfield 29, 3) := by decide +kernel
theorem dX0_takeOver_109 : decode cX0_takeOver 109 = .ok (.putfield 29, 3) := by decide +kernel
theorem dX0_takeOver_112 : decode cX0_takeOver 112 = .ok (.aload_n 0, 1) := by decide +kernel
theorem dX0_takeOver_113 : decode cX0_takeOver 113 = .ok (.aload_n 1, 1) := by decide +kernel
theorem dX0_takeOver_114 : decode cX0_takeOver 114 = .ok (.getfield 56, 3) := by decide +kernel
theorem dX0_takeOver_117 : decode cX0_takeOver 117 = .ok (.putfield 56, 3) := by decide +kernel
theorem dX0_takeOver_120 : decode cX0_takeOver 120 = .ok (.aload_n 0, 1) := by decide +kernel
theorem dX0_takeOver_121 : decode cX0_takeOver 121 = .ok (.aload_n 1, 1) := by decide +kernel
theorem dX0_takeOver_122 : decode cX0_takeOver 122 = .ok (.getfield 59, 3) := by decide +kernel
theorem dX0_takeOver_125 : decode cX0_takeOver 125 = .ok (.putfield 59, 3) := by decide +kernel
theorem dX0_takeOver_128 : decode cX0_takeOver 128 = .ok (.aload_n 0, 1) := by decide +kernel
theorem dX0_takeOver_129 : decode cX0_takeOver 129 = .ok (.aload_n 1, 1) := by decide +kernel
theorem dX0_takeOver_130 : decode cX0_takeOver 130 = .ok (.getfield 62, 3) := by decide +kernel
theorem dX0_takeOver_133 : decode cX0_takeOver 133 = .ok (.putfield 62, 3) := by decide +kernel
theorem dX0_takeOver_136 : decode cX0_takeOver 136 = .ok (.aload_n 0, 1) := by decide +kernel
theorem dX0_takeOver_137 : decode cX0_takeOver 137 = .ok (.aload_n 1, 1) := by decide +kernel
theorem dX0_takeOver_138 : decode cX0_takeOver 138 = .ok (.getfield 32, 3) := by decide +kernel
theorem dX0_takeOver_141 : decode cX0_takeOver 141 = .ok (.putfield 32, 3) := by decide +kernel
theorem dX0_takeOver_144 : decode cX0_takeOver 144 = .ok (.return_, 1) := by decide +kernel
theorem dX0_open_0 : decode cX0_open 0 = .ok (.aload_n 0, 1) := by decide +kernel
theorem dX0_open_1 : decode cX0_open 1 = .ok (.getfield 40, 3) := by decide +kernel
theorem dX0_open_4 : decode cX0_open 4 = .ok (.bipush 9, 2) := by decide +kernel
theorem dX0_open_6 : decode cX0_open 6 = .ok (.if_icmp .lt 6, 3) := by decide +kernel
theorem dX0_open_12 : decode cX0_open 12 = .ok (.aload_n 0, 1) := by decide +kernel
theorem dX0_open_13 : decode cX0_open 13 = .ok (.getfield 11, 3) := by decide +kernel
theorem dX0_open_16 : decode cX0_open 16 = .ok (.aload_n 0, 1) := by decide +kernel
theorem dX0_open_17 : decode cX0_open 17 = .ok (.getfield 40, 3) := by decide +kernel
theorem dX0_open_20 : decode cX0_open 20 = .ok (.aaload, 1) := by decide +kernel
theorem dX0_open_21 : decode cX0_open 21 = .ok (.astore 4, 2) := by decide +kernel
theorem dX0_open_23 : decode cX0_open 23 = .ok (.aload 4, 2) := by decide +kernel
theorem dX0_open_25 : decode cX0_open 25 = .ok (.iload_n 1, 1) := by decide +kernel
theorem dX0_open_26 : decode cX0_open 26 = .ok (.putfield 66, 3) := by decide +kernel
theorem dX0_open_29 : decode cX0_open 29 = .ok (.aload 4, 2) := by decide +kernel
theorem dX0_open_31 : decode cX0_open 31 = .ok (.iload_n 2, 1) := by decide +kernel
theorem dX0_open_32 : decode cX0_open 32 = .ok (.putfield 69, 3) := by decide +kernel
theorem dX0_open_35 : decode cX0_open 35 = .ok (.aload 4, 2) := by decide +kernel
theorem dX0_open_37 : decode cX0_open 37 = .ok (.bipush 100, 2) := by decide +kernel
theorem dX0_open_39 : decode cX0_open 39 = .ok (.putfield 72, 3) := by decide +kernel
theorem dX0_open_42 : decode cX0_open 42 = .ok (.aload 4, 2) := by decide +kernel
theorem dX0_open_44 : decode cX0_open 44 = .ok (.iload_n 3, 1) := by decide +kernel
theorem dX0_open_45 : decode cX0_open 45 = .ok (.putfield 75, 3) := by decide +kernel
theorem dX0_open_48 : decode cX0_open 48 = .ok (.aload_n 0, 1) := by decide +kernel
theorem dX0_open_49 : decode cX0_open 49 = .ok (.dup, 1) := by decide +kernel
theorem dX0_open_50 : decode cX0_open 50 = .ok (.getfield 40, 3) := by decide +kernel
theorem dX0_open_53 : decode cX0_open 53 = .ok (.iconst 1, 1) := by decide +kernel
theorem dX0_open_54 : decode cX0_open 54 = .ok (.iadd, 1) := by decide +kernel
theorem dX0_open_55 : decode cX0_open 55 = .ok (.putfield 40, 3) := by decide +kernel
theorem dX0_open_58 : decode cX0_open 58 = .ok (.aload_n 0, 1) := by decide +kernel
theorem dX0_open_59 : decode cX0_open 59 = .ok (.getfield 40, 3) := by decide +kernel
theorem dX0_open_62 : decode cX0_open 62 = .ok (.iconst 1, 1) := by decide +kernel
theorem dX0_open_63 : decode cX0_open 63 = .ok (.isub, 1) := by decide +kernel
theorem dX0_open_64 : decode cX0_open 64 = .ok (.ireturn, 1) := by decide +kernel
theorem dX0_draw_0 : decode cX0_draw 0 = .ok (.aload_n 0, 1) := by decide +kernel
theorem dX0_draw_1 : decode cX0_draw 1 = .ok (.aload_n 0, 1) := by decide +kernel
theorem dX0_draw_2 : decode cX0_draw 2 = .ok (.getfield 32, 3) := by decide +kernel
theorem dX0_draw_5 : decode cX0_draw 5 = .ok (.ldc 90, 2) := by decide +kernel
theorem dX0_draw_7 : decode cX0_draw 7 = .ok (.imul, 1) := by decide +kernel
theorem dX0_draw_8 : decode cX0_draw 8 = .ok (.sipush 12345, 3) := by decide +kernel
theorem dX0_draw_11 : decode cX0_draw 11 = .ok (.iadd, 1) := by decide +kernel
theorem dX0_draw_12 : decode cX0_draw 12 = .ok (.putfield 32, 3) := by decide +kernel
theorem dX0_draw_15 : decode cX0_draw 15 = .ok (.aload_n 0, 1) := by decide +kernel
theorem dX0_draw_16 : decode cX0_draw 16 = .ok (.getfield 32, 3) := by decide +kernel
theorem dX0_draw_19 : decode cX0_draw 19 = .ok (.bipush 8, 2) := by decide +kernel
theorem dX0_draw_21 : decode cX0_draw 21 = .ok (.iushr, 1) := by decide +kernel
theorem dX0_draw_22 : decode cX0_draw 22 = .ok (.ireturn, 1) := by decide +kernel
theorem dX0_heat_0 : decode cX0_heat 0 = .ok (.bipush 45, 2) := by decide +kernel
theorem dX0_heat_2 : decode cX0_heat 2 = .ok (.iconst 5, 1) := by decide +kernel
theorem dX0_heat_3 : decode cX0_heat 3 = .ok (.aload_n 0, 1) := by decide +kernel
theorem dX0_heat_4 : decode cX0_heat 4 = .ok (.getfield 53, 3) := by decide +kernel
theorem dX0_heat_7 : decode cX0_heat 7 = .ok (.bipush 10, 2) := by decide +kernel
theorem dX0_heat_9 : decode cX0_heat 9 = .ok (.irem, 1) := by decide +kernel
theorem dX0_heat_10 : decode cX0_heat 10 = .ok (.iconst 5, 1) := by decide +kernel
theorem dX0_heat_11 : decode cX0_heat 11 = .ok (.isub, 1) := by decide +kernel
theorem dX0_heat_12 : decode cX0_heat 12 = .ok (.invokestatic 91, 3) := by decide +kernel
theorem dX0_heat_15 : decode cX0_heat 15 = .ok (.imul, 1) := by decide +kernel
theorem dX0_heat_16 : decode cX0_heat 16 = .ok (.isub, 1) := by decide +kernel
theorem dX0_heat_17 : decode cX0_heat 17 = .ok (.ireturn, 1) := by decide +kernel
theorem dX0_slant_0 : decode cX0_slant 0 = .ok (.aload_n 0, 1) := by decide +kernel
theorem dX0_slant_1 : decode cX0_slant 1 = .ok (.getfield 53, 3) := by decide +kernel
theorem dX0_slant_4 : decode cX0_slant 4 = .ok (.bipush 10, 2) := by decide +kernel
theorem dX0_slant_6 : decode cX0_slant 6 = .ok (.irem, 1) := by decide +kernel
theorem dX0_slant_7 : decode cX0_slant 7 = .ok (.iconst 5, 1) := by decide +kernel
theorem dX0_slant_8 : decode cX0_slant 8 = .ok (.isub, 1) := by decide +kernel
theorem dX0_slant_9 : decode cX0_slant 9 = .ok (.iconst 2, 1) := by decide +kernel
theorem dX0_slant_10 : decode cX0_slant 10 = .ok (.idiv, 1) := by decide +kernel
theorem dX0_slant_11 : decode cX0_slant 11 = .ok (.ireturn, 1) := by decide +kernel
set_option maxRecDepth 20000 in
theorem ggX0_shades_X0_wouldShade : GoodIn wsX0_shades wsX0_wouldShade := goodIn_r _ [6, 7, 8, 9, 10, 5, 11, 12, 13, 14, 15, 16, 17, 18, 19, 20, 21, 22, 23, 24, 25, 26] (by decide +kernel) (by decide +kernel)
set_option maxRecDepth 20000 in
theorem gX0_shades_X0_wouldShade : GoodIn wsX0_shades (wsV RX0 97 RX0 yX0_wouldShade wsX0_wouldShade) := goodIn_app (goodIn_of _ (by decide +kernel)) ggX0_shades_X0_wouldShade
theorem dX0_shades_0 : decode cX0_shades 0 = .ok (.aload_n 0, 1) := by decide +kernel
theorem dX0_shades_1 : decode cX0_shades 1 = .ok (.aload_n 0, 1) := by decide +kernel
theorem dX0_shades_2 : decode cX0_shades 2 = .ok (.getfield 50, 3) := by decide +kernel
theorem dX0_shades_5 : decode cX0_shades 5 = .ok (.iload_n 1, 1) := by decide +kernel
theorem dX0_shades_6 : decode cX0_shades 6 = .ok (.invokevirtual 97, 3) := by decide +kernel
theorem dX0_shades_9 : decode cX0_shades 9 = .ok (.ireturn, 1) := by decide +kernel
set_option maxRecDepth 20000 in
theorem ggX0_wouldShade_X0_slant : GoodIn wsX0_wouldShade wsX0_slant := goodIn_r _ [6, 7, 8, 9, 10, 11, 12, 13, 14, 15, 16, 17, 18, 19, 20, 21] (by decide +kernel) (by decide +kernel)
set_option maxRecDepth 20000 in
theorem gX0_wouldShade_X0_slant : GoodIn wsX0_wouldShade (wsV RX0 101 RX0 yX0_slant wsX0_slant) := goodIn_app (goodIn_of _ (by decide +kernel)) ggX0_wouldShade_X0_slant
theorem dX0_wouldShade_0 : decode cX0_wouldShade 0 = .ok (.iload_n 1, 1) := by decide +kernel
theorem dX0_wouldShade_1 : decode cX0_wouldShade 1 = .ok (.aload_n 0, 1) := by decide +kernel
theorem dX0_wouldShade_2 : decode cX0_wouldShade 2 = .ok (.invokevirtual 101, 3) := by decide +kernel
theorem dX0_wouldShade_5 : decode cX0_wouldShade 5 = .ok (.iadd, 1) := by decide +kernel
theorem dX0_wouldShade_6 : decode cX0_wouldShade 6 = .ok (.istore_n 3, 1) := by decide +kernel
theorem dX0_wouldShade_7 : decode cX0_wouldShade 7 = .ok (.iload_n 2, 1) := by decide +kernel
theorem dX0_wouldShade_8 : decode cX0_wouldShade 8 = .ok (.iload_n 3, 1) := by decide +kernel
theorem dX0_wouldShade_9 : decode cX0_wouldShade 9 = .ok (.if_icmp .lt 17, 3) := by decide +kernel
theorem dX0_wouldShade_12 : decode cX0_wouldShade 12 = .ok (.iload_n 2, 1) := by decide +kernel
theorem dX0_wouldShade_13 : decode cX0_wouldShade 13 = .ok (.iload_n 3, 1) := by decide +kernel
theorem dX0_wouldShade_14 : decode cX0_wouldShade 14 = .ok (.aload_n 0, 1) := by decide +kernel
theorem dX0_wouldShade_15 : decode cX0_wouldShade 15 = .ok (.getfield 22, 3) := by decide +kernel
theorem dX0_wouldShade_18 : decode cX0_wouldShade 18 = .ok (.iadd, 1) := by decide +kernel
theorem dX0_wouldShade_19 : decode cX0_wouldShade 19 = .ok (.if_icmp .ge 7, 3) := by decide +kernel
theorem dX0_wouldShade_22 : decode cX0_wouldShade 22 = .ok (.iconst 1, 1) := by decide +kernel
theorem dX0_wouldShade_23 : decode cX0_wouldShade 23 = .ok (.goto 4, 3) := by decide +kernel
theorem dX0_wouldShade_27 : decode cX0_wouldShade 27 = .ok (.ireturn, 1) := by decide +kernel
set_option maxRecDepth 20000 in
theorem ggX0_firstShaded_X0_shades : GoodIn wsX0_firstShaded wsX0_shades := goodIn_r _ [6, 7, 8, 9, 10, 5, 11, 12, 13, 14, 15, 16, 17, 18, 19, 20, 21, 22, 23, 24, 25, 26, 27, 28, 29, 30, 31] (by decide +kernel) (by decide +kernel)
set_option maxRecDepth 20000 in
theorem gX0_firstShaded_X0_shades : GoodIn wsX0_firstShaded (wsV RX0 105 RX0 yX0_shades wsX0_shades) := goodIn_app (goodIn_of _ (by decide +kernel)) ggX0_firstShaded_X0_shades
theorem dX0_firstShaded_0 : decode cX0_firstShaded 0 = .ok (.iconst 0, 1) := by decide +kernel
theorem dX0_firstShaded_1 : decode cX0_firstShaded 1 = .ok (.istore_n 1, 1) := by decide +kernel
theorem dX0_firstShaded_2 : decode cX0_firstShaded 2 = .ok (.iload_n 1, 1) := by decide +kernel
theorem dX0_firstShaded_3 : decode cX0_firstShaded 3 = .ok (.bipush 12, 2) := by decide +kernel
theorem dX0_firstShaded_5 : decode cX0_firstShaded 5 = .ok (.if_icmp .ge 19, 3) := by decide +kernel
theorem dX0_firstShaded_8 : decode cX0_firstShaded 8 = .ok (.aload_n 0, 1) := by decide +kernel
theorem dX0_firstShaded_9 : decode cX0_firstShaded 9 = .ok (.iload_n 1, 1) := by decide +kernel
theorem dX0_firstShaded_10 : decode cX0_firstShaded 10 = .ok (.invokevirtual 105, 3) := by decide +kernel
theorem dX0_firstShaded_13 : decode cX0_firstShaded 13 = .ok (.ifCond .eq 5, 3) := by decide +kernel
theorem dX0_firstShaded_16 : decode cX0_firstShaded 16 = .ok (.iload_n 1, 1) := by decide +kernel
theorem dX0_firstShaded_17 : decode cX0_firstShaded 17 = .ok (.ireturn, 1) := by decide +kernel
theorem dX0_shadedSet_0 : decode cX0_shadedSet 0 = .ok (.iconst 0, 1) := by decide +kernel
theorem dX0_shadedSet_1 : decode cX0_shadedSet 1 = .ok (.istore_n 1, 1) := by decide +kernel
theorem dX0_shadedSet_2 : decode cX0_shadedSet 2 = .ok (.iconst 0, 1) := by decide +kernel
theorem dX0_shadedSet_3 : decode cX0_shadedSet 3 = .ok (.istore_n 2, 1) := by decide +kernel
theorem dX0_shadedSet_4 : decode cX0_shadedSet 4 = .ok (.iload_n 2, 1) := by decide +kernel
theorem dX0_shadedSet_5 : decode cX0_shadedSet 5 = .ok (.aload_n 0, 1) := by decide +kernel
theorem dX0_shadedSet_6 : decode cX0_shadedSet 6 = .ok (.getfield 40, 3) := by decide +kernel
theorem dX0_shadedSet_9 : decode cX0_shadedSet 9 = .ok (.if_icmp .ge 31, 3) := by decide +kernel
theorem dX0_shadedSet_40 : decode cX0_shadedSet 40 = .ok (.iload_n 1, 1) := by decide +kernel
theorem dX0_shadedSet_41 : decode cX0_shadedSet 41 = .ok (.ireturn, 1) := by decide +kernel
theorem dX0_allGoods_0 : decode cX0_allGoods 0 = .ok (.iconst 0, 1) := by decide +kernel
theorem dX0_allGoods_1 : decode cX0_allGoods 1 = .ok (.istore_n 1, 1) := by decide +kernel
theorem dX0_allGoods_2 : decode cX0_allGoods 2 = .ok (.iconst 0, 1) := by decide +kernel
theorem dX0_allGoods_3 : decode cX0_allGoods 3 = .ok (.istore_n 2, 1) := by decide +kernel
theorem dX0_allGoods_4 : decode cX0_allGoods 4 = .ok (.iload_n 2, 1) := by decide +kernel
theorem dX0_allGoods_5 : decode cX0_allGoods 5 = .ok (.aload_n 0, 1) := by decide +kernel
theorem dX0_allGoods_6 : decode cX0_allGoods 6 = .ok (.getfield 40, 3) := by decide +kernel
theorem dX0_allGoods_9 : decode cX0_allGoods 9 = .ok (.if_icmp .ge 21, 3) := by decide +kernel
theorem dX0_allGoods_30 : decode cX0_allGoods 30 = .ok (.iload_n 1, 1) := by decide +kernel
theorem dX0_allGoods_31 : decode cX0_allGoods 31 = .ok (.ireturn, 1) := by decide +kernel
theorem dX0_lastFirst_0 : decode cX0_lastFirst 0 = .ok (.bipush 12, 2) := by decide +kernel
theorem dX0_lastFirst_2 : decode cX0_lastFirst 2 = .ok (.aload_n 0, 1) := by decide +kernel
theorem dX0_lastFirst_3 : decode cX0_lastFirst 3 = .ok (.getfield 22, 3) := by decide +kernel
theorem dX0_lastFirst_6 : decode cX0_lastFirst 6 = .ok (.isub, 1) := by decide +kernel
theorem dX0_lastFirst_7 : decode cX0_lastFirst 7 = .ok (.ireturn, 1) := by decide +kernel
set_option maxRecDepth 20000 in
theorem ggX0_widen_X0_lastFirst : GoodIn wsX0_widen wsX0_lastFirst := goodIn_r _ [7, 1, 18, 19, 20, 21, 22, 23, 24, 25, 26, 27, 28, 29, 30, 31] (by decide +kernel) (by decide +kernel)
set_option maxRecDepth 20000 in
theorem gX0_widen_X0_lastFirst : GoodIn wsX0_widen (wsV RX0 117 RX0 yX0_lastFirst wsX0_lastFirst) := goodIn_app (goodIn_of _ (by decide +kernel)) ggX0_widen_X0_lastFirst
set_option maxRecDepth 20000 in
theorem ggX0_widen_X6_held : GoodIn wsX0_widen wsX6_held := goodIn_r _ [10, 11, 12, 13, 14, 15, 16, 17] (by decide +kernel) (by decide +kernel)
set_option maxRecDepth 20000 in
theorem gX0_widen_X6_held_n120 : GoodIn wsX0_widen (wsX6_held) := ggX0_widen_X6_held
theorem dX0_widen_0 : decode cX0_widen 0 = .ok (.aload_n 0, 1) := by decide +kernel
theorem dX0_widen_1 : decode cX0_widen 1 = .ok (.iload_n 1, 1) := by decide +kernel
theorem dX0_widen_2 : decode cX0_widen 2 = .ok (.putfield 22, 3) := by decide +kernel
theorem dX0_widen_5 : decode cX0_widen 5 = .ok (.aload_n 0, 1) := by decide +kernel
theorem dX0_widen_6 : decode cX0_widen 6 = .ok (.aload_n 0, 1) := by decide +kernel
theorem dX0_widen_7 : decode cX0_widen 7 = .ok (.getfield 50, 3) := by decide +kernel
theorem dX0_widen_10 : decode cX0_widen 10 = .ok (.iconst 0, 1) := by decide +kernel
theorem dX0_widen_11 : decode cX0_widen 11 = .ok (.aload_n 0, 1) := by decide +kernel
theorem dX0_widen_12 : decode cX0_widen 12 = .ok (.invokevirtual 117, 3) := by decide +kernel
theorem dX0_widen_15 : decode cX0_widen 15 = .ok (.invokestatic 120, 3) := by decide +kernel
theorem dX0_widen_18 : decode cX0_widen 18 = .ok (.putfield 50, 3) := by decide +kernel
theorem dX0_widen_21 : decode cX0_widen 21 = .ok (.return_, 1) := by decide +kernel
theorem dX0_hauling_0 : decode cX0_hauling 0 = .ok (.aload_n 0, 1) := by decide +kernel
theorem dX0_hauling_1 : decode cX0_hauling 1 = .ok (.getfield 29, 3) := by decide +kernel
theorem dX0_hauling_4 : decode cX0_hauling 4 = .ok (.lookupswitch 38 #[(1, 28), (2, 33)], 28) := by decide +kernel
theorem dX0_hauling_42 : decode cX0_hauling 42 = .ok (.iconst 0, 1) := by decide +kernel
theorem dX0_hauling_43 : decode cX0_hauling 43 = .ok (.ireturn, 1) := by decide +kernel
set_option maxRecDepth 20000 in
theorem ggX0_hauledTo_X0_lastFirst : GoodIn wsX0_hauledTo wsX0_lastFirst := goodIn_r _ [13, 14, 15, 16, 17, 18, 19, 20, 21, 22, 23, 24, 25, 26, 27, 28] (by decide +kernel) (by decide +kernel)
set_option maxRecDepth 20000 in
theorem gX0_hauledTo_X0_lastFirst : GoodIn wsX0_hauledTo (wsV RX0 117 RX0 yX0_lastFirst wsX0_lastFirst) := goodIn_app (goodIn_of _ (by decide +kernel)) ggX0_hauledTo_X0_lastFirst
theorem dX0_hauledTo_0 : decode cX0_hauledTo 0 = .ok (.iload_n 1, 1) := by decide +kernel
theorem dX0_hauledTo_1 : decode cX0_hauledTo 1 = .ok (.lookupswitch 52 #[(1, 27), (2, 38)], 27) := by decide +kernel
theorem dX0_hauledTo_28 : decode cX0_hauledTo 28 = .ok (.aload_n 0, 1) := by decide +kernel
theorem dX0_hauledTo_29 : decode cX0_hauledTo 29 = .ok (.getfield 50, 3) := by decide +kernel
theorem dX0_hauledTo_32 : decode cX0_hauledTo 32 = .ok (.iconst 1, 1) := by decide +kernel
theorem dX0_hauledTo_33 : decode cX0_hauledTo 33 = .ok (.isub, 1) := by decide +kernel
theorem dX0_hauledTo_34 : decode cX0_hauledTo 34 = .ok (.iconst 0, 1) := by decide +kernel
theorem dX0_hauledTo_35 : decode cX0_hauledTo 35 = .ok (.invokestatic 159, 3) := by decide +kernel
theorem dX0_hauledTo_38 : decode cX0_hauledTo 38 = .ok (.ireturn, 1) := by decide +kernel
theorem dX0_hauledTo_39 : decode cX0_hauledTo 39 = .ok (.aload_n 0, 1) := by decide +kernel
theorem dX0_hauledTo_40 : decode cX0_hauledTo 40 = .ok (.getfield 50, 3) := by decide +kernel
theorem dX0_hauledTo_43 : decode cX0_hauledTo 43 = .ok (.iconst 1, 1) := by decide +kernel
theorem dX0_hauledTo_44 : decode cX0_hauledTo 44 = .ok (.iadd, 1) := by decide +kernel
theorem dX0_hauledTo_45 : decode cX0_hauledTo 45 = .ok (.aload_n 0, 1) := by decide +kernel
theorem dX0_hauledTo_46 : decode cX0_hauledTo 46 = .ok (.invokevirtual 117, 3) := by decide +kernel
theorem dX0_hauledTo_49 : decode cX0_hauledTo 49 = .ok (.invokestatic 134, 3) := by decide +kernel
theorem dX0_hauledTo_52 : decode cX0_hauledTo 52 = .ok (.ireturn, 1) := by decide +kernel
theorem dX0_hauledTo_53 : decode cX0_hauledTo 53 = .ok (.aload_n 0, 1) := by decide +kernel
theorem dX0_hauledTo_54 : decode cX0_hauledTo 54 = .ok (.getfield 50, 3) := by decide +kernel
theorem dX0_hauledTo_57 : decode cX0_hauledTo 57 = .ok (.ireturn, 1) := by decide +kernel
set_option maxRecDepth 20000 in
theorem ggX0_passHour_X0_hauledTo : GoodIn wsX0_passHour wsX0_hauledTo := goodIn_r _ [14, 1, 15, 16, 17, 18, 19, 20, 21, 22, 23, 24, 13, 25, 26, 96, 97, 98, 99, 100, 101, 102, 103, 104, 105, 106, 107, 108, 109] (by decide +kernel) (by decide +kernel)
set_option maxRecDepth 20000 in
theorem gX0_passHour_X0_hauledTo : GoodIn wsX0_passHour (wsV RX0 153 RX0 yX0_hauledTo wsX0_hauledTo) := goodIn_app (goodIn_of _ (by decide +kernel)) ggX0_passHour_X0_hauledTo
set_option maxRecDepth 20000 in
theorem ggX0_passHour_X0_blow : GoodIn wsX0_passHour wsX0_blow := goodIn_r _ [87, 88, 1, 89, 90, 91, 92, 13, 93, 94, 95, 22, 23, 24, 25, 26, 76, 56, 77, 78, 20, 17, 21, 79, 16, 18, 96, 97, 98, 99, 100, 101, 102, 103, 104, 105, 106, 107, 108, 109] (by decide +kernel) (by decide +kernel)
set_option maxRecDepth 20000 in
theorem gX0_passHour_X0_blow : GoodIn wsX0_passHour (wsV RX0 162 RX0 yX0_blow wsX0_blow) := goodIn_app (goodIn_of _ (by decide +kernel)) ggX0_passHour_X0_blow
theorem dX0_passHour_0 : decode cX0_passHour 0 = .ok (.aload_n 0, 1) := by decide +kernel
theorem dX0_passHour_1 : decode cX0_passHour 1 = .ok (.aload_n 0, 1) := by decide +kernel
theorem dX0_passHour_2 : decode cX0_passHour 2 = .ok (.iload_n 1, 1) := by decide +kernel
theorem dX0_passHour_3 : decode cX0_passHour 3 = .ok (.invokevirtual 153, 3) := by decide +kernel
theorem dX0_passHour_6 : decode cX0_passHour 6 = .ok (.putfield 50, 3) := by decide +kernel
theorem dX0_passHour_9 : decode cX0_passHour 9 = .ok (.iconst 0, 1) := by decide +kernel
theorem dX0_passHour_10 : decode cX0_passHour 10 = .ok (.istore_n 2, 1) := by decide +kernel
theorem dX0_passHour_11 : decode cX0_passHour 11 = .ok (.iload_n 2, 1) := by decide +kernel
theorem dX0_passHour_12 : decode cX0_passHour 12 = .ok (.aload_n 0, 1) := by decide +kernel
theorem dX0_passHour_13 : decode cX0_passHour 13 = .ok (.getfield 40, 3) := by decide +kernel
theorem dX0_passHour_16 : decode cX0_passHour 16 = .ok (.if_icmp .ge 69, 3) := by decide +kernel
theorem dX0_passHour_85 : decode cX0_passHour 85 = .ok (.aload_n 0, 1) := by decide +kernel
theorem dX0_passHour_86 : decode cX0_passHour 86 = .ok (.invokevirtual 162, 3) := by decide +kernel
theorem dX0_passHour_89 : decode cX0_passHour 89 = .ok (.aload_n 0, 1) := by decide +kernel
theorem dX0_passHour_90 : decode cX0_passHour 90 = .ok (.dup, 1) := by decide +kernel
theorem dX0_passHour_91 : decode cX0_passHour 91 = .ok (.getfield 53, 3) := by decide +kernel
theorem dX0_passHour_94 : decode cX0_passHour 94 = .ok (.iconst 1, 1) := by decide +kernel
theorem dX0_passHour_95 : decode cX0_passHour 95 = .ok (.iadd, 1) := by decide +kernel
theorem dX0_passHour_96 : decode cX0_passHour 96 = .ok (.putfield 53, 3) := by decide +kernel
theorem dX0_passHour_99 : decode cX0_passHour 99 = .ok (.return_, 1) := by decide +kernel
set_option maxRecDepth 20000 in
theorem ggX0_blow_X0_draw : GoodIn wsX0_blow wsX0_draw := goodIn_r _ [8, 9, 10, 26, 27, 28, 29, 30, 31, 32, 33, 34, 35, 36, 37, 38, 39] (by decide +kernel) (by decide +kernel)
set_option maxRecDepth 20000 in
theorem gX0_blow_X0_draw : GoodIn wsX0_blow (wsV RX0 165 RX0 yX0_draw wsX0_draw) := goodIn_app (goodIn_of _ (by decide +kernel)) ggX0_blow_X0_draw
set_option maxRecDepth 20000 in
theorem ggX0_blow_X0_lastFirst : GoodIn wsX0_blow wsX0_lastFirst := goodIn_r _ [14, 15, 26, 27, 28, 29, 30, 31, 32, 33, 34, 35, 36, 37, 38, 39] (by decide +kernel) (by decide +kernel)
set_option maxRecDepth 20000 in
theorem gX0_blow_X0_lastFirst : GoodIn wsX0_blow (wsV RX0 117 RX0 yX0_lastFirst wsX0_lastFirst) := goodIn_app (goodIn_of _ (by decide +kernel)) ggX0_blow_X0_lastFirst
set_option maxRecDepth 20000 in
theorem ggX0_blow_X6_held : GoodIn wsX0_blow wsX6_held := goodIn_r _ [18, 19, 20, 21, 22, 23, 24, 25] (by decide +kernel) (by decide +kernel)
set_option maxRecDepth 20000 in
theorem gX0_blow_X6_held_n120 : GoodIn wsX0_blow (wsX6_held) := ggX0_blow_X6_held
theorem dX0_blow_0 : decode cX0_blow 0 = .ok (.aload_n 0, 1) := by decide +kernel
theorem dX0_blow_1 : decode cX0_blow 1 = .ok (.invokevirtual 165, 3) := by decide +kernel
theorem dX0_blow_4 : decode cX0_blow 4 = .ok (.bipush 100, 2) := by decide +kernel
theorem dX0_blow_6 : decode cX0_blow 6 = .ok (.irem, 1) := by decide +kernel
theorem dX0_blow_7 : decode cX0_blow 7 = .ok (.aload_n 0, 1) := by decide +kernel
theorem dX0_blow_8 : decode cX0_blow 8 = .ok (.getfield 26, 3) := by decide +kernel
theorem dX0_blow_11 : decode cX0_blow 11 = .ok (.if_icmp .lt 4, 3) := by decide +kernel
theorem dX0_blow_14 : decode cX0_blow 14 = .ok (.return_, 1) := by decide +kernel
theorem dX0_blow_15 : decode cX0_blow 15 = .ok (.aload_n 0, 1) := by decide +kernel
theorem dX0_blow_16 : decode cX0_blow 16 = .ok (.invokevirtual 165, 3) := by decide +kernel
theorem dX0_blow_19 : decode cX0_blow 19 = .ok (.iconst 3, 1) := by decide +kernel
theorem dX0_blow_20 : decode cX0_blow 20 = .ok (.irem, 1) := by decide +kernel
theorem dX0_blow_21 : decode cX0_blow 21 = .ok (.iconst 1, 1) := by decide +kernel
theorem dX0_blow_22 : decode cX0_blow 22 = .ok (.isub, 1) := by decide +kernel
theorem dX0_blow_23 : decode cX0_blow 23 = .ok (.istore_n 1, 1) := by decide +kernel
theorem dX0_blow_24 : decode cX0_blow 24 = .ok (.aload_n 0, 1) := by decide +kernel
theorem dX0_blow_25 : decode cX0_blow 25 = .ok (.aload_n 0, 1) := by decide +kernel
theorem dX0_blow_26 : decode cX0_blow 26 = .ok (.getfield 50, 3) := by decide +kernel
theorem dX0_blow_29 : decode cX0_blow 29 = .ok (.iload_n 1, 1) := by decide +kernel
theorem dX0_blow_30 : decode cX0_blow 30 = .ok (.iadd, 1) := by decide +kernel
theorem dX0_blow_31 : decode cX0_blow 31 = .ok (.iconst 0, 1) := by decide +kernel
theorem dX0_blow_32 : decode cX0_blow 32 = .ok (.aload_n 0, 1) := by decide +kernel
theorem dX0_blow_33 : decode cX0_blow 33 = .ok (.invokevirtual 117, 3) := by decide +kernel
theorem dX0_blow_36 : decode cX0_blow 36 = .ok (.invokestatic 120, 3) := by decide +kernel
theorem dX0_blow_39 : decode cX0_blow 39 = .ok (.putfield 50, 3) := by decide +kernel
theorem dX0_blow_42 : decode cX0_blow 42 = .ok (.iload_n 1, 1) := by decide +kernel
theorem dX0_blow_43 : decode cX0_blow 43 = .ok (.ifCond .eq 13, 3) := by decide +kernel
theorem dX0_blow_46 : decode cX0_blow 46 = .ok (.aload_n 0, 1) := by decide +kernel
theorem dX0_blow_47 : decode cX0_blow 47 = .ok (.dup, 1) := by decide +kernel
theorem dX0_blow_48 : decode cX0_blow 48 = .ok (.getfield 62, 3) := by decide +kernel
theorem dX0_blow_51 : decode cX0_blow 51 = .ok (.iconst 1, 1) := by decide +kernel
theorem dX0_blow_52 : decode cX0_blow 52 = .ok (.iadd, 1) := by decide +kernel
theorem dX0_blow_53 : decode cX0_blow 53 = .ok (.putfield 62, 3) := by decide +kernel
theorem dX0_blow_56 : decode cX0_blow 56 = .ok (.return_, 1) := by decide +kernel
set_option maxRecDepth 20000 in
theorem ggX1_init_X5_init : GoodIn wsX1_init wsX5_init := goodIn_r _ [10, 11, 2, 3, 12, 13, 14, 15, 16, 17, 18, 19] (by decide +kernel) (by decide +kernel)
set_option maxRecDepth 20000 in
theorem gX1_init_X5_init_n11 : GoodIn wsX1_init (wsX5_init) := ggX1_init_X5_init
theorem dX1_init_0 : decode cX1_init 0 = .ok (.aload_n 0, 1) := by decide +kernel
theorem dX1_init_1 : decode cX1_init 1 = .ok (.invokespecial 3, 3) := by decide +kernel
theorem dX1_init_4 : decode cX1_init 4 = .ok (.aload_n 0, 1) := by decide +kernel
theorem dX1_init_5 : decode cX1_init 5 = .ok (.new 9, 3) := by decide +kernel
theorem dX1_init_8 : decode cX1_init 8 = .ok (.dup, 1) := by decide +kernel
theorem dX1_init_9 : decode cX1_init 9 = .ok (.invokespecial 11, 3) := by decide +kernel
theorem dX1_init_12 : decode cX1_init 12 = .ok (.putfield 12, 3) := by decide +kernel
theorem dX1_init_15 : decode cX1_init 15 = .ok (.aload_n 0, 1) := by decide +kernel
theorem dX1_init_16 : decode cX1_init 16 = .ok (.aload_n 1, 1) := by decide +kernel
theorem dX1_init_17 : decode cX1_init 17 = .ok (.putfield 18, 3) := by decide +kernel
theorem dX1_init_20 : decode cX1_init 20 = .ok (.return_, 1) := by decide +kernel
set_option maxRecDepth 20000 in
theorem ggX1_readText_X6_held : GoodIn wsX1_readText wsX6_held := goodIn_r _ [11, 12, 13, 14, 15, 16, 17, 18] (by decide +kernel) (by decide +kernel)
set_option maxRecDepth 20000 in
theorem gX1_readText_X6_held_n22 : GoodIn wsX1_readText (wsX6_held) := ggX1_readText_X6_held
set_option maxRecDepth 20000 in
theorem ggX1_readText_X1_advance : GoodIn wsX1_readText wsX1_advance := goodIn_r _ [23, 2, 3, 7, 1, 24, 25, 26, 27, 22, 28, 197, 198, 199, 200, 201, 202, 203, 204] (by decide +kernel) (by decide +kernel)
set_option maxRecDepth 20000 in
theorem gX1_readText_X1_advance : GoodIn wsX1_readText (wsV RX1 42 RX1 yX1_advance wsX1_advance) := goodIn_app (goodIn_of _ (by decide +kernel)) ggX1_readText_X1_advance
set_option maxRecDepth 20000 in
theorem ggX1_readText_X1_keyHere : GoodIn wsX1_readText wsX1_keyHere := goodIn_r _ [32, 6, 33, 34, 35, 22, 36, 2, 3, 7, 24, 37, 38, 39, 40, 41, 42, 43, 44, 45, 46, 47, 48, 25, 26, 27, 28, 1, 49, 50, 51, 52, 53, 54, 55, 56, 57, 58, 59, 60, 61, 62, 63, 64, 65, 66, 67, 68, 69, 70, 71, 72, 73, 74, 75, 76, 77, 78, 79, 80, 81, 82, 83, 84, 85, 197, 198, 199, 200, 201, 202, 203, 204] (by decide +kernel) (by decide +kernel)
set_option maxRecDepth 20000 in
theorem gX1_readText_X1_keyHere : GoodIn wsX1_readText (wsV RX1 45 RX1 yX1_keyHere wsX1_keyHere) := goodIn_app (goodIn_of _ (by decide +kernel)) ggX1_readText_X1_keyHere
theorem dX1_readText_0 : decode cX1_readText 0 = .ok (.aload_n 0, 1) := by decide +kernel
theorem dX1_readText_1 : decode cX1_readText 1 = .ok (.iload_n 1, 1) := by decide +kernel
theorem dX1_readText_2 : decode cX1_readText 2 = .ok (.iconst 0, 1) := by decide +kernel
theorem dX1_readText_3 : decode cX1_readText 3 = .ok (.bipush 96, 2) := by decide +kernel
theorem dX1_readText_5 : decode cX1_readText 5 = .ok (.invokestatic 22, 3) := by decide +kernel
theorem dX1_readText_8 : decode cX1_readText 8 = .ok (.putfield 26, 3) := by decide +kernel
theorem dX1_readText_11 : decode cX1_readText 11 = .ok (.aload_n 0, 1) := by decide +kernel
theorem dX1_readText_12 : decode cX1_readText 12 = .ok (.iconst 0, 1) := by decide +kernel
theorem dX1_readText_13 : decode cX1_readText 13 = .ok (.putfield 30, 3) := by decide +kernel
theorem dX1_readText_16 : decode cX1_readText 16 = .ok (.aload_n 0, 1) := by decide +kernel
theorem dX1_readText_17 : decode cX1_readText 17 = .ok (.iconst 0, 1) := by decide +kernel
theorem dX1_readText_18 : decode cX1_readText 18 = .ok (.putfield 33, 3) := by decide +kernel
theorem dX1_readText_21 : decode cX1_readText 21 = .ok (.aload_n 0, 1) := by decide +kernel
theorem dX1_readText_22 : decode cX1_readText 22 = .ok (.iconst 0, 1) := by decide +kernel
theorem dX1_readText_23 : decode cX1_readText 23 = .ok (.putfield 36, 3) := by decide +kernel
theorem dX1_readText_26 : decode cX1_readText 26 = .ok (.aload_n 0, 1) := by decide +kernel
theorem dX1_readText_27 : decode cX1_readText 27 = .ok (.iconst 0, 1) := by decide +kernel
theorem dX1_readText_28 : decode cX1_readText 28 = .ok (.putfield 39, 3) := by decide +kernel
theorem dX1_readText_31 : decode cX1_readText 31 = .ok (.aload_n 0, 1) := by decide +kernel
theorem dX1_readText_32 : decode cX1_readText 32 = .ok (.invokevirtual 42, 3) := by decide +kernel
theorem dX1_readText_35 : decode cX1_readText 35 = .ok (.aload_n 0, 1) := by decide +kernel
theorem dX1_readText_36 : decode cX1_readText 36 = .ok (.invokevirtual 45, 3) := by decide +kernel
theorem dX1_readText_39 : decode cX1_readText 39 = .ok (.istore_n 2, 1) := by decide +kernel
theorem dX1_readText_40 : decode cX1_readText 40 = .ok (.iload_n 2, 1) := by decide +kernel
theorem dX1_readText_41 : decode cX1_readText 41 = .ok (.ldc 49, 2) := by decide +kernel
theorem dX1_readText_43 : decode cX1_readText 43 = .ok (.if_icmp .ne 8, 3) := by decide +kernel
theorem dX1_readText_46 : decode cX1_readText 46 = .ok (.aload_n 0, 1) := by decide +kernel
theorem dX1_readText_47 : decode cX1_readText 47 = .ok (.getfield 50, 3) := by decide +kernel
theorem dX1_readText_50 : decode cX1_readText 50 = .ok (.ireturn, 1) := by decide +kernel
set_option maxRecDepth 20000 in
theorem ggX1_advance_X1_sortAt : GoodIn wsX1_advance wsX1_sortAt := goodIn_r _ [10, 4, 5, 11, 12, 13, 14, 15, 16, 17, 18] (by decide +kernel) (by decide +kernel)
set_option maxRecDepth 20000 in
theorem gX1_advance_X1_sortAt : GoodIn wsX1_advance (wsV RX1 61 RX1 yX1_sortAt wsX1_sortAt) := goodIn_app (goodIn_of _ (by decide +kernel)) ggX1_advance_X1_sortAt
theorem dX1_advance_0 : decode cX1_advance 0 = .ok (.aload_n 0, 1) := by decide +kernel
theorem dX1_advance_1 : decode cX1_advance 1 = .ok (.getfield 30, 3) := by decide +kernel
theorem dX1_advance_4 : decode cX1_advance 4 = .ok (.iconst 1, 1) := by decide +kernel
theorem dX1_advance_5 : decode cX1_advance 5 = .ok (.if_icmp .eq 11, 3) := by decide +kernel
theorem dX1_advance_8 : decode cX1_advance 8 = .ok (.aload_n 0, 1) := by decide +kernel
theorem dX1_advance_9 : decode cX1_advance 9 = .ok (.getfield 30, 3) := by decide +kernel
theorem dX1_advance_12 : decode cX1_advance 12 = .ok (.iconst 2, 1) := by decide +kernel
theorem dX1_advance_13 : decode cX1_advance 13 = .ok (.if_icmp .ne 7, 3) := by decide +kernel
theorem dX1_advance_20 : decode cX1_advance 20 = .ok (.iconst 0, 1) := by decide +kernel
theorem dX1_advance_21 : decode cX1_advance 21 = .ok (.istore_n 1, 1) := by decide +kernel
theorem dX1_advance_22 : decode cX1_advance 22 = .ok (.aload_n 0, 1) := by decide +kernel
theorem dX1_advance_23 : decode cX1_advance 23 = .ok (.getfield 33, 3) := by decide +kernel
theorem dX1_advance_26 : decode cX1_advance 26 = .ok (.istore_n 2, 1) := by decide +kernel
theorem dX1_advance_27 : decode cX1_advance 27 = .ok (.aload_n 0, 1) := by decide +kernel
theorem dX1_advance_28 : decode cX1_advance 28 = .ok (.aload_n 0, 1) := by decide +kernel
theorem dX1_advance_29 : decode cX1_advance 29 = .ok (.getfield 33, 3) := by decide +kernel
theorem dX1_advance_32 : decode cX1_advance 32 = .ok (.putfield 50, 3) := by decide +kernel
theorem dX1_advance_35 : decode cX1_advance 35 = .ok (.aload_n 0, 1) := by decide +kernel
theorem dX1_advance_36 : decode cX1_advance 36 = .ok (.getfield 50, 3) := by decide +kernel
theorem dX1_advance_39 : decode cX1_advance 39 = .ok (.aload_n 0, 1) := by decide +kernel
theorem dX1_advance_40 : decode cX1_advance 40 = .ok (.getfield 26, 3) := by decide +kernel
theorem dX1_advance_43 : decode cX1_advance 43 = .ok (.if_icmp .ge 30, 3) := by decide +kernel
theorem dX1_advance_73 : decode cX1_advance 73 = .ok (.aload_n 0, 1) := by decide +kernel
theorem dX1_advance_74 : decode cX1_advance 74 = .ok (.aload_n 0, 1) := by decide +kernel
theorem dX1_advance_75 : decode cX1_advance 75 = .ok (.getfield 50, 3) := by decide +kernel
theorem dX1_advance_78 : decode cX1_advance 78 = .ok (.putfield 33, 3) := by decide +kernel
theorem dX1_advance_81 : decode cX1_advance 81 = .ok (.aload_n 0, 1) := by decide +kernel
theorem dX1_advance_82 : decode cX1_advance 82 = .ok (.aload_n 0, 1) := by decide +kernel
theorem dX1_advance_83 : decode cX1_advance 83 = .ok (.aload_n 0, 1) := by decide +kernel
theorem dX1_advance_84 : decode cX1_advance 84 = .ok (.getfield 50, 3) := by decide +kernel
theorem dX1_advance_87 : decode cX1_advance 87 = .ok (.invokevirtual 61, 3) := by decide +kernel
theorem dX1_advance_90 : decode cX1_advance 90 = .ok (.putfield 30, 3) := by decide +kernel
theorem dX1_advance_93 : decode cX1_advance 93 = .ok (.aload_n 0, 1) := by decide +kernel
theorem dX1_advance_94 : decode cX1_advance 94 = .ok (.getfield 30, 3) := by decide +kernel
theorem dX1_advance_97 : decode cX1_advance 97 = .ok (.ifCond .ne 4, 3) := by decide +kernel
theorem dX1_advance_100 : decode cX1_advance 100 = .ok (.return_, 1) := by decide +kernel
theorem dX1_sortAt_0 : decode cX1_sortAt 0 = .ok (.iload_n 1, 1) := by decide +kernel
theorem dX1_sortAt_1 : decode cX1_sortAt 1 = .ok (.ifCond .lt 11, 3) := by decide +kernel
theorem dX1_sortAt_4 : decode cX1_sortAt 4 = .ok (.iload_n 1, 1) := by decide +kernel
theorem dX1_sortAt_5 : decode cX1_sortAt 5 = .ok (.aload_n 0, 1) := by decide +kernel
theorem dX1_sortAt_6 : decode cX1_sortAt 6 = .ok (.getfield 26, 3) := by decide +kernel
theorem dX1_sortAt_9 : decode cX1_sortAt 9 = .ok (.if_icmp .lt 5, 3) := by decide +kernel
theorem dX1_sortAt_12 : decode cX1_sortAt 12 = .ok (.iconst 0, 1) := by decide +kernel
theorem dX1_sortAt_13 : decode cX1_sortAt 13 = .ok (.ireturn, 1) := by decide +kernel
set_option maxRecDepth 20000 in
theorem ggX1_keyHere_X1_isWord : GoodIn wsX1_keyHere wsX1_isWord := goodIn_r _ [6, 7, 8, 9, 10, 11, 12, 13, 14, 15, 16, 17, 18, 19, 20, 21, 22, 23, 24, 25, 5, 26, 27, 28, 29, 30, 31, 32, 33, 34, 35, 36, 37, 38, 39, 40, 41, 42, 43, 44, 45, 46, 47, 48, 49, 50, 51, 52, 53, 54, 55, 56, 57, 58, 59, 60, 61, 62, 63, 64, 65, 66, 67, 68, 69, 70, 71, 72] (by decide +kernel) (by decide +kernel)
set_option maxRecDepth 20000 in
theorem gX1_keyHere_X1_isWord : GoodIn wsX1_keyHere (wsV RX1 67 RX1 yX1_isWord wsX1_isWord) := goodIn_app (goodIn_of _ (by decide +kernel)) ggX1_keyHere_X1_isWord
theorem dX1_keyHere_0 : decode cX1_keyHere 0 = .ok (.aload_n 0, 1) := by decide +kernel
theorem dX1_keyHere_1 : decode cX1_keyHere 1 = .ok (.ldc 65, 2) := by decide +kernel
theorem dX1_keyHere_3 : decode cX1_keyHere 3 = .ok (.invokevirtual 67, 3) := by decide +kernel
theorem dX1_keyHere_6 : decode cX1_keyHere 6 = .ok (.ifCond .eq 5, 3) := by decide +kernel
theorem dX1_keyHere_11 : decode cX1_keyHere 11 = .ok (.aload_n 0, 1) := by decide +kernel
theorem dX1_keyHere_12 : decode cX1_keyHere 12 = .ok (.ldc 71, 2) := by decide +kernel
theorem dX1_keyHere_14 : decode cX1_keyHere 14 = .ok (.invokevirtual 67, 3) := by decide +kernel
theorem dX1_keyHere_17 : decode cX1_keyHere 17 = .ok (.ifCond .eq 5, 3) := by decide +kernel
theorem dX1_keyHere_22 : decode cX1_keyHere 22 = .ok (.aload_n 0, 1) := by decide +kernel
theorem dX1_keyHere_23 : decode cX1_keyHere 23 = .ok (.ldc 73, 2) := by decide +kernel
theorem dX1_keyHere_25 : decode cX1_keyHere 25 = .ok (.invokevirtual 67, 3) := by decide +kernel
theorem dX1_keyHere_28 : decode cX1_keyHere 28 = .ok (.ifCond .eq 7, 3) := by decide +kernel
theorem dX1_keyHere_35 : decode cX1_keyHere 35 = .ok (.ldc 49, 2) := by decide +kernel
theorem dX1_keyHere_37 : decode cX1_keyHere 37 = .ok (.ireturn, 1) := by decide +kernel
theorem dX1_isWord_0 : decode cX1_isWord 0 = .ok (.aload_n 0, 1) := by decide +kernel
theorem dX1_isWord_1 : decode cX1_isWord 1 = .ok (.getfield 30, 3) := by decide +kernel
theorem dX1_isWord_4 : decode cX1_isWord 4 = .ok (.iconst 1, 1) := by decide +kernel
theorem dX1_isWord_5 : decode cX1_isWord 5 = .ok (.if_icmp .ne 19, 3) := by decide +kernel
theorem dX1_isWord_24 : decode cX1_isWord 24 = .ok (.iconst 0, 1) := by decide +kernel
theorem dX1_isWord_25 : decode cX1_isWord 25 = .ok (.ireturn, 1) := by decide +kernel
theorem dX2_init_0 : decode cX2_init 0 = .ok (.aload_n 0, 1) := by decide +kernel
theorem dX2_init_1 : decode cX2_init 1 = .ok (.invokespecial 3, 3) := by decide +kernel
theorem dX2_init_4 : decode cX2_init 4 = .ok (.aload_n 0, 1) := by decide +kernel
theorem dX2_init_5 : decode cX2_init 5 = .ok (.iconst (-1), 1) := by decide +kernel
theorem dX2_init_6 : decode cX2_init 6 = .ok (.putfield 9, 3) := by decide +kernel
theorem dX2_init_9 : decode cX2_init 9 = .ok (.aload_n 0, 1) := by decide +kernel
theorem dX2_init_10 : decode cX2_init 10 = .ok (.bipush 24, 2) := by decide +kernel
theorem dX2_init_12 : decode cX2_init 12 = .ok (.newarray .int, 2) := by decide +kernel
theorem dX2_init_14 : decode cX2_init 14 = .ok (.putfield 15, 3) := by decide +kernel
theorem dX2_init_17 : decode cX2_init 17 = .ok (.return_, 1) := by decide +kernel
set_option maxRecDepth 20000 in
theorem ggX2_become_X6_held : GoodIn wsX2_become wsX6_held := goodIn_r _ [6, 7, 8, 9, 10, 11, 12, 13] (by decide +kernel) (by decide +kernel)
set_option maxRecDepth 20000 in
theorem gX2_become_X6_held_n19 : GoodIn wsX2_become (wsX6_held) := ggX2_become_X6_held
theorem dX2_become_0 : decode cX2_become 0 = .ok (.aload_n 0, 1) := by decide +kernel
theorem dX2_become_1 : decode cX2_become 1 = .ok (.iload_n 1, 1) := by decide +kernel
theorem dX2_become_2 : decode cX2_become 2 = .ok (.putfield 9, 3) := by decide +kernel
theorem dX2_become_5 : decode cX2_become 5 = .ok (.aload_n 0, 1) := by decide +kernel
theorem dX2_become_6 : decode cX2_become 6 = .ok (.iload_n 2, 1) := by decide +kernel
theorem dX2_become_7 : decode cX2_become 7 = .ok (.iconst 0, 1) := by decide +kernel
theorem dX2_become_8 : decode cX2_become 8 = .ok (.bipush 24, 2) := by decide +kernel
theorem dX2_become_10 : decode cX2_become 10 = .ok (.invokestatic 19, 3) := by decide +kernel
theorem dX2_become_13 : decode cX2_become 13 = .ok (.putfield 23, 3) := by decide +kernel
theorem dX2_become_16 : decode cX2_become 16 = .ok (.iconst 0, 1) := by decide +kernel
theorem dX2_become_17 : decode cX2_become 17 = .ok (.istore_n 3, 1) := by decide +kernel
theorem dX2_become_18 : decode cX2_become 18 = .ok (.iload_n 3, 1) := by decide +kernel
theorem dX2_become_19 : decode cX2_become 19 = .ok (.bipush 24, 2) := by decide +kernel
theorem dX2_become_21 : decode cX2_become 21 = .ok (.if_icmp .ge 16, 3) := by decide +kernel
theorem dX2_become_24 : decode cX2_become 24 = .ok (.aload_n 0, 1) := by decide +kernel
theorem dX2_become_25 : decode cX2_become 25 = .ok (.getfield 15, 3) := by decide +kernel
theorem dX2_become_28 : decode cX2_become 28 = .ok (.iload_n 3, 1) := by decide +kernel
theorem dX2_become_29 : decode cX2_become 29 = .ok (.iconst 0, 1) := by decide +kernel
theorem dX2_become_30 : decode cX2_become 30 = .ok (.iastore, 1) := by decide +kernel
theorem dX2_become_31 : decode cX2_become 31 = .ok (.iinc 3 1, 3) := by decide +kernel
theorem dX2_become_34 : decode cX2_become 34 = .ok (.goto (-16), 3) := by decide +kernel
theorem dX2_become_37 : decode cX2_become 37 = .ok (.return_, 1) := by decide +kernel
theorem dX2_isMissing_0 : decode cX2_isMissing 0 = .ok (.aload_n 0, 1) := by decide +kernel
theorem dX2_isMissing_1 : decode cX2_isMissing 1 = .ok (.getfield 9, 3) := by decide +kernel
theorem dX2_isMissing_4 : decode cX2_isMissing 4 = .ok (.iconst (-1), 1) := by decide +kernel
theorem dX2_isMissing_5 : decode cX2_isMissing 5 = .ok (.if_icmp .ne 7, 3) := by decide +kernel
theorem dX2_isMissing_8 : decode cX2_isMissing 8 = .ok (.iconst 1, 1) := by decide +kernel
theorem dX2_isMissing_9 : decode cX2_isMissing 9 = .ok (.goto 4, 3) := by decide +kernel
theorem dX2_isMissing_13 : decode cX2_isMissing 13 = .ok (.ireturn, 1) := by decide +kernel
set_option maxRecDepth 20000 in
theorem ggX3_init_X4_init : GoodIn wsX3_init wsX4_init := goodIn_r _ [14, 15, 2, 3] (by decide +kernel) (by decide +kernel)
set_option maxRecDepth 20000 in
theorem gX3_init_X4_init_n17 : GoodIn wsX3_init (wsX4_init) := ggX3_init_X4_init
set_option maxRecDepth 20000 in
theorem ggX3_init_X2_init : GoodIn wsX3_init wsX2_init := goodIn_r _ [17, 18, 2, 3, 19, 20, 21, 30, 31, 32] (by decide +kernel) (by decide +kernel)
set_option maxRecDepth 20000 in
theorem gX3_init_X2_init_n24 : GoodIn wsX3_init (wsX2_init) := ggX3_init_X2_init
theorem dX3_init_0 : decode cX3_init 0 = .ok (.aload_n 0, 1) := by decide +kernel
theorem dX3_init_1 : decode cX3_init 1 = .ok (.invokespecial 3, 3) := by decide +kernel
theorem dX3_init_4 : decode cX3_init 4 = .ok (.aload_n 0, 1) := by decide +kernel
theorem dX3_init_5 : decode cX3_init 5 = .ok (.iconst 0, 1) := by decide +kernel
theorem dX3_init_6 : decode cX3_init 6 = .ok (.putfield 9, 3) := by decide +kernel
theorem dX3_init_9 : decode cX3_init 9 = .ok (.aload_n 0, 1) := by decide +kernel
theorem dX3_init_10 : decode cX3_init 10 = .ok (.new 15, 3) := by decide +kernel
theorem dX3_init_13 : decode cX3_init 13 = .ok (.dup, 1) := by decide +kernel
theorem dX3_init_14 : decode cX3_init 14 = .ok (.invokespecial 17, 3) := by decide +kernel
theorem dX3_init_17 : decode cX3_init 17 = .ok (.putfield 18, 3) := by decide +kernel
theorem dX3_init_20 : decode cX3_init 20 = .ok (.aload_n 0, 1) := by decide +kernel
theorem dX3_init_21 : decode cX3_init 21 = .ok (.new 22, 3) := by decide +kernel
theorem dX3_init_24 : decode cX3_init 24 = .ok (.dup, 1) := by decide +kernel
theorem dX3_init_25 : decode cX3_init 25 = .ok (.invokespecial 24, 3) := by decide +kernel
theorem dX3_init_28 : decode cX3_init 28 = .ok (.putfield 25, 3) := by decide +kernel
theorem dX3_init_31 : decode cX3_init 31 = .ok (.return_, 1) := by decide +kernel
theorem dX3_refuses_0 : decode cX3_refuses 0 = .ok (.aload_n 0, 1) := by decide +kernel
theorem dX3_refuses_1 : decode cX3_refuses 1 = .ok (.getfield 9, 3) := by decide +kernel
theorem dX3_refuses_4 : decode cX3_refuses 4 = .ok (.ifCond .ne 6, 3) := by decide +kernel
theorem dX3_refuses_7 : decode cX3_refuses 7 = .ok (.ldc 29, 2) := by decide +kernel
theorem dX3_refuses_9 : decode cX3_refuses 9 = .ok (.ireturn, 1) := by decide +kernel
theorem dX4_init_0 : decode cX4_init 0 = .ok (.aload_n 0, 1) := by decide +kernel
theorem dX4_init_1 : decode cX4_init 1 = .ok (.invokespecial 3, 3) := by decide +kernel
theorem dX4_init_4 : decode cX4_init 4 = .ok (.return_, 1) := by decide +kernel
theorem dX5_init_0 : decode cX5_init 0 = .ok (.aload_n 0, 1) := by decide +kernel
theorem dX5_init_1 : decode cX5_init 1 = .ok (.invokespecial 3, 3) := by decide +kernel
theorem dX5_init_4 : decode cX5_init 4 = .ok (.aload_n 0, 1) := by decide +kernel
theorem dX5_init_5 : decode cX5_init 5 = .ok (.bipush 96, 2) := by decide +kernel
theorem dX5_init_7 : decode cX5_init 7 = .ok (.newarray .int, 2) := by decide +kernel
theorem dX5_init_9 : decode cX5_init 9 = .ok (.putfield 9, 3) := by decide +kernel
theorem dX5_init_12 : decode cX5_init 12 = .ok (.aload_n 0, 1) := by decide +kernel
theorem dX5_init_13 : decode cX5_init 13 = .ok (.bipush 96, 2) := by decide +kernel
theorem dX5_init_15 : decode cX5_init 15 = .ok (.newarray .int, 2) := by decide +kernel
theorem dX5_init_17 : decode cX5_init 17 = .ok (.putfield 15, 3) := by decide +kernel
theorem dX5_init_20 : decode cX5_init 20 = .ok (.return_, 1) := by decide +kernel
set_option maxRecDepth 20000 in
theorem ggX6_init_X5_init : GoodIn wsX6_init wsX5_init := goodIn_r _ [31, 32, 2, 3, 10, 33, 34, 88, 89, 90, 91, 92] (by decide +kernel) (by decide +kernel)
set_option maxRecDepth 20000 in
theorem gX6_init_X5_init_n33 : GoodIn wsX6_init (wsX5_init) := ggX6_init_X5_init
set_option maxRecDepth 20000 in
theorem ggX6_init_X0_init : GoodIn wsX6_init wsX0_init := goodIn_r _ [37, 38, 2, 3, 39, 40, 10, 41, 42, 43, 44, 45, 46, 47, 48, 49, 50, 51, 52, 93, 94, 95, 96, 97, 98, 99, 100, 101, 102, 103, 104, 105, 106, 122, 123, 124, 125] (by decide +kernel) (by decide +kernel)
set_option maxRecDepth 20000 in
theorem gX6_init_X0_init : GoodIn wsX6_init (wsX0_init) := ggX6_init_X0_init
set_option maxRecDepth 20000 in
theorem ggX6_init_X2_init : GoodIn wsX6_init wsX2_init := goodIn_r _ [54, 55, 2, 3, 56, 10, 57, 107, 108, 109] (by decide +kernel) (by decide +kernel)
set_option maxRecDepth 20000 in
theorem gX6_init_X2_init_n37 : GoodIn wsX6_init (wsX2_init) := ggX6_init_X2_init
set_option maxRecDepth 20000 in
theorem ggX6_init_X3_init : GoodIn wsX6_init wsX3_init := goodIn_r _ [59, 60, 2, 3, 61, 62, 48, 49, 63, 64, 17, 18, 65, 50, 51, 52, 53, 54, 55, 56, 10, 57, 110, 111, 112, 113, 122, 123, 124, 125, 107, 108, 109] (by decide +kernel) (by decide +kernel)
set_option maxRecDepth 20000 in
theorem gX6_init_X3_init_n38 : GoodIn wsX6_init (wsX3_init) := ggX6_init_X3_init
set_option maxRecDepth 20000 in
theorem ggX6_init_X1_init : GoodIn wsX6_init wsX1_init := goodIn_r _ [68, 69, 2, 3, 70, 13, 14, 71, 72, 30, 31, 32, 10, 33, 34, 88, 89, 90, 91, 92, 114, 115, 116, 117, 118, 119, 120, 121] (by decide +kernel) (by decide +kernel)
set_option maxRecDepth 20000 in
theorem gX6_init_X1_init : GoodIn wsX6_init (wsX1_init) := ggX6_init_X1_init
theorem dX6_init_0 : decode cX6_init 0 = .ok (.aload_n 0, 1) := by decide +kernel
theorem dX6_init_1 : decode cX6_init 1 = .ok (.invokespecial 1, 3) := by decide +kernel
theorem dX6_init_4 : decode cX6_init 4 = .ok (.aload_n 0, 1) := by decide +kernel
theorem dX6_init_5 : decode cX6_init 5 = .ok (.bipush 6, 2) := by decide +kernel
theorem dX6_init_7 : decode cX6_init 7 = .ok (.anewarray 9, 3) := by decide +kernel
theorem dX6_init_10 : decode cX6_init 10 = .ok (.putfield 11, 3) := by decide +kernel
theorem dX6_init_13 : decode cX6_init 13 = .ok (.aload_n 0, 1) := by decide +kernel
theorem dX6_init_14 : decode cX6_init 14 = .ok (.iconst 4, 1) := by decide +kernel
theorem dX6_init_15 : decode cX6_init 15 = .ok (.anewarray 15, 3) := by decide +kernel
theorem dX6_init_18 : decode cX6_init 18 = .ok (.putfield 17, 3) := by decide +kernel
theorem dX6_init_21 : decode cX6_init 21 = .ok (.aload_n 0, 1) := by decide +kernel
theorem dX6_init_22 : decode cX6_init 22 = .ok (.iconst 5, 1) := by decide +kernel
theorem dX6_init_23 : decode cX6_init 23 = .ok (.anewarray 21, 3) := by decide +kernel
theorem dX6_init_26 : decode cX6_init 26 = .ok (.putfield 23, 3) := by decide +kernel
theorem dX6_init_29 : decode cX6_init 29 = .ok (.aload_n 0, 1) := by decide +kernel
theorem dX6_init_30 : decode cX6_init 30 = .ok (.bipush 60, 2) := by decide +kernel
theorem dX6_init_32 : decode cX6_init 32 = .ok (.newarray .int, 2) := by decide +kernel
theorem dX6_init_34 : decode cX6_init 34 = .ok (.putfield 27, 3) := by decide +kernel
theorem dX6_init_37 : decode cX6_init 37 = .ok (.bipush 14, 2) := by decide +kernel
theorem dX6_init_39 : decode cX6_init 39 = .ok (.anewarray 31, 3) := by decide +kernel
theorem dX6_init_42 : decode cX6_init 42 = .ok (.astore_n 1, 1) := by decide +kernel
theorem dX6_init_43 : decode cX6_init 43 = .ok (.iconst 0, 1) := by decide +kernel
theorem dX6_init_44 : decode cX6_init 44 = .ok (.istore_n 2, 1) := by decide +kernel
theorem dX6_init_45 : decode cX6_init 45 = .ok (.iload_n 2, 1) := by decide +kernel
theorem dX6_init_46 : decode cX6_init 46 = .ok (.bipush 14, 2) := by decide +kernel
theorem dX6_init_48 : decode cX6_init 48 = .ok (.if_icmp .ge 19, 3) := by decide +kernel
theorem dX6_init_51 : decode cX6_init 51 = .ok (.aload_n 1, 1) := by decide +kernel
theorem dX6_init_52 : decode cX6_init 52 = .ok (.iload_n 2, 1) := by decide +kernel
theorem dX6_init_53 : decode cX6_init 53 = .ok (.new 31, 3) := by decide +kernel
theorem dX6_init_56 : decode cX6_init 56 = .ok (.dup, 1) := by decide +kernel
theorem dX6_init_57 : decode cX6_init 57 = .ok (.invokespecial 33, 3) := by decide +kernel
theorem dX6_init_60 : decode cX6_init 60 = .ok (.aastore, 1) := by decide +kernel
theorem dX6_init_61 : decode cX6_init 61 = .ok (.iinc 2 1, 3) := by decide +kernel
theorem dX6_init_64 : decode cX6_init 64 = .ok (.goto (-19), 3) := by decide +kernel
theorem dX6_init_67 : decode cX6_init 67 = .ok (.bipush 96, 2) := by decide +kernel
theorem dX6_init_69 : decode cX6_init 69 = .ok (.newarray .int, 2) := by decide +kernel
theorem dX6_init_71 : decode cX6_init 71 = .ok (.astore_n 2, 1) := by decide +kernel
theorem dX6_init_72 : decode cX6_init 72 = .ok (.iconst 0, 1) := by decide +kernel
theorem dX6_init_73 : decode cX6_init 73 = .ok (.istore_n 3, 1) := by decide +kernel
theorem dX6_init_74 : decode cX6_init 74 = .ok (.iload_n 3, 1) := by decide +kernel
theorem dX6_init_75 : decode cX6_init 75 = .ok (.iconst 5, 1) := by decide +kernel
theorem dX6_init_76 : decode cX6_init 76 = .ok (.if_icmp .gt 23, 3) := by decide +kernel
theorem dX6_init_79 : decode cX6_init 79 = .ok (.aload_n 0, 1) := by decide +kernel
theorem dX6_init_80 : decode cX6_init 80 = .ok (.getfield 11, 3) := by decide +kernel
theorem dX6_init_83 : decode cX6_init 83 = .ok (.iload_n 3, 1) := by decide +kernel
theorem dX6_init_84 : decode cX6_init 84 = .ok (.new 9, 3) := by decide +kernel
theorem dX6_init_87 : decode cX6_init 87 = .ok (.dup, 1) := by decide +kernel
theorem dX6_init_88 : decode cX6_init 88 = .ok (.aload_n 1, 1) := by decide +kernel
theorem dX6_init_89 : decode cX6_init 89 = .ok (.invokespecial 34, 3) := by decide +kernel
theorem dX6_init_92 : decode cX6_init 92 = .ok (.aastore, 1) := by decide +kernel
theorem dX6_init_93 : decode cX6_init 93 = .ok (.iinc 3 1, 3) := by decide +kernel
theorem dX6_init_96 : decode cX6_init 96 = .ok (.goto (-22), 3) := by decide +kernel
theorem dX6_init_99 : decode cX6_init 99 = .ok (.iconst 0, 1) := by decide +kernel
theorem dX6_init_100 : decode cX6_init 100 = .ok (.istore_n 3, 1) := by decide +kernel
theorem dX6_init_101 : decode cX6_init 101 = .ok (.iload_n 3, 1) := by decide +kernel
theorem dX6_init_102 : decode cX6_init 102 = .ok (.iconst 4, 1) := by decide +kernel
theorem dX6_init_103 : decode cX6_init 103 = .ok (.if_icmp .ge 22, 3) := by decide +kernel
theorem dX6_init_106 : decode cX6_init 106 = .ok (.aload_n 0, 1) := by decide +kernel
theorem dX6_init_107 : decode cX6_init 107 = .ok (.getfield 17, 3) := by decide +kernel
theorem dX6_init_110 : decode cX6_init 110 = .ok (.iload_n 3, 1) := by decide +kernel
theorem dX6_init_111 : decode cX6_init 111 = .ok (.new 15, 3) := by decide +kernel
theorem dX6_init_114 : decode cX6_init 114 = .ok (.dup, 1) := by decide +kernel
theorem dX6_init_115 : decode cX6_init 115 = .ok (.invokespecial 37, 3) := by decide +kernel
theorem dX6_init_118 : decode cX6_init 118 = .ok (.aastore, 1) := by decide +kernel
theorem dX6_init_119 : decode cX6_init 119 = .ok (.iinc 3 1, 3) := by decide +kernel
theorem dX6_init_122 : decode cX6_init 122 = .ok (.goto (-21), 3) := by decide +kernel
theorem dX6_init_125 : decode cX6_init 125 = .ok (.iconst 0, 1) := by decide +kernel
theorem dX6_init_126 : decode cX6_init 126 = .ok (.istore_n 3, 1) := by decide +kernel
theorem dX6_init_127 : decode cX6_init 127 = .ok (.iload_n 3, 1) := by decide +kernel
theorem dX6_init_128 : decode cX6_init 128 = .ok (.iconst 5, 1) := by decide +kernel
theorem dX6_init_129 : decode cX6_init 129 = .ok (.if_icmp .ge 22, 3) := by decide +kernel
theorem dX6_init_132 : decode cX6_init 132 = .ok (.aload_n 0, 1) := by decide +kernel
theorem dX6_init_133 : decode cX6_init 133 = .ok (.getfield 23, 3) := by decide +kernel
theorem dX6_init_136 : decode cX6_init 136 = .ok (.iload_n 3, 1) := by decide +kernel
theorem dX6_init_137 : decode cX6_init 137 = .ok (.new 21, 3) := by decide +kernel
theorem dX6_init_140 : decode cX6_init 140 = .ok (.dup, 1) := by decide +kernel
theorem dX6_init_141 : decode cX6_init 141 = .ok (.invokespecial 38, 3) := by decide +kernel
theorem dX6_init_144 : decode cX6_init 144 = .ok (.aastore, 1) := by decide +kernel
theorem dX6_init_145 : decode cX6_init 145 = .ok (.iinc 3 1, 3) := by decide +kernel
theorem dX6_init_148 : decode cX6_init 148 = .ok (.goto (-21), 3) := by decide +kernel
theorem dX6_init_151 : decode cX6_init 151 = .ok (.aload_n 0, 1) := by decide +kernel
theorem dX6_init_152 : decode cX6_init 152 = .ok (.new 9, 3) := by decide +kernel
theorem dX6_init_155 : decode cX6_init 155 = .ok (.dup, 1) := by decide +kernel
theorem dX6_init_156 : decode cX6_init 156 = .ok (.aload_n 1, 1) := by decide +kernel
theorem dX6_init_157 : decode cX6_init 157 = .ok (.invokespecial 34, 3) := by decide +kernel
theorem dX6_init_160 : decode cX6_init 160 = .ok (.putfield 39, 3) := by decide +kernel
theorem dX6_init_163 : decode cX6_init 163 = .ok (.aload_n 0, 1) := by decide +kernel
theorem dX6_init_164 : decode cX6_init 164 = .ok (.new 9, 3) := by decide +kernel
theorem dX6_init_167 : decode cX6_init 167 = .ok (.dup, 1) := by decide +kernel
theorem dX6_init_168 : decode cX6_init 168 = .ok (.aload_n 1, 1) := by decide +kernel
theorem dX6_init_169 : decode cX6_init 169 = .ok (.invokespecial 34, 3) := by decide +kernel
theorem dX6_init_172 : decode cX6_init 172 = .ok (.putfield 43, 3) := by decide +kernel
theorem dX6_init_175 : decode cX6_init 175 = .ok (.aload_n 0, 1) := by decide +kernel
theorem dX6_init_176 : decode cX6_init 176 = .ok (.new 9, 3) := by decide +kernel
theorem dX6_init_179 : decode cX6_init 179 = .ok (.dup, 1) := by decide +kernel
theorem dX6_init_180 : decode cX6_init 180 = .ok (.aload_n 1, 1) := by decide +kernel
theorem dX6_init_181 : decode cX6_init 181 = .ok (.invokespecial 34, 3) := by decide +kernel
theorem dX6_init_184 : decode cX6_init 184 = .ok (.putfield 46, 3) := by decide +kernel
theorem dX6_init_187 : decode cX6_init 187 = .ok (.aload_n 0, 1) := by decide +kernel
theorem dX6_init_188 : decode cX6_init 188 = .ok (.new 49, 3) := by decide +kernel
theorem dX6_init_191 : decode cX6_init 191 = .ok (.dup, 1) := by decide +kernel
theorem dX6_init_192 : decode cX6_init 192 = .ok (.aload_n 2, 1) := by decide +kernel
theorem dX6_init_193 : decode cX6_init 193 = .ok (.invokespecial 51, 3) := by decide +kernel
theorem dX6_init_196 : decode cX6_init 196 = .ok (.putfield 54, 3) := by decide +kernel
theorem dX6_init_199 : decode cX6_init 199 = .ok (.aload_n 0, 1) := by decide +kernel
theorem dX6_init_200 : decode cX6_init 200 = .ok (.aload_n 1, 1) := by decide +kernel
theorem dX6_init_201 : decode cX6_init 201 = .ok (.putfield 58, 3) := by decide +kernel
theorem dX6_init_204 : decode cX6_init 204 = .ok (.aload_n 0, 1) := by decide +kernel
theorem dX6_init_205 : decode cX6_init 205 = .ok (.aload_n 2, 1) := by decide +kernel
theorem dX6_init_206 : decode cX6_init 206 = .ok (.putfield 62, 3) := by decide +kernel
theorem dX6_init_209 : decode cX6_init 209 = .ok (.return_, 1) := by decide +kernel
set_option maxRecDepth 20000 in
theorem ggX6_stall_X6_within : GoodIn wsX6_stall wsX6_within := goodIn_r _ [8] (by decide +kernel) (by decide +kernel)
set_option maxRecDepth 20000 in
theorem gX6_stall_X6_within : GoodIn wsX6_stall (va_wsS RX6 65 yX6_within wsX6_within) := goodIn_app (goodIn_of _ (by decide +kernel)) ggX6_stall_X6_within
set_option maxRecDepth 20000 in
theorem ggX6_stall_X0_open : GoodIn wsX6_stall wsX0_open := goodIn_r _ [13, 14, 15, 16, 17, 18, 19, 20, 36, 37, 38, 39, 40, 41, 42, 43, 44, 45, 46, 47, 48, 49, 50, 51, 52, 53] (by decide +kernel) (by decide +kernel)
set_option maxRecDepth 20000 in
theorem gX6_stall_X0_open : GoodIn wsX6_stall (wsV RX6 75 RX0 yX0_open wsX0_open) := goodIn_app (goodIn_of _ (by decide +kernel)) ggX6_stall_X0_open
theorem dX6_stall_0 : decode cX6_stall 0 = .ok (.iload_n 1, 1) := by decide +kernel
theorem dX6_stall_1 : decode cX6_stall 1 = .ok (.iconst 0, 1) := by decide +kernel
theorem dX6_stall_2 : decode cX6_stall 2 = .ok (.iconst 5, 1) := by decide +kernel
theorem dX6_stall_3 : decode cX6_stall 3 = .ok (.invokestatic 65, 3) := by decide +kernel
theorem dX6_stall_6 : decode cX6_stall 6 = .ok (.ifCond .eq 23, 3) := by decide +kernel
theorem dX6_stall_9 : decode cX6_stall 9 = .ok (.iload_n 2, 1) := by decide +kernel
theorem dX6_stall_10 : decode cX6_stall 10 = .ok (.iconst 0, 1) := by decide +kernel
theorem dX6_stall_11 : decode cX6_stall 11 = .ok (.bipush 11, 2) := by decide +kernel
theorem dX6_stall_13 : decode cX6_stall 13 = .ok (.invokestatic 65, 3) := by decide +kernel
theorem dX6_stall_16 : decode cX6_stall 16 = .ok (.ifCond .eq 13, 3) := by decide +kernel
theorem dX6_stall_19 : decode cX6_stall 19 = .ok (.iload_n 3, 1) := by decide +kernel
theorem dX6_stall_20 : decode cX6_stall 20 = .ok (.iconst 0, 1) := by decide +kernel
theorem dX6_stall_21 : decode cX6_stall 21 = .ok (.bipush 99, 2) := by decide +kernel
theorem dX6_stall_23 : decode cX6_stall 23 = .ok (.invokestatic 65, 3) := by decide +kernel
theorem dX6_stall_26 : decode cX6_stall 26 = .ok (.ifCond .ne 6, 3) := by decide +kernel
theorem dX6_stall_29 : decode cX6_stall 29 = .ok (.ldc 69, 2) := by decide +kernel
theorem dX6_stall_31 : decode cX6_stall 31 = .ok (.ireturn, 1) := by decide +kernel
theorem dX6_stall_32 : decode cX6_stall 32 = .ok (.aload_n 0, 1) := by decide +kernel
theorem dX6_stall_33 : decode cX6_stall 33 = .ok (.getfield 39, 3) := by decide +kernel
theorem dX6_stall_36 : decode cX6_stall 36 = .ok (.getfield 70, 3) := by decide +kernel
theorem dX6_stall_39 : decode cX6_stall 39 = .ok (.bipush 9, 2) := by decide +kernel
theorem dX6_stall_41 : decode cX6_stall 41 = .ok (.if_icmp .lt 6, 3) := by decide +kernel
theorem dX6_stall_47 : decode cX6_stall 47 = .ok (.aload_n 0, 1) := by decide +kernel
theorem dX6_stall_48 : decode cX6_stall 48 = .ok (.getfield 39, 3) := by decide +kernel
theorem dX6_stall_51 : decode cX6_stall 51 = .ok (.iload_n 1, 1) := by decide +kernel
theorem dX6_stall_52 : decode cX6_stall 52 = .ok (.iload_n 2, 1) := by decide +kernel
theorem dX6_stall_53 : decode cX6_stall 53 = .ok (.iload_n 3, 1) := by decide +kernel
theorem dX6_stall_54 : decode cX6_stall 54 = .ok (.invokevirtual 75, 3) := by decide +kernel
theorem dX6_stall_57 : decode cX6_stall 57 = .ok (.ireturn, 1) := by decide +kernel
set_option maxRecDepth 20000 in
theorem ggX6_told_X6_isStall : GoodIn wsX6_told wsX6_isStall := goodIn_r _ [12, 2, 13, 14, 15, 11, 16, 90, 91, 92, 93, 94, 95, 96, 97, 98, 99, 100, 101, 102, 103, 104, 105, 106, 107, 108, 109, 110, 111, 112, 113, 114, 115, 116, 117, 118] (by decide +kernel) (by decide +kernel)
set_option maxRecDepth 20000 in
theorem gX6_told_X6_isStall : GoodIn wsX6_told (wsV RX6 79 RX6 yX6_isStall wsX6_isStall) := goodIn_app (goodIn_of _ (by decide +kernel)) ggX6_told_X6_isStall
theorem dX6_told_0 : decode cX6_told 0 = .ok (.aload_n 0, 1) := by decide +kernel
theorem dX6_told_1 : decode cX6_told 1 = .ok (.iload_n 1, 1) := by decide +kernel
theorem dX6_told_2 : decode cX6_told 2 = .ok (.invokevirtual 79, 3) := by decide +kernel
theorem dX6_told_5 : decode cX6_told 5 = .ok (.ifCond .ne 6, 3) := by decide +kernel
theorem dX6_told_8 : decode cX6_told 8 = .ok (.ldc 69, 2) := by decide +kernel
theorem dX6_told_10 : decode cX6_told 10 = .ok (.ireturn, 1) := by decide +kernel
set_option maxRecDepth 20000 in
theorem ggX6_as_X6_isStall : GoodIn wsX6_as wsX6_isStall := goodIn_r _ [10, 2, 11, 12, 13, 9, 14, 21, 22, 23, 24, 25, 26, 27, 28, 29, 30, 31, 32, 33, 34, 35, 36, 37, 38, 39, 40, 41, 42, 43, 44, 45, 46, 47, 48, 49] (by decide +kernel) (by decide +kernel)
set_option maxRecDepth 20000 in
theorem gX6_as_X6_isStall : GoodIn wsX6_as (wsV RX6 79 RX6 yX6_isStall wsX6_isStall) := goodIn_app (goodIn_of _ (by decide +kernel)) ggX6_as_X6_isStall
theorem dX6_as_0 : decode cX6_as 0 = .ok (.aload_n 0, 1) := by decide +kernel
theorem dX6_as_1 : decode cX6_as 1 = .ok (.iload_n 1, 1) := by decide +kernel
theorem dX6_as_2 : decode cX6_as 2 = .ok (.invokevirtual 79, 3) := by decide +kernel
theorem dX6_as_5 : decode cX6_as 5 = .ok (.ifCond .eq 12, 3) := by decide +kernel
theorem dX6_as_17 : decode cX6_as 17 = .ok (.ldc 69, 2) := by decide +kernel
theorem dX6_as_19 : decode cX6_as 19 = .ok (.ireturn, 1) := by decide +kernel
set_option maxRecDepth 20000 in
theorem ggX6_turns_X6_isStall : GoodIn wsX6_turns wsX6_isStall := goodIn_r _ [9, 2, 10, 11, 12, 8, 13, 14, 15, 16, 17, 18, 19, 20, 21, 22, 23, 24, 25, 26, 27, 28, 29, 30, 31, 32, 33, 34, 35, 36, 37, 38, 39, 40, 41, 42] (by decide +kernel) (by decide +kernel)
set_option maxRecDepth 20000 in
theorem gX6_turns_X6_isStall : GoodIn wsX6_turns (wsV RX6 79 RX6 yX6_isStall wsX6_isStall) := goodIn_app (goodIn_of _ (by decide +kernel)) ggX6_turns_X6_isStall
theorem dX6_turns_0 : decode cX6_turns 0 = .ok (.aload_n 0, 1) := by decide +kernel
theorem dX6_turns_1 : decode cX6_turns 1 = .ok (.iload_n 1, 1) := by decide +kernel
theorem dX6_turns_2 : decode cX6_turns 2 = .ok (.invokevirtual 79, 3) := by decide +kernel
theorem dX6_turns_5 : decode cX6_turns 5 = .ok (.ifCond .eq 12, 3) := by decide +kernel
theorem dX6_turns_17 : decode cX6_turns 17 = .ok (.ldc 69, 2) := by decide +kernel
theorem dX6_turns_19 : decode cX6_turns 19 = .ok (.ireturn, 1) := by decide +kernel
set_option maxRecDepth 20000 in
theorem ggX6_set_X6_isStall : GoodIn wsX6_set wsX6_isStall := goodIn_r _ [8, 2, 9, 10, 11, 7, 12, 25, 26, 27, 28, 29, 30, 31, 32, 33, 34, 35, 36, 37, 38, 39, 40, 41, 42, 43, 44, 45, 46, 47, 48, 49, 50, 51, 52, 53] (by decide +kernel) (by decide +kernel)
set_option maxRecDepth 20000 in
theorem gX6_set_X6_isStall : GoodIn wsX6_set (wsV RX6 79 RX6 yX6_isStall wsX6_isStall) := goodIn_app (goodIn_of _ (by decide +kernel)) ggX6_set_X6_isStall
theorem dX6_set_0 : decode cX6_set 0 = .ok (.aload_n 0, 1) := by decide +kernel
theorem dX6_set_1 : decode cX6_set 1 = .ok (.iload_n 1, 1) := by decide +kernel
theorem dX6_set_2 : decode cX6_set 2 = .ok (.invokevirtual 79, 3) := by decide +kernel
theorem dX6_set_5 : decode cX6_set 5 = .ok (.ifCond .ne 6, 3) := by decide +kernel
theorem dX6_set_8 : decode cX6_set 8 = .ok (.ldc 69, 2) := by decide +kernel
theorem dX6_set_10 : decode cX6_set 10 = .ok (.ireturn, 1) := by decide +kernel
set_option maxRecDepth 20000 in
theorem ggX6_cloth_X0_heat : GoodIn wsX6_cloth wsX0_heat := goodIn_r _ [11, 12, 13, 14, 15, 16, 58, 59, 60, 61, 62, 63, 64, 65, 66, 67, 68, 69, 70, 71] (by decide +kernel) (by decide +kernel)
set_option maxRecDepth 20000 in
theorem gX6_cloth_X0_heat : GoodIn wsX6_cloth (wsV RX6 138 RX0 yX0_heat wsX0_heat) := goodIn_app (goodIn_of _ (by decide +kernel)) ggX6_cloth_X0_heat
set_option maxRecDepth 20000 in
theorem ggX6_cloth_X0_firstShaded : GoodIn wsX6_cloth wsX0_firstShaded := goodIn_r _ [20, 21, 22, 23, 24, 10, 25, 26, 27, 28, 29, 30, 31, 32, 33, 34, 35, 12, 58, 59, 60, 61, 62, 63, 64, 65, 66, 67, 68, 69, 70, 71] (by decide +kernel) (by decide +kernel)
set_option maxRecDepth 20000 in
theorem gX6_cloth_X0_firstShaded : GoodIn wsX6_cloth (wsV RX6 141 RX0 yX0_firstShaded wsX0_firstShaded) := goodIn_app (goodIn_of _ (by decide +kernel)) ggX6_cloth_X0_firstShaded
set_option maxRecDepth 20000 in
theorem ggX6_cloth_X0_shadedSet : GoodIn wsX6_cloth wsX0_shadedSet := goodIn_r _ [39, 40, 41, 42, 22, 23, 24, 10, 25, 26, 27, 28, 29, 30, 31, 32, 33, 34, 35, 12, 58, 59, 60, 61, 62, 63, 64, 65, 66, 67, 68, 69, 70, 71, 72, 73, 74, 75] (by decide +kernel) (by decide +kernel)
set_option maxRecDepth 20000 in
theorem gX6_cloth_X0_shadedSet : GoodIn wsX6_cloth (wsV RX6 144 RX0 yX0_shadedSet wsX0_shadedSet) := goodIn_app (goodIn_of _ (by decide +kernel)) ggX6_cloth_X0_shadedSet
theorem dX6_cloth_0 : decode cX6_cloth 0 = .ok (.iload_n 1, 1) := by decide +kernel
theorem dX6_cloth_1 : decode cX6_cloth 1 = .ok (.tableswitch 99 0 6 #[43, 51, 59, 67, 75, 83, 91], 43) := by decide +kernel
theorem dX6_cloth_44 : decode cX6_cloth 44 = .ok (.aload_n 0, 1) := by decide +kernel
theorem dX6_cloth_45 : decode cX6_cloth 45 = .ok (.getfield 39, 3) := by decide +kernel
theorem dX6_cloth_48 : decode cX6_cloth 48 = .ok (.getfield 126, 3) := by decide +kernel
theorem dX6_cloth_51 : decode cX6_cloth 51 = .ok (.ireturn, 1) := by decide +kernel
theorem dX6_cloth_52 : decode cX6_cloth 52 = .ok (.aload_n 0, 1) := by decide +kernel
theorem dX6_cloth_53 : decode cX6_cloth 53 = .ok (.getfield 39, 3) := by decide +kernel
theorem dX6_cloth_56 : decode cX6_cloth 56 = .ok (.getfield 129, 3) := by decide +kernel
theorem dX6_cloth_59 : decode cX6_cloth 59 = .ok (.ireturn, 1) := by decide +kernel
theorem dX6_cloth_60 : decode cX6_cloth 60 = .ok (.aload_n 0, 1) := by decide +kernel
theorem dX6_cloth_61 : decode cX6_cloth 61 = .ok (.getfield 39, 3) := by decide +kernel
theorem dX6_cloth_64 : decode cX6_cloth 64 = .ok (.getfield 132, 3) := by decide +kernel
theorem dX6_cloth_67 : decode cX6_cloth 67 = .ok (.ireturn, 1) := by decide +kernel
theorem dX6_cloth_68 : decode cX6_cloth 68 = .ok (.aload_n 0, 1) := by decide +kernel
theorem dX6_cloth_69 : decode cX6_cloth 69 = .ok (.getfield 39, 3) := by decide +kernel
theorem dX6_cloth_72 : decode cX6_cloth 72 = .ok (.getfield 135, 3) := by decide +kernel
theorem dX6_cloth_75 : decode cX6_cloth 75 = .ok (.ireturn, 1) := by decide +kernel
theorem dX6_cloth_76 : decode cX6_cloth 76 = .ok (.aload_n 0, 1) := by decide +kernel
theorem dX6_cloth_77 : decode cX6_cloth 77 = .ok (.getfield 39, 3) := by decide +kernel
theorem dX6_cloth_80 : decode cX6_cloth 80 = .ok (.invokevirtual 138, 3) := by decide +kernel
theorem dX6_cloth_83 : decode cX6_cloth 83 = .ok (.ireturn, 1) := by decide +kernel
theorem dX6_cloth_84 : decode cX6_cloth 84 = .ok (.aload_n 0, 1) := by decide +kernel
theorem dX6_cloth_85 : decode cX6_cloth 85 = .ok (.getfield 39, 3) := by decide +kernel
theorem dX6_cloth_88 : decode cX6_cloth 88 = .ok (.invokevirtual 141, 3) := by decide +kernel
theorem dX6_cloth_91 : decode cX6_cloth 91 = .ok (.ireturn, 1) := by decide +kernel
theorem dX6_cloth_92 : decode cX6_cloth 92 = .ok (.aload_n 0, 1) := by decide +kernel
theorem dX6_cloth_93 : decode cX6_cloth 93 = .ok (.getfield 39, 3) := by decide +kernel
theorem dX6_cloth_96 : decode cX6_cloth 96 = .ok (.invokevirtual 144, 3) := by decide +kernel
theorem dX6_cloth_99 : decode cX6_cloth 99 = .ok (.ireturn, 1) := by decide +kernel
theorem dX6_cloth_100 : decode cX6_cloth 100 = .ok (.ldc 69, 2) := by decide +kernel
theorem dX6_cloth_102 : decode cX6_cloth 102 = .ok (.ireturn, 1) := by decide +kernel
set_option maxRecDepth 20000 in
theorem ggX6_rule_X6_ruleFirst : GoodIn wsX6_rule wsX6_ruleFirst := goodIn_r _ [6, 7, 1, 8, 9, 10, 11, 12, 13, 14, 15, 16, 5, 17, 48, 49, 50, 51, 52, 53, 54, 55, 56, 57, 58, 59, 60, 61, 62, 63, 64, 65, 66, 67, 68, 69, 70, 71, 72, 73, 74, 75, 76] (by decide +kernel) (by decide +kernel)
set_option maxRecDepth 20000 in
theorem gX6_rule_X6_ruleFirst : GoodIn wsX6_rule (wsV RX6 147 RX6 yX6_ruleFirst wsX6_ruleFirst) := goodIn_app (goodIn_of _ (by decide +kernel)) ggX6_rule_X6_ruleFirst
set_option maxRecDepth 20000 in
theorem ggX6_rule_X6_ruleWidth : GoodIn wsX6_rule wsX6_ruleWidth := goodIn_r _ [21, 1, 7, 22, 15, 16, 5, 17, 23, 24, 25, 12, 26, 14, 27, 28, 10, 11, 13, 29, 30, 31, 32, 33, 34, 35, 36, 37, 48, 49, 50, 51, 52, 53, 54, 55, 56, 57, 58, 59, 60, 61, 62, 63, 64, 65, 66, 67, 68, 69, 70, 71, 72, 73, 74, 75, 76] (by decide +kernel) (by decide +kernel)
set_option maxRecDepth 20000 in
theorem gX6_rule_X6_ruleWidth : GoodIn wsX6_rule (wsV RX6 151 RX6 yX6_ruleWidth wsX6_ruleWidth) := goodIn_app (goodIn_of _ (by decide +kernel)) ggX6_rule_X6_ruleWidth
set_option maxRecDepth 20000 in
theorem ggX6_rule_X6_ruleGust : GoodIn wsX6_rule wsX6_ruleGust := goodIn_r _ [41, 1, 7, 42, 15, 16, 5, 17, 48, 49, 50, 51, 52, 53, 54, 55, 56, 57, 58, 59, 60, 61, 62, 63, 64, 65, 66, 67, 68, 69, 70, 71, 72, 73, 74, 75, 76] (by decide +kernel) (by decide +kernel)
set_option maxRecDepth 20000 in
theorem gX6_rule_X6_ruleGust : GoodIn wsX6_rule (wsV RX6 154 RX6 yX6_ruleGust wsX6_ruleGust) := goodIn_app (goodIn_of _ (by decide +kernel)) ggX6_rule_X6_ruleGust
set_option maxRecDepth 20000 in
theorem ggX6_rule_X6_ruleMode : GoodIn wsX6_rule wsX6_ruleMode := goodIn_r _ [46, 1, 7, 47, 15, 16, 5, 17, 48, 49, 50, 51, 52, 53, 54, 55, 56, 57, 58, 59, 60, 61, 62, 63, 64, 65, 66, 67, 68, 69, 70, 71, 72, 73, 74, 75, 76] (by decide +kernel) (by decide +kernel)
set_option maxRecDepth 20000 in
theorem gX6_rule_X6_ruleMode : GoodIn wsX6_rule (wsV RX6 157 RX6 yX6_ruleMode wsX6_ruleMode) := goodIn_app (goodIn_of _ (by decide +kernel)) ggX6_rule_X6_ruleMode
theorem dX6_rule_0 : decode cX6_rule 0 = .ok (.iload_n 1, 1) := by decide +kernel
theorem dX6_rule_1 : decode cX6_rule 1 = .ok (.tableswitch 55 0 3 #[31, 37, 43, 49], 31) := by decide +kernel
theorem dX6_rule_32 : decode cX6_rule 32 = .ok (.aload_n 0, 1) := by decide +kernel
theorem dX6_rule_33 : decode cX6_rule 33 = .ok (.iload_n 2, 1) := by decide +kernel
theorem dX6_rule_34 : decode cX6_rule 34 = .ok (.invokevirtual 147, 3) := by decide +kernel
theorem dX6_rule_37 : decode cX6_rule 37 = .ok (.ireturn, 1) := by decide +kernel
theorem dX6_rule_38 : decode cX6_rule 38 = .ok (.aload_n 0, 1) := by decide +kernel
theorem dX6_rule_39 : decode cX6_rule 39 = .ok (.iload_n 2, 1) := by decide +kernel
theorem dX6_rule_40 : decode cX6_rule 40 = .ok (.invokevirtual 151, 3) := by decide +kernel
theorem dX6_rule_43 : decode cX6_rule 43 = .ok (.ireturn, 1) := by decide +kernel
theorem dX6_rule_44 : decode cX6_rule 44 = .ok (.aload_n 0, 1) := by decide +kernel
theorem dX6_rule_45 : decode cX6_rule 45 = .ok (.iload_n 2, 1) := by decide +kernel
theorem dX6_rule_46 : decode cX6_rule 46 = .ok (.invokevirtual 154, 3) := by decide +kernel
theorem dX6_rule_49 : decode cX6_rule 49 = .ok (.ireturn, 1) := by decide +kernel
theorem dX6_rule_50 : decode cX6_rule 50 = .ok (.aload_n 0, 1) := by decide +kernel
theorem dX6_rule_51 : decode cX6_rule 51 = .ok (.iload_n 2, 1) := by decide +kernel
theorem dX6_rule_52 : decode cX6_rule 52 = .ok (.invokevirtual 157, 3) := by decide +kernel
theorem dX6_rule_55 : decode cX6_rule 55 = .ok (.ireturn, 1) := by decide +kernel
theorem dX6_rule_56 : decode cX6_rule 56 = .ok (.ldc 69, 2) := by decide +kernel
theorem dX6_rule_58 : decode cX6_rule 58 = .ok (.ireturn, 1) := by decide +kernel
set_option maxRecDepth 20000 in
theorem ggX6_ruleFirst_X0_lastFirst : GoodIn wsX6_ruleFirst wsX0_lastFirst := goodIn_r _ [8, 9, 29, 30, 31, 32, 33, 34, 35, 36, 37, 38, 39, 40, 41, 42] (by decide +kernel) (by decide +kernel)
set_option maxRecDepth 20000 in
theorem gX6_ruleFirst_X0_lastFirst : GoodIn wsX6_ruleFirst (wsV RX6 160 RX0 yX0_lastFirst wsX0_lastFirst) := goodIn_app (goodIn_of _ (by decide +kernel)) ggX6_ruleFirst_X0_lastFirst
set_option maxRecDepth 20000 in
theorem ggX6_ruleFirst_X6_within : GoodIn wsX6_ruleFirst wsX6_within := goodIn_r _ [13] (by decide +kernel) (by decide +kernel)
set_option maxRecDepth 20000 in
theorem gX6_ruleFirst_X6_within : GoodIn wsX6_ruleFirst (va_wsS RX6 65 yX6_within wsX6_within) := goodIn_app (goodIn_of _ (by decide +kernel)) ggX6_ruleFirst_X6_within
theorem dX6_ruleFirst_0 : decode cX6_ruleFirst 0 = .ok (.iload_n 1, 1) := by decide +kernel
theorem dX6_ruleFirst_1 : decode cX6_ruleFirst 1 = .ok (.iconst 0, 1) := by decide +kernel
theorem dX6_ruleFirst_2 : decode cX6_ruleFirst 2 = .ok (.aload_n 0, 1) := by decide +kernel
theorem dX6_ruleFirst_3 : decode cX6_ruleFirst 3 = .ok (.getfield 39, 3) := by decide +kernel
theorem dX6_ruleFirst_6 : decode cX6_ruleFirst 6 = .ok (.invokevirtual 160, 3) := by decide +kernel
theorem dX6_ruleFirst_9 : decode cX6_ruleFirst 9 = .ok (.invokestatic 65, 3) := by decide +kernel
theorem dX6_ruleFirst_12 : decode cX6_ruleFirst 12 = .ok (.ifCond .ne 6, 3) := by decide +kernel
theorem dX6_ruleFirst_15 : decode cX6_ruleFirst 15 = .ok (.ldc 69, 2) := by decide +kernel
theorem dX6_ruleFirst_17 : decode cX6_ruleFirst 17 = .ok (.ireturn, 1) := by decide +kernel
theorem dX6_ruleFirst_18 : decode cX6_ruleFirst 18 = .ok (.aload_n 0, 1) := by decide +kernel
theorem dX6_ruleFirst_19 : decode cX6_ruleFirst 19 = .ok (.getfield 39, 3) := by decide +kernel
theorem dX6_ruleFirst_22 : decode cX6_ruleFirst 22 = .ok (.getfield 126, 3) := by decide +kernel
theorem dX6_ruleFirst_25 : decode cX6_ruleFirst 25 = .ok (.istore_n 2, 1) := by decide +kernel
theorem dX6_ruleFirst_26 : decode cX6_ruleFirst 26 = .ok (.aload_n 0, 1) := by decide +kernel
theorem dX6_ruleFirst_27 : decode cX6_ruleFirst 27 = .ok (.getfield 39, 3) := by decide +kernel
theorem dX6_ruleFirst_30 : decode cX6_ruleFirst 30 = .ok (.iload_n 1, 1) := by decide +kernel
theorem dX6_ruleFirst_31 : decode cX6_ruleFirst 31 = .ok (.putfield 126, 3) := by decide +kernel
theorem dX6_ruleFirst_34 : decode cX6_ruleFirst 34 = .ok (.iload_n 2, 1) := by decide +kernel
theorem dX6_ruleFirst_35 : decode cX6_ruleFirst 35 = .ok (.ireturn, 1) := by decide +kernel
set_option maxRecDepth 20000 in
theorem ggX6_ruleWidth_X6_within : GoodIn wsX6_ruleWidth wsX6_within := goodIn_r _ [7] (by decide +kernel) (by decide +kernel)
set_option maxRecDepth 20000 in
theorem gX6_ruleWidth_X6_within : GoodIn wsX6_ruleWidth (va_wsS RX6 65 yX6_within wsX6_within) := goodIn_app (goodIn_of _ (by decide +kernel)) ggX6_ruleWidth_X6_within
set_option maxRecDepth 20000 in
theorem ggX6_ruleWidth_X0_widen : GoodIn wsX6_ruleWidth wsX0_widen := goodIn_r _ [12, 13, 14, 15, 16, 17, 11, 18, 19, 6, 20, 21, 22, 23, 24, 25, 26, 27, 43, 44, 45, 46, 47, 48, 49, 50, 51, 52, 53, 54, 55, 56] (by decide +kernel) (by decide +kernel)
set_option maxRecDepth 20000 in
theorem gX6_ruleWidth_X0_widen : GoodIn wsX6_ruleWidth (wsV RX6 163 RX0 yX0_widen wsX0_widen) := goodIn_app (goodIn_of _ (by decide +kernel)) ggX6_ruleWidth_X0_widen
theorem dX6_ruleWidth_0 : decode cX6_ruleWidth 0 = .ok (.iload_n 1, 1) := by decide +kernel
theorem dX6_ruleWidth_1 : decode cX6_ruleWidth 1 = .ok (.iconst 1, 1) := by decide +kernel
theorem dX6_ruleWidth_2 : decode cX6_ruleWidth 2 = .ok (.bipush 6, 2) := by decide +kernel
theorem dX6_ruleWidth_4 : decode cX6_ruleWidth 4 = .ok (.invokestatic 65, 3) := by decide +kernel
theorem dX6_ruleWidth_7 : decode cX6_ruleWidth 7 = .ok (.ifCond .ne 6, 3) := by decide +kernel
theorem dX6_ruleWidth_10 : decode cX6_ruleWidth 10 = .ok (.ldc 69, 2) := by decide +kernel
theorem dX6_ruleWidth_12 : decode cX6_ruleWidth 12 = .ok (.ireturn, 1) := by decide +kernel
theorem dX6_ruleWidth_13 : decode cX6_ruleWidth 13 = .ok (.aload_n 0, 1) := by decide +kernel
theorem dX6_ruleWidth_14 : decode cX6_ruleWidth 14 = .ok (.getfield 39, 3) := by decide +kernel
theorem dX6_ruleWidth_17 : decode cX6_ruleWidth 17 = .ok (.getfield 129, 3) := by decide +kernel
theorem dX6_ruleWidth_20 : decode cX6_ruleWidth 20 = .ok (.istore_n 2, 1) := by decide +kernel
theorem dX6_ruleWidth_21 : decode cX6_ruleWidth 21 = .ok (.aload_n 0, 1) := by decide +kernel
theorem dX6_ruleWidth_22 : decode cX6_ruleWidth 22 = .ok (.getfield 39, 3) := by decide +kernel
theorem dX6_ruleWidth_25 : decode cX6_ruleWidth 25 = .ok (.iload_n 1, 1) := by decide +kernel
theorem dX6_ruleWidth_26 : decode cX6_ruleWidth 26 = .ok (.invokevirtual 163, 3) := by decide +kernel
theorem dX6_ruleWidth_29 : decode cX6_ruleWidth 29 = .ok (.iload_n 2, 1) := by decide +kernel
theorem dX6_ruleWidth_30 : decode cX6_ruleWidth 30 = .ok (.ireturn, 1) := by decide +kernel
set_option maxRecDepth 20000 in
theorem ggX6_ruleGust_X6_within : GoodIn wsX6_ruleGust wsX6_within := goodIn_r _ [7] (by decide +kernel) (by decide +kernel)
set_option maxRecDepth 20000 in
theorem gX6_ruleGust_X6_within : GoodIn wsX6_ruleGust (va_wsS RX6 65 yX6_within wsX6_within) := goodIn_app (goodIn_of _ (by decide +kernel)) ggX6_ruleGust_X6_within
theorem dX6_ruleGust_0 : decode cX6_ruleGust 0 = .ok (.iload_n 1, 1) := by decide +kernel
theorem dX6_ruleGust_1 : decode cX6_ruleGust 1 = .ok (.iconst 0, 1) := by decide +kernel
theorem dX6_ruleGust_2 : decode cX6_ruleGust 2 = .ok (.bipush 100, 2) := by decide +kernel
theorem dX6_ruleGust_4 : decode cX6_ruleGust 4 = .ok (.invokestatic 65, 3) := by decide +kernel
theorem dX6_ruleGust_7 : decode cX6_ruleGust 7 = .ok (.ifCond .ne 6, 3) := by decide +kernel
theorem dX6_ruleGust_10 : decode cX6_ruleGust 10 = .ok (.ldc 69, 2) := by decide +kernel
theorem dX6_ruleGust_12 : decode cX6_ruleGust 12 = .ok (.ireturn, 1) := by decide +kernel
theorem dX6_ruleGust_13 : decode cX6_ruleGust 13 = .ok (.aload_n 0, 1) := by decide +kernel
theorem dX6_ruleGust_14 : decode cX6_ruleGust 14 = .ok (.getfield 39, 3) := by decide +kernel
theorem dX6_ruleGust_17 : decode cX6_ruleGust 17 = .ok (.getfield 132, 3) := by decide +kernel
theorem dX6_ruleGust_20 : decode cX6_ruleGust 20 = .ok (.istore_n 2, 1) := by decide +kernel
theorem dX6_ruleGust_21 : decode cX6_ruleGust 21 = .ok (.aload_n 0, 1) := by decide +kernel
theorem dX6_ruleGust_22 : decode cX6_ruleGust 22 = .ok (.getfield 39, 3) := by decide +kernel
theorem dX6_ruleGust_25 : decode cX6_ruleGust 25 = .ok (.iload_n 1, 1) := by decide +kernel
theorem dX6_ruleGust_26 : decode cX6_ruleGust 26 = .ok (.putfield 132, 3) := by decide +kernel
theorem dX6_ruleGust_29 : decode cX6_ruleGust 29 = .ok (.iload_n 2, 1) := by decide +kernel
theorem dX6_ruleGust_30 : decode cX6_ruleGust 30 = .ok (.ireturn, 1) := by decide +kernel
set_option maxRecDepth 20000 in
theorem ggX6_ruleMode_X6_within : GoodIn wsX6_ruleMode wsX6_within := goodIn_r _ [7] (by decide +kernel) (by decide +kernel)
set_option maxRecDepth 20000 in
theorem gX6_ruleMode_X6_within : GoodIn wsX6_ruleMode (va_wsS RX6 65 yX6_within wsX6_within) := goodIn_app (goodIn_of _ (by decide +kernel)) ggX6_ruleMode_X6_within
theorem dX6_ruleMode_0 : decode cX6_ruleMode 0 = .ok (.iload_n 1, 1) := by decide +kernel
theorem dX6_ruleMode_1 : decode cX6_ruleMode 1 = .ok (.iconst 0, 1) := by decide +kernel
theorem dX6_ruleMode_2 : decode cX6_ruleMode 2 = .ok (.iconst 2, 1) := by decide +kernel
theorem dX6_ruleMode_3 : decode cX6_ruleMode 3 = .ok (.invokestatic 65, 3) := by decide +kernel
theorem dX6_ruleMode_6 : decode cX6_ruleMode 6 = .ok (.ifCond .ne 6, 3) := by decide +kernel
theorem dX6_ruleMode_9 : decode cX6_ruleMode 9 = .ok (.ldc 69, 2) := by decide +kernel
theorem dX6_ruleMode_11 : decode cX6_ruleMode 11 = .ok (.ireturn, 1) := by decide +kernel
theorem dX6_ruleMode_12 : decode cX6_ruleMode 12 = .ok (.aload_n 0, 1) := by decide +kernel
theorem dX6_ruleMode_13 : decode cX6_ruleMode 13 = .ok (.getfield 39, 3) := by decide +kernel
theorem dX6_ruleMode_16 : decode cX6_ruleMode 16 = .ok (.getfield 135, 3) := by decide +kernel
theorem dX6_ruleMode_19 : decode cX6_ruleMode 19 = .ok (.istore_n 2, 1) := by decide +kernel
theorem dX6_ruleMode_20 : decode cX6_ruleMode 20 = .ok (.aload_n 0, 1) := by decide +kernel
theorem dX6_ruleMode_21 : decode cX6_ruleMode 21 = .ok (.getfield 39, 3) := by decide +kernel
theorem dX6_ruleMode_24 : decode cX6_ruleMode 24 = .ok (.iload_n 1, 1) := by decide +kernel
theorem dX6_ruleMode_25 : decode cX6_ruleMode 25 = .ok (.putfield 135, 3) := by decide +kernel
theorem dX6_ruleMode_28 : decode cX6_ruleMode 28 = .ok (.iload_n 2, 1) := by decide +kernel
theorem dX6_ruleMode_29 : decode cX6_ruleMode 29 = .ok (.ireturn, 1) := by decide +kernel
set_option maxRecDepth 20000 in
theorem ggX6_deal_X6_within : GoodIn wsX6_deal wsX6_within := goodIn_r _ [11] (by decide +kernel) (by decide +kernel)
set_option maxRecDepth 20000 in
theorem gX6_deal_X6_within : GoodIn wsX6_deal (va_wsS RX6 65 yX6_within wsX6_within) := goodIn_app (goodIn_of _ (by decide +kernel)) ggX6_deal_X6_within
set_option maxRecDepth 20000 in
theorem ggX6_deal_X0_draw : GoodIn wsX6_deal wsX0_draw := goodIn_r _ [16, 17, 18, 45, 46, 47, 48, 49, 50, 51, 52, 53, 54, 55, 56, 57, 58] (by decide +kernel) (by decide +kernel)
set_option maxRecDepth 20000 in
theorem gX6_deal_X0_draw : GoodIn wsX6_deal (wsV RX6 173 RX0 yX0_draw wsX0_draw) := goodIn_app (goodIn_of _ (by decide +kernel)) ggX6_deal_X0_draw
set_option maxRecDepth 20000 in
theorem ggX6_deal_X0_open : GoodIn wsX6_deal wsX0_open := goodIn_r _ [22, 23, 24, 25, 26, 27, 28, 29, 45, 46, 47, 48, 49, 50, 51, 52, 53, 54, 55, 56, 57, 58, 59, 60, 61, 62] (by decide +kernel) (by decide +kernel)
set_option maxRecDepth 20000 in
theorem gX6_deal_X0_open : GoodIn wsX6_deal (wsV RX6 75 RX0 yX0_open wsX0_open) := goodIn_app (goodIn_of _ (by decide +kernel)) ggX6_deal_X0_open
theorem dX6_deal_0 : decode cX6_deal 0 = .ok (.iload_n 1, 1) := by decide +kernel
theorem dX6_deal_1 : decode cX6_deal 1 = .ok (.iconst 1, 1) := by decide +kernel
theorem dX6_deal_2 : decode cX6_deal 2 = .ok (.bipush 9, 2) := by decide +kernel
theorem dX6_deal_4 : decode cX6_deal 4 = .ok (.invokestatic 65, 3) := by decide +kernel
theorem dX6_deal_7 : decode cX6_deal 7 = .ok (.ifCond .ne 6, 3) := by decide +kernel
theorem dX6_deal_10 : decode cX6_deal 10 = .ok (.ldc 69, 2) := by decide +kernel
theorem dX6_deal_12 : decode cX6_deal 12 = .ok (.ireturn, 1) := by decide +kernel
theorem dX6_deal_13 : decode cX6_deal 13 = .ok (.iload_n 1, 1) := by decide +kernel
theorem dX6_deal_14 : decode cX6_deal 14 = .ok (.bipush 9, 2) := by decide +kernel
theorem dX6_deal_16 : decode cX6_deal 16 = .ok (.aload_n 0, 1) := by decide +kernel
theorem dX6_deal_17 : decode cX6_deal 17 = .ok (.getfield 39, 3) := by decide +kernel
theorem dX6_deal_20 : decode cX6_deal 20 = .ok (.getfield 70, 3) := by decide +kernel
theorem dX6_deal_23 : decode cX6_deal 23 = .ok (.isub, 1) := by decide +kernel
theorem dX6_deal_24 : decode cX6_deal 24 = .ok (.invokestatic 167, 3) := by decide +kernel
theorem dX6_deal_27 : decode cX6_deal 27 = .ok (.istore_n 2, 1) := by decide +kernel
theorem dX6_deal_28 : decode cX6_deal 28 = .ok (.iconst 0, 1) := by decide +kernel
theorem dX6_deal_29 : decode cX6_deal 29 = .ok (.istore_n 3, 1) := by decide +kernel
theorem dX6_deal_30 : decode cX6_deal 30 = .ok (.iload_n 3, 1) := by decide +kernel
theorem dX6_deal_31 : decode cX6_deal 31 = .ok (.iload_n 2, 1) := by decide +kernel
theorem dX6_deal_32 : decode cX6_deal 32 = .ok (.if_icmp .ge 59, 3) := by decide +kernel
theorem dX6_deal_35 : decode cX6_deal 35 = .ok (.aload_n 0, 1) := by decide +kernel
theorem dX6_deal_36 : decode cX6_deal 36 = .ok (.getfield 39, 3) := by decide +kernel
theorem dX6_deal_39 : decode cX6_deal 39 = .ok (.invokevirtual 173, 3) := by decide +kernel
theorem dX6_deal_42 : decode cX6_deal 42 = .ok (.bipush 6, 2) := by decide +kernel
theorem dX6_deal_44 : decode cX6_deal 44 = .ok (.irem, 1) := by decide +kernel
theorem dX6_deal_45 : decode cX6_deal 45 = .ok (.istore 4, 2) := by decide +kernel
theorem dX6_deal_47 : decode cX6_deal 47 = .ok (.aload_n 0, 1) := by decide +kernel
theorem dX6_deal_48 : decode cX6_deal 48 = .ok (.getfield 39, 3) := by decide +kernel
theorem dX6_deal_51 : decode cX6_deal 51 = .ok (.invokevirtual 173, 3) := by decide +kernel
theorem dX6_deal_54 : decode cX6_deal 54 = .ok (.bipush 12, 2) := by decide +kernel
theorem dX6_deal_56 : decode cX6_deal 56 = .ok (.irem, 1) := by decide +kernel
theorem dX6_deal_57 : decode cX6_deal 57 = .ok (.istore 5, 2) := by decide +kernel
theorem dX6_deal_59 : decode cX6_deal 59 = .ok (.aload_n 0, 1) := by decide +kernel
theorem dX6_deal_60 : decode cX6_deal 60 = .ok (.getfield 39, 3) := by decide +kernel
theorem dX6_deal_63 : decode cX6_deal 63 = .ok (.invokevirtual 173, 3) := by decide +kernel
theorem dX6_deal_66 : decode cX6_deal 66 = .ok (.bipush 40, 2) := by decide +kernel
theorem dX6_deal_68 : decode cX6_deal 68 = .ok (.irem, 1) := by decide +kernel
theorem dX6_deal_69 : decode cX6_deal 69 = .ok (.istore 6, 2) := by decide +kernel
theorem dX6_deal_71 : decode cX6_deal 71 = .ok (.aload_n 0, 1) := by decide +kernel
theorem dX6_deal_72 : decode cX6_deal 72 = .ok (.getfield 39, 3) := by decide +kernel
theorem dX6_deal_75 : decode cX6_deal 75 = .ok (.iload 4, 2) := by decide +kernel
theorem dX6_deal_77 : decode cX6_deal 77 = .ok (.iload 5, 2) := by decide +kernel
theorem dX6_deal_79 : decode cX6_deal 79 = .ok (.iload 6, 2) := by decide +kernel
theorem dX6_deal_81 : decode cX6_deal 81 = .ok (.invokevirtual 75, 3) := by decide +kernel
theorem dX6_deal_84 : decode cX6_deal 84 = .ok (.pop, 1) := by decide +kernel
theorem dX6_deal_85 : decode cX6_deal 85 = .ok (.iinc 3 1, 3) := by decide +kernel
theorem dX6_deal_88 : decode cX6_deal 88 = .ok (.goto (-58), 3) := by decide +kernel
theorem dX6_deal_91 : decode cX6_deal 91 = .ok (.iload_n 2, 1) := by decide +kernel
theorem dX6_deal_92 : decode cX6_deal 92 = .ok (.ireturn, 1) := by decide +kernel
theorem dX6_seed_0 : decode cX6_seed 0 = .ok (.aload_n 0, 1) := by decide +kernel
theorem dX6_seed_1 : decode cX6_seed 1 = .ok (.getfield 39, 3) := by decide +kernel
theorem dX6_seed_4 : decode cX6_seed 4 = .ok (.getfield 176, 3) := by decide +kernel
theorem dX6_seed_7 : decode cX6_seed 7 = .ok (.istore_n 2, 1) := by decide +kernel
theorem dX6_seed_8 : decode cX6_seed 8 = .ok (.aload_n 0, 1) := by decide +kernel
theorem dX6_seed_9 : decode cX6_seed 9 = .ok (.getfield 39, 3) := by decide +kernel
theorem dX6_seed_12 : decode cX6_seed 12 = .ok (.iload_n 1, 1) := by decide +kernel
theorem dX6_seed_13 : decode cX6_seed 13 = .ok (.putfield 176, 3) := by decide +kernel
theorem dX6_seed_16 : decode cX6_seed 16 = .ok (.iload_n 2, 1) := by decide +kernel
theorem dX6_seed_17 : decode cX6_seed 17 = .ok (.ireturn, 1) := by decide +kernel
set_option maxRecDepth 20000 in
theorem ggX6_hours_X6_within : GoodIn wsX6_hours wsX6_within := goodIn_r _ [12] (by decide +kernel) (by decide +kernel)
set_option maxRecDepth 20000 in
theorem gX6_hours_X6_within : GoodIn wsX6_hours (va_wsS RX6 65 yX6_within wsX6_within) := goodIn_app (goodIn_of _ (by decide +kernel)) ggX6_hours_X6_within
set_option maxRecDepth 20000 in
theorem ggX6_hours_X0_hauling : GoodIn wsX6_hours wsX0_hauling := goodIn_r _ [17, 18, 19, 20, 21, 16, 22, 23, 24, 25, 26, 27, 28, 29, 30, 31, 32, 33, 34, 35, 36, 37, 38, 39, 40, 41, 42, 43, 44, 45, 46, 6, 7, 8, 47, 48, 49, 50, 51, 52, 53, 54, 55, 56, 57, 58, 59, 10, 11, 12, 60, 61, 62, 63, 64, 65, 66, 67, 68, 69, 70, 71, 72, 73, 74, 75, 76, 77, 78, 79, 5, 80, 81, 82, 83, 84, 85, 86, 87, 88, 89, 90, 91, 92, 93, 94, 95, 96, 97, 98, 99, 100, 101, 102, 103, 137, 138, 139, 140, 141, 142, 143, 144, 145, 146, 147, 148, 149, 150, 151, 152, 153, 154, 155, 156, 157, 158, 159] (by decide +kernel) (by decide +kernel)
set_option maxRecDepth 20000 in
theorem gX6_hours_X0_hauling : GoodIn wsX6_hours (wsV RX6 185 RX0 yX0_hauling wsX0_hauling) := goodIn_app (goodIn_of _ (by decide +kernel)) ggX6_hours_X0_hauling
set_option maxRecDepth 20000 in
theorem ggX6_hours_X0_passHour : GoodIn wsX6_hours wsX0_passHour := goodIn_r _ [107, 26, 23, 24, 45, 108, 25, 109, 59, 40, 91, 92, 93, 16, 94, 95, 81, 7, 82, 46, 6, 8, 96, 97, 98, 99, 35, 41, 42, 43, 44, 27, 28, 29, 30, 31, 32, 33, 34, 36, 37, 38, 39, 47, 48, 49, 50, 51, 52, 53, 54, 55, 56, 57, 58, 10, 11, 12, 60, 61, 62, 63, 64, 65, 66, 67, 68, 69, 70, 71, 72, 73, 74, 75, 76, 77, 78, 79, 5, 80, 83, 84, 85, 86, 110, 111, 112, 113, 114, 115, 116, 117, 118, 119, 120, 121, 137, 138, 139, 140, 141, 142, 143, 144, 145, 146, 147, 148, 149, 150, 151, 152, 153, 154, 155, 156, 157, 158, 159] (by decide +kernel) (by decide +kernel)
set_option maxRecDepth 20000 in
theorem gX6_hours_X0_passHour : GoodIn wsX6_hours (wsV RX6 188 RX0 yX0_passHour wsX0_passHour) := goodIn_app (goodIn_of _ (by decide +kernel)) ggX6_hours_X0_passHour
theorem dX6_hours_0 : decode cX6_hours 0 = .ok (.iload_n 1, 1) := by decide +kernel
theorem dX6_hours_1 : decode cX6_hours 1 = .ok (.iconst 1, 1) := by decide +kernel
theorem dX6_hours_2 : decode cX6_hours 2 = .ok (.bipush 100, 2) := by decide +kernel
theorem dX6_hours_4 : decode cX6_hours 4 = .ok (.invokestatic 65, 3) := by decide +kernel
theorem dX6_hours_7 : decode cX6_hours 7 = .ok (.ifCond .ne 6, 3) := by decide +kernel
theorem dX6_hours_10 : decode cX6_hours 10 = .ok (.ldc 69, 2) := by decide +kernel
theorem dX6_hours_12 : decode cX6_hours 12 = .ok (.ireturn, 1) := by decide +kernel
theorem dX6_hours_13 : decode cX6_hours 13 = .ok (.aload_n 0, 1) := by decide +kernel
theorem dX6_hours_14 : decode cX6_hours 14 = .ok (.getfield 39, 3) := by decide +kernel
theorem dX6_hours_17 : decode cX6_hours 17 = .ok (.getfield 179, 3) := by decide +kernel
theorem dX6_hours_20 : decode cX6_hours 20 = .ok (.istore_n 2, 1) := by decide +kernel
theorem dX6_hours_21 : decode cX6_hours 21 = .ok (.iload_n 1, 1) := by decide +kernel
theorem dX6_hours_22 : decode cX6_hours 22 = .ok (.sipush 9999, 3) := by decide +kernel
theorem dX6_hours_25 : decode cX6_hours 25 = .ok (.aload_n 0, 1) := by decide +kernel
theorem dX6_hours_26 : decode cX6_hours 26 = .ok (.getfield 39, 3) := by decide +kernel
theorem dX6_hours_29 : decode cX6_hours 29 = .ok (.getfield 182, 3) := by decide +kernel
theorem dX6_hours_32 : decode cX6_hours 32 = .ok (.isub, 1) := by decide +kernel
theorem dX6_hours_33 : decode cX6_hours 33 = .ok (.invokestatic 167, 3) := by decide +kernel
theorem dX6_hours_36 : decode cX6_hours 36 = .ok (.istore_n 3, 1) := by decide +kernel
theorem dX6_hours_37 : decode cX6_hours 37 = .ok (.iconst 0, 1) := by decide +kernel
theorem dX6_hours_38 : decode cX6_hours 38 = .ok (.istore 4, 2) := by decide +kernel
theorem dX6_hours_40 : decode cX6_hours 40 = .ok (.iload 4, 2) := by decide +kernel
theorem dX6_hours_42 : decode cX6_hours 42 = .ok (.iload_n 3, 1) := by decide +kernel
theorem dX6_hours_43 : decode cX6_hours 43 = .ok (.if_icmp .ge 23, 3) := by decide +kernel
theorem dX6_hours_46 : decode cX6_hours 46 = .ok (.aload_n 0, 1) := by decide +kernel
theorem dX6_hours_47 : decode cX6_hours 47 = .ok (.getfield 39, 3) := by decide +kernel
theorem dX6_hours_50 : decode cX6_hours 50 = .ok (.aload_n 0, 1) := by decide +kernel
theorem dX6_hours_51 : decode cX6_hours 51 = .ok (.getfield 39, 3) := by decide +kernel
theorem dX6_hours_54 : decode cX6_hours 54 = .ok (.invokevirtual 185, 3) := by decide +kernel
theorem dX6_hours_57 : decode cX6_hours 57 = .ok (.invokevirtual 188, 3) := by decide +kernel
theorem dX6_hours_60 : decode cX6_hours 60 = .ok (.iinc 4 1, 3) := by decide +kernel
theorem dX6_hours_63 : decode cX6_hours 63 = .ok (.goto (-23), 3) := by decide +kernel
theorem dX6_hours_66 : decode cX6_hours 66 = .ok (.aload_n 0, 1) := by decide +kernel
theorem dX6_hours_67 : decode cX6_hours 67 = .ok (.getfield 39, 3) := by decide +kernel
theorem dX6_hours_70 : decode cX6_hours 70 = .ok (.getfield 179, 3) := by decide +kernel
theorem dX6_hours_73 : decode cX6_hours 73 = .ok (.iload_n 2, 1) := by decide +kernel
theorem dX6_hours_74 : decode cX6_hours 74 = .ok (.isub, 1) := by decide +kernel
theorem dX6_hours_75 : decode cX6_hours 75 = .ok (.ireturn, 1) := by decide +kernel
set_option maxRecDepth 20000 in
theorem ggX6_book_X0_allGoods : GoodIn wsX6_book wsX0_allGoods := goodIn_r _ [10, 11, 12, 13, 29, 30, 31, 32, 33, 34, 35, 36, 37, 38, 39, 40, 41, 42, 43, 44, 45, 46] (by decide +kernel) (by decide +kernel)
set_option maxRecDepth 20000 in
theorem gX6_book_X0_allGoods : GoodIn wsX6_book (wsV RX6 197 RX0 yX0_allGoods wsX0_allGoods) := goodIn_app (goodIn_of _ (by decide +kernel)) ggX6_book_X0_allGoods
theorem dX6_book_0 : decode cX6_book 0 = .ok (.iload_n 1, 1) := by decide +kernel
theorem dX6_book_1 : decode cX6_book 1 = .ok (.tableswitch 63 0 3 #[31, 39, 47, 55], 31) := by decide +kernel
theorem dX6_book_32 : decode cX6_book 32 = .ok (.aload_n 0, 1) := by decide +kernel
theorem dX6_book_33 : decode cX6_book 33 = .ok (.getfield 39, 3) := by decide +kernel
theorem dX6_book_36 : decode cX6_book 36 = .ok (.getfield 179, 3) := by decide +kernel
theorem dX6_book_39 : decode cX6_book 39 = .ok (.ireturn, 1) := by decide +kernel
theorem dX6_book_40 : decode cX6_book 40 = .ok (.aload_n 0, 1) := by decide +kernel
theorem dX6_book_41 : decode cX6_book 41 = .ok (.getfield 39, 3) := by decide +kernel
theorem dX6_book_44 : decode cX6_book 44 = .ok (.getfield 191, 3) := by decide +kernel
theorem dX6_book_47 : decode cX6_book 47 = .ok (.ireturn, 1) := by decide +kernel
theorem dX6_book_48 : decode cX6_book 48 = .ok (.aload_n 0, 1) := by decide +kernel
theorem dX6_book_49 : decode cX6_book 49 = .ok (.getfield 39, 3) := by decide +kernel
theorem dX6_book_52 : decode cX6_book 52 = .ok (.getfield 194, 3) := by decide +kernel
theorem dX6_book_55 : decode cX6_book 55 = .ok (.ireturn, 1) := by decide +kernel
theorem dX6_book_56 : decode cX6_book 56 = .ok (.aload_n 0, 1) := by decide +kernel
theorem dX6_book_57 : decode cX6_book 57 = .ok (.getfield 39, 3) := by decide +kernel
theorem dX6_book_60 : decode cX6_book 60 = .ok (.invokevirtual 197, 3) := by decide +kernel
theorem dX6_book_63 : decode cX6_book 63 = .ok (.ireturn, 1) := by decide +kernel
theorem dX6_book_64 : decode cX6_book 64 = .ok (.ldc 69, 2) := by decide +kernel
theorem dX6_book_66 : decode cX6_book 66 = .ok (.ireturn, 1) := by decide +kernel
set_option maxRecDepth 20000 in
theorem ggX6_behind_X6_within : GoodIn wsX6_behind wsX6_within := goodIn_r _ [11] (by decide +kernel) (by decide +kernel)
set_option maxRecDepth 20000 in
theorem gX6_behind_X6_within : GoodIn wsX6_behind (va_wsS RX6 65 yX6_within wsX6_within) := goodIn_app (goodIn_of _ (by decide +kernel)) ggX6_behind_X6_within
set_option maxRecDepth 20000 in
theorem ggX6_behind_X0_takeOver : GoodIn wsX6_behind wsX0_takeOver := goodIn_r _ [16, 17, 18, 19, 20, 21, 22, 23, 24, 25, 26, 27, 28, 29, 30, 31, 32, 33, 34, 35, 36, 37, 38, 156, 157, 158, 159, 160, 161, 162, 163, 164, 165, 166, 167, 168, 169, 170, 171, 172, 173] (by decide +kernel) (by decide +kernel)
set_option maxRecDepth 20000 in
theorem gX6_behind_X0_takeOver : GoodIn wsX6_behind (wsV RX6 200 RX0 yX0_takeOver wsX0_takeOver) := goodIn_app (goodIn_of _ (by decide +kernel)) ggX6_behind_X0_takeOver
set_option maxRecDepth 20000 in
theorem ggX6_behind_X6_thinkOn : GoodIn wsX6_behind wsX6_thinkOn := goodIn_r _ [42, 2, 43, 44, 45, 15, 46, 25, 47, 48, 49, 50, 17, 18, 51, 22, 52, 53, 54, 55, 56, 57, 58, 59, 21, 60, 61, 62, 63, 23, 64, 65, 66, 67, 68, 69, 70, 71, 72, 73, 74, 75, 33, 76, 35, 77, 78, 79, 80, 20, 81, 82, 9, 10, 11, 83, 84, 85, 86, 87, 88, 89, 90, 91, 92, 93, 94, 95, 96, 97, 98, 99, 100, 101, 102, 103, 104, 105, 106, 107, 108, 109, 110, 111, 112, 113, 114, 115, 116, 117, 118, 119, 120, 121, 122, 123, 124, 125, 126, 127, 128, 129, 130, 131, 27, 26, 132, 133, 134, 135, 24, 28, 136, 137, 138, 139, 29, 140, 141, 142, 143, 144, 145, 146, 147, 148, 149, 150, 151, 152, 153, 154, 155, 156, 157, 158, 159, 160, 161, 162, 163, 164, 165, 166, 167, 168, 169, 170, 171, 172, 173, 174, 175, 176, 177, 178] (by decide +kernel) (by decide +kernel)
set_option maxRecDepth 20000 in
theorem gX6_behind_X6_thinkOn : GoodIn wsX6_behind (wsV RX6 204 RX6 yX6_thinkOn wsX6_thinkOn) := goodIn_app (goodIn_of _ (by decide +kernel)) ggX6_behind_X6_thinkOn
theorem dX6_behind_0 : decode cX6_behind 0 = .ok (.iload_n 1, 1) := by decide +kernel
theorem dX6_behind_1 : decode cX6_behind 1 = .ok (.iconst 0, 1) := by decide +kernel
theorem dX6_behind_2 : decode cX6_behind 2 = .ok (.bipush 100, 2) := by decide +kernel
theorem dX6_behind_4 : decode cX6_behind 4 = .ok (.invokestatic 65, 3) := by decide +kernel
theorem dX6_behind_7 : decode cX6_behind 7 = .ok (.ifCond .eq 12, 3) := by decide +kernel
theorem dX6_behind_10 : decode cX6_behind 10 = .ok (.iload_n 2, 1) := by decide +kernel
theorem dX6_behind_11 : decode cX6_behind 11 = .ok (.iconst 0, 1) := by decide +kernel
theorem dX6_behind_12 : decode cX6_behind 12 = .ok (.iconst 3, 1) := by decide +kernel
theorem dX6_behind_13 : decode cX6_behind 13 = .ok (.invokestatic 65, 3) := by decide +kernel
theorem dX6_behind_16 : decode cX6_behind 16 = .ok (.ifCond .ne 6, 3) := by decide +kernel
theorem dX6_behind_19 : decode cX6_behind 19 = .ok (.ldc 69, 2) := by decide +kernel
theorem dX6_behind_21 : decode cX6_behind 21 = .ok (.ireturn, 1) := by decide +kernel
theorem dX6_behind_22 : decode cX6_behind 22 = .ok (.aload_n 0, 1) := by decide +kernel
theorem dX6_behind_23 : decode cX6_behind 23 = .ok (.getfield 43, 3) := by decide +kernel
theorem dX6_behind_26 : decode cX6_behind 26 = .ok (.aload_n 0, 1) := by decide +kernel
theorem dX6_behind_27 : decode cX6_behind 27 = .ok (.getfield 39, 3) := by decide +kernel
theorem dX6_behind_30 : decode cX6_behind 30 = .ok (.invokevirtual 200, 3) := by decide +kernel
theorem dX6_behind_33 : decode cX6_behind 33 = .ok (.aload_n 0, 1) := by decide +kernel
theorem dX6_behind_34 : decode cX6_behind 34 = .ok (.iload_n 1, 1) := by decide +kernel
theorem dX6_behind_35 : decode cX6_behind 35 = .ok (.invokevirtual 204, 3) := by decide +kernel
theorem dX6_behind_38 : decode cX6_behind 38 = .ok (.iload_n 2, 1) := by decide +kernel
theorem dX6_behind_39 : decode cX6_behind 39 = .ok (.tableswitch 49 0 2 #[25, 33, 41], 25) := by decide +kernel
theorem dX6_behind_64 : decode cX6_behind 64 = .ok (.aload_n 0, 1) := by decide +kernel
theorem dX6_behind_65 : decode cX6_behind 65 = .ok (.getfield 43, 3) := by decide +kernel
theorem dX6_behind_68 : decode cX6_behind 68 = .ok (.getfield 179, 3) := by decide +kernel
theorem dX6_behind_71 : decode cX6_behind 71 = .ok (.ireturn, 1) := by decide +kernel
theorem dX6_behind_72 : decode cX6_behind 72 = .ok (.aload_n 0, 1) := by decide +kernel
theorem dX6_behind_73 : decode cX6_behind 73 = .ok (.getfield 43, 3) := by decide +kernel
theorem dX6_behind_76 : decode cX6_behind 76 = .ok (.getfield 191, 3) := by decide +kernel
theorem dX6_behind_79 : decode cX6_behind 79 = .ok (.ireturn, 1) := by decide +kernel
theorem dX6_behind_80 : decode cX6_behind 80 = .ok (.aload_n 0, 1) := by decide +kernel
theorem dX6_behind_81 : decode cX6_behind 81 = .ok (.getfield 43, 3) := by decide +kernel
theorem dX6_behind_84 : decode cX6_behind 84 = .ok (.getfield 126, 3) := by decide +kernel
theorem dX6_behind_87 : decode cX6_behind 87 = .ok (.ireturn, 1) := by decide +kernel
theorem dX6_behind_88 : decode cX6_behind 88 = .ok (.aload_n 0, 1) := by decide +kernel
theorem dX6_behind_89 : decode cX6_behind 89 = .ok (.getfield 43, 3) := by decide +kernel
theorem dX6_behind_92 : decode cX6_behind 92 = .ok (.getfield 194, 3) := by decide +kernel
theorem dX6_behind_95 : decode cX6_behind 95 = .ok (.ireturn, 1) := by decide +kernel
set_option maxRecDepth 20000 in
theorem ggX6_goods_X6_isStall : GoodIn wsX6_goods wsX6_isStall := goodIn_r _ [10, 3, 11, 12, 13, 9, 14, 144, 145, 146, 147, 148, 149, 150, 151, 152, 153, 154, 155, 156, 157, 158, 159, 160, 161, 162, 163, 164, 165, 166, 167, 168, 169, 170, 171, 172] (by decide +kernel) (by decide +kernel)
set_option maxRecDepth 20000 in
theorem gX6_goods_X6_isStall : GoodIn wsX6_goods (wsV RX6 79 RX6 yX6_isStall wsX6_isStall) := goodIn_app (goodIn_of _ (by decide +kernel)) ggX6_goods_X6_isStall
theorem dX6_goods_0 : decode cX6_goods 0 = .ok (.aload_n 0, 1) := by decide +kernel
theorem dX6_goods_1 : decode cX6_goods 1 = .ok (.iload_n 1, 1) := by decide +kernel
theorem dX6_goods_2 : decode cX6_goods 2 = .ok (.invokevirtual 79, 3) := by decide +kernel
theorem dX6_goods_5 : decode cX6_goods 5 = .ok (.ifCond .eq 13, 3) := by decide +kernel
theorem dX6_goods_18 : decode cX6_goods 18 = .ok (.ldc 69, 2) := by decide +kernel
theorem dX6_goods_20 : decode cX6_goods 20 = .ok (.ireturn, 1) := by decide +kernel
set_option maxRecDepth 20000 in
theorem ggX6_wider_X6_within : GoodIn wsX6_wider wsX6_within := goodIn_r _ [9] (by decide +kernel) (by decide +kernel)
set_option maxRecDepth 20000 in
theorem gX6_wider_X6_within : GoodIn wsX6_wider (va_wsS RX6 65 yX6_within wsX6_within) := goodIn_app (goodIn_of _ (by decide +kernel)) ggX6_wider_X6_within
set_option maxRecDepth 20000 in
theorem ggX6_wider_X0_takeOver : GoodIn wsX6_wider wsX0_takeOver := goodIn_r _ [14, 15, 16, 17, 18, 19, 20, 21, 22, 23, 24, 25, 26, 27, 28, 29, 30, 31, 32, 33, 34, 35, 36, 158, 159, 160, 161, 162, 163, 164, 165, 166, 167, 168, 169, 170, 171, 172, 173, 174, 175] (by decide +kernel) (by decide +kernel)
set_option maxRecDepth 20000 in
theorem gX6_wider_X0_takeOver : GoodIn wsX6_wider (wsV RX6 200 RX0 yX0_takeOver wsX0_takeOver) := goodIn_app (goodIn_of _ (by decide +kernel)) ggX6_wider_X0_takeOver
set_option maxRecDepth 20000 in
theorem ggX6_wider_X0_widen : GoodIn wsX6_wider wsX0_widen := goodIn_r _ [40, 19, 20, 41, 42, 43, 13, 44, 45, 8, 46, 47, 48, 49, 50, 51, 52, 53, 158, 159, 160, 161, 162, 163, 164, 165, 166, 167, 168, 169, 170, 171] (by decide +kernel) (by decide +kernel)
set_option maxRecDepth 20000 in
theorem gX6_wider_X0_widen : GoodIn wsX6_wider (wsV RX6 163 RX0 yX0_widen wsX0_widen) := goodIn_app (goodIn_of _ (by decide +kernel)) ggX6_wider_X0_widen
set_option maxRecDepth 20000 in
theorem ggX6_wider_X6_thinkOn : GoodIn wsX6_wider wsX6_thinkOn := goodIn_r _ [57, 2, 58, 59, 60, 13, 61, 23, 62, 63, 64, 65, 15, 16, 66, 20, 67, 68, 69, 70, 71, 72, 73, 74, 19, 75, 76, 77, 78, 21, 79, 80, 81, 82, 83, 84, 48, 49, 50, 85, 86, 87, 31, 88, 33, 89, 90, 91, 92, 18, 93, 94, 7, 8, 9, 95, 96, 97, 98, 99, 100, 101, 102, 103, 104, 105, 106, 107, 108, 109, 110, 111, 112, 45, 46, 47, 51, 52, 53, 113, 114, 115, 116, 117, 118, 119, 120, 121, 122, 123, 124, 125, 41, 42, 43, 44, 126, 127, 128, 129, 130, 131, 132, 133, 25, 24, 134, 135, 136, 137, 22, 26, 138, 139, 140, 141, 27, 142, 143, 144, 145, 146, 147, 148, 149, 150, 151, 152, 153, 154, 155, 156, 157, 158, 159, 160, 161, 162, 163, 164, 165, 166, 167, 168, 169, 170, 171, 172, 173, 174, 175, 176, 177, 178, 179, 180] (by decide +kernel) (by decide +kernel)
set_option maxRecDepth 20000 in
theorem gX6_wider_X6_thinkOn : GoodIn wsX6_wider (wsV RX6 204 RX6 yX6_thinkOn wsX6_thinkOn) := goodIn_app (goodIn_of _ (by decide +kernel)) ggX6_wider_X6_thinkOn
theorem dX6_wider_0 : decode cX6_wider 0 = .ok (.iload_n 1, 1) := by decide +kernel
theorem dX6_wider_1 : decode cX6_wider 1 = .ok (.iconst 0, 1) := by decide +kernel
theorem dX6_wider_2 : decode cX6_wider 2 = .ok (.sipush 9999, 3) := by decide +kernel
theorem dX6_wider_5 : decode cX6_wider 5 = .ok (.invokestatic 65, 3) := by decide +kernel
theorem dX6_wider_8 : decode cX6_wider 8 = .ok (.ifCond .eq 13, 3) := by decide +kernel
theorem dX6_wider_11 : decode cX6_wider 11 = .ok (.iload_n 2, 1) := by decide +kernel
theorem dX6_wider_12 : decode cX6_wider 12 = .ok (.iconst 1, 1) := by decide +kernel
theorem dX6_wider_13 : decode cX6_wider 13 = .ok (.bipush 60, 2) := by decide +kernel
theorem dX6_wider_15 : decode cX6_wider 15 = .ok (.invokestatic 65, 3) := by decide +kernel
theorem dX6_wider_18 : decode cX6_wider 18 = .ok (.ifCond .ne 6, 3) := by decide +kernel
theorem dX6_wider_21 : decode cX6_wider 21 = .ok (.ldc 69, 2) := by decide +kernel
theorem dX6_wider_23 : decode cX6_wider 23 = .ok (.ireturn, 1) := by decide +kernel
theorem dX6_wider_24 : decode cX6_wider 24 = .ok (.iconst 1, 1) := by decide +kernel
theorem dX6_wider_25 : decode cX6_wider 25 = .ok (.istore_n 3, 1) := by decide +kernel
theorem dX6_wider_26 : decode cX6_wider 26 = .ok (.iload_n 3, 1) := by decide +kernel
theorem dX6_wider_27 : decode cX6_wider 27 = .ok (.bipush 6, 2) := by decide +kernel
theorem dX6_wider_29 : decode cX6_wider 29 = .ok (.if_icmp .gt 46, 3) := by decide +kernel
theorem dX6_wider_32 : decode cX6_wider 32 = .ok (.aload_n 0, 1) := by decide +kernel
theorem dX6_wider_33 : decode cX6_wider 33 = .ok (.getfield 43, 3) := by decide +kernel
theorem dX6_wider_36 : decode cX6_wider 36 = .ok (.aload_n 0, 1) := by decide +kernel
theorem dX6_wider_37 : decode cX6_wider 37 = .ok (.getfield 39, 3) := by decide +kernel
theorem dX6_wider_40 : decode cX6_wider 40 = .ok (.invokevirtual 200, 3) := by decide +kernel
theorem dX6_wider_43 : decode cX6_wider 43 = .ok (.aload_n 0, 1) := by decide +kernel
theorem dX6_wider_44 : decode cX6_wider 44 = .ok (.getfield 43, 3) := by decide +kernel
theorem dX6_wider_47 : decode cX6_wider 47 = .ok (.iload_n 3, 1) := by decide +kernel
theorem dX6_wider_48 : decode cX6_wider 48 = .ok (.invokevirtual 163, 3) := by decide +kernel
theorem dX6_wider_51 : decode cX6_wider 51 = .ok (.aload_n 0, 1) := by decide +kernel
theorem dX6_wider_52 : decode cX6_wider 52 = .ok (.iload_n 2, 1) := by decide +kernel
theorem dX6_wider_53 : decode cX6_wider 53 = .ok (.invokevirtual 204, 3) := by decide +kernel
theorem dX6_wider_56 : decode cX6_wider 56 = .ok (.aload_n 0, 1) := by decide +kernel
theorem dX6_wider_57 : decode cX6_wider 57 = .ok (.getfield 43, 3) := by decide +kernel
theorem dX6_wider_60 : decode cX6_wider 60 = .ok (.getfield 179, 3) := by decide +kernel
theorem dX6_wider_63 : decode cX6_wider 63 = .ok (.iload_n 1, 1) := by decide +kernel
theorem dX6_wider_64 : decode cX6_wider 64 = .ok (.if_icmp .gt 5, 3) := by decide +kernel
theorem dX6_wider_67 : decode cX6_wider 67 = .ok (.iload_n 3, 1) := by decide +kernel
theorem dX6_wider_68 : decode cX6_wider 68 = .ok (.ireturn, 1) := by decide +kernel
set_option maxRecDepth 20000 in
theorem ggX6_shaded_X6_isStall : GoodIn wsX6_shaded wsX6_isStall := goodIn_r _ [10, 3, 11, 12, 13, 9, 14, 142, 143, 144, 145, 146, 147, 148, 149, 150, 151, 152, 153, 154, 155, 156, 157, 158, 159, 160, 161, 162, 163, 164, 165, 166, 167, 168, 169, 170] (by decide +kernel) (by decide +kernel)
set_option maxRecDepth 20000 in
theorem gX6_shaded_X6_isStall : GoodIn wsX6_shaded (wsV RX6 79 RX6 yX6_isStall wsX6_isStall) := goodIn_app (goodIn_of _ (by decide +kernel)) ggX6_shaded_X6_isStall
theorem dX6_shaded_0 : decode cX6_shaded 0 = .ok (.aload_n 0, 1) := by decide +kernel
theorem dX6_shaded_1 : decode cX6_shaded 1 = .ok (.iload_n 1, 1) := by decide +kernel
theorem dX6_shaded_2 : decode cX6_shaded 2 = .ok (.invokevirtual 79, 3) := by decide +kernel
theorem dX6_shaded_5 : decode cX6_shaded 5 = .ok (.ifCond .eq 13, 3) := by decide +kernel
theorem dX6_shaded_18 : decode cX6_shaded 18 = .ok (.ldc 69, 2) := by decide +kernel
theorem dX6_shaded_20 : decode cX6_shaded 20 = .ok (.ireturn, 1) := by decide +kernel
set_option maxRecDepth 20000 in
theorem ggX6_without_X6_within : GoodIn wsX6_without wsX6_within := goodIn_r _ [12] (by decide +kernel) (by decide +kernel)
set_option maxRecDepth 20000 in
theorem gX6_without_X6_within : GoodIn wsX6_without (va_wsS RX6 65 yX6_within wsX6_within) := goodIn_app (goodIn_of _ (by decide +kernel)) ggX6_without_X6_within
theorem dX6_without_0 : decode cX6_without 0 = .ok (.iload_n 1, 1) := by decide +kernel
theorem dX6_without_1 : decode cX6_without 1 = .ok (.iconst 1, 1) := by decide +kernel
theorem dX6_without_2 : decode cX6_without 2 = .ok (.bipush 60, 2) := by decide +kernel
theorem dX6_without_4 : decode cX6_without 4 = .ok (.invokestatic 65, 3) := by decide +kernel
theorem dX6_without_7 : decode cX6_without 7 = .ok (.ifCond .eq 12, 3) := by decide +kernel
theorem dX6_without_10 : decode cX6_without 10 = .ok (.iload_n 2, 1) := by decide +kernel
theorem dX6_without_11 : decode cX6_without 11 = .ok (.iconst 0, 1) := by decide +kernel
theorem dX6_without_12 : decode cX6_without 12 = .ok (.iconst 1, 1) := by decide +kernel
theorem dX6_without_13 : decode cX6_without 13 = .ok (.invokestatic 65, 3) := by decide +kernel
theorem dX6_without_16 : decode cX6_without 16 = .ok (.ifCond .ne 6, 3) := by decide +kernel
theorem dX6_without_19 : decode cX6_without 19 = .ok (.ldc 69, 2) := by decide +kernel
theorem dX6_without_21 : decode cX6_without 21 = .ok (.ireturn, 1) := by decide +kernel
theorem dX6_without_22 : decode cX6_without 22 = .ok (.aload_n 0, 1) := by decide +kernel
theorem dX6_without_23 : decode cX6_without 23 = .ok (.getfield 39, 3) := by decide +kernel
theorem dX6_without_26 : decode cX6_without 26 = .ok (.getfield 70, 3) := by decide +kernel
theorem dX6_without_29 : decode cX6_without 29 = .ok (.ifCond .ne 6, 3) := by decide +kernel
theorem dX6_without_32 : decode cX6_without 32 = .ok (.ldc 218, 2) := by decide +kernel
theorem dX6_without_34 : decode cX6_without 34 = .ok (.ireturn, 1) := by decide +kernel
set_option maxRecDepth 20000 in
theorem ggX6_whose_X6_isSheet : GoodIn wsX6_whose wsX6_isSheet := goodIn_r _ [11, 12, 13, 10, 14] (by decide +kernel) (by decide +kernel)
set_option maxRecDepth 20000 in
theorem gX6_whose_X6_isSheet : GoodIn wsX6_whose (va_wsS RX6 226 yX6_isSheet wsX6_isSheet) := goodIn_app (goodIn_of _ (by decide +kernel)) ggX6_whose_X6_isSheet
set_option maxRecDepth 20000 in
theorem ggX6_whose_X6_within : GoodIn wsX6_whose wsX6_within := goodIn_r _ [14] (by decide +kernel) (by decide +kernel)
set_option maxRecDepth 20000 in
theorem gX6_whose_X6_within : GoodIn wsX6_whose (va_wsS RX6 65 yX6_within wsX6_within) := goodIn_app (goodIn_of _ (by decide +kernel)) ggX6_whose_X6_within
set_option maxRecDepth 20000 in
theorem ggX6_whose_X2_isMissing : GoodIn wsX6_whose wsX2_isMissing := goodIn_r _ [19, 20, 195, 196, 197] (by decide +kernel) (by decide +kernel)
set_option maxRecDepth 20000 in
theorem gX6_whose_X2_isMissing : GoodIn wsX6_whose (wsV RX6 229 RX2 yX2_isMissing wsX2_isMissing) := goodIn_app (goodIn_of _ (by decide +kernel)) ggX6_whose_X2_isMissing
theorem dX6_whose_0 : decode cX6_whose 0 = .ok (.iload_n 1, 1) := by decide +kernel
theorem dX6_whose_1 : decode cX6_whose 1 = .ok (.invokestatic 226, 3) := by decide +kernel
theorem dX6_whose_4 : decode cX6_whose 4 = .ok (.ifCond .eq 22, 3) := by decide +kernel
theorem dX6_whose_7 : decode cX6_whose 7 = .ok (.iload_n 2, 1) := by decide +kernel
theorem dX6_whose_8 : decode cX6_whose 8 = .ok (.iconst 0, 1) := by decide +kernel
theorem dX6_whose_9 : decode cX6_whose 9 = .ok (.bipush 60, 2) := by decide +kernel
theorem dX6_whose_11 : decode cX6_whose 11 = .ok (.invokestatic 65, 3) := by decide +kernel
theorem dX6_whose_14 : decode cX6_whose 14 = .ok (.ifCond .eq 12, 3) := by decide +kernel
theorem dX6_whose_17 : decode cX6_whose 17 = .ok (.iload_n 3, 1) := by decide +kernel
theorem dX6_whose_18 : decode cX6_whose 18 = .ok (.iconst 0, 1) := by decide +kernel
theorem dX6_whose_19 : decode cX6_whose 19 = .ok (.iconst 1, 1) := by decide +kernel
theorem dX6_whose_20 : decode cX6_whose 20 = .ok (.invokestatic 65, 3) := by decide +kernel
theorem dX6_whose_23 : decode cX6_whose 23 = .ok (.ifCond .ne 6, 3) := by decide +kernel
theorem dX6_whose_26 : decode cX6_whose 26 = .ok (.ldc 69, 2) := by decide +kernel
theorem dX6_whose_28 : decode cX6_whose 28 = .ok (.ireturn, 1) := by decide +kernel
theorem dX6_whose_29 : decode cX6_whose 29 = .ok (.aload_n 0, 1) := by decide +kernel
theorem dX6_whose_30 : decode cX6_whose 30 = .ok (.getfield 17, 3) := by decide +kernel
theorem dX6_whose_33 : decode cX6_whose 33 = .ok (.iload_n 1, 1) := by decide +kernel
theorem dX6_whose_34 : decode cX6_whose 34 = .ok (.aaload, 1) := by decide +kernel
theorem dX6_whose_35 : decode cX6_whose 35 = .ok (.invokevirtual 229, 3) := by decide +kernel
theorem dX6_whose_38 : decode cX6_whose 38 = .ok (.ifCond .eq 6, 3) := by decide +kernel
theorem dX6_whose_41 : decode cX6_whose 41 = .ok (.ldc 233, 2) := by decide +kernel
theorem dX6_whose_43 : decode cX6_whose 43 = .ok (.ireturn, 1) := by decide +kernel
set_option maxRecDepth 20000 in
theorem ggX6_thinkOn_X0_hauling : GoodIn wsX6_thinkOn wsX0_hauling := goodIn_r _ [6, 7, 8, 9, 10, 5, 11, 12, 13, 14, 15, 16, 17, 18, 19, 20, 21, 22, 23, 24, 25, 26, 27, 28, 29, 30, 31, 32, 33, 34, 35, 36, 37, 38, 39, 40, 41, 42, 43, 44, 45, 46, 47, 48, 49, 50, 51, 52, 53, 54, 55, 56, 57, 58, 59, 60, 61, 62, 63, 64, 65, 66, 67, 68, 69, 70, 71, 72, 73, 74, 75, 76, 77, 78, 79, 80, 81, 82, 83, 84, 85, 86, 87, 88, 89, 90, 91, 92, 93, 94, 95, 96, 97, 98, 99, 133, 134, 135, 136, 137, 138, 139, 140, 141, 142, 143, 144, 145, 146, 147, 148, 149, 150, 151, 152, 153, 154, 155] (by decide +kernel) (by decide +kernel)
set_option maxRecDepth 20000 in
theorem gX6_thinkOn_X0_hauling : GoodIn wsX6_thinkOn (wsV RX6 185 RX0 yX0_hauling wsX0_hauling) := goodIn_app (goodIn_of _ (by decide +kernel)) ggX6_thinkOn_X0_hauling
set_option maxRecDepth 20000 in
theorem ggX6_thinkOn_X0_passHour : GoodIn wsX6_thinkOn wsX0_passHour := goodIn_r _ [103, 15, 12, 13, 34, 104, 14, 105, 51, 29, 87, 88, 89, 5, 90, 91, 77, 37, 78, 35, 36, 38, 92, 93, 94, 95, 24, 30, 31, 32, 33, 16, 17, 18, 19, 20, 21, 22, 23, 25, 26, 27, 28, 39, 40, 41, 42, 43, 44, 45, 46, 47, 48, 49, 50, 52, 53, 54, 55, 56, 57, 58, 59, 60, 61, 62, 63, 64, 65, 66, 67, 68, 69, 70, 71, 72, 73, 74, 75, 76, 79, 80, 81, 82, 106, 107, 108, 109, 110, 111, 112, 113, 114, 115, 116, 117, 133, 134, 135, 136, 137, 138, 139, 140, 141, 142, 143, 144, 145, 146, 147, 148, 149, 150, 151, 152, 153, 154, 155] (by decide +kernel) (by decide +kernel)
set_option maxRecDepth 20000 in
theorem gX6_thinkOn_X0_passHour : GoodIn wsX6_thinkOn (wsV RX6 188 RX0 yX0_passHour wsX0_passHour) := goodIn_app (goodIn_of _ (by decide +kernel)) ggX6_thinkOn_X0_passHour
theorem dX6_thinkOn_0 : decode cX6_thinkOn 0 = .ok (.iconst 0, 1) := by decide +kernel
theorem dX6_thinkOn_1 : decode cX6_thinkOn 1 = .ok (.istore_n 2, 1) := by decide +kernel
theorem dX6_thinkOn_2 : decode cX6_thinkOn 2 = .ok (.iload_n 2, 1) := by decide +kernel
theorem dX6_thinkOn_3 : decode cX6_thinkOn 3 = .ok (.iload_n 1, 1) := by decide +kernel
theorem dX6_thinkOn_4 : decode cX6_thinkOn 4 = .ok (.if_icmp .ge 23, 3) := by decide +kernel
theorem dX6_thinkOn_7 : decode cX6_thinkOn 7 = .ok (.aload_n 0, 1) := by decide +kernel
theorem dX6_thinkOn_8 : decode cX6_thinkOn 8 = .ok (.getfield 43, 3) := by decide +kernel
theorem dX6_thinkOn_11 : decode cX6_thinkOn 11 = .ok (.aload_n 0, 1) := by decide +kernel
theorem dX6_thinkOn_12 : decode cX6_thinkOn 12 = .ok (.getfield 43, 3) := by decide +kernel
theorem dX6_thinkOn_15 : decode cX6_thinkOn 15 = .ok (.invokevirtual 185, 3) := by decide +kernel
theorem dX6_thinkOn_18 : decode cX6_thinkOn 18 = .ok (.invokevirtual 188, 3) := by decide +kernel
theorem dX6_thinkOn_21 : decode cX6_thinkOn 21 = .ok (.iinc 2 1, 3) := by decide +kernel
theorem dX6_thinkOn_24 : decode cX6_thinkOn 24 = .ok (.goto (-22), 3) := by decide +kernel
theorem dX6_thinkOn_27 : decode cX6_thinkOn 27 = .ok (.return_, 1) := by decide +kernel
set_option maxRecDepth 20000 in
theorem ggX6_fee_X6_within : GoodIn wsX6_fee wsX6_within := goodIn_r _ [9] (by decide +kernel) (by decide +kernel)
set_option maxRecDepth 20000 in
theorem gX6_fee_X6_within : GoodIn wsX6_fee (va_wsS RX6 65 yX6_within wsX6_within) := goodIn_app (goodIn_of _ (by decide +kernel)) ggX6_fee_X6_within
theorem dX6_fee_0 : decode cX6_fee 0 = .ok (.aload_n 0, 1) := by decide +kernel
theorem dX6_fee_1 : decode cX6_fee 1 = .ok (.getfield 39, 3) := by decide +kernel
theorem dX6_fee_4 : decode cX6_fee 4 = .ok (.getfield 238, 3) := by decide +kernel
theorem dX6_fee_7 : decode cX6_fee 7 = .ok (.iconst 1, 1) := by decide +kernel
theorem dX6_fee_8 : decode cX6_fee 8 = .ok (.iaload, 1) := by decide +kernel
theorem dX6_fee_9 : decode cX6_fee 9 = .ok (.istore_n 1, 1) := by decide +kernel
theorem dX6_fee_10 : decode cX6_fee 10 = .ok (.iload_n 1, 1) := by decide +kernel
theorem dX6_fee_11 : decode cX6_fee 11 = .ok (.iconst 0, 1) := by decide +kernel
theorem dX6_fee_12 : decode cX6_fee 12 = .ok (.bipush 13, 2) := by decide +kernel
theorem dX6_fee_14 : decode cX6_fee 14 = .ok (.invokestatic 65, 3) := by decide +kernel
theorem dX6_fee_17 : decode cX6_fee 17 = .ok (.ifCond .ne 11, 3) := by decide +kernel
theorem dX6_fee_20 : decode cX6_fee 20 = .ok (.aload_n 0, 1) := by decide +kernel
theorem dX6_fee_21 : decode cX6_fee 21 = .ok (.getfield 39, 3) := by decide +kernel
theorem dX6_fee_24 : decode cX6_fee 24 = .ok (.getfield 191, 3) := by decide +kernel
theorem dX6_fee_27 : decode cX6_fee 27 = .ok (.ireturn, 1) := by decide +kernel
set_option maxRecDepth 20000 in
theorem ggX6_fine_X6_isStall : GoodIn wsX6_fine wsX6_isStall := goodIn_r _ [12, 2, 13, 14, 15, 11, 16, 44, 45, 46, 47, 48, 49, 50, 51, 52, 53, 54, 55, 56, 57, 58, 59, 60, 61, 62, 63, 64, 65, 66, 67, 68, 69, 70, 71, 72] (by decide +kernel) (by decide +kernel)
set_option maxRecDepth 20000 in
theorem gX6_fine_X6_isStall : GoodIn wsX6_fine (wsV RX6 79 RX6 yX6_isStall wsX6_isStall) := goodIn_app (goodIn_of _ (by decide +kernel)) ggX6_fine_X6_isStall
theorem dX6_fine_0 : decode cX6_fine 0 = .ok (.aload_n 0, 1) := by decide +kernel
theorem dX6_fine_1 : decode cX6_fine 1 = .ok (.iload_n 1, 1) := by decide +kernel
theorem dX6_fine_2 : decode cX6_fine 2 = .ok (.invokevirtual 79, 3) := by decide +kernel
theorem dX6_fine_5 : decode cX6_fine 5 = .ok (.ifCond .ne 6, 3) := by decide +kernel
theorem dX6_fine_8 : decode cX6_fine 8 = .ok (.ldc 69, 2) := by decide +kernel
theorem dX6_fine_10 : decode cX6_fine 10 = .ok (.ireturn, 1) := by decide +kernel
set_option maxRecDepth 20000 in
theorem ggX6_feed_X6_feedBytes : GoodIn wsX6_feed wsX6_feedBytes := goodIn_r _ [7, 1, 8, 9, 10, 11, 12, 13, 14, 15, 16, 17, 18, 19, 20, 21, 22, 23] (by decide +kernel) (by decide +kernel)
set_option maxRecDepth 20000 in
theorem gX6_feed_X6_feedBytes : GoodIn wsX6_feed (wsV RX6 247 RX6 yX6_feedBytes wsX6_feedBytes) := goodIn_app (goodIn_of _ (by decide +kernel)) ggX6_feed_X6_feedBytes
theorem dX6_feed_0 : decode cX6_feed 0 = .ok (.aload_n 0, 1) := by decide +kernel
theorem dX6_feed_1 : decode cX6_feed 1 = .ok (.getfield 244, 3) := by decide +kernel
theorem dX6_feed_4 : decode cX6_feed 4 = .ok (.bipush 12, 2) := by decide +kernel
theorem dX6_feed_6 : decode cX6_feed 6 = .ok (.iadd, 1) := by decide +kernel
theorem dX6_feed_7 : decode cX6_feed 7 = .ok (.bipush 96, 2) := by decide +kernel
theorem dX6_feed_9 : decode cX6_feed 9 = .ok (.if_icmp .le 6, 3) := by decide +kernel
theorem dX6_feed_15 : decode cX6_feed 15 = .ok (.aload_n 0, 1) := by decide +kernel
theorem dX6_feed_16 : decode cX6_feed 16 = .ok (.iload_n 1, 1) := by decide +kernel
theorem dX6_feed_17 : decode cX6_feed 17 = .ok (.invokevirtual 247, 3) := by decide +kernel
theorem dX6_feed_20 : decode cX6_feed 20 = .ok (.aload_n 0, 1) := by decide +kernel
theorem dX6_feed_21 : decode cX6_feed 21 = .ok (.iload_n 2, 1) := by decide +kernel
theorem dX6_feed_22 : decode cX6_feed 22 = .ok (.invokevirtual 247, 3) := by decide +kernel
theorem dX6_feed_25 : decode cX6_feed 25 = .ok (.aload_n 0, 1) := by decide +kernel
theorem dX6_feed_26 : decode cX6_feed 26 = .ok (.iload_n 3, 1) := by decide +kernel
theorem dX6_feed_27 : decode cX6_feed 27 = .ok (.invokevirtual 247, 3) := by decide +kernel
theorem dX6_feed_30 : decode cX6_feed 30 = .ok (.aload_n 0, 1) := by decide +kernel
theorem dX6_feed_31 : decode cX6_feed 31 = .ok (.getfield 244, 3) := by decide +kernel
theorem dX6_feed_34 : decode cX6_feed 34 = .ok (.ireturn, 1) := by decide +kernel
theorem dX6_feedBytes_0 : decode cX6_feedBytes 0 = .ok (.bipush 24, 2) := by decide +kernel
theorem dX6_feedBytes_2 : decode cX6_feedBytes 2 = .ok (.istore_n 2, 1) := by decide +kernel
theorem dX6_feedBytes_3 : decode cX6_feedBytes 3 = .ok (.iload_n 2, 1) := by decide +kernel
theorem dX6_feedBytes_4 : decode cX6_feedBytes 4 = .ok (.ifCond .lt 44, 3) := by decide +kernel
theorem dX6_feedBytes_7 : decode cX6_feedBytes 7 = .ok (.aload_n 0, 1) := by decide +kernel
theorem dX6_feedBytes_8 : decode cX6_feedBytes 8 = .ok (.getfield 244, 3) := by decide +kernel
theorem dX6_feedBytes_11 : decode cX6_feedBytes 11 = .ok (.bipush 96, 2) := by decide +kernel
theorem dX6_feedBytes_13 : decode cX6_feedBytes 13 = .ok (.if_icmp .ge 35, 3) := by decide +kernel
theorem dX6_feedBytes_16 : decode cX6_feedBytes 16 = .ok (.aload_n 0, 1) := by decide +kernel
theorem dX6_feedBytes_17 : decode cX6_feedBytes 17 = .ok (.getfield 62, 3) := by decide +kernel
theorem dX6_feedBytes_20 : decode cX6_feedBytes 20 = .ok (.aload_n 0, 1) := by decide +kernel
theorem dX6_feedBytes_21 : decode cX6_feedBytes 21 = .ok (.getfield 244, 3) := by decide +kernel
theorem dX6_feedBytes_24 : decode cX6_feedBytes 24 = .ok (.iload_n 1, 1) := by decide +kernel
theorem dX6_feedBytes_25 : decode cX6_feedBytes 25 = .ok (.iload_n 2, 1) := by decide +kernel
theorem dX6_feedBytes_26 : decode cX6_feedBytes 26 = .ok (.iushr, 1) := by decide +kernel
theorem dX6_feedBytes_27 : decode cX6_feedBytes 27 = .ok (.sipush 255, 3) := by decide +kernel
theorem dX6_feedBytes_30 : decode cX6_feedBytes 30 = .ok (.iand, 1) := by decide +kernel
theorem dX6_feedBytes_31 : decode cX6_feedBytes 31 = .ok (.iastore, 1) := by decide +kernel
theorem dX6_feedBytes_32 : decode cX6_feedBytes 32 = .ok (.aload_n 0, 1) := by decide +kernel
theorem dX6_feedBytes_33 : decode cX6_feedBytes 33 = .ok (.dup, 1) := by decide +kernel
theorem dX6_feedBytes_34 : decode cX6_feedBytes 34 = .ok (.getfield 244, 3) := by decide +kernel
theorem dX6_feedBytes_37 : decode cX6_feedBytes 37 = .ok (.iconst 1, 1) := by decide +kernel
theorem dX6_feedBytes_38 : decode cX6_feedBytes 38 = .ok (.iadd, 1) := by decide +kernel
theorem dX6_feedBytes_39 : decode cX6_feedBytes 39 = .ok (.putfield 244, 3) := by decide +kernel
theorem dX6_feedBytes_42 : decode cX6_feedBytes 42 = .ok (.iinc 2 (-8), 3) := by decide +kernel
theorem dX6_feedBytes_45 : decode cX6_feedBytes 45 = .ok (.goto (-42), 3) := by decide +kernel
theorem dX6_feedBytes_48 : decode cX6_feedBytes 48 = .ok (.return_, 1) := by decide +kernel
set_option maxRecDepth 20000 in
theorem ggX6_trim_X6_within : GoodIn wsX6_trim wsX6_within := goodIn_r _ [6] (by decide +kernel) (by decide +kernel)
set_option maxRecDepth 20000 in
theorem gX6_trim_X6_within : GoodIn wsX6_trim (va_wsS RX6 65 yX6_within wsX6_within) := goodIn_app (goodIn_of _ (by decide +kernel)) ggX6_trim_X6_within
theorem dX6_trim_0 : decode cX6_trim 0 = .ok (.iload_n 1, 1) := by decide +kernel
theorem dX6_trim_1 : decode cX6_trim 1 = .ok (.iconst 0, 1) := by decide +kernel
theorem dX6_trim_2 : decode cX6_trim 2 = .ok (.aload_n 0, 1) := by decide +kernel
theorem dX6_trim_3 : decode cX6_trim 3 = .ok (.getfield 244, 3) := by decide +kernel
theorem dX6_trim_6 : decode cX6_trim 6 = .ok (.invokestatic 65, 3) := by decide +kernel
theorem dX6_trim_9 : decode cX6_trim 9 = .ok (.ifCond .ne 6, 3) := by decide +kernel
theorem dX6_trim_12 : decode cX6_trim 12 = .ok (.ldc 69, 2) := by decide +kernel
theorem dX6_trim_14 : decode cX6_trim 14 = .ok (.ireturn, 1) := by decide +kernel
theorem dX6_trim_15 : decode cX6_trim 15 = .ok (.aload_n 0, 1) := by decide +kernel
theorem dX6_trim_16 : decode cX6_trim 16 = .ok (.iload_n 1, 1) := by decide +kernel
theorem dX6_trim_17 : decode cX6_trim 17 = .ok (.putfield 244, 3) := by decide +kernel
theorem dX6_trim_20 : decode cX6_trim 20 = .ok (.iload_n 1, 1) := by decide +kernel
theorem dX6_trim_21 : decode cX6_trim 21 = .ok (.ireturn, 1) := by decide +kernel
set_option maxRecDepth 20000 in
theorem ggX6_text_X1_readText : GoodIn wsX6_text wsX1_readText := goodIn_r _ [12, 13, 14, 15, 16, 17, 18, 19, 20, 21, 22, 23, 24, 25, 26, 27, 28, 29, 30, 31, 32, 33, 11, 34, 35, 36, 37, 38, 39, 40, 41, 42, 43, 44, 45, 46, 47, 48, 49, 50, 51, 52, 53, 54, 55, 56, 57, 58, 59, 60, 61, 62, 63, 64, 65, 66, 67, 68, 69, 70, 71, 72, 73, 74, 75, 76, 77, 78, 79, 80, 81, 82, 83, 84, 85, 86, 87, 88, 89, 90, 91, 92, 93, 94, 95, 96, 97, 98, 99, 100, 101, 102, 103, 104, 105, 106, 107, 108, 109, 110, 111, 112, 113, 114, 115, 116, 117, 118, 119, 120, 121, 122, 123, 124, 125, 126, 127, 128, 129, 130, 131, 132, 133, 134, 135, 136, 137, 138, 139, 140, 141, 142, 143, 144, 145, 146, 147, 148, 149, 150, 151, 152, 153, 154, 155, 156, 157, 158, 159, 160, 161, 162, 163, 164, 165, 166, 167, 168, 169, 170, 171, 172, 173, 174, 175, 176, 177, 178, 179, 180, 181, 182, 183, 184, 185, 186, 187, 188, 189, 190, 191, 192, 193, 194, 195, 196, 197, 198, 199, 200, 201, 202, 203, 204, 205, 206, 207, 255, 256, 257, 258, 259, 260, 261, 262, 263, 264, 265, 266, 267] (by decide +kernel) (by decide +kernel)
set_option maxRecDepth 20000 in
theorem gX6_text_X1_readText : GoodIn wsX6_text (wsV RX6 250 RX1 yX1_readText wsX1_readText) := goodIn_app (goodIn_of _ (by decide +kernel)) ggX6_text_X1_readText
theorem dX6_text_0 : decode cX6_text 0 = .ok (.aload_n 0, 1) := by decide +kernel
theorem dX6_text_1 : decode cX6_text 1 = .ok (.getfield 54, 3) := by decide +kernel
theorem dX6_text_4 : decode cX6_text 4 = .ok (.aload_n 0, 1) := by decide +kernel
theorem dX6_text_5 : decode cX6_text 5 = .ok (.getfield 244, 3) := by decide +kernel
theorem dX6_text_8 : decode cX6_text 8 = .ok (.invokevirtual 250, 3) := by decide +kernel
theorem dX6_text_11 : decode cX6_text 11 = .ok (.istore_n 1, 1) := by decide +kernel
theorem dX6_text_12 : decode cX6_text 12 = .ok (.aload_n 0, 1) := by decide +kernel
theorem dX6_text_13 : decode cX6_text 13 = .ok (.iconst 0, 1) := by decide +kernel
theorem dX6_text_14 : decode cX6_text 14 = .ok (.putfield 244, 3) := by decide +kernel
theorem dX6_text_17 : decode cX6_text 17 = .ok (.iload_n 1, 1) := by decide +kernel
theorem dX6_text_18 : decode cX6_text 18 = .ok (.ldc 218, 2) := by decide +kernel
theorem dX6_text_20 : decode cX6_text 20 = .ok (.if_icmp .eq 8, 3) := by decide +kernel
theorem dX6_text_23 : decode cX6_text 23 = .ok (.bipush (-100), 2) := by decide +kernel
theorem dX6_text_25 : decode cX6_text 25 = .ok (.iload_n 1, 1) := by decide +kernel
theorem dX6_text_26 : decode cX6_text 26 = .ok (.isub, 1) := by decide +kernel
theorem dX6_text_27 : decode cX6_text 27 = .ok (.ireturn, 1) := by decide +kernel
set_option maxRecDepth 20000 in
theorem ggX6_textTold_X6_within : GoodIn wsX6_textTold wsX6_within := goodIn_r _ [10] (by decide +kernel) (by decide +kernel)
set_option maxRecDepth 20000 in
theorem gX6_textTold_X6_within : GoodIn wsX6_textTold (va_wsS RX6 65 yX6_within wsX6_within) := goodIn_app (goodIn_of _ (by decide +kernel)) ggX6_textTold_X6_within
theorem dX6_textTold_0 : decode cX6_textTold 0 = .ok (.iload_n 1, 1) := by decide +kernel
theorem dX6_textTold_1 : decode cX6_textTold 1 = .ok (.iconst 0, 1) := by decide +kernel
theorem dX6_textTold_2 : decode cX6_textTold 2 = .ok (.aload_n 0, 1) := by decide +kernel
theorem dX6_textTold_3 : decode cX6_textTold 3 = .ok (.getfield 39, 3) := by decide +kernel
theorem dX6_textTold_6 : decode cX6_textTold 6 = .ok (.getfield 253, 3) := by decide +kernel
theorem dX6_textTold_9 : decode cX6_textTold 9 = .ok (.iconst 1, 1) := by decide +kernel
theorem dX6_textTold_10 : decode cX6_textTold 10 = .ok (.isub, 1) := by decide +kernel
theorem dX6_textTold_11 : decode cX6_textTold 11 = .ok (.invokestatic 65, 3) := by decide +kernel
theorem dX6_textTold_14 : decode cX6_textTold 14 = .ok (.ifCond .ne 6, 3) := by decide +kernel
theorem dX6_textTold_17 : decode cX6_textTold 17 = .ok (.ldc 69, 2) := by decide +kernel
theorem dX6_textTold_19 : decode cX6_textTold 19 = .ok (.ireturn, 1) := by decide +kernel
set_option maxRecDepth 20000 in
theorem ggX6_why_X6_within : GoodIn wsX6_why wsX6_within := goodIn_r _ [7] (by decide +kernel) (by decide +kernel)
set_option maxRecDepth 20000 in
theorem gX6_why_X6_within : GoodIn wsX6_why (va_wsS RX6 65 yX6_within wsX6_within) := goodIn_app (goodIn_of _ (by decide +kernel)) ggX6_why_X6_within
theorem dX6_why_0 : decode cX6_why 0 = .ok (.iload_n 1, 1) := by decide +kernel
theorem dX6_why_1 : decode cX6_why 1 = .ok (.iconst 0, 1) := by decide +kernel
theorem dX6_why_2 : decode cX6_why 2 = .ok (.iconst 2, 1) := by decide +kernel
theorem dX6_why_3 : decode cX6_why 3 = .ok (.invokestatic 65, 3) := by decide +kernel
theorem dX6_why_6 : decode cX6_why 6 = .ok (.ifCond .eq 15, 3) := by decide +kernel
theorem dX6_why_9 : decode cX6_why 9 = .ok (.aload_n 0, 1) := by decide +kernel
theorem dX6_why_10 : decode cX6_why 10 = .ok (.getfield 39, 3) := by decide +kernel
theorem dX6_why_13 : decode cX6_why 13 = .ok (.getfield 238, 3) := by decide +kernel
theorem dX6_why_16 : decode cX6_why 16 = .ok (.iload_n 1, 1) := by decide +kernel
theorem dX6_why_17 : decode cX6_why 17 = .ok (.iaload, 1) := by decide +kernel
theorem dX6_why_18 : decode cX6_why 18 = .ok (.goto 5, 3) := by decide +kernel
theorem dX6_why_21 : decode cX6_why 21 = .ok (.ldc 69, 2) := by decide +kernel
theorem dX6_why_23 : decode cX6_why 23 = .ok (.ireturn, 1) := by decide +kernel
set_option maxRecDepth 20000 in
theorem ggX6_sheet_X6_isSheet : GoodIn wsX6_sheet wsX6_isSheet := goodIn_r _ [7, 8, 9, 6, 10] (by decide +kernel) (by decide +kernel)
set_option maxRecDepth 20000 in
theorem gX6_sheet_X6_isSheet : GoodIn wsX6_sheet (va_wsS RX6 226 yX6_isSheet wsX6_isSheet) := goodIn_app (goodIn_of _ (by decide +kernel)) ggX6_sheet_X6_isSheet
set_option maxRecDepth 20000 in
theorem ggX6_sheet_X6_within : GoodIn wsX6_sheet wsX6_within := goodIn_r _ [10] (by decide +kernel) (by decide +kernel)
set_option maxRecDepth 20000 in
theorem gX6_sheet_X6_within : GoodIn wsX6_sheet (va_wsS RX6 65 yX6_within wsX6_within) := goodIn_app (goodIn_of _ (by decide +kernel)) ggX6_sheet_X6_within
set_option maxRecDepth 20000 in
theorem ggX6_sheet_X2_become : GoodIn wsX6_sheet wsX2_become := goodIn_r _ [15, 16, 17, 18, 19, 6, 20, 21, 22, 23, 24, 25, 26, 27, 43, 44, 45] (by decide +kernel) (by decide +kernel)
set_option maxRecDepth 20000 in
theorem gX6_sheet_X2_become : GoodIn wsX6_sheet (wsV RX6 270 RX2 yX2_become wsX2_become) := goodIn_app (goodIn_of _ (by decide +kernel)) ggX6_sheet_X2_become
theorem dX6_sheet_0 : decode cX6_sheet 0 = .ok (.iload_n 1, 1) := by decide +kernel
theorem dX6_sheet_1 : decode cX6_sheet 1 = .ok (.invokestatic 226, 3) := by decide +kernel
theorem dX6_sheet_4 : decode cX6_sheet 4 = .ok (.ifCond .eq 12, 3) := by decide +kernel
theorem dX6_sheet_7 : decode cX6_sheet 7 = .ok (.iload_n 2, 1) := by decide +kernel
theorem dX6_sheet_8 : decode cX6_sheet 8 = .ok (.iconst (-1), 1) := by decide +kernel
theorem dX6_sheet_9 : decode cX6_sheet 9 = .ok (.iconst 1, 1) := by decide +kernel
theorem dX6_sheet_10 : decode cX6_sheet 10 = .ok (.invokestatic 65, 3) := by decide +kernel
theorem dX6_sheet_13 : decode cX6_sheet 13 = .ok (.ifCond .ne 6, 3) := by decide +kernel
theorem dX6_sheet_16 : decode cX6_sheet 16 = .ok (.ldc 69, 2) := by decide +kernel
theorem dX6_sheet_18 : decode cX6_sheet 18 = .ok (.ireturn, 1) := by decide +kernel
theorem dX6_sheet_19 : decode cX6_sheet 19 = .ok (.iload_n 2, 1) := by decide +kernel
theorem dX6_sheet_20 : decode cX6_sheet 20 = .ok (.iconst (-1), 1) := by decide +kernel
theorem dX6_sheet_21 : decode cX6_sheet 21 = .ok (.if_icmp .ne 16, 3) := by decide +kernel
theorem dX6_sheet_24 : decode cX6_sheet 24 = .ok (.aload_n 0, 1) := by decide +kernel
theorem dX6_sheet_25 : decode cX6_sheet 25 = .ok (.getfield 17, 3) := by decide +kernel
theorem dX6_sheet_28 : decode cX6_sheet 28 = .ok (.iload_n 1, 1) := by decide +kernel
theorem dX6_sheet_29 : decode cX6_sheet 29 = .ok (.aaload, 1) := by decide +kernel
theorem dX6_sheet_30 : decode cX6_sheet 30 = .ok (.iconst (-1), 1) := by decide +kernel
theorem dX6_sheet_31 : decode cX6_sheet 31 = .ok (.iconst 0, 1) := by decide +kernel
theorem dX6_sheet_32 : decode cX6_sheet 32 = .ok (.invokevirtual 270, 3) := by decide +kernel
theorem dX6_sheet_35 : decode cX6_sheet 35 = .ok (.iconst 0, 1) := by decide +kernel
theorem dX6_sheet_36 : decode cX6_sheet 36 = .ok (.ireturn, 1) := by decide +kernel
theorem dX6_sheet_37 : decode cX6_sheet 37 = .ok (.iload_n 3, 1) := by decide +kernel
theorem dX6_sheet_38 : decode cX6_sheet 38 = .ok (.bipush 24, 2) := by decide +kernel
theorem dX6_sheet_40 : decode cX6_sheet 40 = .ok (.if_icmp .le 6, 3) := by decide +kernel
theorem dX6_sheet_43 : decode cX6_sheet 43 = .ok (.ldc 69, 2) := by decide +kernel
theorem dX6_sheet_45 : decode cX6_sheet 45 = .ok (.ireturn, 1) := by decide +kernel
theorem dX6_sheet_46 : decode cX6_sheet 46 = .ok (.iload_n 3, 1) := by decide +kernel
theorem dX6_sheet_47 : decode cX6_sheet 47 = .ok (.ifCond .ge 7, 3) := by decide +kernel
theorem dX6_sheet_50 : decode cX6_sheet 50 = .ok (.ldc_w 274, 3) := by decide +kernel
theorem dX6_sheet_53 : decode cX6_sheet 53 = .ok (.ireturn, 1) := by decide +kernel
theorem dX6_sheet_54 : decode cX6_sheet 54 = .ok (.aload_n 0, 1) := by decide +kernel
theorem dX6_sheet_55 : decode cX6_sheet 55 = .ok (.getfield 17, 3) := by decide +kernel
theorem dX6_sheet_58 : decode cX6_sheet 58 = .ok (.iload_n 1, 1) := by decide +kernel
theorem dX6_sheet_59 : decode cX6_sheet 59 = .ok (.aaload, 1) := by decide +kernel
theorem dX6_sheet_60 : decode cX6_sheet 60 = .ok (.iload_n 2, 1) := by decide +kernel
theorem dX6_sheet_61 : decode cX6_sheet 61 = .ok (.iload_n 3, 1) := by decide +kernel
theorem dX6_sheet_62 : decode cX6_sheet 62 = .ok (.invokevirtual 270, 3) := by decide +kernel
theorem dX6_sheet_65 : decode cX6_sheet 65 = .ok (.iload_n 3, 1) := by decide +kernel
theorem dX6_sheet_66 : decode cX6_sheet 66 = .ok (.ireturn, 1) := by decide +kernel
set_option maxRecDepth 20000 in
theorem ggX6_mark_X6_isSheet : GoodIn wsX6_mark wsX6_isSheet := goodIn_r _ [14, 15, 16, 13, 17] (by decide +kernel) (by decide +kernel)
set_option maxRecDepth 20000 in
theorem gX6_mark_X6_isSheet : GoodIn wsX6_mark (va_wsS RX6 226 yX6_isSheet wsX6_isSheet) := goodIn_app (goodIn_of _ (by decide +kernel)) ggX6_mark_X6_isSheet
set_option maxRecDepth 20000 in
theorem ggX6_mark_X2_isMissing : GoodIn wsX6_mark wsX2_isMissing := goodIn_r _ [22, 23, 44, 45, 46] (by decide +kernel) (by decide +kernel)
set_option maxRecDepth 20000 in
theorem gX6_mark_X2_isMissing : GoodIn wsX6_mark (wsV RX6 229 RX2 yX2_isMissing wsX2_isMissing) := goodIn_app (goodIn_of _ (by decide +kernel)) ggX6_mark_X2_isMissing
theorem dX6_mark_0 : decode cX6_mark 0 = .ok (.iload_n 1, 1) := by decide +kernel
theorem dX6_mark_1 : decode cX6_mark 1 = .ok (.invokestatic 226, 3) := by decide +kernel
theorem dX6_mark_4 : decode cX6_mark 4 = .ok (.ifCond .ne 6, 3) := by decide +kernel
theorem dX6_mark_7 : decode cX6_mark 7 = .ok (.ldc 69, 2) := by decide +kernel
theorem dX6_mark_9 : decode cX6_mark 9 = .ok (.ireturn, 1) := by decide +kernel
theorem dX6_mark_10 : decode cX6_mark 10 = .ok (.aload_n 0, 1) := by decide +kernel
theorem dX6_mark_11 : decode cX6_mark 11 = .ok (.getfield 17, 3) := by decide +kernel
theorem dX6_mark_14 : decode cX6_mark 14 = .ok (.iload_n 1, 1) := by decide +kernel
theorem dX6_mark_15 : decode cX6_mark 15 = .ok (.aaload, 1) := by decide +kernel
theorem dX6_mark_16 : decode cX6_mark 16 = .ok (.astore 4, 2) := by decide +kernel
theorem dX6_mark_18 : decode cX6_mark 18 = .ok (.aload 4, 2) := by decide +kernel
theorem dX6_mark_20 : decode cX6_mark 20 = .ok (.invokevirtual 229, 3) := by decide +kernel
theorem dX6_mark_23 : decode cX6_mark 23 = .ok (.ifCond .eq 6, 3) := by decide +kernel
theorem dX6_mark_26 : decode cX6_mark 26 = .ok (.ldc 233, 2) := by decide +kernel
theorem dX6_mark_28 : decode cX6_mark 28 = .ok (.ireturn, 1) := by decide +kernel
set_option maxRecDepth 20000 in
theorem ggX6_pour_X6_isSheet : GoodIn wsX6_pour wsX6_isSheet := goodIn_r _ [12, 13, 14, 11, 15] (by decide +kernel) (by decide +kernel)
set_option maxRecDepth 20000 in
theorem gX6_pour_X6_isSheet : GoodIn wsX6_pour (va_wsS RX6 226 yX6_isSheet wsX6_isSheet) := goodIn_app (goodIn_of _ (by decide +kernel)) ggX6_pour_X6_isSheet
set_option maxRecDepth 20000 in
theorem ggX6_pour_X2_isMissing : GoodIn wsX6_pour wsX2_isMissing := goodIn_r _ [20, 21, 72, 73, 74] (by decide +kernel) (by decide +kernel)
set_option maxRecDepth 20000 in
theorem gX6_pour_X2_isMissing : GoodIn wsX6_pour (wsV RX6 229 RX2 yX2_isMissing wsX2_isMissing) := goodIn_app (goodIn_of _ (by decide +kernel)) ggX6_pour_X2_isMissing
theorem dX6_pour_0 : decode cX6_pour 0 = .ok (.iload_n 1, 1) := by decide +kernel
theorem dX6_pour_1 : decode cX6_pour 1 = .ok (.invokestatic 226, 3) := by decide +kernel
theorem dX6_pour_4 : decode cX6_pour 4 = .ok (.ifCond .ne 6, 3) := by decide +kernel
theorem dX6_pour_7 : decode cX6_pour 7 = .ok (.ldc 69, 2) := by decide +kernel
theorem dX6_pour_9 : decode cX6_pour 9 = .ok (.ireturn, 1) := by decide +kernel
theorem dX6_pour_10 : decode cX6_pour 10 = .ok (.aload_n 0, 1) := by decide +kernel
theorem dX6_pour_11 : decode cX6_pour 11 = .ok (.getfield 17, 3) := by decide +kernel
theorem dX6_pour_14 : decode cX6_pour 14 = .ok (.iload_n 1, 1) := by decide +kernel
theorem dX6_pour_15 : decode cX6_pour 15 = .ok (.aaload, 1) := by decide +kernel
theorem dX6_pour_16 : decode cX6_pour 16 = .ok (.astore_n 2, 1) := by decide +kernel
theorem dX6_pour_17 : decode cX6_pour 17 = .ok (.aload_n 2, 1) := by decide +kernel
theorem dX6_pour_18 : decode cX6_pour 18 = .ok (.invokevirtual 229, 3) := by decide +kernel
theorem dX6_pour_21 : decode cX6_pour 21 = .ok (.ifCond .eq 6, 3) := by decide +kernel
theorem dX6_pour_24 : decode cX6_pour 24 = .ok (.ldc 233, 2) := by decide +kernel
theorem dX6_pour_26 : decode cX6_pour 26 = .ok (.ireturn, 1) := by decide +kernel
set_option maxRecDepth 20000 in
theorem ggX6_reads_X6_isSheet : GoodIn wsX6_reads wsX6_isSheet := goodIn_r _ [12, 13, 14, 11, 15] (by decide +kernel) (by decide +kernel)
set_option maxRecDepth 20000 in
theorem gX6_reads_X6_isSheet : GoodIn wsX6_reads (va_wsS RX6 226 yX6_isSheet wsX6_isSheet) := goodIn_app (goodIn_of _ (by decide +kernel)) ggX6_reads_X6_isSheet
set_option maxRecDepth 20000 in
theorem ggX6_reads_X2_isMissing : GoodIn wsX6_reads wsX2_isMissing := goodIn_r _ [20, 21, 120, 121, 122] (by decide +kernel) (by decide +kernel)
set_option maxRecDepth 20000 in
theorem gX6_reads_X2_isMissing : GoodIn wsX6_reads (wsV RX6 229 RX2 yX2_isMissing wsX2_isMissing) := goodIn_app (goodIn_of _ (by decide +kernel)) ggX6_reads_X2_isMissing
theorem dX6_reads_0 : decode cX6_reads 0 = .ok (.iload_n 1, 1) := by decide +kernel
theorem dX6_reads_1 : decode cX6_reads 1 = .ok (.invokestatic 226, 3) := by decide +kernel
theorem dX6_reads_4 : decode cX6_reads 4 = .ok (.ifCond .ne 6, 3) := by decide +kernel
theorem dX6_reads_7 : decode cX6_reads 7 = .ok (.ldc 69, 2) := by decide +kernel
theorem dX6_reads_9 : decode cX6_reads 9 = .ok (.ireturn, 1) := by decide +kernel
theorem dX6_reads_10 : decode cX6_reads 10 = .ok (.aload_n 0, 1) := by decide +kernel
theorem dX6_reads_11 : decode cX6_reads 11 = .ok (.getfield 17, 3) := by decide +kernel
theorem dX6_reads_14 : decode cX6_reads 14 = .ok (.iload_n 1, 1) := by decide +kernel
theorem dX6_reads_15 : decode cX6_reads 15 = .ok (.aaload, 1) := by decide +kernel
theorem dX6_reads_16 : decode cX6_reads 16 = .ok (.astore_n 2, 1) := by decide +kernel
theorem dX6_reads_17 : decode cX6_reads 17 = .ok (.aload_n 2, 1) := by decide +kernel
theorem dX6_reads_18 : decode cX6_reads 18 = .ok (.invokevirtual 229, 3) := by decide +kernel
theorem dX6_reads_21 : decode cX6_reads 21 = .ok (.ifCond .eq 6, 3) := by decide +kernel
theorem dX6_reads_24 : decode cX6_reads 24 = .ok (.ldc 233, 2) := by decide +kernel
theorem dX6_reads_26 : decode cX6_reads 26 = .ok (.ireturn, 1) := by decide +kernel
set_option maxRecDepth 20000 in
theorem ggX6_copy_X6_isSheet : GoodIn wsX6_copy wsX6_isSheet := goodIn_r _ [15, 16, 17, 14, 18] (by decide +kernel) (by decide +kernel)
set_option maxRecDepth 20000 in
theorem gX6_copy_X6_isSheet : GoodIn wsX6_copy (va_wsS RX6 226 yX6_isSheet wsX6_isSheet) := goodIn_app (goodIn_of _ (by decide +kernel)) ggX6_copy_X6_isSheet
set_option maxRecDepth 20000 in
theorem ggX6_copy_X2_isMissing : GoodIn wsX6_copy wsX2_isMissing := goodIn_r _ [23, 24, 45, 46, 47] (by decide +kernel) (by decide +kernel)
set_option maxRecDepth 20000 in
theorem gX6_copy_X2_isMissing : GoodIn wsX6_copy (wsV RX6 229 RX2 yX2_isMissing wsX2_isMissing) := goodIn_app (goodIn_of _ (by decide +kernel)) ggX6_copy_X2_isMissing
theorem dX6_copy_0 : decode cX6_copy 0 = .ok (.iload_n 1, 1) := by decide +kernel
theorem dX6_copy_1 : decode cX6_copy 1 = .ok (.invokestatic 226, 3) := by decide +kernel
theorem dX6_copy_4 : decode cX6_copy 4 = .ok (.ifCond .eq 10, 3) := by decide +kernel
theorem dX6_copy_7 : decode cX6_copy 7 = .ok (.iload_n 3, 1) := by decide +kernel
theorem dX6_copy_8 : decode cX6_copy 8 = .ok (.invokestatic 226, 3) := by decide +kernel
theorem dX6_copy_11 : decode cX6_copy 11 = .ok (.ifCond .ne 6, 3) := by decide +kernel
theorem dX6_copy_14 : decode cX6_copy 14 = .ok (.ldc 69, 2) := by decide +kernel
theorem dX6_copy_16 : decode cX6_copy 16 = .ok (.ireturn, 1) := by decide +kernel
theorem dX6_copy_17 : decode cX6_copy 17 = .ok (.aload_n 0, 1) := by decide +kernel
theorem dX6_copy_18 : decode cX6_copy 18 = .ok (.getfield 17, 3) := by decide +kernel
theorem dX6_copy_21 : decode cX6_copy 21 = .ok (.iload_n 1, 1) := by decide +kernel
theorem dX6_copy_22 : decode cX6_copy 22 = .ok (.aaload, 1) := by decide +kernel
theorem dX6_copy_23 : decode cX6_copy 23 = .ok (.astore 6, 2) := by decide +kernel
theorem dX6_copy_25 : decode cX6_copy 25 = .ok (.aload_n 0, 1) := by decide +kernel
theorem dX6_copy_26 : decode cX6_copy 26 = .ok (.getfield 17, 3) := by decide +kernel
theorem dX6_copy_29 : decode cX6_copy 29 = .ok (.iload_n 3, 1) := by decide +kernel
theorem dX6_copy_30 : decode cX6_copy 30 = .ok (.aaload, 1) := by decide +kernel
theorem dX6_copy_31 : decode cX6_copy 31 = .ok (.astore 7, 2) := by decide +kernel
theorem dX6_copy_33 : decode cX6_copy 33 = .ok (.aload 6, 2) := by decide +kernel
theorem dX6_copy_35 : decode cX6_copy 35 = .ok (.invokevirtual 229, 3) := by decide +kernel
theorem dX6_copy_38 : decode cX6_copy 38 = .ok (.ifCond .ne 11, 3) := by decide +kernel
theorem dX6_copy_49 : decode cX6_copy 49 = .ok (.ldc 233, 2) := by decide +kernel
theorem dX6_copy_51 : decode cX6_copy 51 = .ok (.ireturn, 1) := by decide +kernel
set_option maxRecDepth 20000 in
theorem ggX6_lay_X6_isSlot : GoodIn wsX6_lay wsX6_isSlot := goodIn_r _ [14, 15, 16, 13, 17] (by decide +kernel) (by decide +kernel)
set_option maxRecDepth 20000 in
theorem gX6_lay_X6_isSlot : GoodIn wsX6_lay (va_wsS RX6 305 yX6_isSlot wsX6_isSlot) := goodIn_app (goodIn_of _ (by decide +kernel)) ggX6_lay_X6_isSlot
set_option maxRecDepth 20000 in
theorem ggX6_lay_X6_within : GoodIn wsX6_lay wsX6_within := goodIn_r _ [17] (by decide +kernel) (by decide +kernel)
set_option maxRecDepth 20000 in
theorem gX6_lay_X6_within : GoodIn wsX6_lay (va_wsS RX6 65 yX6_within wsX6_within) := goodIn_app (goodIn_of _ (by decide +kernel)) ggX6_lay_X6_within
set_option maxRecDepth 20000 in
theorem ggX6_lay_X6_isStall : GoodIn wsX6_lay wsX6_isStall := goodIn_r _ [21, 5, 22, 15, 16, 13, 17, 51, 52, 53, 54, 55, 56, 57, 58, 59, 60, 61, 62, 63, 64, 65, 70, 71, 72, 73, 74, 75, 76, 77, 78, 79, 80, 81, 82, 83] (by decide +kernel) (by decide +kernel)
set_option maxRecDepth 20000 in
theorem gX6_lay_X6_isStall : GoodIn wsX6_lay (wsV RX6 79 RX6 yX6_isStall wsX6_isStall) := goodIn_app (goodIn_of _ (by decide +kernel)) ggX6_lay_X6_isStall
set_option maxRecDepth 20000 in
theorem ggX6_lay_X6_isSheet : GoodIn wsX6_lay wsX6_isSheet := goodIn_r _ [34, 15, 16, 13, 17] (by decide +kernel) (by decide +kernel)
set_option maxRecDepth 20000 in
theorem gX6_lay_X6_isSheet : GoodIn wsX6_lay (va_wsS RX6 226 yX6_isSheet wsX6_isSheet) := goodIn_app (goodIn_of _ (by decide +kernel)) ggX6_lay_X6_isSheet
set_option maxRecDepth 20000 in
theorem ggX6_lay_X2_isMissing : GoodIn wsX6_lay wsX2_isMissing := goodIn_r _ [39, 40, 88, 89, 90] (by decide +kernel) (by decide +kernel)
set_option maxRecDepth 20000 in
theorem gX6_lay_X2_isMissing : GoodIn wsX6_lay (wsV RX6 229 RX2 yX2_isMissing wsX2_isMissing) := goodIn_app (goodIn_of _ (by decide +kernel)) ggX6_lay_X2_isMissing
theorem dX6_lay_0 : decode cX6_lay 0 = .ok (.iload_n 1, 1) := by decide +kernel
theorem dX6_lay_1 : decode cX6_lay 1 = .ok (.invokestatic 305, 3) := by decide +kernel
theorem dX6_lay_4 : decode cX6_lay 4 = .ok (.ifCond .eq 12, 3) := by decide +kernel
theorem dX6_lay_7 : decode cX6_lay 7 = .ok (.iload_n 2, 1) := by decide +kernel
theorem dX6_lay_8 : decode cX6_lay 8 = .ok (.iconst 0, 1) := by decide +kernel
theorem dX6_lay_9 : decode cX6_lay 9 = .ok (.iconst 3, 1) := by decide +kernel
theorem dX6_lay_10 : decode cX6_lay 10 = .ok (.invokestatic 65, 3) := by decide +kernel
theorem dX6_lay_13 : decode cX6_lay 13 = .ok (.ifCond .ne 6, 3) := by decide +kernel
theorem dX6_lay_16 : decode cX6_lay 16 = .ok (.ldc 69, 2) := by decide +kernel
theorem dX6_lay_18 : decode cX6_lay 18 = .ok (.ireturn, 1) := by decide +kernel
theorem dX6_lay_19 : decode cX6_lay 19 = .ok (.aload_n 0, 1) := by decide +kernel
theorem dX6_lay_20 : decode cX6_lay 20 = .ok (.getfield 23, 3) := by decide +kernel
theorem dX6_lay_23 : decode cX6_lay 23 = .ok (.iload_n 1, 1) := by decide +kernel
theorem dX6_lay_24 : decode cX6_lay 24 = .ok (.aaload, 1) := by decide +kernel
theorem dX6_lay_25 : decode cX6_lay 25 = .ok (.astore 4, 2) := by decide +kernel
theorem dX6_lay_27 : decode cX6_lay 27 = .ok (.aload 4, 2) := by decide +kernel
theorem dX6_lay_29 : decode cX6_lay 29 = .ok (.getfield 308, 3) := by decide +kernel
theorem dX6_lay_32 : decode cX6_lay 32 = .ok (.istore 5, 2) := by decide +kernel
theorem dX6_lay_34 : decode cX6_lay 34 = .ok (.iload_n 2, 1) := by decide +kernel
theorem dX6_lay_35 : decode cX6_lay 35 = .ok (.iconst 1, 1) := by decide +kernel
theorem dX6_lay_36 : decode cX6_lay 36 = .ok (.if_icmp .ne 34, 3) := by decide +kernel
theorem dX6_lay_39 : decode cX6_lay 39 = .ok (.aload_n 0, 1) := by decide +kernel
theorem dX6_lay_40 : decode cX6_lay 40 = .ok (.iload_n 3, 1) := by decide +kernel
theorem dX6_lay_41 : decode cX6_lay 41 = .ok (.invokevirtual 79, 3) := by decide +kernel
theorem dX6_lay_44 : decode cX6_lay 44 = .ok (.ifCond .ne 6, 3) := by decide +kernel
theorem dX6_lay_47 : decode cX6_lay 47 = .ok (.ldc 69, 2) := by decide +kernel
theorem dX6_lay_49 : decode cX6_lay 49 = .ok (.ireturn, 1) := by decide +kernel
theorem dX6_lay_70 : decode cX6_lay 70 = .ok (.iload_n 2, 1) := by decide +kernel
theorem dX6_lay_71 : decode cX6_lay 71 = .ok (.iconst 2, 1) := by decide +kernel
theorem dX6_lay_72 : decode cX6_lay 72 = .ok (.if_icmp .ne 45, 3) := by decide +kernel
theorem dX6_lay_75 : decode cX6_lay 75 = .ok (.iload_n 3, 1) := by decide +kernel
theorem dX6_lay_76 : decode cX6_lay 76 = .ok (.invokestatic 226, 3) := by decide +kernel
theorem dX6_lay_79 : decode cX6_lay 79 = .ok (.ifCond .ne 6, 3) := by decide +kernel
theorem dX6_lay_82 : decode cX6_lay 82 = .ok (.ldc 69, 2) := by decide +kernel
theorem dX6_lay_84 : decode cX6_lay 84 = .ok (.ireturn, 1) := by decide +kernel
theorem dX6_lay_85 : decode cX6_lay 85 = .ok (.aload_n 0, 1) := by decide +kernel
theorem dX6_lay_86 : decode cX6_lay 86 = .ok (.getfield 17, 3) := by decide +kernel
theorem dX6_lay_89 : decode cX6_lay 89 = .ok (.iload_n 3, 1) := by decide +kernel
theorem dX6_lay_90 : decode cX6_lay 90 = .ok (.aaload, 1) := by decide +kernel
theorem dX6_lay_91 : decode cX6_lay 91 = .ok (.invokevirtual 229, 3) := by decide +kernel
theorem dX6_lay_94 : decode cX6_lay 94 = .ok (.ifCond .eq 6, 3) := by decide +kernel
theorem dX6_lay_97 : decode cX6_lay 97 = .ok (.ldc 233, 2) := by decide +kernel
theorem dX6_lay_99 : decode cX6_lay 99 = .ok (.ireturn, 1) := by decide +kernel
theorem dX6_lay_117 : decode cX6_lay 117 = .ok (.iload_n 2, 1) := by decide +kernel
theorem dX6_lay_118 : decode cX6_lay 118 = .ok (.iconst 3, 1) := by decide +kernel
theorem dX6_lay_119 : decode cX6_lay 119 = .ok (.if_icmp .ne 9, 3) := by decide +kernel
theorem dX6_lay_122 : decode cX6_lay 122 = .ok (.aload 4, 2) := by decide +kernel
theorem dX6_lay_124 : decode cX6_lay 124 = .ok (.iload_n 3, 1) := by decide +kernel
theorem dX6_lay_125 : decode cX6_lay 125 = .ok (.putfield 325, 3) := by decide +kernel
theorem dX6_lay_128 : decode cX6_lay 128 = .ok (.aload 4, 2) := by decide +kernel
theorem dX6_lay_130 : decode cX6_lay 130 = .ok (.iload_n 2, 1) := by decide +kernel
theorem dX6_lay_131 : decode cX6_lay 131 = .ok (.putfield 308, 3) := by decide +kernel
theorem dX6_lay_134 : decode cX6_lay 134 = .ok (.iload 5, 2) := by decide +kernel
theorem dX6_lay_136 : decode cX6_lay 136 = .ok (.ireturn, 1) := by decide +kernel
set_option maxRecDepth 20000 in
theorem ggX6_ask_X6_isSlot : GoodIn wsX6_ask wsX6_isSlot := goodIn_r _ [8, 9, 10, 7, 11] (by decide +kernel) (by decide +kernel)
set_option maxRecDepth 20000 in
theorem gX6_ask_X6_isSlot : GoodIn wsX6_ask (va_wsS RX6 305 yX6_isSlot wsX6_isSlot) := goodIn_app (goodIn_of _ (by decide +kernel)) ggX6_ask_X6_isSlot
set_option maxRecDepth 20000 in
theorem ggX6_ask_X6_within : GoodIn wsX6_ask wsX6_within := goodIn_r _ [11] (by decide +kernel) (by decide +kernel)
set_option maxRecDepth 20000 in
theorem gX6_ask_X6_within : GoodIn wsX6_ask (va_wsS RX6 65 yX6_within wsX6_within) := goodIn_app (goodIn_of _ (by decide +kernel)) ggX6_ask_X6_within
set_option maxRecDepth 20000 in
theorem ggX6_ask_X3_refuses : GoodIn wsX6_ask wsX3_refuses := goodIn_r _ [16, 17, 18, 19, 46, 47, 48, 49] (by decide +kernel) (by decide +kernel)
set_option maxRecDepth 20000 in
theorem gX6_ask_X3_refuses : GoodIn wsX6_ask (wsV RX6 328 RX3 yX3_refuses wsX3_refuses) := goodIn_app (goodIn_of _ (by decide +kernel)) ggX6_ask_X3_refuses
theorem dX6_ask_0 : decode cX6_ask 0 = .ok (.iload_n 1, 1) := by decide +kernel
theorem dX6_ask_1 : decode cX6_ask 1 = .ok (.invokestatic 305, 3) := by decide +kernel
theorem dX6_ask_4 : decode cX6_ask 4 = .ok (.ifCond .eq 12, 3) := by decide +kernel
theorem dX6_ask_7 : decode cX6_ask 7 = .ok (.iload_n 2, 1) := by decide +kernel
theorem dX6_ask_8 : decode cX6_ask 8 = .ok (.iconst 0, 1) := by decide +kernel
theorem dX6_ask_9 : decode cX6_ask 9 = .ok (.iconst 5, 1) := by decide +kernel
theorem dX6_ask_10 : decode cX6_ask 10 = .ok (.invokestatic 65, 3) := by decide +kernel
theorem dX6_ask_13 : decode cX6_ask 13 = .ok (.ifCond .ne 6, 3) := by decide +kernel
theorem dX6_ask_16 : decode cX6_ask 16 = .ok (.ldc 69, 2) := by decide +kernel
theorem dX6_ask_18 : decode cX6_ask 18 = .ok (.ireturn, 1) := by decide +kernel
theorem dX6_ask_19 : decode cX6_ask 19 = .ok (.aload_n 0, 1) := by decide +kernel
theorem dX6_ask_20 : decode cX6_ask 20 = .ok (.getfield 23, 3) := by decide +kernel
theorem dX6_ask_23 : decode cX6_ask 23 = .ok (.iload_n 1, 1) := by decide +kernel
theorem dX6_ask_24 : decode cX6_ask 24 = .ok (.aaload, 1) := by decide +kernel
theorem dX6_ask_25 : decode cX6_ask 25 = .ok (.iconst 1, 1) := by decide +kernel
theorem dX6_ask_26 : decode cX6_ask 26 = .ok (.invokevirtual 328, 3) := by decide +kernel
theorem dX6_ask_29 : decode cX6_ask 29 = .ok (.istore_n 3, 1) := by decide +kernel
theorem dX6_ask_30 : decode cX6_ask 30 = .ok (.iload_n 3, 1) := by decide +kernel
theorem dX6_ask_31 : decode cX6_ask 31 = .ok (.ifCond .eq 5, 3) := by decide +kernel
theorem dX6_ask_34 : decode cX6_ask 34 = .ok (.iload_n 3, 1) := by decide +kernel
theorem dX6_ask_35 : decode cX6_ask 35 = .ok (.ireturn, 1) := by decide +kernel
set_option maxRecDepth 20000 in
theorem ggX6_item_X6_isSlot : GoodIn wsX6_item wsX6_isSlot := goodIn_r _ [10, 11, 12, 9, 13] (by decide +kernel) (by decide +kernel)
set_option maxRecDepth 20000 in
theorem gX6_item_X6_isSlot : GoodIn wsX6_item (va_wsS RX6 305 yX6_isSlot wsX6_isSlot) := goodIn_app (goodIn_of _ (by decide +kernel)) ggX6_item_X6_isSlot
set_option maxRecDepth 20000 in
theorem ggX6_item_X3_refuses : GoodIn wsX6_item wsX3_refuses := goodIn_r _ [18, 19, 20, 21, 50, 51, 52, 53] (by decide +kernel) (by decide +kernel)
set_option maxRecDepth 20000 in
theorem gX6_item_X3_refuses : GoodIn wsX6_item (wsV RX6 328 RX3 yX3_refuses wsX3_refuses) := goodIn_app (goodIn_of _ (by decide +kernel)) ggX6_item_X3_refuses
theorem dX6_item_0 : decode cX6_item 0 = .ok (.iload_n 1, 1) := by decide +kernel
theorem dX6_item_1 : decode cX6_item 1 = .ok (.invokestatic 305, 3) := by decide +kernel
theorem dX6_item_4 : decode cX6_item 4 = .ok (.ifCond .ne 6, 3) := by decide +kernel
theorem dX6_item_7 : decode cX6_item 7 = .ok (.ldc 69, 2) := by decide +kernel
theorem dX6_item_9 : decode cX6_item 9 = .ok (.ireturn, 1) := by decide +kernel
theorem dX6_item_10 : decode cX6_item 10 = .ok (.aload_n 0, 1) := by decide +kernel
theorem dX6_item_11 : decode cX6_item 11 = .ok (.getfield 23, 3) := by decide +kernel
theorem dX6_item_14 : decode cX6_item 14 = .ok (.iload_n 1, 1) := by decide +kernel
theorem dX6_item_15 : decode cX6_item 15 = .ok (.aaload, 1) := by decide +kernel
theorem dX6_item_16 : decode cX6_item 16 = .ok (.iconst 2, 1) := by decide +kernel
theorem dX6_item_17 : decode cX6_item 17 = .ok (.invokevirtual 328, 3) := by decide +kernel
theorem dX6_item_20 : decode cX6_item 20 = .ok (.istore_n 3, 1) := by decide +kernel
theorem dX6_item_21 : decode cX6_item 21 = .ok (.iload_n 3, 1) := by decide +kernel
theorem dX6_item_22 : decode cX6_item 22 = .ok (.ifCond .eq 5, 3) := by decide +kernel
theorem dX6_item_25 : decode cX6_item 25 = .ok (.iload_n 3, 1) := by decide +kernel
theorem dX6_item_26 : decode cX6_item 26 = .ok (.ireturn, 1) := by decide +kernel
set_option maxRecDepth 20000 in
theorem ggX6_rest_X6_isSlot : GoodIn wsX6_rest wsX6_isSlot := goodIn_r _ [8, 9, 10, 7, 11] (by decide +kernel) (by decide +kernel)
set_option maxRecDepth 20000 in
theorem gX6_rest_X6_isSlot : GoodIn wsX6_rest (va_wsS RX6 305 yX6_isSlot wsX6_isSlot) := goodIn_app (goodIn_of _ (by decide +kernel)) ggX6_rest_X6_isSlot
set_option maxRecDepth 20000 in
theorem ggX6_rest_X3_refuses : GoodIn wsX6_rest wsX3_refuses := goodIn_r _ [16, 17, 18, 19, 35, 36, 37, 38] (by decide +kernel) (by decide +kernel)
set_option maxRecDepth 20000 in
theorem gX6_rest_X3_refuses : GoodIn wsX6_rest (wsV RX6 328 RX3 yX3_refuses wsX3_refuses) := goodIn_app (goodIn_of _ (by decide +kernel)) ggX6_rest_X3_refuses
theorem dX6_rest_0 : decode cX6_rest 0 = .ok (.iload_n 1, 1) := by decide +kernel
theorem dX6_rest_1 : decode cX6_rest 1 = .ok (.invokestatic 305, 3) := by decide +kernel
theorem dX6_rest_4 : decode cX6_rest 4 = .ok (.ifCond .ne 6, 3) := by decide +kernel
theorem dX6_rest_7 : decode cX6_rest 7 = .ok (.ldc 69, 2) := by decide +kernel
theorem dX6_rest_9 : decode cX6_rest 9 = .ok (.ireturn, 1) := by decide +kernel
theorem dX6_rest_10 : decode cX6_rest 10 = .ok (.aload_n 0, 1) := by decide +kernel
theorem dX6_rest_11 : decode cX6_rest 11 = .ok (.getfield 23, 3) := by decide +kernel
theorem dX6_rest_14 : decode cX6_rest 14 = .ok (.iload_n 1, 1) := by decide +kernel
theorem dX6_rest_15 : decode cX6_rest 15 = .ok (.aaload, 1) := by decide +kernel
theorem dX6_rest_16 : decode cX6_rest 16 = .ok (.iconst 3, 1) := by decide +kernel
theorem dX6_rest_17 : decode cX6_rest 17 = .ok (.invokevirtual 328, 3) := by decide +kernel
theorem dX6_rest_20 : decode cX6_rest 20 = .ok (.istore_n 3, 1) := by decide +kernel
theorem dX6_rest_21 : decode cX6_rest 21 = .ok (.iload_n 3, 1) := by decide +kernel
theorem dX6_rest_22 : decode cX6_rest 22 = .ok (.ifCond .eq 5, 3) := by decide +kernel
theorem dX6_rest_25 : decode cX6_rest 25 = .ok (.iload_n 3, 1) := by decide +kernel
theorem dX6_rest_26 : decode cX6_rest 26 = .ok (.ireturn, 1) := by decide +kernel
theorem dX6_tell_0 : decode cX6_tell 0 = .ok (.aload_n 0, 1) := by decide +kernel
theorem dX6_tell_1 : decode cX6_tell 1 = .ok (.getfield 332, 3) := by decide +kernel
theorem dX6_tell_4 : decode cX6_tell 4 = .ok (.bipush 60, 2) := by decide +kernel
theorem dX6_tell_6 : decode cX6_tell 6 = .ok (.if_icmp .lt 6, 3) := by decide +kernel
theorem dX6_tell_12 : decode cX6_tell 12 = .ok (.aload_n 0, 1) := by decide +kernel
theorem dX6_tell_13 : decode cX6_tell 13 = .ok (.getfield 27, 3) := by decide +kernel
theorem dX6_tell_16 : decode cX6_tell 16 = .ok (.aload_n 0, 1) := by decide +kernel
theorem dX6_tell_17 : decode cX6_tell 17 = .ok (.getfield 332, 3) := by decide +kernel
theorem dX6_tell_20 : decode cX6_tell 20 = .ok (.iload_n 1, 1) := by decide +kernel
theorem dX6_tell_21 : decode cX6_tell 21 = .ok (.iastore, 1) := by decide +kernel
theorem dX6_tell_22 : decode cX6_tell 22 = .ok (.aload_n 0, 1) := by decide +kernel
theorem dX6_tell_23 : decode cX6_tell 23 = .ok (.dup, 1) := by decide +kernel
theorem dX6_tell_24 : decode cX6_tell 24 = .ok (.getfield 332, 3) := by decide +kernel
theorem dX6_tell_27 : decode cX6_tell 27 = .ok (.iconst 1, 1) := by decide +kernel
theorem dX6_tell_28 : decode cX6_tell 28 = .ok (.iadd, 1) := by decide +kernel
theorem dX6_tell_29 : decode cX6_tell 29 = .ok (.putfield 332, 3) := by decide +kernel
theorem dX6_tell_32 : decode cX6_tell 32 = .ok (.aload_n 0, 1) := by decide +kernel
theorem dX6_tell_33 : decode cX6_tell 33 = .ok (.getfield 332, 3) := by decide +kernel
theorem dX6_tell_36 : decode cX6_tell 36 = .ok (.ireturn, 1) := by decide +kernel
set_option maxRecDepth 20000 in
theorem ggX6_check_X6_within : GoodIn wsX6_check wsX6_within := goodIn_r _ [18] (by decide +kernel) (by decide +kernel)
set_option maxRecDepth 20000 in
theorem gX6_check_X6_within : GoodIn wsX6_check (va_wsS RX6 65 yX6_within wsX6_within) := goodIn_app (goodIn_of _ (by decide +kernel)) ggX6_check_X6_within
theorem dX6_check_0 : decode cX6_check 0 = .ok (.aload_n 0, 1) := by decide +kernel
theorem dX6_check_1 : decode cX6_check 1 = .ok (.getfield 332, 3) := by decide +kernel
theorem dX6_check_4 : decode cX6_check 4 = .ok (.istore_n 2, 1) := by decide +kernel
theorem dX6_check_5 : decode cX6_check 5 = .ok (.aload_n 0, 1) := by decide +kernel
theorem dX6_check_6 : decode cX6_check 6 = .ok (.iconst 0, 1) := by decide +kernel
theorem dX6_check_7 : decode cX6_check 7 = .ok (.putfield 332, 3) := by decide +kernel
theorem dX6_check_10 : decode cX6_check 10 = .ok (.iload_n 1, 1) := by decide +kernel
theorem dX6_check_11 : decode cX6_check 11 = .ok (.iconst 1, 1) := by decide +kernel
theorem dX6_check_12 : decode cX6_check 12 = .ok (.bipush 30, 2) := by decide +kernel
theorem dX6_check_14 : decode cX6_check 14 = .ok (.invokestatic 65, 3) := by decide +kernel
theorem dX6_check_17 : decode cX6_check 17 = .ok (.ifCond .ne 6, 3) := by decide +kernel
theorem dX6_check_20 : decode cX6_check 20 = .ok (.ldc 69, 2) := by decide +kernel
theorem dX6_check_22 : decode cX6_check 22 = .ok (.ireturn, 1) := by decide +kernel
theorem dX6_check_23 : decode cX6_check 23 = .ok (.aload_n 0, 1) := by decide +kernel
theorem dX6_check_24 : decode cX6_check 24 = .ok (.getfield 335, 3) := by decide +kernel
theorem dX6_check_27 : decode cX6_check 27 = .ok (.ifCond .ne 7, 3) := by decide +kernel
theorem dX6_check_30 : decode cX6_check 30 = .ok (.ldc_w 331, 3) := by decide +kernel
theorem dX6_check_33 : decode cX6_check 33 = .ok (.ireturn, 1) := by decide +kernel
set_option maxRecDepth 20000 in
theorem ggX6_keep_X0_takeOver : GoodIn wsX6_keep wsX0_takeOver := goodIn_r _ [9, 10, 11, 12, 13, 14, 15, 16, 17, 18, 19, 20, 21, 22, 23, 24, 25, 26, 27, 28, 29, 30, 31, 47, 48, 49, 50, 51, 52, 53, 54, 55, 56, 57, 58, 59, 60, 61, 62, 63, 64] (by decide +kernel) (by decide +kernel)
set_option maxRecDepth 20000 in
theorem gX6_keep_X0_takeOver : GoodIn wsX6_keep (wsV RX6 200 RX0 yX0_takeOver wsX0_takeOver) := goodIn_app (goodIn_of _ (by decide +kernel)) ggX6_keep_X0_takeOver
theorem dX6_keep_0 : decode cX6_keep 0 = .ok (.aload_n 0, 1) := by decide +kernel
theorem dX6_keep_1 : decode cX6_keep 1 = .ok (.getfield 46, 3) := by decide +kernel
theorem dX6_keep_4 : decode cX6_keep 4 = .ok (.aload_n 0, 1) := by decide +kernel
theorem dX6_keep_5 : decode cX6_keep 5 = .ok (.getfield 39, 3) := by decide +kernel
theorem dX6_keep_8 : decode cX6_keep 8 = .ok (.invokevirtual 200, 3) := by decide +kernel
theorem dX6_keep_11 : decode cX6_keep 11 = .ok (.aload_n 0, 1) := by decide +kernel
theorem dX6_keep_12 : decode cX6_keep 12 = .ok (.iconst 1, 1) := by decide +kernel
theorem dX6_keep_13 : decode cX6_keep 13 = .ok (.putfield 335, 3) := by decide +kernel
theorem dX6_keep_16 : decode cX6_keep 16 = .ok (.aload_n 0, 1) := by decide +kernel
theorem dX6_keep_17 : decode cX6_keep 17 = .ok (.getfield 39, 3) := by decide +kernel
theorem dX6_keep_20 : decode cX6_keep 20 = .ok (.getfield 70, 3) := by decide +kernel
theorem dX6_keep_23 : decode cX6_keep 23 = .ok (.ireturn, 1) := by decide +kernel
theorem dX6_back_0 : decode cX6_back 0 = .ok (.aload_n 0, 1) := by decide +kernel
theorem dX6_back_1 : decode cX6_back 1 = .ok (.getfield 335, 3) := by decide +kernel
theorem dX6_back_4 : decode cX6_back 4 = .ok (.ifCond .ne 7, 3) := by decide +kernel
theorem dX6_back_7 : decode cX6_back 7 = .ok (.ldc_w 331, 3) := by decide +kernel
theorem dX6_back_10 : decode cX6_back 10 = .ok (.ireturn, 1) := by decide +kernel
set_option maxRecDepth 20000 in
theorem ggX6_count_X0_shadedSet : GoodIn wsX6_count wsX0_shadedSet := goodIn_r _ [13, 14, 15, 16, 17, 18, 19, 12, 20, 21, 22, 23, 24, 25, 26, 27, 28, 29, 30, 31, 54, 55, 56, 57, 58, 59, 60, 61, 62, 63, 64, 65, 66, 67, 68, 69, 70, 71] (by decide +kernel) (by decide +kernel)
set_option maxRecDepth 20000 in
theorem gX6_count_X0_shadedSet : GoodIn wsX6_count (wsV RX6 144 RX0 yX0_shadedSet wsX0_shadedSet) := goodIn_app (goodIn_of _ (by decide +kernel)) ggX6_count_X0_shadedSet
set_option maxRecDepth 20000 in
theorem ggX6_count_J6_bitCount_0f7a4 : GoodIn wsX6_count wsJ6_bitCount_0f7a4 := goodIn_r _ [35, 36, 37, 38] (by decide +kernel) (by decide +kernel)
set_option maxRecDepth 20000 in
theorem gX6_count_J6_bitCount_0f7a4 : GoodIn wsX6_count (va_wsS RX6 339 yJ6_bitCount_0f7a4 wsJ6_bitCount_0f7a4) := goodIn_app (goodIn_of _ (by decide +kernel)) ggX6_count_J6_bitCount_0f7a4
theorem dX6_count_0 : decode cX6_count 0 = .ok (.iload_n 1, 1) := by decide +kernel
theorem dX6_count_1 : decode cX6_count 1 = .ok (.tableswitch 96 0 6 #[43, 51, 59, 70, 78, 83, 88], 43) := by decide +kernel
theorem dX6_count_44 : decode cX6_count 44 = .ok (.aload_n 0, 1) := by decide +kernel
theorem dX6_count_45 : decode cX6_count 45 = .ok (.getfield 39, 3) := by decide +kernel
theorem dX6_count_48 : decode cX6_count 48 = .ok (.getfield 70, 3) := by decide +kernel
theorem dX6_count_51 : decode cX6_count 51 = .ok (.ireturn, 1) := by decide +kernel
theorem dX6_count_52 : decode cX6_count 52 = .ok (.aload_n 0, 1) := by decide +kernel
theorem dX6_count_53 : decode cX6_count 53 = .ok (.getfield 39, 3) := by decide +kernel
theorem dX6_count_56 : decode cX6_count 56 = .ok (.getfield 182, 3) := by decide +kernel
theorem dX6_count_59 : decode cX6_count 59 = .ok (.ireturn, 1) := by decide +kernel
theorem dX6_count_60 : decode cX6_count 60 = .ok (.aload_n 0, 1) := by decide +kernel
theorem dX6_count_61 : decode cX6_count 61 = .ok (.getfield 39, 3) := by decide +kernel
theorem dX6_count_64 : decode cX6_count 64 = .ok (.invokevirtual 144, 3) := by decide +kernel
theorem dX6_count_67 : decode cX6_count 67 = .ok (.invokestatic 339, 3) := by decide +kernel
theorem dX6_count_70 : decode cX6_count 70 = .ok (.ireturn, 1) := by decide +kernel
theorem dX6_count_71 : decode cX6_count 71 = .ok (.aload_n 0, 1) := by decide +kernel
theorem dX6_count_72 : decode cX6_count 72 = .ok (.getfield 39, 3) := by decide +kernel
theorem dX6_count_75 : decode cX6_count 75 = .ok (.getfield 253, 3) := by decide +kernel
theorem dX6_count_78 : decode cX6_count 78 = .ok (.ireturn, 1) := by decide +kernel
theorem dX6_count_79 : decode cX6_count 79 = .ok (.aload_n 0, 1) := by decide +kernel
theorem dX6_count_80 : decode cX6_count 80 = .ok (.getfield 332, 3) := by decide +kernel
theorem dX6_count_83 : decode cX6_count 83 = .ok (.ireturn, 1) := by decide +kernel
theorem dX6_count_84 : decode cX6_count 84 = .ok (.aload_n 0, 1) := by decide +kernel
theorem dX6_count_85 : decode cX6_count 85 = .ok (.getfield 244, 3) := by decide +kernel
theorem dX6_count_88 : decode cX6_count 88 = .ok (.ireturn, 1) := by decide +kernel
theorem dX6_count_89 : decode cX6_count 89 = .ok (.aload_n 0, 1) := by decide +kernel
theorem dX6_count_90 : decode cX6_count 90 = .ok (.getfield 39, 3) := by decide +kernel
theorem dX6_count_93 : decode cX6_count 93 = .ok (.getfield 176, 3) := by decide +kernel
theorem dX6_count_96 : decode cX6_count 96 = .ok (.ireturn, 1) := by decide +kernel
theorem dX6_count_97 : decode cX6_count 97 = .ok (.ldc 69, 2) := by decide +kernel
theorem dX6_count_99 : decode cX6_count 99 = .ok (.ireturn, 1) := by decide +kernel
set_option maxRecDepth 20000 in
theorem ggX6_isStall_X6_within : GoodIn wsX6_isStall wsX6_within := goodIn_r _ [6] (by decide +kernel) (by decide +kernel)
set_option maxRecDepth 20000 in
theorem gX6_isStall_X6_within : GoodIn wsX6_isStall (va_wsS RX6 65 yX6_within wsX6_within) := goodIn_app (goodIn_of _ (by decide +kernel)) ggX6_isStall_X6_within
theorem dX6_isStall_0 : decode cX6_isStall 0 = .ok (.iload_n 1, 1) := by decide +kernel
theorem dX6_isStall_1 : decode cX6_isStall 1 = .ok (.iconst 0, 1) := by decide +kernel
theorem dX6_isStall_2 : decode cX6_isStall 2 = .ok (.aload_n 0, 1) := by decide +kernel
theorem dX6_isStall_3 : decode cX6_isStall 3 = .ok (.getfield 39, 3) := by decide +kernel
theorem dX6_isStall_6 : decode cX6_isStall 6 = .ok (.getfield 70, 3) := by decide +kernel
theorem dX6_isStall_9 : decode cX6_isStall 9 = .ok (.iconst 1, 1) := by decide +kernel
theorem dX6_isStall_10 : decode cX6_isStall 10 = .ok (.isub, 1) := by decide +kernel
theorem dX6_isStall_11 : decode cX6_isStall 11 = .ok (.invokestatic 65, 3) := by decide +kernel
theorem dX6_isStall_14 : decode cX6_isStall 14 = .ok (.ireturn, 1) := by decide +kernel
set_option maxRecDepth 20000 in
theorem ggX6_isSheet_X6_within : GoodIn wsX6_isSheet wsX6_within := goodIn_r _ [4] (by decide +kernel) (by decide +kernel)
set_option maxRecDepth 20000 in
theorem gX6_isSheet_X6_within : GoodIn wsX6_isSheet (va_wsS RX6 65 yX6_within wsX6_within) := goodIn_app (goodIn_of _ (by decide +kernel)) ggX6_isSheet_X6_within
theorem dX6_isSheet_0 : decode cX6_isSheet 0 = .ok (.iload_n 0, 1) := by decide +kernel
theorem dX6_isSheet_1 : decode cX6_isSheet 1 = .ok (.iconst 0, 1) := by decide +kernel
theorem dX6_isSheet_2 : decode cX6_isSheet 2 = .ok (.iconst 3, 1) := by decide +kernel
theorem dX6_isSheet_3 : decode cX6_isSheet 3 = .ok (.invokestatic 65, 3) := by decide +kernel
theorem dX6_isSheet_6 : decode cX6_isSheet 6 = .ok (.ireturn, 1) := by decide +kernel
set_option maxRecDepth 20000 in
theorem ggX6_isSlot_X6_within : GoodIn wsX6_isSlot wsX6_within := goodIn_r _ [4] (by decide +kernel) (by decide +kernel)
set_option maxRecDepth 20000 in
theorem gX6_isSlot_X6_within : GoodIn wsX6_isSlot (va_wsS RX6 65 yX6_within wsX6_within) := goodIn_app (goodIn_of _ (by decide +kernel)) ggX6_isSlot_X6_within
theorem dX6_isSlot_0 : decode cX6_isSlot 0 = .ok (.iload_n 0, 1) := by decide +kernel
theorem dX6_isSlot_1 : decode cX6_isSlot 1 = .ok (.iconst 0, 1) := by decide +kernel
theorem dX6_isSlot_2 : decode cX6_isSlot 2 = .ok (.iconst 4, 1) := by decide +kernel
theorem dX6_isSlot_3 : decode cX6_isSlot 3 = .ok (.invokestatic 65, 3) := by decide +kernel
theorem dX6_isSlot_6 : decode cX6_isSlot 6 = .ok (.ireturn, 1) := by decide +kernel
theorem dX6_within_0 : decode cX6_within 0 = .ok (.iload_n 0, 1) := by decide +kernel
theorem dX6_within_1 : decode cX6_within 1 = .ok (.iload_n 1, 1) := by decide +kernel
theorem dX6_within_2 : decode cX6_within 2 = .ok (.if_icmp .lt 12, 3) := by decide +kernel
theorem dX6_within_5 : decode cX6_within 5 = .ok (.iload_n 0, 1) := by decide +kernel
theorem dX6_within_6 : decode cX6_within 6 = .ok (.iload_n 2, 1) := by decide +kernel
theorem dX6_within_7 : decode cX6_within 7 = .ok (.if_icmp .gt 7, 3) := by decide +kernel
theorem dX6_within_10 : decode cX6_within 10 = .ok (.iconst 1, 1) := by decide +kernel
theorem dX6_within_11 : decode cX6_within 11 = .ok (.goto 4, 3) := by decide +kernel
theorem dX6_within_14 : decode cX6_within 14 = .ok (.iconst 0, 1) := by decide +kernel
theorem dX6_within_15 : decode cX6_within 15 = .ok (.ireturn, 1) := by decide +kernel
theorem dX6_held_0 : decode cX6_held 0 = .ok (.iload_n 1, 1) := by decide +kernel
theorem dX6_held_1 : decode cX6_held 1 = .ok (.iload_n 0, 1) := by decide +kernel
theorem dX6_held_2 : decode cX6_held 2 = .ok (.iload_n 2, 1) := by decide +kernel
theorem dX6_held_3 : decode cX6_held 3 = .ok (.invokestatic 167, 3) := by decide +kernel
theorem dX6_held_6 : decode cX6_held 6 = .ok (.invokestatic 344, 3) := by decide +kernel
theorem dX6_held_9 : decode cX6_held 9 = .ok (.ireturn, 1) := by decide +kernel
theorem dJ6_bitCount_0f7a4_0 : decode cJ6_bitCount_0f7a4 0 = .ok (.iload_n 0, 1) := by decide +kernel
theorem dJ6_bitCount_0f7a4_1 : decode cJ6_bitCount_0f7a4 1 = .ok (.iload_n 0, 1) := by decide +kernel
theorem dJ6_bitCount_0f7a4_2 : decode cJ6_bitCount_0f7a4 2 = .ok (.iconst 1, 1) := by decide +kernel
theorem dJ6_bitCount_0f7a4_3 : decode cJ6_bitCount_0f7a4 3 = .ok (.iushr, 1) := by decide +kernel
theorem dJ6_bitCount_0f7a4_4 : decode cJ6_bitCount_0f7a4 4 = .ok (.ldc_w 265, 3) := by decide +kernel
theorem dJ6_bitCount_0f7a4_7 : decode cJ6_bitCount_0f7a4 7 = .ok (.iand, 1) := by decide +kernel
theorem dJ6_bitCount_0f7a4_8 : decode cJ6_bitCount_0f7a4 8 = .ok (.isub, 1) := by decide +kernel
theorem dJ6_bitCount_0f7a4_9 : decode cJ6_bitCount_0f7a4 9 = .ok (.istore_n 0, 1) := by decide +kernel
theorem dJ6_bitCount_0f7a4_10 : decode cJ6_bitCount_0f7a4 10 = .ok (.iload_n 0, 1) := by decide +kernel
theorem dJ6_bitCount_0f7a4_11 : decode cJ6_bitCount_0f7a4 11 = .ok (.ldc_w 266, 3) := by decide +kernel
theorem dJ6_bitCount_0f7a4_14 : decode cJ6_bitCount_0f7a4 14 = .ok (.iand, 1) := by decide +kernel
theorem dJ6_bitCount_0f7a4_15 : decode cJ6_bitCount_0f7a4 15 = .ok (.iload_n 0, 1) := by decide +kernel
theorem dJ6_bitCount_0f7a4_16 : decode cJ6_bitCount_0f7a4 16 = .ok (.iconst 2, 1) := by decide +kernel
theorem dJ6_bitCount_0f7a4_17 : decode cJ6_bitCount_0f7a4 17 = .ok (.iushr, 1) := by decide +kernel
theorem dJ6_bitCount_0f7a4_18 : decode cJ6_bitCount_0f7a4 18 = .ok (.ldc_w 266, 3) := by decide +kernel
theorem dJ6_bitCount_0f7a4_21 : decode cJ6_bitCount_0f7a4 21 = .ok (.iand, 1) := by decide +kernel
theorem dJ6_bitCount_0f7a4_22 : decode cJ6_bitCount_0f7a4 22 = .ok (.iadd, 1) := by decide +kernel
theorem dJ6_bitCount_0f7a4_23 : decode cJ6_bitCount_0f7a4 23 = .ok (.istore_n 0, 1) := by decide +kernel
theorem dJ6_bitCount_0f7a4_24 : decode cJ6_bitCount_0f7a4 24 = .ok (.iload_n 0, 1) := by decide +kernel
theorem dJ6_bitCount_0f7a4_25 : decode cJ6_bitCount_0f7a4 25 = .ok (.iload_n 0, 1) := by decide +kernel
theorem dJ6_bitCount_0f7a4_26 : decode cJ6_bitCount_0f7a4 26 = .ok (.iconst 4, 1) := by decide +kernel
theorem dJ6_bitCount_0f7a4_27 : decode cJ6_bitCount_0f7a4 27 = .ok (.iushr, 1) := by decide +kernel
theorem dJ6_bitCount_0f7a4_28 : decode cJ6_bitCount_0f7a4 28 = .ok (.iadd, 1) := by decide +kernel
theorem dJ6_bitCount_0f7a4_29 : decode cJ6_bitCount_0f7a4 29 = .ok (.ldc_w 267, 3) := by decide +kernel
theorem dJ6_bitCount_0f7a4_32 : decode cJ6_bitCount_0f7a4 32 = .ok (.iand, 1) := by decide +kernel
theorem dJ6_bitCount_0f7a4_33 : decode cJ6_bitCount_0f7a4 33 = .ok (.istore_n 0, 1) := by decide +kernel
theorem dJ6_bitCount_0f7a4_34 : decode cJ6_bitCount_0f7a4 34 = .ok (.iload_n 0, 1) := by decide +kernel
theorem dJ6_bitCount_0f7a4_35 : decode cJ6_bitCount_0f7a4 35 = .ok (.iload_n 0, 1) := by decide +kernel
theorem dJ6_bitCount_0f7a4_36 : decode cJ6_bitCount_0f7a4 36 = .ok (.bipush 8, 2) := by decide +kernel
theorem dJ6_bitCount_0f7a4_38 : decode cJ6_bitCount_0f7a4 38 = .ok (.iushr, 1) := by decide +kernel
theorem dJ6_bitCount_0f7a4_39 : decode cJ6_bitCount_0f7a4 39 = .ok (.iadd, 1) := by decide +kernel
theorem dJ6_bitCount_0f7a4_40 : decode cJ6_bitCount_0f7a4 40 = .ok (.istore_n 0, 1) := by decide +kernel
theorem dJ6_bitCount_0f7a4_41 : decode cJ6_bitCount_0f7a4 41 = .ok (.iload_n 0, 1) := by decide +kernel
theorem dJ6_bitCount_0f7a4_42 : decode cJ6_bitCount_0f7a4 42 = .ok (.iload_n 0, 1) := by decide +kernel
theorem dJ6_bitCount_0f7a4_43 : decode cJ6_bitCount_0f7a4 43 = .ok (.bipush 16, 2) := by decide +kernel
theorem dJ6_bitCount_0f7a4_45 : decode cJ6_bitCount_0f7a4 45 = .ok (.iushr, 1) := by decide +kernel
theorem dJ6_bitCount_0f7a4_46 : decode cJ6_bitCount_0f7a4 46 = .ok (.iadd, 1) := by decide +kernel
theorem dJ6_bitCount_0f7a4_47 : decode cJ6_bitCount_0f7a4 47 = .ok (.istore_n 0, 1) := by decide +kernel
theorem dJ6_bitCount_0f7a4_48 : decode cJ6_bitCount_0f7a4 48 = .ok (.iload_n 0, 1) := by decide +kernel
theorem dJ6_bitCount_0f7a4_49 : decode cJ6_bitCount_0f7a4 49 = .ok (.bipush 63, 2) := by decide +kernel
theorem dJ6_bitCount_0f7a4_51 : decode cJ6_bitCount_0f7a4 51 = .ok (.iand, 1) := by decide +kernel
theorem dJ6_bitCount_0f7a4_52 : decode cJ6_bitCount_0f7a4 52 = .ok (.ireturn, 1) := by decide +kernel
