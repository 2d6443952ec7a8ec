set_option maxRecDepth 20000 in
theorem ggX6_init_X6_clear : GoodIn wsX6_init wsX6_clear := goodIn_r _ [10, 11, 12, 13, 14, 15, 16, 17, 18, 19, 20, 21, 22, 23, 24, 25, 26, 27, 28, 29, 30, 31, 32, 33, 34, 35, 36, 37, 38, 39, 40, 41, 42, 43, 44, 45, 46, 47, 48, 49, 50, 51, 52, 53, 54, 55, 56, 57, 58, 59, 60, 61, 62, 63, 64, 65, 66, 67, 68] (by decide +kernel) (by decide +kernel)
set_option maxRecDepth 20000 in
theorem gX6_init_X6_clear : GoodIn wsX6_init (wsV RX6 13 RX6 yX6_clear wsX6_clear) := goodIn_app (goodIn_of _ (by decide +kernel)) ggX6_init_X6_clear
theorem dX6_init_0 : decode cX6_init 0 = .ok (.aload_n 0, 1) := by decide +kernel
theorem dX6_init_1 : decode cX6_init 1 = .ok (.invokespecial 1, 3) := by decide +kernel
theorem dX6_init_4 : decode cX6_init 4 = .ok (.aload_n 0, 1) := by decide +kernel
theorem dX6_init_5 : decode cX6_init 5 = .ok (.iconst 4, 1) := by decide +kernel
theorem dX6_init_6 : decode cX6_init 6 = .ok (.newarray .boolean, 2) := by decide +kernel
theorem dX6_init_8 : decode cX6_init 8 = .ok (.putfield 7, 3) := by decide +kernel
theorem dX6_init_11 : decode cX6_init 11 = .ok (.aload_n 0, 1) := by decide +kernel
theorem dX6_init_12 : decode cX6_init 12 = .ok (.invokevirtual 13, 3) := by decide +kernel
theorem dX6_init_15 : decode cX6_init 15 = .ok (.return_, 1) := by decide +kernel
theorem dX6_thrown_0 : decode cX6_thrown 0 = .ok (.aload_n 0, 1) := by decide +kernel
theorem dX6_thrown_1 : decode cX6_thrown 1 = .ok (.getfield 16, 3) := by decide +kernel
theorem dX6_thrown_4 : decode cX6_thrown 4 = .ok (.ireturn, 1) := by decide +kernel
theorem dX6_clear_0 : decode cX6_clear 0 = .ok (.aload_n 0, 1) := by decide +kernel
theorem dX6_clear_1 : decode cX6_clear 1 = .ok (.iconst 0, 1) := by decide +kernel
theorem dX6_clear_2 : decode cX6_clear 2 = .ok (.putfield 20, 3) := by decide +kernel
theorem dX6_clear_5 : decode cX6_clear 5 = .ok (.aload_n 0, 1) := by decide +kernel
theorem dX6_clear_6 : decode cX6_clear 6 = .ok (.iconst 0, 1) := by decide +kernel
theorem dX6_clear_7 : decode cX6_clear 7 = .ok (.putfield 23, 3) := by decide +kernel
theorem dX6_clear_10 : decode cX6_clear 10 = .ok (.aload_n 0, 1) := by decide +kernel
theorem dX6_clear_11 : decode cX6_clear 11 = .ok (.iconst 0, 1) := by decide +kernel
theorem dX6_clear_12 : decode cX6_clear 12 = .ok (.putfield 26, 3) := by decide +kernel
theorem dX6_clear_15 : decode cX6_clear 15 = .ok (.aload_n 0, 1) := by decide +kernel
theorem dX6_clear_16 : decode cX6_clear 16 = .ok (.iconst 0, 1) := by decide +kernel
theorem dX6_clear_17 : decode cX6_clear 17 = .ok (.putfield 29, 3) := by decide +kernel
theorem dX6_clear_20 : decode cX6_clear 20 = .ok (.aload_n 0, 1) := by decide +kernel
theorem dX6_clear_21 : decode cX6_clear 21 = .ok (.iconst 0, 1) := by decide +kernel
theorem dX6_clear_22 : decode cX6_clear 22 = .ok (.putfield 32, 3) := by decide +kernel
theorem dX6_clear_25 : decode cX6_clear 25 = .ok (.aload_n 0, 1) := by decide +kernel
theorem dX6_clear_26 : decode cX6_clear 26 = .ok (.iconst 0, 1) := by decide +kernel
theorem dX6_clear_27 : decode cX6_clear 27 = .ok (.putfield 35, 3) := by decide +kernel
theorem dX6_clear_30 : decode cX6_clear 30 = .ok (.aload_n 0, 1) := by decide +kernel
theorem dX6_clear_31 : decode cX6_clear 31 = .ok (.iconst 0, 1) := by decide +kernel
theorem dX6_clear_32 : decode cX6_clear 32 = .ok (.putfield 38, 3) := by decide +kernel
theorem dX6_clear_35 : decode cX6_clear 35 = .ok (.aload_n 0, 1) := by decide +kernel
theorem dX6_clear_36 : decode cX6_clear 36 = .ok (.iconst 0, 1) := by decide +kernel
theorem dX6_clear_37 : decode cX6_clear 37 = .ok (.putfield 41, 3) := by decide +kernel
theorem dX6_clear_40 : decode cX6_clear 40 = .ok (.aload_n 0, 1) := by decide +kernel
theorem dX6_clear_41 : decode cX6_clear 41 = .ok (.iconst 0, 1) := by decide +kernel
theorem dX6_clear_42 : decode cX6_clear 42 = .ok (.putfield 44, 3) := by decide +kernel
theorem dX6_clear_45 : decode cX6_clear 45 = .ok (.aload_n 0, 1) := by decide +kernel
theorem dX6_clear_46 : decode cX6_clear 46 = .ok (.iconst 0, 1) := by decide +kernel
theorem dX6_clear_47 : decode cX6_clear 47 = .ok (.putfield 47, 3) := by decide +kernel
theorem dX6_clear_50 : decode cX6_clear 50 = .ok (.aload_n 0, 1) := by decide +kernel
theorem dX6_clear_51 : decode cX6_clear 51 = .ok (.iconst 0, 1) := by decide +kernel
theorem dX6_clear_52 : decode cX6_clear 52 = .ok (.putfield 50, 3) := by decide +kernel
theorem dX6_clear_55 : decode cX6_clear 55 = .ok (.aload_n 0, 1) := by decide +kernel
theorem dX6_clear_56 : decode cX6_clear 56 = .ok (.iconst 0, 1) := by decide +kernel
theorem dX6_clear_57 : decode cX6_clear 57 = .ok (.putfield 54, 3) := by decide +kernel
theorem dX6_clear_60 : decode cX6_clear 60 = .ok (.aload_n 0, 1) := by decide +kernel
theorem dX6_clear_61 : decode cX6_clear 61 = .ok (.iconst 0, 1) := by decide +kernel
theorem dX6_clear_62 : decode cX6_clear 62 = .ok (.putfield 57, 3) := by decide +kernel
theorem dX6_clear_65 : decode cX6_clear 65 = .ok (.aload_n 0, 1) := by decide +kernel
theorem dX6_clear_66 : decode cX6_clear 66 = .ok (.iconst 0, 1) := by decide +kernel
theorem dX6_clear_67 : decode cX6_clear 67 = .ok (.putfield 60, 3) := by decide +kernel
theorem dX6_clear_70 : decode cX6_clear 70 = .ok (.aload_n 0, 1) := by decide +kernel
theorem dX6_clear_71 : decode cX6_clear 71 = .ok (.iconst 0, 1) := by decide +kernel
theorem dX6_clear_72 : decode cX6_clear 72 = .ok (.putfield 63, 3) := by decide +kernel
theorem dX6_clear_75 : decode cX6_clear 75 = .ok (.aload_n 0, 1) := by decide +kernel
theorem dX6_clear_76 : decode cX6_clear 76 = .ok (.iconst 0, 1) := by decide +kernel
theorem dX6_clear_77 : decode cX6_clear 77 = .ok (.putfield 66, 3) := by decide +kernel
theorem dX6_clear_80 : decode cX6_clear 80 = .ok (.aload_n 0, 1) := by decide +kernel
theorem dX6_clear_81 : decode cX6_clear 81 = .ok (.iconst 0, 1) := by decide +kernel
theorem dX6_clear_82 : decode cX6_clear 82 = .ok (.putfield 69, 3) := by decide +kernel
theorem dX6_clear_85 : decode cX6_clear 85 = .ok (.aload_n 0, 1) := by decide +kernel
theorem dX6_clear_86 : decode cX6_clear 86 = .ok (.iconst 0, 1) := by decide +kernel
theorem dX6_clear_87 : decode cX6_clear 87 = .ok (.putfield 72, 3) := by decide +kernel
theorem dX6_clear_90 : decode cX6_clear 90 = .ok (.aload_n 0, 1) := by decide +kernel
theorem dX6_clear_91 : decode cX6_clear 91 = .ok (.iconst 1, 1) := by decide +kernel
theorem dX6_clear_92 : decode cX6_clear 92 = .ok (.putfield 75, 3) := by decide +kernel
theorem dX6_clear_95 : decode cX6_clear 95 = .ok (.aload_n 0, 1) := by decide +kernel
theorem dX6_clear_96 : decode cX6_clear 96 = .ok (.iconst 0, 1) := by decide +kernel
theorem dX6_clear_97 : decode cX6_clear 97 = .ok (.putfield 78, 3) := by decide +kernel
theorem dX6_clear_100 : decode cX6_clear 100 = .ok (.aload_n 0, 1) := by decide +kernel
theorem dX6_clear_101 : decode cX6_clear 101 = .ok (.iconst 0, 1) := by decide +kernel
theorem dX6_clear_102 : decode cX6_clear 102 = .ok (.putfield 81, 3) := by decide +kernel
theorem dX6_clear_105 : decode cX6_clear 105 = .ok (.aload_n 0, 1) := by decide +kernel
theorem dX6_clear_106 : decode cX6_clear 106 = .ok (.iconst 0, 1) := by decide +kernel
theorem dX6_clear_107 : decode cX6_clear 107 = .ok (.putfield 84, 3) := by decide +kernel
theorem dX6_clear_110 : decode cX6_clear 110 = .ok (.aload_n 0, 1) := by decide +kernel
theorem dX6_clear_111 : decode cX6_clear 111 = .ok (.iconst 0, 1) := by decide +kernel
theorem dX6_clear_112 : decode cX6_clear 112 = .ok (.putfield 87, 3) := by decide +kernel
theorem dX6_clear_115 : decode cX6_clear 115 = .ok (.aload_n 0, 1) := by decide +kernel
theorem dX6_clear_116 : decode cX6_clear 116 = .ok (.iconst 0, 1) := by decide +kernel
theorem dX6_clear_117 : decode cX6_clear 117 = .ok (.putfield 90, 3) := by decide +kernel
theorem dX6_clear_120 : decode cX6_clear 120 = .ok (.aload_n 0, 1) := by decide +kernel
theorem dX6_clear_121 : decode cX6_clear 121 = .ok (.iconst 0, 1) := by decide +kernel
theorem dX6_clear_122 : decode cX6_clear 122 = .ok (.putfield 93, 3) := by decide +kernel
theorem dX6_clear_125 : decode cX6_clear 125 = .ok (.aload_n 0, 1) := by decide +kernel
theorem dX6_clear_126 : decode cX6_clear 126 = .ok (.iconst 1, 1) := by decide +kernel
theorem dX6_clear_127 : decode cX6_clear 127 = .ok (.putfield 96, 3) := by decide +kernel
theorem dX6_clear_130 : decode cX6_clear 130 = .ok (.aload_n 0, 1) := by decide +kernel
theorem dX6_clear_131 : decode cX6_clear 131 = .ok (.iconst 0, 1) := by decide +kernel
theorem dX6_clear_132 : decode cX6_clear 132 = .ok (.putfield 99, 3) := by decide +kernel
theorem dX6_clear_135 : decode cX6_clear 135 = .ok (.return_, 1) := by decide +kernel
set_option maxRecDepth 20000 in
theorem ggX6_reset_X6_clear : GoodIn wsX6_reset wsX6_clear := goodIn_r _ [6, 7, 8, 9, 10, 11, 12, 13, 14, 15, 16, 17, 18, 19, 20, 21, 22, 23, 24, 25, 26, 27, 28, 29, 30, 31, 32, 33, 34, 35, 36, 37, 38, 39, 40, 41, 42, 43, 44, 45, 46, 47, 48, 49, 50, 51, 52, 53, 54, 55, 56, 57, 58, 59, 60, 61, 62, 63, 64] (by decide +kernel) (by decide +kernel)
set_option maxRecDepth 20000 in
theorem gX6_reset_X6_clear : GoodIn wsX6_reset (wsV RX6 13 RX6 yX6_clear wsX6_clear) := goodIn_app (goodIn_of _ (by decide +kernel)) ggX6_reset_X6_clear
theorem dX6_reset_0 : decode cX6_reset 0 = .ok (.aload_n 0, 1) := by decide +kernel
theorem dX6_reset_1 : decode cX6_reset 1 = .ok (.iconst 0, 1) := by decide +kernel
theorem dX6_reset_2 : decode cX6_reset 2 = .ok (.putfield 16, 3) := by decide +kernel
theorem dX6_reset_5 : decode cX6_reset 5 = .ok (.aload_n 0, 1) := by decide +kernel
theorem dX6_reset_6 : decode cX6_reset 6 = .ok (.invokevirtual 13, 3) := by decide +kernel
theorem dX6_reset_9 : decode cX6_reset 9 = .ok (.return_, 1) := by decide +kernel
theorem dX6_has_0 : decode cX6_has 0 = .ok (.aload_n 0, 1) := by decide +kernel
theorem dX6_has_1 : decode cX6_has 1 = .ok (.getfield 38, 3) := by decide +kernel
theorem dX6_has_4 : decode cX6_has 4 = .ok (.iload_n 1, 1) := by decide +kernel
theorem dX6_has_5 : decode cX6_has 5 = .ok (.ishr, 1) := by decide +kernel
theorem dX6_has_6 : decode cX6_has 6 = .ok (.iconst 1, 1) := by decide +kernel
theorem dX6_has_7 : decode cX6_has 7 = .ok (.iand, 1) := by decide +kernel
theorem dX6_has_8 : decode cX6_has 8 = .ok (.iconst 1, 1) := by decide +kernel
theorem dX6_has_9 : decode cX6_has 9 = .ok (.if_icmp .ne 7, 3) := by decide +kernel
theorem dX6_has_12 : decode cX6_has 12 = .ok (.iconst 1, 1) := by decide +kernel
theorem dX6_has_13 : decode cX6_has 13 = .ok (.goto 4, 3) := by decide +kernel
theorem dX6_has_16 : decode cX6_has 16 = .ok (.iconst 0, 1) := by decide +kernel
theorem dX6_has_17 : decode cX6_has 17 = .ok (.ireturn, 1) := by decide +kernel
theorem dX6_set_0 : decode cX6_set 0 = .ok (.aload_n 0, 1) := by decide +kernel
theorem dX6_set_1 : decode cX6_set 1 = .ok (.aload_n 0, 1) := by decide +kernel
theorem dX6_set_2 : decode cX6_set 2 = .ok (.getfield 38, 3) := by decide +kernel
theorem dX6_set_5 : decode cX6_set 5 = .ok (.iconst 1, 1) := by decide +kernel
theorem dX6_set_6 : decode cX6_set 6 = .ok (.iload_n 1, 1) := by decide +kernel
theorem dX6_set_7 : decode cX6_set 7 = .ok (.ishl, 1) := by decide +kernel
theorem dX6_set_8 : decode cX6_set 8 = .ok (.ior, 1) := by decide +kernel
theorem dX6_set_9 : decode cX6_set 9 = .ok (.putfield 38, 3) := by decide +kernel
theorem dX6_set_12 : decode cX6_set 12 = .ok (.return_, 1) := by decide +kernel
theorem dX6_drop_0 : decode cX6_drop 0 = .ok (.aload_n 0, 1) := by decide +kernel
theorem dX6_drop_1 : decode cX6_drop 1 = .ok (.aload_n 0, 1) := by decide +kernel
theorem dX6_drop_2 : decode cX6_drop 2 = .ok (.getfield 38, 3) := by decide +kernel
theorem dX6_drop_5 : decode cX6_drop 5 = .ok (.iconst 1, 1) := by decide +kernel
theorem dX6_drop_6 : decode cX6_drop 6 = .ok (.iload_n 1, 1) := by decide +kernel
theorem dX6_drop_7 : decode cX6_drop 7 = .ok (.ishl, 1) := by decide +kernel
theorem dX6_drop_8 : decode cX6_drop 8 = .ok (.iconst (-1), 1) := by decide +kernel
theorem dX6_drop_9 : decode cX6_drop 9 = .ok (.ixor, 1) := by decide +kernel
theorem dX6_drop_10 : decode cX6_drop 10 = .ok (.iand, 1) := by decide +kernel
theorem dX6_drop_11 : decode cX6_drop 11 = .ok (.putfield 38, 3) := by decide +kernel
theorem dX6_drop_14 : decode cX6_drop 14 = .ok (.return_, 1) := by decide +kernel
theorem dX6_allFlags_0 : decode cX6_allFlags 0 = .ok (.aload_n 0, 1) := by decide +kernel
theorem dX6_allFlags_1 : decode cX6_allFlags 1 = .ok (.getfield 38, 3) := by decide +kernel
theorem dX6_allFlags_4 : decode cX6_allFlags 4 = .ok (.aload_n 0, 1) := by decide +kernel
theorem dX6_allFlags_5 : decode cX6_allFlags 5 = .ok (.getfield 41, 3) := by decide +kernel
theorem dX6_allFlags_8 : decode cX6_allFlags 8 = .ok (.iand, 1) := by decide +kernel
theorem dX6_allFlags_9 : decode cX6_allFlags 9 = .ok (.ifCond .eq 14, 3) := by decide +kernel
theorem dX6_allFlags_12 : decode cX6_allFlags 12 = .ok (.aload_n 0, 1) := by decide +kernel
theorem dX6_allFlags_13 : decode cX6_allFlags 13 = .ok (.getfield 38, 3) := by decide +kernel
theorem dX6_allFlags_16 : decode cX6_allFlags 16 = .ok (.sipush 128, 3) := by decide +kernel
theorem dX6_allFlags_19 : decode cX6_allFlags 19 = .ok (.ior, 1) := by decide +kernel
theorem dX6_allFlags_20 : decode cX6_allFlags 20 = .ok (.goto 7, 3) := by decide +kernel
theorem dX6_allFlags_23 : decode cX6_allFlags 23 = .ok (.aload_n 0, 1) := by decide +kernel
theorem dX6_allFlags_24 : decode cX6_allFlags 24 = .ok (.getfield 38, 3) := by decide +kernel
theorem dX6_allFlags_27 : decode cX6_allFlags 27 = .ok (.ireturn, 1) := by decide +kernel
theorem dX6_wayA_0 : decode cX6_wayA 0 = .ok (.aload_n 0, 1) := by decide +kernel
theorem dX6_wayA_1 : decode cX6_wayA 1 = .ok (.getfield 35, 3) := by decide +kernel
theorem dX6_wayA_4 : decode cX6_wayA 4 = .ok (.iconst 1, 1) := by decide +kernel
theorem dX6_wayA_5 : decode cX6_wayA 5 = .ok (.ishr, 1) := by decide +kernel
theorem dX6_wayA_6 : decode cX6_wayA 6 = .ok (.bipush 7, 2) := by decide +kernel
theorem dX6_wayA_8 : decode cX6_wayA 8 = .ok (.iand, 1) := by decide +kernel
theorem dX6_wayA_9 : decode cX6_wayA 9 = .ok (.ireturn, 1) := by decide +kernel
theorem dX6_wayB_0 : decode cX6_wayB 0 = .ok (.aload_n 0, 1) := by decide +kernel
theorem dX6_wayB_1 : decode cX6_wayB 1 = .ok (.getfield 35, 3) := by decide +kernel
theorem dX6_wayB_4 : decode cX6_wayB 4 = .ok (.iconst 5, 1) := by decide +kernel
theorem dX6_wayB_5 : decode cX6_wayB 5 = .ok (.ishr, 1) := by decide +kernel
theorem dX6_wayB_6 : decode cX6_wayB 6 = .ok (.bipush 7, 2) := by decide +kernel
theorem dX6_wayB_8 : decode cX6_wayB 8 = .ok (.iand, 1) := by decide +kernel
theorem dX6_wayB_9 : decode cX6_wayB 9 = .ok (.ireturn, 1) := by decide +kernel
theorem dX6_mode_0 : decode cX6_mode 0 = .ok (.aload_n 0, 1) := by decide +kernel
theorem dX6_mode_1 : decode cX6_mode 1 = .ok (.getfield 32, 3) := by decide +kernel
theorem dX6_mode_4 : decode cX6_mode 4 = .ok (.iconst 2, 1) := by decide +kernel
theorem dX6_mode_5 : decode cX6_mode 5 = .ok (.ishr, 1) := by decide +kernel
theorem dX6_mode_6 : decode cX6_mode 6 = .ok (.bipush 7, 2) := by decide +kernel
theorem dX6_mode_8 : decode cX6_mode 8 = .ok (.iand, 1) := by decide +kernel
theorem dX6_mode_9 : decode cX6_mode 9 = .ok (.ireturn, 1) := by decide +kernel
set_option maxRecDepth 20000 in
theorem ggX6_touchA_X6_drop : GoodIn wsX6_touchA wsX6_drop := goodIn_r _ [7, 8, 14, 15, 16, 17, 18, 19, 20, 21, 22, 23, 24, 25, 26, 27, 28, 29, 30, 31, 32, 33, 34, 35, 36, 37, 38, 39, 40, 41, 42, 43, 44] (by decide +kernel) (by decide +kernel)
set_option maxRecDepth 20000 in
theorem gX6_touchA_X6_drop : GoodIn wsX6_touchA (wsV RX6 102 RX6 yX6_drop wsX6_drop) := goodIn_app (goodIn_of _ (by decide +kernel)) ggX6_touchA_X6_drop
set_option maxRecDepth 20000 in
theorem ggX6_touchA_X6_wayA : GoodIn wsX6_touchA wsX6_wayA := goodIn_r _ [12, 13, 14, 15, 16, 17, 18, 19, 20, 21, 22, 23, 24, 25, 26, 27, 28, 29, 30, 31, 32, 33, 34, 35, 36, 37, 38, 39, 40, 41, 42, 43, 44] (by decide +kernel) (by decide +kernel)
set_option maxRecDepth 20000 in
theorem gX6_touchA_X6_wayA : GoodIn wsX6_touchA (wsV RX6 106 RX6 yX6_wayA wsX6_wayA) := goodIn_app (goodIn_of _ (by decide +kernel)) ggX6_touchA_X6_wayA
theorem dX6_touchA_0 : decode cX6_touchA 0 = .ok (.aload_n 0, 1) := by decide +kernel
theorem dX6_touchA_1 : decode cX6_touchA 1 = .ok (.iconst 1, 1) := by decide +kernel
theorem dX6_touchA_2 : decode cX6_touchA 2 = .ok (.invokevirtual 102, 3) := by decide +kernel
theorem dX6_touchA_5 : decode cX6_touchA 5 = .ok (.aload_n 0, 1) := by decide +kernel
theorem dX6_touchA_6 : decode cX6_touchA 6 = .ok (.invokevirtual 106, 3) := by decide +kernel
theorem dX6_touchA_9 : decode cX6_touchA 9 = .ok (.iconst 1, 1) := by decide +kernel
theorem dX6_touchA_10 : decode cX6_touchA 10 = .ok (.if_icmp .eq 16, 3) := by decide +kernel
theorem dX6_touchA_13 : decode cX6_touchA 13 = .ok (.aload_n 0, 1) := by decide +kernel
theorem dX6_touchA_14 : decode cX6_touchA 14 = .ok (.invokevirtual 106, 3) := by decide +kernel
theorem dX6_touchA_17 : decode cX6_touchA 17 = .ok (.iconst 3, 1) := by decide +kernel
theorem dX6_touchA_18 : decode cX6_touchA 18 = .ok (.if_icmp .eq 8, 3) := by decide +kernel
theorem dX6_touchA_21 : decode cX6_touchA 21 = .ok (.aload_n 0, 1) := by decide +kernel
theorem dX6_touchA_22 : decode cX6_touchA 22 = .ok (.iconst 0, 1) := by decide +kernel
theorem dX6_touchA_23 : decode cX6_touchA 23 = .ok (.invokevirtual 102, 3) := by decide +kernel
theorem dX6_touchA_26 : decode cX6_touchA 26 = .ok (.aload_n 0, 1) := by decide +kernel
theorem dX6_touchA_27 : decode cX6_touchA 27 = .ok (.aload_n 0, 1) := by decide +kernel
theorem dX6_touchA_28 : decode cX6_touchA 28 = .ok (.getfield 50, 3) := by decide +kernel
theorem dX6_touchA_31 : decode cX6_touchA 31 = .ok (.ifCond .ne 11, 3) := by decide +kernel
theorem dX6_touchA_34 : decode cX6_touchA 34 = .ok (.aload_n 0, 1) := by decide +kernel
theorem dX6_touchA_35 : decode cX6_touchA 35 = .ok (.invokevirtual 106, 3) := by decide +kernel
theorem dX6_touchA_38 : decode cX6_touchA 38 = .ok (.iconst 4, 1) := by decide +kernel
theorem dX6_touchA_39 : decode cX6_touchA 39 = .ok (.if_icmp .ne 7, 3) := by decide +kernel
theorem dX6_touchA_42 : decode cX6_touchA 42 = .ok (.iconst 1, 1) := by decide +kernel
theorem dX6_touchA_43 : decode cX6_touchA 43 = .ok (.goto 4, 3) := by decide +kernel
theorem dX6_touchA_46 : decode cX6_touchA 46 = .ok (.iconst 0, 1) := by decide +kernel
theorem dX6_touchA_47 : decode cX6_touchA 47 = .ok (.putfield 50, 3) := by decide +kernel
theorem dX6_touchA_50 : decode cX6_touchA 50 = .ok (.aload_n 0, 1) := by decide +kernel
theorem dX6_touchA_51 : decode cX6_touchA 51 = .ok (.aload_n 0, 1) := by decide +kernel
theorem dX6_touchA_52 : decode cX6_touchA 52 = .ok (.getfield 54, 3) := by decide +kernel
theorem dX6_touchA_55 : decode cX6_touchA 55 = .ok (.ifCond .ne 11, 3) := by decide +kernel
theorem dX6_touchA_58 : decode cX6_touchA 58 = .ok (.aload_n 0, 1) := by decide +kernel
theorem dX6_touchA_59 : decode cX6_touchA 59 = .ok (.invokevirtual 106, 3) := by decide +kernel
theorem dX6_touchA_62 : decode cX6_touchA 62 = .ok (.iconst 5, 1) := by decide +kernel
theorem dX6_touchA_63 : decode cX6_touchA 63 = .ok (.if_icmp .ne 7, 3) := by decide +kernel
theorem dX6_touchA_66 : decode cX6_touchA 66 = .ok (.iconst 1, 1) := by decide +kernel
theorem dX6_touchA_67 : decode cX6_touchA 67 = .ok (.goto 4, 3) := by decide +kernel
theorem dX6_touchA_70 : decode cX6_touchA 70 = .ok (.iconst 0, 1) := by decide +kernel
theorem dX6_touchA_71 : decode cX6_touchA 71 = .ok (.putfield 54, 3) := by decide +kernel
theorem dX6_touchA_74 : decode cX6_touchA 74 = .ok (.return_, 1) := by decide +kernel
set_option maxRecDepth 20000 in
theorem ggX6_touchB_X6_drop : GoodIn wsX6_touchB wsX6_drop := goodIn_r _ [7, 8, 14, 15, 16, 17, 18, 19, 20, 21, 22, 23, 24, 25, 26, 27, 28, 29, 30, 31, 32, 33, 34, 35, 36, 37, 38, 39, 40, 41, 42, 43, 44] (by decide +kernel) (by decide +kernel)
set_option maxRecDepth 20000 in
theorem gX6_touchB_X6_drop : GoodIn wsX6_touchB (wsV RX6 102 RX6 yX6_drop wsX6_drop) := goodIn_app (goodIn_of _ (by decide +kernel)) ggX6_touchB_X6_drop
set_option maxRecDepth 20000 in
theorem ggX6_touchB_X6_wayB : GoodIn wsX6_touchB wsX6_wayB := goodIn_r _ [12, 13, 14, 15, 16, 17, 18, 19, 20, 21, 22, 23, 24, 25, 26, 27, 28, 29, 30, 31, 32, 33, 34, 35, 36, 37, 38, 39, 40, 41, 42, 43, 44] (by decide +kernel) (by decide +kernel)
set_option maxRecDepth 20000 in
theorem gX6_touchB_X6_wayB : GoodIn wsX6_touchB (wsV RX6 110 RX6 yX6_wayB wsX6_wayB) := goodIn_app (goodIn_of _ (by decide +kernel)) ggX6_touchB_X6_wayB
theorem dX6_touchB_0 : decode cX6_touchB 0 = .ok (.aload_n 0, 1) := by decide +kernel
theorem dX6_touchB_1 : decode cX6_touchB 1 = .ok (.iconst 4, 1) := by decide +kernel
theorem dX6_touchB_2 : decode cX6_touchB 2 = .ok (.invokevirtual 102, 3) := by decide +kernel
theorem dX6_touchB_5 : decode cX6_touchB 5 = .ok (.aload_n 0, 1) := by decide +kernel
theorem dX6_touchB_6 : decode cX6_touchB 6 = .ok (.invokevirtual 110, 3) := by decide +kernel
theorem dX6_touchB_9 : decode cX6_touchB 9 = .ok (.iconst 1, 1) := by decide +kernel
theorem dX6_touchB_10 : decode cX6_touchB 10 = .ok (.if_icmp .eq 16, 3) := by decide +kernel
theorem dX6_touchB_13 : decode cX6_touchB 13 = .ok (.aload_n 0, 1) := by decide +kernel
theorem dX6_touchB_14 : decode cX6_touchB 14 = .ok (.invokevirtual 110, 3) := by decide +kernel
theorem dX6_touchB_17 : decode cX6_touchB 17 = .ok (.iconst 3, 1) := by decide +kernel
theorem dX6_touchB_18 : decode cX6_touchB 18 = .ok (.if_icmp .eq 8, 3) := by decide +kernel
theorem dX6_touchB_21 : decode cX6_touchB 21 = .ok (.aload_n 0, 1) := by decide +kernel
theorem dX6_touchB_22 : decode cX6_touchB 22 = .ok (.iconst 3, 1) := by decide +kernel
theorem dX6_touchB_23 : decode cX6_touchB 23 = .ok (.invokevirtual 102, 3) := by decide +kernel
theorem dX6_touchB_26 : decode cX6_touchB 26 = .ok (.aload_n 0, 1) := by decide +kernel
theorem dX6_touchB_27 : decode cX6_touchB 27 = .ok (.aload_n 0, 1) := by decide +kernel
theorem dX6_touchB_28 : decode cX6_touchB 28 = .ok (.getfield 57, 3) := by decide +kernel
theorem dX6_touchB_31 : decode cX6_touchB 31 = .ok (.ifCond .ne 15, 3) := by decide +kernel
theorem dX6_touchB_34 : decode cX6_touchB 34 = .ok (.iload_n 1, 1) := by decide +kernel
theorem dX6_touchB_35 : decode cX6_touchB 35 = .ok (.ifCond .eq 15, 3) := by decide +kernel
theorem dX6_touchB_38 : decode cX6_touchB 38 = .ok (.aload_n 0, 1) := by decide +kernel
theorem dX6_touchB_39 : decode cX6_touchB 39 = .ok (.invokevirtual 110, 3) := by decide +kernel
theorem dX6_touchB_42 : decode cX6_touchB 42 = .ok (.iconst 4, 1) := by decide +kernel
theorem dX6_touchB_43 : decode cX6_touchB 43 = .ok (.if_icmp .ne 7, 3) := by decide +kernel
theorem dX6_touchB_46 : decode cX6_touchB 46 = .ok (.iconst 1, 1) := by decide +kernel
theorem dX6_touchB_47 : decode cX6_touchB 47 = .ok (.goto 4, 3) := by decide +kernel
theorem dX6_touchB_50 : decode cX6_touchB 50 = .ok (.iconst 0, 1) := by decide +kernel
theorem dX6_touchB_51 : decode cX6_touchB 51 = .ok (.putfield 57, 3) := by decide +kernel
theorem dX6_touchB_54 : decode cX6_touchB 54 = .ok (.aload_n 0, 1) := by decide +kernel
theorem dX6_touchB_55 : decode cX6_touchB 55 = .ok (.aload_n 0, 1) := by decide +kernel
theorem dX6_touchB_56 : decode cX6_touchB 56 = .ok (.getfield 60, 3) := by decide +kernel
theorem dX6_touchB_59 : decode cX6_touchB 59 = .ok (.ifCond .ne 15, 3) := by decide +kernel
theorem dX6_touchB_62 : decode cX6_touchB 62 = .ok (.iload_n 1, 1) := by decide +kernel
theorem dX6_touchB_63 : decode cX6_touchB 63 = .ok (.ifCond .eq 15, 3) := by decide +kernel
theorem dX6_touchB_66 : decode cX6_touchB 66 = .ok (.aload_n 0, 1) := by decide +kernel
theorem dX6_touchB_67 : decode cX6_touchB 67 = .ok (.invokevirtual 110, 3) := by decide +kernel
theorem dX6_touchB_70 : decode cX6_touchB 70 = .ok (.iconst 5, 1) := by decide +kernel
theorem dX6_touchB_71 : decode cX6_touchB 71 = .ok (.if_icmp .ne 7, 3) := by decide +kernel
theorem dX6_touchB_74 : decode cX6_touchB 74 = .ok (.iconst 1, 1) := by decide +kernel
theorem dX6_touchB_75 : decode cX6_touchB 75 = .ok (.goto 4, 3) := by decide +kernel
theorem dX6_touchB_78 : decode cX6_touchB 78 = .ok (.iconst 0, 1) := by decide +kernel
theorem dX6_touchB_79 : decode cX6_touchB 79 = .ok (.putfield 60, 3) := by decide +kernel
theorem dX6_touchB_82 : decode cX6_touchB 82 = .ok (.return_, 1) := by decide +kernel
set_option maxRecDepth 20000 in
theorem ggX6_portA_X6_has : GoodIn wsX6_portA wsX6_has := goodIn_r _ [10, 11, 12, 13, 14, 15, 16, 17, 18, 19, 20, 21, 22, 23, 24, 25, 26, 27, 28, 29, 30, 31, 32, 33, 34, 35, 36, 37, 38, 39, 40, 41, 42] (by decide +kernel) (by decide +kernel)
set_option maxRecDepth 20000 in
theorem gX6_portA_X6_has : GoodIn wsX6_portA (wsV RX6 113 RX6 yX6_has wsX6_has) := goodIn_app (goodIn_of _ (by decide +kernel)) ggX6_portA_X6_has
theorem dX6_portA_0 : decode cX6_portA 0 = .ok (.aload_n 0, 1) := by decide +kernel
theorem dX6_portA_1 : decode cX6_portA 1 = .ok (.getfield 32, 3) := by decide +kernel
theorem dX6_portA_4 : decode cX6_portA 4 = .ok (.iconst 1, 1) := by decide +kernel
theorem dX6_portA_5 : decode cX6_portA 5 = .ok (.iand, 1) := by decide +kernel
theorem dX6_portA_6 : decode cX6_portA 6 = .ok (.iconst 1, 1) := by decide +kernel
theorem dX6_portA_7 : decode cX6_portA 7 = .ok (.if_icmp .ne 18, 3) := by decide +kernel
theorem dX6_portA_10 : decode cX6_portA 10 = .ok (.aload_n 0, 1) := by decide +kernel
theorem dX6_portA_11 : decode cX6_portA 11 = .ok (.iconst 1, 1) := by decide +kernel
theorem dX6_portA_12 : decode cX6_portA 12 = .ok (.invokevirtual 113, 3) := by decide +kernel
theorem dX6_portA_15 : decode cX6_portA 15 = .ok (.ifCond .eq 10, 3) := by decide +kernel
theorem dX6_portA_18 : decode cX6_portA 18 = .ok (.aload_n 0, 1) := by decide +kernel
theorem dX6_portA_19 : decode cX6_portA 19 = .ok (.getfield 44, 3) := by decide +kernel
theorem dX6_portA_22 : decode cX6_portA 22 = .ok (.goto 7, 3) := by decide +kernel
theorem dX6_portA_25 : decode cX6_portA 25 = .ok (.aload_n 0, 1) := by decide +kernel
theorem dX6_portA_26 : decode cX6_portA 26 = .ok (.getfield 117, 3) := by decide +kernel
theorem dX6_portA_29 : decode cX6_portA 29 = .ok (.istore_n 1, 1) := by decide +kernel
theorem dX6_portA_30 : decode cX6_portA 30 = .ok (.aload_n 0, 1) := by decide +kernel
theorem dX6_portA_31 : decode cX6_portA 31 = .ok (.getfield 20, 3) := by decide +kernel
theorem dX6_portA_34 : decode cX6_portA 34 = .ok (.aload_n 0, 1) := by decide +kernel
theorem dX6_portA_35 : decode cX6_portA 35 = .ok (.getfield 26, 3) := by decide +kernel
theorem dX6_portA_38 : decode cX6_portA 38 = .ok (.iand, 1) := by decide +kernel
theorem dX6_portA_39 : decode cX6_portA 39 = .ok (.iload_n 1, 1) := by decide +kernel
theorem dX6_portA_40 : decode cX6_portA 40 = .ok (.aload_n 0, 1) := by decide +kernel
theorem dX6_portA_41 : decode cX6_portA 41 = .ok (.getfield 26, 3) := by decide +kernel
theorem dX6_portA_44 : decode cX6_portA 44 = .ok (.iconst (-1), 1) := by decide +kernel
theorem dX6_portA_45 : decode cX6_portA 45 = .ok (.ixor, 1) := by decide +kernel
theorem dX6_portA_46 : decode cX6_portA 46 = .ok (.iand, 1) := by decide +kernel
theorem dX6_portA_47 : decode cX6_portA 47 = .ok (.ior, 1) := by decide +kernel
theorem dX6_portA_48 : decode cX6_portA 48 = .ok (.ireturn, 1) := by decide +kernel
set_option maxRecDepth 20000 in
theorem ggX6_portB_X6_has : GoodIn wsX6_portB wsX6_has := goodIn_r _ [11, 12, 13, 14, 15, 16, 17, 18, 19, 20, 21, 22, 23, 24, 25, 26, 27, 28, 29, 30, 31, 32, 33, 34, 35, 36, 37, 38, 39, 40, 41, 42, 43] (by decide +kernel) (by decide +kernel)
set_option maxRecDepth 20000 in
theorem gX6_portB_X6_has : GoodIn wsX6_portB (wsV RX6 113 RX6 yX6_has wsX6_has) := goodIn_app (goodIn_of _ (by decide +kernel)) ggX6_portB_X6_has
theorem dX6_portB_0 : decode cX6_portB 0 = .ok (.aload_n 0, 1) := by decide +kernel
theorem dX6_portB_1 : decode cX6_portB 1 = .ok (.getfield 32, 3) := by decide +kernel
theorem dX6_portB_4 : decode cX6_portB 4 = .ok (.iconst 2, 1) := by decide +kernel
theorem dX6_portB_5 : decode cX6_portB 5 = .ok (.iand, 1) := by decide +kernel
theorem dX6_portB_6 : decode cX6_portB 6 = .ok (.iconst 2, 1) := by decide +kernel
theorem dX6_portB_7 : decode cX6_portB 7 = .ok (.if_icmp .ne 18, 3) := by decide +kernel
theorem dX6_portB_10 : decode cX6_portB 10 = .ok (.aload_n 0, 1) := by decide +kernel
theorem dX6_portB_11 : decode cX6_portB 11 = .ok (.iconst 4, 1) := by decide +kernel
theorem dX6_portB_12 : decode cX6_portB 12 = .ok (.invokevirtual 113, 3) := by decide +kernel
theorem dX6_portB_15 : decode cX6_portB 15 = .ok (.ifCond .eq 10, 3) := by decide +kernel
theorem dX6_portB_18 : decode cX6_portB 18 = .ok (.aload_n 0, 1) := by decide +kernel
theorem dX6_portB_19 : decode cX6_portB 19 = .ok (.getfield 47, 3) := by decide +kernel
theorem dX6_portB_22 : decode cX6_portB 22 = .ok (.goto 7, 3) := by decide +kernel
theorem dX6_portB_25 : decode cX6_portB 25 = .ok (.aload_n 0, 1) := by decide +kernel
theorem dX6_portB_26 : decode cX6_portB 26 = .ok (.getfield 120, 3) := by decide +kernel
theorem dX6_portB_29 : decode cX6_portB 29 = .ok (.istore_n 1, 1) := by decide +kernel
theorem dX6_portB_30 : decode cX6_portB 30 = .ok (.aload_n 0, 1) := by decide +kernel
theorem dX6_portB_31 : decode cX6_portB 31 = .ok (.getfield 23, 3) := by decide +kernel
theorem dX6_portB_34 : decode cX6_portB 34 = .ok (.aload_n 0, 1) := by decide +kernel
theorem dX6_portB_35 : decode cX6_portB 35 = .ok (.getfield 29, 3) := by decide +kernel
theorem dX6_portB_38 : decode cX6_portB 38 = .ok (.iand, 1) := by decide +kernel
theorem dX6_portB_39 : decode cX6_portB 39 = .ok (.iload_n 1, 1) := by decide +kernel
theorem dX6_portB_40 : decode cX6_portB 40 = .ok (.aload_n 0, 1) := by decide +kernel
theorem dX6_portB_41 : decode cX6_portB 41 = .ok (.getfield 29, 3) := by decide +kernel
theorem dX6_portB_44 : decode cX6_portB 44 = .ok (.iconst (-1), 1) := by decide +kernel
theorem dX6_portB_45 : decode cX6_portB 45 = .ok (.ixor, 1) := by decide +kernel
theorem dX6_portB_46 : decode cX6_portB 46 = .ok (.iand, 1) := by decide +kernel
theorem dX6_portB_47 : decode cX6_portB 47 = .ok (.ior, 1) := by decide +kernel
theorem dX6_portB_48 : decode cX6_portB 48 = .ok (.istore_n 2, 1) := by decide +kernel
theorem dX6_portB_49 : decode cX6_portB 49 = .ok (.aload_n 0, 1) := by decide +kernel
theorem dX6_portB_50 : decode cX6_portB 50 = .ok (.getfield 32, 3) := by decide +kernel
theorem dX6_portB_53 : decode cX6_portB 53 = .ok (.sipush 128, 3) := by decide +kernel
theorem dX6_portB_56 : decode cX6_portB 56 = .ok (.iand, 1) := by decide +kernel
theorem dX6_portB_57 : decode cX6_portB 57 = .ok (.ifCond .ne 7, 3) := by decide +kernel
theorem dX6_portB_60 : decode cX6_portB 60 = .ok (.iload_n 2, 1) := by decide +kernel
theorem dX6_portB_61 : decode cX6_portB 61 = .ok (.goto 22, 3) := by decide +kernel
theorem dX6_portB_64 : decode cX6_portB 64 = .ok (.iload_n 2, 1) := by decide +kernel
theorem dX6_portB_65 : decode cX6_portB 65 = .ok (.bipush 127, 2) := by decide +kernel
theorem dX6_portB_67 : decode cX6_portB 67 = .ok (.iand, 1) := by decide +kernel
theorem dX6_portB_68 : decode cX6_portB 68 = .ok (.aload_n 0, 1) := by decide +kernel
theorem dX6_portB_69 : decode cX6_portB 69 = .ok (.getfield 75, 3) := by decide +kernel
theorem dX6_portB_72 : decode cX6_portB 72 = .ok (.ifCond .eq 9, 3) := by decide +kernel
theorem dX6_portB_75 : decode cX6_portB 75 = .ok (.sipush 128, 3) := by decide +kernel
theorem dX6_portB_78 : decode cX6_portB 78 = .ok (.goto 4, 3) := by decide +kernel
theorem dX6_portB_81 : decode cX6_portB 81 = .ok (.iconst 0, 1) := by decide +kernel
theorem dX6_portB_82 : decode cX6_portB 82 = .ok (.ior, 1) := by decide +kernel
theorem dX6_portB_83 : decode cX6_portB 83 = .ok (.ireturn, 1) := by decide +kernel
theorem dX6_noByte_0 : decode cX6_noByte 0 = .ok (.iload_n 0, 1) := by decide +kernel
theorem dX6_noByte_1 : decode cX6_noByte 1 = .ok (.ifCond .lt 10, 3) := by decide +kernel
theorem dX6_noByte_4 : decode cX6_noByte 4 = .ok (.iload_n 0, 1) := by decide +kernel
theorem dX6_noByte_5 : decode cX6_noByte 5 = .ok (.sipush 255, 3) := by decide +kernel
theorem dX6_noByte_8 : decode cX6_noByte 8 = .ok (.if_icmp .le 7, 3) := by decide +kernel
theorem dX6_noByte_11 : decode cX6_noByte 11 = .ok (.iconst 1, 1) := by decide +kernel
theorem dX6_noByte_12 : decode cX6_noByte 12 = .ok (.goto 4, 3) := by decide +kernel
theorem dX6_noByte_15 : decode cX6_noByte 15 = .ok (.iconst 0, 1) := by decide +kernel
theorem dX6_noByte_16 : decode cX6_noByte 16 = .ok (.ireturn, 1) := by decide +kernel
set_option maxRecDepth 20000 in
theorem ggX6_eight_X6_drop : GoodIn wsX6_eight wsX6_drop := goodIn_r _ [7, 8, 9, 10, 11, 12, 13, 14, 15, 16, 17, 18, 19, 20, 21, 22, 23, 24, 25, 26, 27, 28, 29, 30, 31, 32, 33, 34, 35, 36, 37, 38, 39] (by decide +kernel) (by decide +kernel)
set_option maxRecDepth 20000 in
theorem gX6_eight_X6_drop : GoodIn wsX6_eight (wsV RX6 102 RX6 yX6_drop wsX6_drop) := goodIn_app (goodIn_of _ (by decide +kernel)) ggX6_eight_X6_drop
theorem dX6_eight_0 : decode cX6_eight 0 = .ok (.aload_n 0, 1) := by decide +kernel
theorem dX6_eight_1 : decode cX6_eight 1 = .ok (.iconst 2, 1) := by decide +kernel
theorem dX6_eight_2 : decode cX6_eight 2 = .ok (.invokevirtual 102, 3) := by decide +kernel
theorem dX6_eight_5 : decode cX6_eight 5 = .ok (.aload_n 0, 1) := by decide +kernel
theorem dX6_eight_6 : decode cX6_eight 6 = .ok (.bipush 8, 2) := by decide +kernel
theorem dX6_eight_8 : decode cX6_eight 8 = .ok (.putfield 90, 3) := by decide +kernel
theorem dX6_eight_11 : decode cX6_eight 11 = .ok (.aload_n 0, 1) := by decide +kernel
theorem dX6_eight_12 : decode cX6_eight 12 = .ok (.iconst 2, 1) := by decide +kernel
theorem dX6_eight_13 : decode cX6_eight 13 = .ok (.putfield 93, 3) := by decide +kernel
theorem dX6_eight_16 : decode cX6_eight 16 = .ok (.return_, 1) := by decide +kernel
set_option maxRecDepth 20000 in
theorem ggX6_write_X6_noByte : GoodIn wsX6_write wsX6_noByte := goodIn_r _ [23] (by decide +kernel) (by decide +kernel)
set_option maxRecDepth 20000 in
theorem gX6_write_X6_noByte : GoodIn wsX6_write (va_wsS RX6 123 yX6_noByte wsX6_noByte) := goodIn_app (goodIn_of _ (by decide +kernel)) ggX6_write_X6_noByte
set_option maxRecDepth 20000 in
theorem ggX6_write_X6_touchB : GoodIn wsX6_write wsX6_touchB := goodIn_r _ [27, 28, 29, 30, 31, 32, 22, 33, 18, 34, 35, 36, 37, 17, 54, 55, 56, 57, 58, 59, 60, 61, 62, 63, 64, 65, 66, 67, 68, 69, 70, 71, 72, 73, 74, 75, 76, 77, 78, 79, 80, 81, 82, 83, 84] (by decide +kernel) (by decide +kernel)
set_option maxRecDepth 20000 in
theorem gX6_write_X6_touchB : GoodIn wsX6_write (wsV RX6 126 RX6 yX6_touchB wsX6_touchB) := goodIn_app (goodIn_of _ (by decide +kernel)) ggX6_write_X6_touchB
set_option maxRecDepth 20000 in
theorem ggX6_write_X6_touchA : GoodIn wsX6_write wsX6_touchA := goodIn_r _ [41, 42, 43, 30, 31, 32, 22, 33, 18, 44, 45, 46, 47, 17, 54, 55, 56, 57, 58, 59, 60, 61, 62, 63, 64, 65, 66, 67, 68, 69, 70, 71, 72, 73, 74, 75, 76, 77, 78, 79, 80, 81, 82, 83, 84] (by decide +kernel) (by decide +kernel)
set_option maxRecDepth 20000 in
theorem gX6_write_X6_touchA : GoodIn wsX6_write (wsV RX6 130 RX6 yX6_touchA wsX6_touchA) := goodIn_app (goodIn_of _ (by decide +kernel)) ggX6_write_X6_touchA
set_option maxRecDepth 20000 in
theorem ggX6_write_X6_drop : GoodIn wsX6_write wsX6_drop := goodIn_r _ [33, 18, 54, 55, 56, 57, 58, 59, 60, 61, 62, 63, 64, 65, 66, 67, 68, 69, 70, 71, 72, 73, 74, 75, 76, 77, 78, 79, 80, 81, 82, 83, 84] (by decide +kernel) (by decide +kernel)
set_option maxRecDepth 20000 in
theorem gX6_write_X6_drop : GoodIn wsX6_write (wsV RX6 102 RX6 yX6_drop wsX6_drop) := goodIn_app (goodIn_of _ (by decide +kernel)) ggX6_write_X6_drop
set_option maxRecDepth 20000 in
theorem ggX6_write_X6_eight : GoodIn wsX6_write wsX6_eight := goodIn_r _ [51, 52, 53, 30, 31, 32, 22, 33, 18, 54, 55, 56, 57, 58, 59, 60, 61, 62, 63, 64, 65, 66, 67, 68, 69, 70, 71, 72, 73, 74, 75, 76, 77, 78, 79, 80, 81, 82, 83, 84] (by decide +kernel) (by decide +kernel)
set_option maxRecDepth 20000 in
theorem gX6_write_X6_eight : GoodIn wsX6_write (wsV RX6 134 RX6 yX6_eight wsX6_eight) := goodIn_app (goodIn_of _ (by decide +kernel)) ggX6_write_X6_eight
theorem dX6_write_0 : decode cX6_write 0 = .ok (.aload_n 0, 1) := by decide +kernel
theorem dX6_write_1 : decode cX6_write 1 = .ok (.iload_n 1, 1) := by decide +kernel
theorem dX6_write_2 : decode cX6_write 2 = .ok (.ifCond .lt 16, 3) := by decide +kernel
theorem dX6_write_5 : decode cX6_write 5 = .ok (.iload_n 1, 1) := by decide +kernel
theorem dX6_write_6 : decode cX6_write 6 = .ok (.bipush 15, 2) := by decide +kernel
theorem dX6_write_8 : decode cX6_write 8 = .ok (.if_icmp .gt 10, 3) := by decide +kernel
theorem dX6_write_11 : decode cX6_write 11 = .ok (.iload_n 2, 1) := by decide +kernel
theorem dX6_write_12 : decode cX6_write 12 = .ok (.invokestatic 123, 3) := by decide +kernel
theorem dX6_write_15 : decode cX6_write 15 = .ok (.ifCond .eq 7, 3) := by decide +kernel
theorem dX6_write_18 : decode cX6_write 18 = .ok (.iconst 1, 1) := by decide +kernel
theorem dX6_write_19 : decode cX6_write 19 = .ok (.goto 4, 3) := by decide +kernel
theorem dX6_write_22 : decode cX6_write 22 = .ok (.iconst 0, 1) := by decide +kernel
theorem dX6_write_23 : decode cX6_write 23 = .ok (.putfield 16, 3) := by decide +kernel
theorem dX6_write_26 : decode cX6_write 26 = .ok (.aload_n 0, 1) := by decide +kernel
theorem dX6_write_27 : decode cX6_write 27 = .ok (.getfield 16, 3) := by decide +kernel
theorem dX6_write_30 : decode cX6_write 30 = .ok (.ifCond .le 4, 3) := by decide +kernel
theorem dX6_write_33 : decode cX6_write 33 = .ok (.return_, 1) := by decide +kernel
theorem dX6_write_34 : decode cX6_write 34 = .ok (.iload_n 1, 1) := by decide +kernel
theorem dX6_write_35 : decode cX6_write 35 = .ok (.tableswitch 317 0 14 #[73, 86, 98, 106, 114, 130, 114, 179, 205, 213, 239, 251, 259, 267, 282], 73) := by decide +kernel
theorem dX6_write_108 : decode cX6_write 108 = .ok (.aload_n 0, 1) := by decide +kernel
theorem dX6_write_109 : decode cX6_write 109 = .ok (.iload_n 2, 1) := by decide +kernel
theorem dX6_write_110 : decode cX6_write 110 = .ok (.putfield 23, 3) := by decide +kernel
theorem dX6_write_113 : decode cX6_write 113 = .ok (.aload_n 0, 1) := by decide +kernel
theorem dX6_write_114 : decode cX6_write 114 = .ok (.iconst 1, 1) := by decide +kernel
theorem dX6_write_115 : decode cX6_write 115 = .ok (.invokevirtual 126, 3) := by decide +kernel
theorem dX6_write_118 : decode cX6_write 118 = .ok (.goto 239, 3) := by decide +kernel
theorem dX6_write_121 : decode cX6_write 121 = .ok (.aload_n 0, 1) := by decide +kernel
theorem dX6_write_122 : decode cX6_write 122 = .ok (.iload_n 2, 1) := by decide +kernel
theorem dX6_write_123 : decode cX6_write 123 = .ok (.putfield 20, 3) := by decide +kernel
theorem dX6_write_126 : decode cX6_write 126 = .ok (.aload_n 0, 1) := by decide +kernel
theorem dX6_write_127 : decode cX6_write 127 = .ok (.invokevirtual 130, 3) := by decide +kernel
theorem dX6_write_130 : decode cX6_write 130 = .ok (.goto 227, 3) := by decide +kernel
theorem dX6_write_133 : decode cX6_write 133 = .ok (.aload_n 0, 1) := by decide +kernel
theorem dX6_write_134 : decode cX6_write 134 = .ok (.iload_n 2, 1) := by decide +kernel
theorem dX6_write_135 : decode cX6_write 135 = .ok (.putfield 29, 3) := by decide +kernel
theorem dX6_write_138 : decode cX6_write 138 = .ok (.goto 219, 3) := by decide +kernel
theorem dX6_write_141 : decode cX6_write 141 = .ok (.aload_n 0, 1) := by decide +kernel
theorem dX6_write_142 : decode cX6_write 142 = .ok (.iload_n 2, 1) := by decide +kernel
theorem dX6_write_143 : decode cX6_write 143 = .ok (.putfield 26, 3) := by decide +kernel
theorem dX6_write_146 : decode cX6_write 146 = .ok (.goto 211, 3) := by decide +kernel
theorem dX6_write_149 : decode cX6_write 149 = .ok (.aload_n 0, 1) := by decide +kernel
theorem dX6_write_150 : decode cX6_write 150 = .ok (.aload_n 0, 1) := by decide +kernel
theorem dX6_write_151 : decode cX6_write 151 = .ok (.getfield 66, 3) := by decide +kernel
theorem dX6_write_154 : decode cX6_write 154 = .ok (.ldc 133, 2) := by decide +kernel
theorem dX6_write_156 : decode cX6_write 156 = .ok (.iand, 1) := by decide +kernel
theorem dX6_write_157 : decode cX6_write 157 = .ok (.iload_n 2, 1) := by decide +kernel
theorem dX6_write_158 : decode cX6_write 158 = .ok (.ior, 1) := by decide +kernel
theorem dX6_write_159 : decode cX6_write 159 = .ok (.putfield 66, 3) := by decide +kernel
theorem dX6_write_162 : decode cX6_write 162 = .ok (.goto 195, 3) := by decide +kernel
theorem dX6_write_165 : decode cX6_write 165 = .ok (.aload_n 0, 1) := by decide +kernel
theorem dX6_write_166 : decode cX6_write 166 = .ok (.aload_n 0, 1) := by decide +kernel
theorem dX6_write_167 : decode cX6_write 167 = .ok (.getfield 66, 3) := by decide +kernel
theorem dX6_write_170 : decode cX6_write 170 = .ok (.sipush 255, 3) := by decide +kernel
theorem dX6_write_173 : decode cX6_write 173 = .ok (.iand, 1) := by decide +kernel
theorem dX6_write_174 : decode cX6_write 174 = .ok (.iload_n 2, 1) := by decide +kernel
theorem dX6_write_175 : decode cX6_write 175 = .ok (.bipush 8, 2) := by decide +kernel
theorem dX6_write_177 : decode cX6_write 177 = .ok (.ishl, 1) := by decide +kernel
theorem dX6_write_178 : decode cX6_write 178 = .ok (.ior, 1) := by decide +kernel
theorem dX6_write_179 : decode cX6_write 179 = .ok (.putfield 66, 3) := by decide +kernel
theorem dX6_write_182 : decode cX6_write 182 = .ok (.aload_n 0, 1) := by decide +kernel
theorem dX6_write_183 : decode cX6_write 183 = .ok (.aload_n 0, 1) := by decide +kernel
theorem dX6_write_184 : decode cX6_write 184 = .ok (.getfield 66, 3) := by decide +kernel
theorem dX6_write_187 : decode cX6_write 187 = .ok (.putfield 63, 3) := by decide +kernel
theorem dX6_write_190 : decode cX6_write 190 = .ok (.aload_n 0, 1) := by decide +kernel
theorem dX6_write_191 : decode cX6_write 191 = .ok (.iconst 1, 1) := by decide +kernel
theorem dX6_write_192 : decode cX6_write 192 = .ok (.putfield 69, 3) := by decide +kernel
theorem dX6_write_195 : decode cX6_write 195 = .ok (.aload_n 0, 1) := by decide +kernel
theorem dX6_write_196 : decode cX6_write 196 = .ok (.iconst 0, 1) := by decide +kernel
theorem dX6_write_197 : decode cX6_write 197 = .ok (.putfield 72, 3) := by decide +kernel
theorem dX6_write_200 : decode cX6_write 200 = .ok (.aload_n 0, 1) := by decide +kernel
theorem dX6_write_201 : decode cX6_write 201 = .ok (.iconst 0, 1) := by decide +kernel
theorem dX6_write_202 : decode cX6_write 202 = .ok (.putfield 75, 3) := by decide +kernel
theorem dX6_write_205 : decode cX6_write 205 = .ok (.aload_n 0, 1) := by decide +kernel
theorem dX6_write_206 : decode cX6_write 206 = .ok (.bipush 6, 2) := by decide +kernel
theorem dX6_write_208 : decode cX6_write 208 = .ok (.invokevirtual 102, 3) := by decide +kernel
theorem dX6_write_211 : decode cX6_write 211 = .ok (.goto 146, 3) := by decide +kernel
theorem dX6_write_214 : decode cX6_write 214 = .ok (.aload_n 0, 1) := by decide +kernel
theorem dX6_write_215 : decode cX6_write 215 = .ok (.aload_n 0, 1) := by decide +kernel
theorem dX6_write_216 : decode cX6_write 216 = .ok (.getfield 66, 3) := by decide +kernel
theorem dX6_write_219 : decode cX6_write 219 = .ok (.sipush 255, 3) := by decide +kernel
theorem dX6_write_222 : decode cX6_write 222 = .ok (.iand, 1) := by decide +kernel
theorem dX6_write_223 : decode cX6_write 223 = .ok (.iload_n 2, 1) := by decide +kernel
theorem dX6_write_224 : decode cX6_write 224 = .ok (.bipush 8, 2) := by decide +kernel
theorem dX6_write_226 : decode cX6_write 226 = .ok (.ishl, 1) := by decide +kernel
theorem dX6_write_227 : decode cX6_write 227 = .ok (.ior, 1) := by decide +kernel
theorem dX6_write_228 : decode cX6_write 228 = .ok (.putfield 66, 3) := by decide +kernel
theorem dX6_write_231 : decode cX6_write 231 = .ok (.aload_n 0, 1) := by decide +kernel
theorem dX6_write_232 : decode cX6_write 232 = .ok (.bipush 6, 2) := by decide +kernel
theorem dX6_write_234 : decode cX6_write 234 = .ok (.invokevirtual 102, 3) := by decide +kernel
theorem dX6_write_237 : decode cX6_write 237 = .ok (.goto 120, 3) := by decide +kernel
theorem dX6_write_240 : decode cX6_write 240 = .ok (.aload_n 0, 1) := by decide +kernel
theorem dX6_write_241 : decode cX6_write 241 = .ok (.iload_n 2, 1) := by decide +kernel
theorem dX6_write_242 : decode cX6_write 242 = .ok (.putfield 81, 3) := by decide +kernel
theorem dX6_write_245 : decode cX6_write 245 = .ok (.goto 112, 3) := by decide +kernel
theorem dX6_write_248 : decode cX6_write 248 = .ok (.aload_n 0, 1) := by decide +kernel
theorem dX6_write_249 : decode cX6_write 249 = .ok (.iload_n 2, 1) := by decide +kernel
theorem dX6_write_250 : decode cX6_write 250 = .ok (.bipush 8, 2) := by decide +kernel
theorem dX6_write_252 : decode cX6_write 252 = .ok (.ishl, 1) := by decide +kernel
theorem dX6_write_253 : decode cX6_write 253 = .ok (.aload_n 0, 1) := by decide +kernel
theorem dX6_write_254 : decode cX6_write 254 = .ok (.getfield 81, 3) := by decide +kernel
theorem dX6_write_257 : decode cX6_write 257 = .ok (.ior, 1) := by decide +kernel
theorem dX6_write_258 : decode cX6_write 258 = .ok (.putfield 78, 3) := by decide +kernel
theorem dX6_write_261 : decode cX6_write 261 = .ok (.aload_n 0, 1) := by decide +kernel
theorem dX6_write_262 : decode cX6_write 262 = .ok (.iconst 1, 1) := by decide +kernel
theorem dX6_write_263 : decode cX6_write 263 = .ok (.putfield 84, 3) := by decide +kernel
theorem dX6_write_266 : decode cX6_write 266 = .ok (.aload_n 0, 1) := by decide +kernel
theorem dX6_write_267 : decode cX6_write 267 = .ok (.iconst 5, 1) := by decide +kernel
theorem dX6_write_268 : decode cX6_write 268 = .ok (.invokevirtual 102, 3) := by decide +kernel
theorem dX6_write_271 : decode cX6_write 271 = .ok (.goto 86, 3) := by decide +kernel
theorem dX6_write_274 : decode cX6_write 274 = .ok (.aload_n 0, 1) := by decide +kernel
theorem dX6_write_275 : decode cX6_write 275 = .ok (.iload_n 2, 1) := by decide +kernel
theorem dX6_write_276 : decode cX6_write 276 = .ok (.putfield 87, 3) := by decide +kernel
theorem dX6_write_279 : decode cX6_write 279 = .ok (.aload_n 0, 1) := by decide +kernel
theorem dX6_write_280 : decode cX6_write 280 = .ok (.invokevirtual 134, 3) := by decide +kernel
theorem dX6_write_283 : decode cX6_write 283 = .ok (.goto 74, 3) := by decide +kernel
theorem dX6_write_286 : decode cX6_write 286 = .ok (.aload_n 0, 1) := by decide +kernel
theorem dX6_write_287 : decode cX6_write 287 = .ok (.iload_n 2, 1) := by decide +kernel
theorem dX6_write_288 : decode cX6_write 288 = .ok (.putfield 32, 3) := by decide +kernel
theorem dX6_write_291 : decode cX6_write 291 = .ok (.goto 66, 3) := by decide +kernel
theorem dX6_write_294 : decode cX6_write 294 = .ok (.aload_n 0, 1) := by decide +kernel
theorem dX6_write_295 : decode cX6_write 295 = .ok (.iload_n 2, 1) := by decide +kernel
theorem dX6_write_296 : decode cX6_write 296 = .ok (.putfield 35, 3) := by decide +kernel
theorem dX6_write_299 : decode cX6_write 299 = .ok (.goto 58, 3) := by decide +kernel
theorem dX6_write_302 : decode cX6_write 302 = .ok (.aload_n 0, 1) := by decide +kernel
theorem dX6_write_303 : decode cX6_write 303 = .ok (.aload_n 0, 1) := by decide +kernel
theorem dX6_write_304 : decode cX6_write 304 = .ok (.getfield 38, 3) := by decide +kernel
theorem dX6_write_307 : decode cX6_write 307 = .ok (.iload_n 2, 1) := by decide +kernel
theorem dX6_write_308 : decode cX6_write 308 = .ok (.iconst (-1), 1) := by decide +kernel
theorem dX6_write_309 : decode cX6_write 309 = .ok (.ixor, 1) := by decide +kernel
theorem dX6_write_310 : decode cX6_write 310 = .ok (.iand, 1) := by decide +kernel
theorem dX6_write_311 : decode cX6_write 311 = .ok (.putfield 38, 3) := by decide +kernel
theorem dX6_write_314 : decode cX6_write 314 = .ok (.goto 43, 3) := by decide +kernel
theorem dX6_write_317 : decode cX6_write 317 = .ok (.aload_n 0, 1) := by decide +kernel
theorem dX6_write_318 : decode cX6_write 318 = .ok (.iload_n 2, 1) := by decide +kernel
theorem dX6_write_319 : decode cX6_write 319 = .ok (.sipush 128, 3) := by decide +kernel
theorem dX6_write_322 : decode cX6_write 322 = .ok (.iand, 1) := by decide +kernel
theorem dX6_write_323 : decode cX6_write 323 = .ok (.ifCond .eq 15, 3) := by decide +kernel
theorem dX6_write_326 : decode cX6_write 326 = .ok (.aload_n 0, 1) := by decide +kernel
theorem dX6_write_327 : decode cX6_write 327 = .ok (.getfield 41, 3) := by decide +kernel
theorem dX6_write_330 : decode cX6_write 330 = .ok (.iload_n 2, 1) := by decide +kernel
theorem dX6_write_331 : decode cX6_write 331 = .ok (.bipush 127, 2) := by decide +kernel
theorem dX6_write_333 : decode cX6_write 333 = .ok (.iand, 1) := by decide +kernel
theorem dX6_write_334 : decode cX6_write 334 = .ok (.ior, 1) := by decide +kernel
theorem dX6_write_335 : decode cX6_write 335 = .ok (.goto 11, 3) := by decide +kernel
theorem dX6_write_338 : decode cX6_write 338 = .ok (.aload_n 0, 1) := by decide +kernel
theorem dX6_write_339 : decode cX6_write 339 = .ok (.getfield 41, 3) := by decide +kernel
theorem dX6_write_342 : decode cX6_write 342 = .ok (.iload_n 2, 1) := by decide +kernel
theorem dX6_write_343 : decode cX6_write 343 = .ok (.iconst (-1), 1) := by decide +kernel
theorem dX6_write_344 : decode cX6_write 344 = .ok (.ixor, 1) := by decide +kernel
theorem dX6_write_345 : decode cX6_write 345 = .ok (.iand, 1) := by decide +kernel
theorem dX6_write_346 : decode cX6_write 346 = .ok (.putfield 41, 3) := by decide +kernel
theorem dX6_write_349 : decode cX6_write 349 = .ok (.goto 8, 3) := by decide +kernel
theorem dX6_write_352 : decode cX6_write 352 = .ok (.aload_n 0, 1) := by decide +kernel
theorem dX6_write_353 : decode cX6_write 353 = .ok (.iload_n 2, 1) := by decide +kernel
theorem dX6_write_354 : decode cX6_write 354 = .ok (.putfield 20, 3) := by decide +kernel
theorem dX6_write_357 : decode cX6_write 357 = .ok (.return_, 1) := by decide +kernel
set_option maxRecDepth 20000 in
theorem ggX6_read_X6_portB : GoodIn wsX6_read wsX6_portB := goodIn_r _ [15, 8, 16, 17, 18, 2, 19, 20, 21, 22, 14, 23, 24, 66, 67, 68, 69, 70, 71, 72, 73, 74, 75, 76, 77, 78, 79, 80, 81, 82, 83, 84, 85, 86, 87, 88, 89, 90, 91, 92, 93, 94, 95, 96] (by decide +kernel) (by decide +kernel)
set_option maxRecDepth 20000 in
theorem gX6_read_X6_portB : GoodIn wsX6_read (wsV RX6 137 RX6 yX6_portB wsX6_portB) := goodIn_app (goodIn_of _ (by decide +kernel)) ggX6_read_X6_portB
set_option maxRecDepth 20000 in
theorem ggX6_read_X6_touchB : GoodIn wsX6_read wsX6_touchB := goodIn_r _ [28, 29, 30, 31, 32, 33, 14, 34, 24, 35, 36, 37, 38, 9, 66, 67, 68, 69, 70, 71, 72, 73, 74, 75, 76, 77, 78, 79, 80, 81, 82, 83, 84, 85, 86, 87, 88, 89, 90, 91, 92, 93, 94, 95, 96] (by decide +kernel) (by decide +kernel)
set_option maxRecDepth 20000 in
theorem gX6_read_X6_touchB : GoodIn wsX6_read (wsV RX6 126 RX6 yX6_touchB wsX6_touchB) := goodIn_app (goodIn_of _ (by decide +kernel)) ggX6_read_X6_touchB
set_option maxRecDepth 20000 in
theorem ggX6_read_X6_portA : GoodIn wsX6_read wsX6_portA := goodIn_r _ [42, 8, 43, 44, 45, 3, 20, 21, 22, 14, 23, 24, 66, 67, 68, 69, 70, 71, 72, 73, 74, 75, 76, 77, 78, 79, 80, 81, 82, 83, 84, 85, 86, 87, 88, 89, 90, 91, 92, 93, 94, 95, 96] (by decide +kernel) (by decide +kernel)
set_option maxRecDepth 20000 in
theorem gX6_read_X6_portA : GoodIn wsX6_read (wsV RX6 140 RX6 yX6_portA wsX6_portA) := goodIn_app (goodIn_of _ (by decide +kernel)) ggX6_read_X6_portA
set_option maxRecDepth 20000 in
theorem ggX6_read_X6_touchA : GoodIn wsX6_read wsX6_touchA := goodIn_r _ [49, 50, 51, 31, 32, 33, 14, 34, 24, 52, 53, 54, 55, 9, 66, 67, 68, 69, 70, 71, 72, 73, 74, 75, 76, 77, 78, 79, 80, 81, 82, 83, 84, 85, 86, 87, 88, 89, 90, 91, 92, 93, 94, 95, 96] (by decide +kernel) (by decide +kernel)
set_option maxRecDepth 20000 in
theorem gX6_read_X6_touchA : GoodIn wsX6_read (wsV RX6 130 RX6 yX6_touchA wsX6_touchA) := goodIn_app (goodIn_of _ (by decide +kernel)) ggX6_read_X6_touchA
set_option maxRecDepth 20000 in
theorem ggX6_read_X6_drop : GoodIn wsX6_read wsX6_drop := goodIn_r _ [34, 24, 66, 67, 68, 69, 70, 71, 72, 73, 74, 75, 76, 77, 78, 79, 80, 81, 82, 83, 84, 85, 86, 87, 88, 89, 90, 91, 92, 93, 94, 95, 96] (by decide +kernel) (by decide +kernel)
set_option maxRecDepth 20000 in
theorem gX6_read_X6_drop : GoodIn wsX6_read (wsV RX6 102 RX6 yX6_drop wsX6_drop) := goodIn_app (goodIn_of _ (by decide +kernel)) ggX6_read_X6_drop
set_option maxRecDepth 20000 in
theorem ggX6_read_X6_eight : GoodIn wsX6_read wsX6_eight := goodIn_r _ [59, 60, 61, 31, 32, 33, 14, 34, 24, 66, 67, 68, 69, 70, 71, 72, 73, 74, 75, 76, 77, 78, 79, 80, 81, 82, 83, 84, 85, 86, 87, 88, 89, 90, 91, 92, 93, 94, 95, 96] (by decide +kernel) (by decide +kernel)
set_option maxRecDepth 20000 in
theorem gX6_read_X6_eight : GoodIn wsX6_read (wsV RX6 134 RX6 yX6_eight wsX6_eight) := goodIn_app (goodIn_of _ (by decide +kernel)) ggX6_read_X6_eight
set_option maxRecDepth 20000 in
theorem ggX6_read_X6_allFlags : GoodIn wsX6_read wsX6_allFlags := goodIn_r _ [65, 24, 10, 66, 67, 68, 69, 70, 71, 72, 73, 74, 75, 76, 77, 78, 79, 80, 81, 82, 83, 84, 85, 86, 87, 88, 89, 90, 91, 92, 93, 94, 95, 96] (by decide +kernel) (by decide +kernel)
set_option maxRecDepth 20000 in
theorem gX6_read_X6_allFlags : GoodIn wsX6_read (wsV RX6 143 RX6 yX6_allFlags wsX6_allFlags) := goodIn_app (goodIn_of _ (by decide +kernel)) ggX6_read_X6_allFlags
theorem dX6_read_0 : decode cX6_read 0 = .ok (.aload_n 0, 1) := by decide +kernel
theorem dX6_read_1 : decode cX6_read 1 = .ok (.iload_n 1, 1) := by decide +kernel
theorem dX6_read_2 : decode cX6_read 2 = .ok (.ifCond .lt 9, 3) := by decide +kernel
theorem dX6_read_5 : decode cX6_read 5 = .ok (.iload_n 1, 1) := by decide +kernel
theorem dX6_read_6 : decode cX6_read 6 = .ok (.bipush 15, 2) := by decide +kernel
theorem dX6_read_8 : decode cX6_read 8 = .ok (.if_icmp .le 7, 3) := by decide +kernel
theorem dX6_read_11 : decode cX6_read 11 = .ok (.iconst 1, 1) := by decide +kernel
theorem dX6_read_12 : decode cX6_read 12 = .ok (.goto 4, 3) := by decide +kernel
theorem dX6_read_15 : decode cX6_read 15 = .ok (.iconst 0, 1) := by decide +kernel
theorem dX6_read_16 : decode cX6_read 16 = .ok (.putfield 16, 3) := by decide +kernel
theorem dX6_read_19 : decode cX6_read 19 = .ok (.aload_n 0, 1) := by decide +kernel
theorem dX6_read_20 : decode cX6_read 20 = .ok (.getfield 16, 3) := by decide +kernel
theorem dX6_read_23 : decode cX6_read 23 = .ok (.ifCond .le 5, 3) := by decide +kernel
theorem dX6_read_26 : decode cX6_read 26 = .ok (.iconst 0, 1) := by decide +kernel
theorem dX6_read_27 : decode cX6_read 27 = .ok (.ireturn, 1) := by decide +kernel
theorem dX6_read_28 : decode cX6_read 28 = .ok (.iconst 0, 1) := by decide +kernel
theorem dX6_read_29 : decode cX6_read 29 = .ok (.istore_n 2, 1) := by decide +kernel
theorem dX6_read_30 : decode cX6_read 30 = .ok (.iload_n 1, 1) := by decide +kernel
theorem dX6_read_31 : decode cX6_read 31 = .ok (.tableswitch 201 0 14 #[73, 85, 96, 101, 106, 121, 129, 138, 146, 160, 168, 177, 182, 187, 192], 73) := by decide +kernel
theorem dX6_read_104 : decode cX6_read 104 = .ok (.aload_n 0, 1) := by decide +kernel
theorem dX6_read_105 : decode cX6_read 105 = .ok (.invokevirtual 137, 3) := by decide +kernel
theorem dX6_read_108 : decode cX6_read 108 = .ok (.istore_n 2, 1) := by decide +kernel
theorem dX6_read_109 : decode cX6_read 109 = .ok (.aload_n 0, 1) := by decide +kernel
theorem dX6_read_110 : decode cX6_read 110 = .ok (.iconst 0, 1) := by decide +kernel
theorem dX6_read_111 : decode cX6_read 111 = .ok (.invokevirtual 126, 3) := by decide +kernel
theorem dX6_read_114 : decode cX6_read 114 = .ok (.iload_n 2, 1) := by decide +kernel
theorem dX6_read_115 : decode cX6_read 115 = .ok (.ireturn, 1) := by decide +kernel
theorem dX6_read_116 : decode cX6_read 116 = .ok (.aload_n 0, 1) := by decide +kernel
theorem dX6_read_117 : decode cX6_read 117 = .ok (.invokevirtual 140, 3) := by decide +kernel
theorem dX6_read_120 : decode cX6_read 120 = .ok (.istore_n 2, 1) := by decide +kernel
theorem dX6_read_121 : decode cX6_read 121 = .ok (.aload_n 0, 1) := by decide +kernel
theorem dX6_read_122 : decode cX6_read 122 = .ok (.invokevirtual 130, 3) := by decide +kernel
theorem dX6_read_125 : decode cX6_read 125 = .ok (.iload_n 2, 1) := by decide +kernel
theorem dX6_read_126 : decode cX6_read 126 = .ok (.ireturn, 1) := by decide +kernel
theorem dX6_read_127 : decode cX6_read 127 = .ok (.aload_n 0, 1) := by decide +kernel
theorem dX6_read_128 : decode cX6_read 128 = .ok (.getfield 29, 3) := by decide +kernel
theorem dX6_read_131 : decode cX6_read 131 = .ok (.ireturn, 1) := by decide +kernel
theorem dX6_read_132 : decode cX6_read 132 = .ok (.aload_n 0, 1) := by decide +kernel
theorem dX6_read_133 : decode cX6_read 133 = .ok (.getfield 26, 3) := by decide +kernel
theorem dX6_read_136 : decode cX6_read 136 = .ok (.ireturn, 1) := by decide +kernel
theorem dX6_read_137 : decode cX6_read 137 = .ok (.aload_n 0, 1) := by decide +kernel
theorem dX6_read_138 : decode cX6_read 138 = .ok (.bipush 6, 2) := by decide +kernel
theorem dX6_read_140 : decode cX6_read 140 = .ok (.invokevirtual 102, 3) := by decide +kernel
theorem dX6_read_143 : decode cX6_read 143 = .ok (.aload_n 0, 1) := by decide +kernel
theorem dX6_read_144 : decode cX6_read 144 = .ok (.getfield 63, 3) := by decide +kernel
theorem dX6_read_147 : decode cX6_read 147 = .ok (.sipush 255, 3) := by decide +kernel
theorem dX6_read_150 : decode cX6_read 150 = .ok (.iand, 1) := by decide +kernel
theorem dX6_read_151 : decode cX6_read 151 = .ok (.ireturn, 1) := by decide +kernel
theorem dX6_read_152 : decode cX6_read 152 = .ok (.aload_n 0, 1) := by decide +kernel
theorem dX6_read_153 : decode cX6_read 153 = .ok (.getfield 63, 3) := by decide +kernel
theorem dX6_read_156 : decode cX6_read 156 = .ok (.bipush 8, 2) := by decide +kernel
theorem dX6_read_158 : decode cX6_read 158 = .ok (.ishr, 1) := by decide +kernel
theorem dX6_read_159 : decode cX6_read 159 = .ok (.ireturn, 1) := by decide +kernel
theorem dX6_read_160 : decode cX6_read 160 = .ok (.aload_n 0, 1) := by decide +kernel
theorem dX6_read_161 : decode cX6_read 161 = .ok (.getfield 66, 3) := by decide +kernel
theorem dX6_read_164 : decode cX6_read 164 = .ok (.sipush 255, 3) := by decide +kernel
theorem dX6_read_167 : decode cX6_read 167 = .ok (.iand, 1) := by decide +kernel
theorem dX6_read_168 : decode cX6_read 168 = .ok (.ireturn, 1) := by decide +kernel
theorem dX6_read_169 : decode cX6_read 169 = .ok (.aload_n 0, 1) := by decide +kernel
theorem dX6_read_170 : decode cX6_read 170 = .ok (.getfield 66, 3) := by decide +kernel
theorem dX6_read_173 : decode cX6_read 173 = .ok (.bipush 8, 2) := by decide +kernel
theorem dX6_read_175 : decode cX6_read 175 = .ok (.ishr, 1) := by decide +kernel
theorem dX6_read_176 : decode cX6_read 176 = .ok (.ireturn, 1) := by decide +kernel
theorem dX6_read_177 : decode cX6_read 177 = .ok (.aload_n 0, 1) := by decide +kernel
theorem dX6_read_178 : decode cX6_read 178 = .ok (.iconst 5, 1) := by decide +kernel
theorem dX6_read_179 : decode cX6_read 179 = .ok (.invokevirtual 102, 3) := by decide +kernel
theorem dX6_read_182 : decode cX6_read 182 = .ok (.aload_n 0, 1) := by decide +kernel
theorem dX6_read_183 : decode cX6_read 183 = .ok (.getfield 78, 3) := by decide +kernel
theorem dX6_read_186 : decode cX6_read 186 = .ok (.sipush 255, 3) := by decide +kernel
theorem dX6_read_189 : decode cX6_read 189 = .ok (.iand, 1) := by decide +kernel
theorem dX6_read_190 : decode cX6_read 190 = .ok (.ireturn, 1) := by decide +kernel
theorem dX6_read_191 : decode cX6_read 191 = .ok (.aload_n 0, 1) := by decide +kernel
theorem dX6_read_192 : decode cX6_read 192 = .ok (.getfield 78, 3) := by decide +kernel
theorem dX6_read_195 : decode cX6_read 195 = .ok (.bipush 8, 2) := by decide +kernel
theorem dX6_read_197 : decode cX6_read 197 = .ok (.ishr, 1) := by decide +kernel
theorem dX6_read_198 : decode cX6_read 198 = .ok (.ireturn, 1) := by decide +kernel
theorem dX6_read_199 : decode cX6_read 199 = .ok (.aload_n 0, 1) := by decide +kernel
theorem dX6_read_200 : decode cX6_read 200 = .ok (.invokevirtual 134, 3) := by decide +kernel
theorem dX6_read_203 : decode cX6_read 203 = .ok (.aload_n 0, 1) := by decide +kernel
theorem dX6_read_204 : decode cX6_read 204 = .ok (.getfield 87, 3) := by decide +kernel
theorem dX6_read_207 : decode cX6_read 207 = .ok (.ireturn, 1) := by decide +kernel
theorem dX6_read_208 : decode cX6_read 208 = .ok (.aload_n 0, 1) := by decide +kernel
theorem dX6_read_209 : decode cX6_read 209 = .ok (.getfield 32, 3) := by decide +kernel
theorem dX6_read_212 : decode cX6_read 212 = .ok (.ireturn, 1) := by decide +kernel
theorem dX6_read_213 : decode cX6_read 213 = .ok (.aload_n 0, 1) := by decide +kernel
theorem dX6_read_214 : decode cX6_read 214 = .ok (.getfield 35, 3) := by decide +kernel
theorem dX6_read_217 : decode cX6_read 217 = .ok (.ireturn, 1) := by decide +kernel
theorem dX6_read_218 : decode cX6_read 218 = .ok (.aload_n 0, 1) := by decide +kernel
theorem dX6_read_219 : decode cX6_read 219 = .ok (.invokevirtual 143, 3) := by decide +kernel
theorem dX6_read_222 : decode cX6_read 222 = .ok (.ireturn, 1) := by decide +kernel
theorem dX6_read_223 : decode cX6_read 223 = .ok (.aload_n 0, 1) := by decide +kernel
theorem dX6_read_224 : decode cX6_read 224 = .ok (.getfield 41, 3) := by decide +kernel
theorem dX6_read_227 : decode cX6_read 227 = .ok (.sipush 128, 3) := by decide +kernel
theorem dX6_read_230 : decode cX6_read 230 = .ok (.ior, 1) := by decide +kernel
theorem dX6_read_231 : decode cX6_read 231 = .ok (.ireturn, 1) := by decide +kernel
theorem dX6_read_232 : decode cX6_read 232 = .ok (.aload_n 0, 1) := by decide +kernel
theorem dX6_read_233 : decode cX6_read 233 = .ok (.invokevirtual 140, 3) := by decide +kernel
theorem dX6_read_236 : decode cX6_read 236 = .ok (.ireturn, 1) := by decide +kernel
set_option maxRecDepth 20000 in
theorem ggX6_lessTimer2_X6_set : GoodIn wsX6_lessTimer2 wsX6_set := goodIn_r _ [8, 9, 10, 11, 12, 13, 14, 15, 16, 17, 18, 19, 20, 21, 22, 23, 24, 25, 26, 27, 28, 29, 30, 31, 32, 33, 34, 35, 36, 37, 38, 39, 40] (by decide +kernel) (by decide +kernel)
set_option maxRecDepth 20000 in
theorem gX6_lessTimer2_X6_set : GoodIn wsX6_lessTimer2 (wsV RX6 147 RX6 yX6_set wsX6_set) := goodIn_app (goodIn_of _ (by decide +kernel)) ggX6_lessTimer2_X6_set
theorem dX6_lessTimer2_0 : decode cX6_lessTimer2 0 = .ok (.aload_n 0, 1) := by decide +kernel
theorem dX6_lessTimer2_1 : decode cX6_lessTimer2 1 = .ok (.aload_n 0, 1) := by decide +kernel
theorem dX6_lessTimer2_2 : decode cX6_lessTimer2 2 = .ok (.getfield 78, 3) := by decide +kernel
theorem dX6_lessTimer2_5 : decode cX6_lessTimer2 5 = .ok (.iconst 1, 1) := by decide +kernel
theorem dX6_lessTimer2_6 : decode cX6_lessTimer2 6 = .ok (.isub, 1) := by decide +kernel
theorem dX6_lessTimer2_7 : decode cX6_lessTimer2 7 = .ok (.ldc 146, 2) := by decide +kernel
theorem dX6_lessTimer2_9 : decode cX6_lessTimer2 9 = .ok (.iand, 1) := by decide +kernel
theorem dX6_lessTimer2_10 : decode cX6_lessTimer2 10 = .ok (.putfield 78, 3) := by decide +kernel
theorem dX6_lessTimer2_13 : decode cX6_lessTimer2 13 = .ok (.aload_n 0, 1) := by decide +kernel
theorem dX6_lessTimer2_14 : decode cX6_lessTimer2 14 = .ok (.getfield 78, 3) := by decide +kernel
theorem dX6_lessTimer2_17 : decode cX6_lessTimer2 17 = .ok (.ldc 146, 2) := by decide +kernel
theorem dX6_lessTimer2_19 : decode cX6_lessTimer2 19 = .ok (.if_icmp .ne 20, 3) := by decide +kernel
theorem dX6_lessTimer2_22 : decode cX6_lessTimer2 22 = .ok (.aload_n 0, 1) := by decide +kernel
theorem dX6_lessTimer2_23 : decode cX6_lessTimer2 23 = .ok (.getfield 84, 3) := by decide +kernel
theorem dX6_lessTimer2_26 : decode cX6_lessTimer2 26 = .ok (.ifCond .eq 13, 3) := by decide +kernel
theorem dX6_lessTimer2_29 : decode cX6_lessTimer2 29 = .ok (.aload_n 0, 1) := by decide +kernel
theorem dX6_lessTimer2_30 : decode cX6_lessTimer2 30 = .ok (.iconst 5, 1) := by decide +kernel
theorem dX6_lessTimer2_31 : decode cX6_lessTimer2 31 = .ok (.invokevirtual 147, 3) := by decide +kernel
theorem dX6_lessTimer2_34 : decode cX6_lessTimer2 34 = .ok (.aload_n 0, 1) := by decide +kernel
theorem dX6_lessTimer2_35 : decode cX6_lessTimer2 35 = .ok (.iconst 0, 1) := by decide +kernel
theorem dX6_lessTimer2_36 : decode cX6_lessTimer2 36 = .ok (.putfield 84, 3) := by decide +kernel
theorem dX6_lessTimer2_39 : decode cX6_lessTimer2 39 = .ok (.return_, 1) := by decide +kernel
set_option maxRecDepth 20000 in
theorem ggX6_pins_X6_noByte : GoodIn wsX6_pins wsX6_noByte := goodIn_r _ [8] (by decide +kernel) (by decide +kernel)
set_option maxRecDepth 20000 in
theorem gX6_pins_X6_noByte : GoodIn wsX6_pins (va_wsS RX6 123 yX6_noByte wsX6_noByte) := goodIn_app (goodIn_of _ (by decide +kernel)) ggX6_pins_X6_noByte
set_option maxRecDepth 20000 in
theorem ggX6_pins_X6_lessTimer2 : GoodIn wsX6_pins wsX6_lessTimer2 := goodIn_r _ [12, 13, 14, 15, 16, 17, 18, 7, 19, 20, 21, 22, 23, 24, 25, 26, 27, 28, 29, 30, 31, 32, 33, 34, 35, 36, 37, 38, 39, 40, 41, 42, 43, 44, 45, 46, 47, 48, 49, 50, 51] (by decide +kernel) (by decide +kernel)
set_option maxRecDepth 20000 in
theorem gX6_pins_X6_lessTimer2 : GoodIn wsX6_pins (wsV RX6 150 RX6 yX6_lessTimer2 wsX6_lessTimer2) := goodIn_app (goodIn_of _ (by decide +kernel)) ggX6_pins_X6_lessTimer2
theorem dX6_pins_0 : decode cX6_pins 0 = .ok (.aload_n 0, 1) := by decide +kernel
theorem dX6_pins_1 : decode cX6_pins 1 = .ok (.iload_n 1, 1) := by decide +kernel
theorem dX6_pins_2 : decode cX6_pins 2 = .ok (.invokestatic 123, 3) := by decide +kernel
theorem dX6_pins_5 : decode cX6_pins 5 = .ok (.ifCond .ne 10, 3) := by decide +kernel
theorem dX6_pins_8 : decode cX6_pins 8 = .ok (.iload_n 2, 1) := by decide +kernel
theorem dX6_pins_9 : decode cX6_pins 9 = .ok (.invokestatic 123, 3) := by decide +kernel
theorem dX6_pins_12 : decode cX6_pins 12 = .ok (.ifCond .eq 7, 3) := by decide +kernel
theorem dX6_pins_15 : decode cX6_pins 15 = .ok (.iconst 1, 1) := by decide +kernel
theorem dX6_pins_16 : decode cX6_pins 16 = .ok (.goto 4, 3) := by decide +kernel
theorem dX6_pins_19 : decode cX6_pins 19 = .ok (.iconst 0, 1) := by decide +kernel
theorem dX6_pins_20 : decode cX6_pins 20 = .ok (.putfield 16, 3) := by decide +kernel
theorem dX6_pins_23 : decode cX6_pins 23 = .ok (.aload_n 0, 1) := by decide +kernel
theorem dX6_pins_24 : decode cX6_pins 24 = .ok (.getfield 16, 3) := by decide +kernel
theorem dX6_pins_27 : decode cX6_pins 27 = .ok (.ifCond .le 4, 3) := by decide +kernel
theorem dX6_pins_30 : decode cX6_pins 30 = .ok (.return_, 1) := by decide +kernel
theorem dX6_pins_31 : decode cX6_pins 31 = .ok (.aload_n 0, 1) := by decide +kernel
theorem dX6_pins_32 : decode cX6_pins 32 = .ok (.getfield 120, 3) := by decide +kernel
theorem dX6_pins_35 : decode cX6_pins 35 = .ok (.bipush 64, 2) := by decide +kernel
theorem dX6_pins_37 : decode cX6_pins 37 = .ok (.iand, 1) := by decide +kernel
theorem dX6_pins_38 : decode cX6_pins 38 = .ok (.ifCond .eq 14, 3) := by decide +kernel
theorem dX6_pins_41 : decode cX6_pins 41 = .ok (.iload_n 2, 1) := by decide +kernel
theorem dX6_pins_42 : decode cX6_pins 42 = .ok (.bipush 64, 2) := by decide +kernel
theorem dX6_pins_44 : decode cX6_pins 44 = .ok (.iand, 1) := by decide +kernel
theorem dX6_pins_45 : decode cX6_pins 45 = .ok (.ifCond .ne 7, 3) := by decide +kernel
theorem dX6_pins_48 : decode cX6_pins 48 = .ok (.iconst 1, 1) := by decide +kernel
theorem dX6_pins_49 : decode cX6_pins 49 = .ok (.goto 4, 3) := by decide +kernel
theorem dX6_pins_52 : decode cX6_pins 52 = .ok (.iconst 0, 1) := by decide +kernel
theorem dX6_pins_53 : decode cX6_pins 53 = .ok (.istore_n 3, 1) := by decide +kernel
theorem dX6_pins_54 : decode cX6_pins 54 = .ok (.aload_n 0, 1) := by decide +kernel
theorem dX6_pins_55 : decode cX6_pins 55 = .ok (.iload_n 1, 1) := by decide +kernel
theorem dX6_pins_56 : decode cX6_pins 56 = .ok (.putfield 117, 3) := by decide +kernel
theorem dX6_pins_59 : decode cX6_pins 59 = .ok (.aload_n 0, 1) := by decide +kernel
theorem dX6_pins_60 : decode cX6_pins 60 = .ok (.iload_n 2, 1) := by decide +kernel
theorem dX6_pins_61 : decode cX6_pins 61 = .ok (.putfield 120, 3) := by decide +kernel
theorem dX6_pins_64 : decode cX6_pins 64 = .ok (.iload_n 3, 1) := by decide +kernel
theorem dX6_pins_65 : decode cX6_pins 65 = .ok (.ifCond .eq 17, 3) := by decide +kernel
theorem dX6_pins_68 : decode cX6_pins 68 = .ok (.aload_n 0, 1) := by decide +kernel
theorem dX6_pins_69 : decode cX6_pins 69 = .ok (.getfield 32, 3) := by decide +kernel
theorem dX6_pins_72 : decode cX6_pins 72 = .ok (.bipush 32, 2) := by decide +kernel
theorem dX6_pins_74 : decode cX6_pins 74 = .ok (.iand, 1) := by decide +kernel
theorem dX6_pins_75 : decode cX6_pins 75 = .ok (.ifCond .eq 7, 3) := by decide +kernel
theorem dX6_pins_78 : decode cX6_pins 78 = .ok (.aload_n 0, 1) := by decide +kernel
theorem dX6_pins_79 : decode cX6_pins 79 = .ok (.invokevirtual 150, 3) := by decide +kernel
theorem dX6_pins_82 : decode cX6_pins 82 = .ok (.return_, 1) := by decide +kernel
set_option maxRecDepth 20000 in
theorem ggX6_line_X6_wayA : GoodIn wsX6_line wsX6_wayA := goodIn_r _ [14, 3, 24, 25, 26, 27, 28, 29, 30, 31, 32, 33, 34, 35, 36, 37, 38, 39, 40, 41, 42, 43, 44, 45, 46, 47, 48, 49, 50, 51, 52, 53, 54] (by decide +kernel) (by decide +kernel)
set_option maxRecDepth 20000 in
theorem gX6_line_X6_wayA : GoodIn wsX6_line (wsV RX6 106 RX6 yX6_wayA wsX6_wayA) := goodIn_app (goodIn_of _ (by decide +kernel)) ggX6_line_X6_wayA
set_option maxRecDepth 20000 in
theorem ggX6_line_X6_wayB : GoodIn wsX6_line wsX6_wayB := goodIn_r _ [18, 3, 24, 25, 26, 27, 28, 29, 30, 31, 32, 33, 34, 35, 36, 37, 38, 39, 40, 41, 42, 43, 44, 45, 46, 47, 48, 49, 50, 51, 52, 53, 54] (by decide +kernel) (by decide +kernel)
set_option maxRecDepth 20000 in
theorem gX6_line_X6_wayB : GoodIn wsX6_line (wsV RX6 110 RX6 yX6_wayB wsX6_wayB) := goodIn_app (goodIn_of _ (by decide +kernel)) ggX6_line_X6_wayB
set_option maxRecDepth 20000 in
theorem ggX6_line_X6_set : GoodIn wsX6_line wsX6_set := goodIn_r _ [22, 23, 24, 25, 26, 27, 28, 29, 30, 31, 32, 33, 34, 35, 36, 37, 38, 39, 40, 41, 42, 43, 44, 45, 46, 47, 48, 49, 50, 51, 52, 53, 54] (by decide +kernel) (by decide +kernel)
set_option maxRecDepth 20000 in
theorem gX6_line_X6_set : GoodIn wsX6_line (wsV RX6 147 RX6 yX6_set wsX6_set) := goodIn_app (goodIn_of _ (by decide +kernel)) ggX6_line_X6_set
theorem dX6_line_0 : decode cX6_line 0 = .ok (.aload_n 0, 1) := by decide +kernel
theorem dX6_line_1 : decode cX6_line 1 = .ok (.iload_n 1, 1) := by decide +kernel
theorem dX6_line_2 : decode cX6_line 2 = .ok (.ifCond .lt 8, 3) := by decide +kernel
theorem dX6_line_5 : decode cX6_line 5 = .ok (.iload_n 1, 1) := by decide +kernel
theorem dX6_line_6 : decode cX6_line 6 = .ok (.iconst 3, 1) := by decide +kernel
theorem dX6_line_7 : decode cX6_line 7 = .ok (.if_icmp .le 7, 3) := by decide +kernel
theorem dX6_line_10 : decode cX6_line 10 = .ok (.iconst 1, 1) := by decide +kernel
theorem dX6_line_11 : decode cX6_line 11 = .ok (.goto 4, 3) := by decide +kernel
theorem dX6_line_14 : decode cX6_line 14 = .ok (.iconst 0, 1) := by decide +kernel
theorem dX6_line_15 : decode cX6_line 15 = .ok (.putfield 16, 3) := by decide +kernel
theorem dX6_line_18 : decode cX6_line 18 = .ok (.aload_n 0, 1) := by decide +kernel
theorem dX6_line_19 : decode cX6_line 19 = .ok (.getfield 16, 3) := by decide +kernel
theorem dX6_line_22 : decode cX6_line 22 = .ok (.ifCond .le 5, 3) := by decide +kernel
theorem dX6_line_25 : decode cX6_line 25 = .ok (.iconst 0, 1) := by decide +kernel
theorem dX6_line_26 : decode cX6_line 26 = .ok (.ireturn, 1) := by decide +kernel
theorem dX6_line_27 : decode cX6_line 27 = .ok (.aload_n 0, 1) := by decide +kernel
theorem dX6_line_28 : decode cX6_line 28 = .ok (.getfield 7, 3) := by decide +kernel
theorem dX6_line_31 : decode cX6_line 31 = .ok (.iload_n 1, 1) := by decide +kernel
theorem dX6_line_32 : decode cX6_line 32 = .ok (.baload, 1) := by decide +kernel
theorem dX6_line_33 : decode cX6_line 33 = .ok (.iload_n 2, 1) := by decide +kernel
theorem dX6_line_34 : decode cX6_line 34 = .ok (.if_icmp .eq 7, 3) := by decide +kernel
theorem dX6_line_37 : decode cX6_line 37 = .ok (.iconst 1, 1) := by decide +kernel
theorem dX6_line_38 : decode cX6_line 38 = .ok (.goto 4, 3) := by decide +kernel
theorem dX6_line_41 : decode cX6_line 41 = .ok (.iconst 0, 1) := by decide +kernel
theorem dX6_line_42 : decode cX6_line 42 = .ok (.istore_n 3, 1) := by decide +kernel
theorem dX6_line_43 : decode cX6_line 43 = .ok (.aload_n 0, 1) := by decide +kernel
theorem dX6_line_44 : decode cX6_line 44 = .ok (.getfield 7, 3) := by decide +kernel
theorem dX6_line_47 : decode cX6_line 47 = .ok (.iload_n 1, 1) := by decide +kernel
theorem dX6_line_48 : decode cX6_line 48 = .ok (.iload_n 2, 1) := by decide +kernel
theorem dX6_line_49 : decode cX6_line 49 = .ok (.bastore, 1) := by decide +kernel
theorem dX6_line_50 : decode cX6_line 50 = .ok (.iload_n 1, 1) := by decide +kernel
theorem dX6_line_51 : decode cX6_line 51 = .ok (.ifCond .ne 21, 3) := by decide +kernel
theorem dX6_line_54 : decode cX6_line 54 = .ok (.aload_n 0, 1) := by decide +kernel
theorem dX6_line_55 : decode cX6_line 55 = .ok (.getfield 35, 3) := by decide +kernel
theorem dX6_line_58 : decode cX6_line 58 = .ok (.iconst 1, 1) := by decide +kernel
theorem dX6_line_59 : decode cX6_line 59 = .ok (.iand, 1) := by decide +kernel
theorem dX6_line_60 : decode cX6_line 60 = .ok (.iconst 1, 1) := by decide +kernel
theorem dX6_line_61 : decode cX6_line 61 = .ok (.if_icmp .ne 7, 3) := by decide +kernel
theorem dX6_line_64 : decode cX6_line 64 = .ok (.iconst 1, 1) := by decide +kernel
theorem dX6_line_65 : decode cX6_line 65 = .ok (.goto 66, 3) := by decide +kernel
theorem dX6_line_68 : decode cX6_line 68 = .ok (.iconst 0, 1) := by decide +kernel
theorem dX6_line_69 : decode cX6_line 69 = .ok (.goto 62, 3) := by decide +kernel
theorem dX6_line_72 : decode cX6_line 72 = .ok (.iload_n 1, 1) := by decide +kernel
theorem dX6_line_73 : decode cX6_line 73 = .ok (.iconst 1, 1) := by decide +kernel
theorem dX6_line_74 : decode cX6_line 74 = .ok (.if_icmp .ne 19, 3) := by decide +kernel
theorem dX6_line_77 : decode cX6_line 77 = .ok (.aload_n 0, 1) := by decide +kernel
theorem dX6_line_78 : decode cX6_line 78 = .ok (.invokevirtual 106, 3) := by decide +kernel
theorem dX6_line_81 : decode cX6_line 81 = .ok (.iconst 1, 1) := by decide +kernel
theorem dX6_line_82 : decode cX6_line 82 = .ok (.if_icmp .le 7, 3) := by decide +kernel
theorem dX6_line_85 : decode cX6_line 85 = .ok (.iconst 1, 1) := by decide +kernel
theorem dX6_line_86 : decode cX6_line 86 = .ok (.goto 45, 3) := by decide +kernel
theorem dX6_line_89 : decode cX6_line 89 = .ok (.iconst 0, 1) := by decide +kernel
theorem dX6_line_90 : decode cX6_line 90 = .ok (.goto 41, 3) := by decide +kernel
theorem dX6_line_93 : decode cX6_line 93 = .ok (.iload_n 1, 1) := by decide +kernel
theorem dX6_line_94 : decode cX6_line 94 = .ok (.iconst 2, 1) := by decide +kernel
theorem dX6_line_95 : decode cX6_line 95 = .ok (.if_icmp .ne 23, 3) := by decide +kernel
theorem dX6_line_98 : decode cX6_line 98 = .ok (.aload_n 0, 1) := by decide +kernel
theorem dX6_line_99 : decode cX6_line 99 = .ok (.getfield 35, 3) := by decide +kernel
theorem dX6_line_102 : decode cX6_line 102 = .ok (.bipush 16, 2) := by decide +kernel
theorem dX6_line_104 : decode cX6_line 104 = .ok (.iand, 1) := by decide +kernel
theorem dX6_line_105 : decode cX6_line 105 = .ok (.bipush 16, 2) := by decide +kernel
theorem dX6_line_107 : decode cX6_line 107 = .ok (.if_icmp .ne 7, 3) := by decide +kernel
theorem dX6_line_110 : decode cX6_line 110 = .ok (.iconst 1, 1) := by decide +kernel
theorem dX6_line_111 : decode cX6_line 111 = .ok (.goto 20, 3) := by decide +kernel
theorem dX6_line_114 : decode cX6_line 114 = .ok (.iconst 0, 1) := by decide +kernel
theorem dX6_line_115 : decode cX6_line 115 = .ok (.goto 16, 3) := by decide +kernel
theorem dX6_line_118 : decode cX6_line 118 = .ok (.aload_n 0, 1) := by decide +kernel
theorem dX6_line_119 : decode cX6_line 119 = .ok (.invokevirtual 110, 3) := by decide +kernel
theorem dX6_line_122 : decode cX6_line 122 = .ok (.iconst 1, 1) := by decide +kernel
theorem dX6_line_123 : decode cX6_line 123 = .ok (.if_icmp .le 7, 3) := by decide +kernel
theorem dX6_line_126 : decode cX6_line 126 = .ok (.iconst 1, 1) := by decide +kernel
theorem dX6_line_127 : decode cX6_line 127 = .ok (.goto 4, 3) := by decide +kernel
theorem dX6_line_130 : decode cX6_line 130 = .ok (.iconst 0, 1) := by decide +kernel
theorem dX6_line_131 : decode cX6_line 131 = .ok (.istore 4, 2) := by decide +kernel
theorem dX6_line_133 : decode cX6_line 133 = .ok (.iload_n 1, 1) := by decide +kernel
theorem dX6_line_134 : decode cX6_line 134 = .ok (.iconst 1, 1) := by decide +kernel
theorem dX6_line_135 : decode cX6_line 135 = .ok (.if_icmp .ne 19, 3) := by decide +kernel
theorem dX6_line_138 : decode cX6_line 138 = .ok (.aload_n 0, 1) := by decide +kernel
theorem dX6_line_139 : decode cX6_line 139 = .ok (.invokevirtual 106, 3) := by decide +kernel
theorem dX6_line_142 : decode cX6_line 142 = .ok (.iconst 4, 1) := by decide +kernel
theorem dX6_line_143 : decode cX6_line 143 = .ok (.if_icmp .ge 7, 3) := by decide +kernel
theorem dX6_line_146 : decode cX6_line 146 = .ok (.iconst 1, 1) := by decide +kernel
theorem dX6_line_147 : decode cX6_line 147 = .ok (.goto 29, 3) := by decide +kernel
theorem dX6_line_150 : decode cX6_line 150 = .ok (.iconst 0, 1) := by decide +kernel
theorem dX6_line_151 : decode cX6_line 151 = .ok (.goto 25, 3) := by decide +kernel
theorem dX6_line_154 : decode cX6_line 154 = .ok (.iload_n 1, 1) := by decide +kernel
theorem dX6_line_155 : decode cX6_line 155 = .ok (.iconst 3, 1) := by decide +kernel
theorem dX6_line_156 : decode cX6_line 156 = .ok (.if_icmp .ne 19, 3) := by decide +kernel
theorem dX6_line_159 : decode cX6_line 159 = .ok (.aload_n 0, 1) := by decide +kernel
theorem dX6_line_160 : decode cX6_line 160 = .ok (.invokevirtual 110, 3) := by decide +kernel
theorem dX6_line_163 : decode cX6_line 163 = .ok (.iconst 4, 1) := by decide +kernel
theorem dX6_line_164 : decode cX6_line 164 = .ok (.if_icmp .ge 7, 3) := by decide +kernel
theorem dX6_line_167 : decode cX6_line 167 = .ok (.iconst 1, 1) := by decide +kernel
theorem dX6_line_168 : decode cX6_line 168 = .ok (.goto 8, 3) := by decide +kernel
theorem dX6_line_171 : decode cX6_line 171 = .ok (.iconst 0, 1) := by decide +kernel
theorem dX6_line_172 : decode cX6_line 172 = .ok (.goto 4, 3) := by decide +kernel
theorem dX6_line_175 : decode cX6_line 175 = .ok (.iconst 1, 1) := by decide +kernel
theorem dX6_line_176 : decode cX6_line 176 = .ok (.istore 5, 2) := by decide +kernel
theorem dX6_line_178 : decode cX6_line 178 = .ok (.iload_n 3, 1) := by decide +kernel
theorem dX6_line_179 : decode cX6_line 179 = .ok (.ifCond .eq 14, 3) := by decide +kernel
theorem dX6_line_182 : decode cX6_line 182 = .ok (.iload 5, 2) := by decide +kernel
theorem dX6_line_184 : decode cX6_line 184 = .ok (.ifCond .eq 9, 3) := by decide +kernel
theorem dX6_line_187 : decode cX6_line 187 = .ok (.iload 4, 2) := by decide +kernel
theorem dX6_line_189 : decode cX6_line 189 = .ok (.iload_n 2, 1) := by decide +kernel
theorem dX6_line_190 : decode cX6_line 190 = .ok (.if_icmp .eq 5, 3) := by decide +kernel
theorem dX6_line_193 : decode cX6_line 193 = .ok (.iconst 0, 1) := by decide +kernel
theorem dX6_line_194 : decode cX6_line 194 = .ok (.ireturn, 1) := by decide +kernel
theorem dX6_line_195 : decode cX6_line 195 = .ok (.iload_n 1, 1) := by decide +kernel
theorem dX6_line_196 : decode cX6_line 196 = .ok (.ifCond .ne 24, 3) := by decide +kernel
theorem dX6_line_199 : decode cX6_line 199 = .ok (.aload_n 0, 1) := by decide +kernel
theorem dX6_line_200 : decode cX6_line 200 = .ok (.iconst 1, 1) := by decide +kernel
theorem dX6_line_201 : decode cX6_line 201 = .ok (.invokevirtual 147, 3) := by decide +kernel
theorem dX6_line_204 : decode cX6_line 204 = .ok (.aload_n 0, 1) := by decide +kernel
theorem dX6_line_205 : decode cX6_line 205 = .ok (.aload_n 0, 1) := by decide +kernel
theorem dX6_line_206 : decode cX6_line 206 = .ok (.getfield 117, 3) := by decide +kernel
theorem dX6_line_209 : decode cX6_line 209 = .ok (.putfield 44, 3) := by decide +kernel
theorem dX6_line_212 : decode cX6_line 212 = .ok (.aload_n 0, 1) := by decide +kernel
theorem dX6_line_213 : decode cX6_line 213 = .ok (.iconst 0, 1) := by decide +kernel
theorem dX6_line_214 : decode cX6_line 214 = .ok (.putfield 50, 3) := by decide +kernel
theorem dX6_line_217 : decode cX6_line 217 = .ok (.goto 47, 3) := by decide +kernel
theorem dX6_line_220 : decode cX6_line 220 = .ok (.iload_n 1, 1) := by decide +kernel
theorem dX6_line_221 : decode cX6_line 221 = .ok (.iconst 1, 1) := by decide +kernel
theorem dX6_line_222 : decode cX6_line 222 = .ok (.if_icmp .ne 11, 3) := by decide +kernel
theorem dX6_line_225 : decode cX6_line 225 = .ok (.aload_n 0, 1) := by decide +kernel
theorem dX6_line_226 : decode cX6_line 226 = .ok (.iconst 0, 1) := by decide +kernel
theorem dX6_line_227 : decode cX6_line 227 = .ok (.invokevirtual 147, 3) := by decide +kernel
theorem dX6_line_230 : decode cX6_line 230 = .ok (.goto 34, 3) := by decide +kernel
theorem dX6_line_233 : decode cX6_line 233 = .ok (.iload_n 1, 1) := by decide +kernel
theorem dX6_line_234 : decode cX6_line 234 = .ok (.iconst 2, 1) := by decide +kernel
theorem dX6_line_235 : decode cX6_line 235 = .ok (.if_icmp .ne 24, 3) := by decide +kernel
theorem dX6_line_238 : decode cX6_line 238 = .ok (.aload_n 0, 1) := by decide +kernel
theorem dX6_line_239 : decode cX6_line 239 = .ok (.iconst 4, 1) := by decide +kernel
theorem dX6_line_240 : decode cX6_line 240 = .ok (.invokevirtual 147, 3) := by decide +kernel
theorem dX6_line_243 : decode cX6_line 243 = .ok (.aload_n 0, 1) := by decide +kernel
theorem dX6_line_244 : decode cX6_line 244 = .ok (.aload_n 0, 1) := by decide +kernel
theorem dX6_line_245 : decode cX6_line 245 = .ok (.getfield 120, 3) := by decide +kernel
theorem dX6_line_248 : decode cX6_line 248 = .ok (.putfield 47, 3) := by decide +kernel
theorem dX6_line_251 : decode cX6_line 251 = .ok (.aload_n 0, 1) := by decide +kernel
theorem dX6_line_252 : decode cX6_line 252 = .ok (.iconst 0, 1) := by decide +kernel
theorem dX6_line_253 : decode cX6_line 253 = .ok (.putfield 57, 3) := by decide +kernel
theorem dX6_line_256 : decode cX6_line 256 = .ok (.goto 8, 3) := by decide +kernel
theorem dX6_line_259 : decode cX6_line 259 = .ok (.aload_n 0, 1) := by decide +kernel
theorem dX6_line_260 : decode cX6_line 260 = .ok (.iconst 3, 1) := by decide +kernel
theorem dX6_line_261 : decode cX6_line 261 = .ok (.invokevirtual 147, 3) := by decide +kernel
theorem dX6_line_264 : decode cX6_line 264 = .ok (.iconst 1, 1) := by decide +kernel
theorem dX6_line_265 : decode cX6_line 265 = .ok (.ireturn, 1) := by decide +kernel
set_option maxRecDepth 20000 in
theorem ggX6_cycleOfTimer1_X6_set : GoodIn wsX6_cycleOfTimer1 wsX6_set := goodIn_r _ [12, 13, 14, 15, 16, 17, 18, 19, 20, 21, 22, 23, 24, 25, 26, 27, 28, 29, 30, 31, 32, 33, 34, 35, 36, 37, 38, 39, 40, 41, 42, 43, 44] (by decide +kernel) (by decide +kernel)
set_option maxRecDepth 20000 in
theorem gX6_cycleOfTimer1_X6_set : GoodIn wsX6_cycleOfTimer1 (wsV RX6 147 RX6 yX6_set wsX6_set) := goodIn_app (goodIn_of _ (by decide +kernel)) ggX6_cycleOfTimer1_X6_set
theorem dX6_cycleOfTimer1_0 : decode cX6_cycleOfTimer1 0 = .ok (.aload_n 0, 1) := by decide +kernel
theorem dX6_cycleOfTimer1_1 : decode cX6_cycleOfTimer1 1 = .ok (.getfield 32, 3) := by decide +kernel
theorem dX6_cycleOfTimer1_4 : decode cX6_cycleOfTimer1 4 = .ok (.bipush 64, 2) := by decide +kernel
theorem dX6_cycleOfTimer1_6 : decode cX6_cycleOfTimer1 6 = .ok (.iand, 1) := by decide +kernel
theorem dX6_cycleOfTimer1_7 : decode cX6_cycleOfTimer1 7 = .ok (.ifCond .eq 7, 3) := by decide +kernel
theorem dX6_cycleOfTimer1_10 : decode cX6_cycleOfTimer1 10 = .ok (.iconst 1, 1) := by decide +kernel
theorem dX6_cycleOfTimer1_11 : decode cX6_cycleOfTimer1 11 = .ok (.goto 4, 3) := by decide +kernel
theorem dX6_cycleOfTimer1_14 : decode cX6_cycleOfTimer1 14 = .ok (.iconst 0, 1) := by decide +kernel
theorem dX6_cycleOfTimer1_15 : decode cX6_cycleOfTimer1 15 = .ok (.istore_n 1, 1) := by decide +kernel
theorem dX6_cycleOfTimer1_16 : decode cX6_cycleOfTimer1 16 = .ok (.aload_n 0, 1) := by decide +kernel
theorem dX6_cycleOfTimer1_17 : decode cX6_cycleOfTimer1 17 = .ok (.getfield 72, 3) := by decide +kernel
theorem dX6_cycleOfTimer1_20 : decode cX6_cycleOfTimer1 20 = .ok (.ifCond .eq 21, 3) := by decide +kernel
theorem dX6_cycleOfTimer1_23 : decode cX6_cycleOfTimer1 23 = .ok (.iload_n 1, 1) := by decide +kernel
theorem dX6_cycleOfTimer1_24 : decode cX6_cycleOfTimer1 24 = .ok (.ifCond .eq 17, 3) := by decide +kernel
theorem dX6_cycleOfTimer1_27 : decode cX6_cycleOfTimer1 27 = .ok (.aload_n 0, 1) := by decide +kernel
theorem dX6_cycleOfTimer1_28 : decode cX6_cycleOfTimer1 28 = .ok (.aload_n 0, 1) := by decide +kernel
theorem dX6_cycleOfTimer1_29 : decode cX6_cycleOfTimer1 29 = .ok (.getfield 66, 3) := by decide +kernel
theorem dX6_cycleOfTimer1_32 : decode cX6_cycleOfTimer1 32 = .ok (.putfield 63, 3) := by decide +kernel
theorem dX6_cycleOfTimer1_35 : decode cX6_cycleOfTimer1 35 = .ok (.aload_n 0, 1) := by decide +kernel
theorem dX6_cycleOfTimer1_36 : decode cX6_cycleOfTimer1 36 = .ok (.iconst 0, 1) := by decide +kernel
theorem dX6_cycleOfTimer1_37 : decode cX6_cycleOfTimer1 37 = .ok (.putfield 72, 3) := by decide +kernel
theorem dX6_cycleOfTimer1_40 : decode cX6_cycleOfTimer1 40 = .ok (.return_, 1) := by decide +kernel
theorem dX6_cycleOfTimer1_41 : decode cX6_cycleOfTimer1 41 = .ok (.aload_n 0, 1) := by decide +kernel
theorem dX6_cycleOfTimer1_42 : decode cX6_cycleOfTimer1 42 = .ok (.iconst 0, 1) := by decide +kernel
theorem dX6_cycleOfTimer1_43 : decode cX6_cycleOfTimer1 43 = .ok (.putfield 72, 3) := by decide +kernel
theorem dX6_cycleOfTimer1_46 : decode cX6_cycleOfTimer1 46 = .ok (.aload_n 0, 1) := by decide +kernel
theorem dX6_cycleOfTimer1_47 : decode cX6_cycleOfTimer1 47 = .ok (.aload_n 0, 1) := by decide +kernel
theorem dX6_cycleOfTimer1_48 : decode cX6_cycleOfTimer1 48 = .ok (.getfield 63, 3) := by decide +kernel
theorem dX6_cycleOfTimer1_51 : decode cX6_cycleOfTimer1 51 = .ok (.iconst 1, 1) := by decide +kernel
theorem dX6_cycleOfTimer1_52 : decode cX6_cycleOfTimer1 52 = .ok (.isub, 1) := by decide +kernel
theorem dX6_cycleOfTimer1_53 : decode cX6_cycleOfTimer1 53 = .ok (.ldc 146, 2) := by decide +kernel
theorem dX6_cycleOfTimer1_55 : decode cX6_cycleOfTimer1 55 = .ok (.iand, 1) := by decide +kernel
theorem dX6_cycleOfTimer1_56 : decode cX6_cycleOfTimer1 56 = .ok (.putfield 63, 3) := by decide +kernel
theorem dX6_cycleOfTimer1_59 : decode cX6_cycleOfTimer1 59 = .ok (.aload_n 0, 1) := by decide +kernel
theorem dX6_cycleOfTimer1_60 : decode cX6_cycleOfTimer1 60 = .ok (.getfield 63, 3) := by decide +kernel
theorem dX6_cycleOfTimer1_63 : decode cX6_cycleOfTimer1 63 = .ok (.ldc 146, 2) := by decide +kernel
theorem dX6_cycleOfTimer1_65 : decode cX6_cycleOfTimer1 65 = .ok (.if_icmp .eq 4, 3) := by decide +kernel
theorem dX6_cycleOfTimer1_68 : decode cX6_cycleOfTimer1 68 = .ok (.return_, 1) := by decide +kernel
theorem dX6_cycleOfTimer1_69 : decode cX6_cycleOfTimer1 69 = .ok (.iload_n 1, 1) := by decide +kernel
theorem dX6_cycleOfTimer1_70 : decode cX6_cycleOfTimer1 70 = .ok (.ifCond .eq 33, 3) := by decide +kernel
theorem dX6_cycleOfTimer1_73 : decode cX6_cycleOfTimer1 73 = .ok (.aload_n 0, 1) := by decide +kernel
theorem dX6_cycleOfTimer1_74 : decode cX6_cycleOfTimer1 74 = .ok (.bipush 6, 2) := by decide +kernel
theorem dX6_cycleOfTimer1_76 : decode cX6_cycleOfTimer1 76 = .ok (.invokevirtual 147, 3) := by decide +kernel
theorem dX6_cycleOfTimer1_79 : decode cX6_cycleOfTimer1 79 = .ok (.aload_n 0, 1) := by decide +kernel
theorem dX6_cycleOfTimer1_80 : decode cX6_cycleOfTimer1 80 = .ok (.aload_n 0, 1) := by decide +kernel
theorem dX6_cycleOfTimer1_81 : decode cX6_cycleOfTimer1 81 = .ok (.getfield 75, 3) := by decide +kernel
theorem dX6_cycleOfTimer1_84 : decode cX6_cycleOfTimer1 84 = .ok (.ifCond .ne 7, 3) := by decide +kernel
theorem dX6_cycleOfTimer1_87 : decode cX6_cycleOfTimer1 87 = .ok (.iconst 1, 1) := by decide +kernel
theorem dX6_cycleOfTimer1_88 : decode cX6_cycleOfTimer1 88 = .ok (.goto 4, 3) := by decide +kernel
theorem dX6_cycleOfTimer1_91 : decode cX6_cycleOfTimer1 91 = .ok (.iconst 0, 1) := by decide +kernel
theorem dX6_cycleOfTimer1_92 : decode cX6_cycleOfTimer1 92 = .ok (.putfield 75, 3) := by decide +kernel
theorem dX6_cycleOfTimer1_95 : decode cX6_cycleOfTimer1 95 = .ok (.aload_n 0, 1) := by decide +kernel
theorem dX6_cycleOfTimer1_96 : decode cX6_cycleOfTimer1 96 = .ok (.iconst 1, 1) := by decide +kernel
theorem dX6_cycleOfTimer1_97 : decode cX6_cycleOfTimer1 97 = .ok (.putfield 72, 3) := by decide +kernel
theorem dX6_cycleOfTimer1_100 : decode cX6_cycleOfTimer1 100 = .ok (.goto 26, 3) := by decide +kernel
theorem dX6_cycleOfTimer1_103 : decode cX6_cycleOfTimer1 103 = .ok (.aload_n 0, 1) := by decide +kernel
theorem dX6_cycleOfTimer1_104 : decode cX6_cycleOfTimer1 104 = .ok (.getfield 69, 3) := by decide +kernel
theorem dX6_cycleOfTimer1_107 : decode cX6_cycleOfTimer1 107 = .ok (.ifCond .eq 19, 3) := by decide +kernel
theorem dX6_cycleOfTimer1_110 : decode cX6_cycleOfTimer1 110 = .ok (.aload_n 0, 1) := by decide +kernel
theorem dX6_cycleOfTimer1_111 : decode cX6_cycleOfTimer1 111 = .ok (.bipush 6, 2) := by decide +kernel
theorem dX6_cycleOfTimer1_113 : decode cX6_cycleOfTimer1 113 = .ok (.invokevirtual 147, 3) := by decide +kernel
theorem dX6_cycleOfTimer1_116 : decode cX6_cycleOfTimer1 116 = .ok (.aload_n 0, 1) := by decide +kernel
theorem dX6_cycleOfTimer1_117 : decode cX6_cycleOfTimer1 117 = .ok (.iconst 1, 1) := by decide +kernel
theorem dX6_cycleOfTimer1_118 : decode cX6_cycleOfTimer1 118 = .ok (.putfield 75, 3) := by decide +kernel
theorem dX6_cycleOfTimer1_121 : decode cX6_cycleOfTimer1 121 = .ok (.aload_n 0, 1) := by decide +kernel
theorem dX6_cycleOfTimer1_122 : decode cX6_cycleOfTimer1 122 = .ok (.iconst 0, 1) := by decide +kernel
theorem dX6_cycleOfTimer1_123 : decode cX6_cycleOfTimer1 123 = .ok (.putfield 69, 3) := by decide +kernel
theorem dX6_cycleOfTimer1_126 : decode cX6_cycleOfTimer1 126 = .ok (.return_, 1) := by decide +kernel
set_option maxRecDepth 20000 in
theorem ggX6_cycleOfShifter_X6_mode : GoodIn wsX6_cycleOfShifter wsX6_mode := goodIn_r _ [10, 11, 17, 18, 19, 20, 21, 22, 23, 24, 25, 26, 27, 28, 29, 30, 31, 32, 33, 34, 35, 36, 37, 38, 39, 40, 41, 42, 43, 44, 45, 46, 47] (by decide +kernel) (by decide +kernel)
set_option maxRecDepth 20000 in
theorem gX6_cycleOfShifter_X6_mode : GoodIn wsX6_cycleOfShifter (wsV RX6 153 RX6 yX6_mode wsX6_mode) := goodIn_app (goodIn_of _ (by decide +kernel)) ggX6_cycleOfShifter_X6_mode
set_option maxRecDepth 20000 in
theorem ggX6_cycleOfShifter_X6_set : GoodIn wsX6_cycleOfShifter wsX6_set := goodIn_r _ [15, 16, 17, 18, 19, 20, 21, 22, 23, 24, 25, 26, 27, 28, 29, 30, 31, 32, 33, 34, 35, 36, 37, 38, 39, 40, 41, 42, 43, 44, 45, 46, 47] (by decide +kernel) (by decide +kernel)
set_option maxRecDepth 20000 in
theorem gX6_cycleOfShifter_X6_set : GoodIn wsX6_cycleOfShifter (wsV RX6 147 RX6 yX6_set wsX6_set) := goodIn_app (goodIn_of _ (by decide +kernel)) ggX6_cycleOfShifter_X6_set
theorem dX6_cycleOfShifter_0 : decode cX6_cycleOfShifter 0 = .ok (.aload_n 0, 1) := by decide +kernel
theorem dX6_cycleOfShifter_1 : decode cX6_cycleOfShifter 1 = .ok (.getfield 90, 3) := by decide +kernel
theorem dX6_cycleOfShifter_4 : decode cX6_cycleOfShifter 4 = .ok (.ifCond .eq 20, 3) := by decide +kernel
theorem dX6_cycleOfShifter_7 : decode cX6_cycleOfShifter 7 = .ok (.aload_n 0, 1) := by decide +kernel
theorem dX6_cycleOfShifter_8 : decode cX6_cycleOfShifter 8 = .ok (.invokevirtual 153, 3) := by decide +kernel
theorem dX6_cycleOfShifter_11 : decode cX6_cycleOfShifter 11 = .ok (.iconst 2, 1) := by decide +kernel
theorem dX6_cycleOfShifter_12 : decode cX6_cycleOfShifter 12 = .ok (.if_icmp .eq 13, 3) := by decide +kernel
theorem dX6_cycleOfShifter_15 : decode cX6_cycleOfShifter 15 = .ok (.aload_n 0, 1) := by decide +kernel
theorem dX6_cycleOfShifter_16 : decode cX6_cycleOfShifter 16 = .ok (.invokevirtual 153, 3) := by decide +kernel
theorem dX6_cycleOfShifter_19 : decode cX6_cycleOfShifter 19 = .ok (.bipush 6, 2) := by decide +kernel
theorem dX6_cycleOfShifter_21 : decode cX6_cycleOfShifter 21 = .ok (.if_icmp .eq 4, 3) := by decide +kernel
theorem dX6_cycleOfShifter_24 : decode cX6_cycleOfShifter 24 = .ok (.return_, 1) := by decide +kernel
theorem dX6_cycleOfShifter_25 : decode cX6_cycleOfShifter 25 = .ok (.aload_n 0, 1) := by decide +kernel
theorem dX6_cycleOfShifter_26 : decode cX6_cycleOfShifter 26 = .ok (.dup, 1) := by decide +kernel
theorem dX6_cycleOfShifter_27 : decode cX6_cycleOfShifter 27 = .ok (.getfield 93, 3) := by decide +kernel
theorem dX6_cycleOfShifter_30 : decode cX6_cycleOfShifter 30 = .ok (.iconst 1, 1) := by decide +kernel
theorem dX6_cycleOfShifter_31 : decode cX6_cycleOfShifter 31 = .ok (.isub, 1) := by decide +kernel
theorem dX6_cycleOfShifter_32 : decode cX6_cycleOfShifter 32 = .ok (.putfield 93, 3) := by decide +kernel
theorem dX6_cycleOfShifter_35 : decode cX6_cycleOfShifter 35 = .ok (.aload_n 0, 1) := by decide +kernel
theorem dX6_cycleOfShifter_36 : decode cX6_cycleOfShifter 36 = .ok (.getfield 93, 3) := by decide +kernel
theorem dX6_cycleOfShifter_39 : decode cX6_cycleOfShifter 39 = .ok (.ifCond .le 4, 3) := by decide +kernel
theorem dX6_cycleOfShifter_42 : decode cX6_cycleOfShifter 42 = .ok (.return_, 1) := by decide +kernel
theorem dX6_cycleOfShifter_43 : decode cX6_cycleOfShifter 43 = .ok (.aload_n 0, 1) := by decide +kernel
theorem dX6_cycleOfShifter_44 : decode cX6_cycleOfShifter 44 = .ok (.iconst 2, 1) := by decide +kernel
theorem dX6_cycleOfShifter_45 : decode cX6_cycleOfShifter 45 = .ok (.putfield 93, 3) := by decide +kernel
theorem dX6_cycleOfShifter_48 : decode cX6_cycleOfShifter 48 = .ok (.aload_n 0, 1) := by decide +kernel
theorem dX6_cycleOfShifter_49 : decode cX6_cycleOfShifter 49 = .ok (.getfield 87, 3) := by decide +kernel
theorem dX6_cycleOfShifter_52 : decode cX6_cycleOfShifter 52 = .ok (.bipush 7, 2) := by decide +kernel
theorem dX6_cycleOfShifter_54 : decode cX6_cycleOfShifter 54 = .ok (.ishr, 1) := by decide +kernel
theorem dX6_cycleOfShifter_55 : decode cX6_cycleOfShifter 55 = .ok (.istore_n 1, 1) := by decide +kernel
theorem dX6_cycleOfShifter_56 : decode cX6_cycleOfShifter 56 = .ok (.aload_n 0, 1) := by decide +kernel
theorem dX6_cycleOfShifter_57 : decode cX6_cycleOfShifter 57 = .ok (.invokevirtual 153, 3) := by decide +kernel
theorem dX6_cycleOfShifter_60 : decode cX6_cycleOfShifter 60 = .ok (.iconst 2, 1) := by decide +kernel
theorem dX6_cycleOfShifter_61 : decode cX6_cycleOfShifter 61 = .ok (.if_icmp .ne 20, 3) := by decide +kernel
theorem dX6_cycleOfShifter_64 : decode cX6_cycleOfShifter 64 = .ok (.aload_n 0, 1) := by decide +kernel
theorem dX6_cycleOfShifter_65 : decode cX6_cycleOfShifter 65 = .ok (.getfield 7, 3) := by decide +kernel
theorem dX6_cycleOfShifter_68 : decode cX6_cycleOfShifter 68 = .ok (.iconst 3, 1) := by decide +kernel
theorem dX6_cycleOfShifter_69 : decode cX6_cycleOfShifter 69 = .ok (.baload, 1) := by decide +kernel
theorem dX6_cycleOfShifter_70 : decode cX6_cycleOfShifter 70 = .ok (.ifCond .eq 7, 3) := by decide +kernel
theorem dX6_cycleOfShifter_73 : decode cX6_cycleOfShifter 73 = .ok (.iconst 1, 1) := by decide +kernel
theorem dX6_cycleOfShifter_74 : decode cX6_cycleOfShifter 74 = .ok (.goto 8, 3) := by decide +kernel
theorem dX6_cycleOfShifter_77 : decode cX6_cycleOfShifter 77 = .ok (.iconst 0, 1) := by decide +kernel
theorem dX6_cycleOfShifter_78 : decode cX6_cycleOfShifter 78 = .ok (.goto 4, 3) := by decide +kernel
theorem dX6_cycleOfShifter_81 : decode cX6_cycleOfShifter 81 = .ok (.iload_n 1, 1) := by decide +kernel
theorem dX6_cycleOfShifter_82 : decode cX6_cycleOfShifter 82 = .ok (.istore_n 2, 1) := by decide +kernel
theorem dX6_cycleOfShifter_83 : decode cX6_cycleOfShifter 83 = .ok (.aload_n 0, 1) := by decide +kernel
theorem dX6_cycleOfShifter_84 : decode cX6_cycleOfShifter 84 = .ok (.invokevirtual 153, 3) := by decide +kernel
theorem dX6_cycleOfShifter_87 : decode cX6_cycleOfShifter 87 = .ok (.bipush 6, 2) := by decide +kernel
theorem dX6_cycleOfShifter_89 : decode cX6_cycleOfShifter 89 = .ok (.if_icmp .ne 8, 3) := by decide +kernel
theorem dX6_cycleOfShifter_92 : decode cX6_cycleOfShifter 92 = .ok (.aload_n 0, 1) := by decide +kernel
theorem dX6_cycleOfShifter_93 : decode cX6_cycleOfShifter 93 = .ok (.iload_n 1, 1) := by decide +kernel
theorem dX6_cycleOfShifter_94 : decode cX6_cycleOfShifter 94 = .ok (.putfield 96, 3) := by decide +kernel
theorem dX6_cycleOfShifter_97 : decode cX6_cycleOfShifter 97 = .ok (.aload_n 0, 1) := by decide +kernel
theorem dX6_cycleOfShifter_98 : decode cX6_cycleOfShifter 98 = .ok (.aload_n 0, 1) := by decide +kernel
theorem dX6_cycleOfShifter_99 : decode cX6_cycleOfShifter 99 = .ok (.getfield 87, 3) := by decide +kernel
theorem dX6_cycleOfShifter_102 : decode cX6_cycleOfShifter 102 = .ok (.iconst 1, 1) := by decide +kernel
theorem dX6_cycleOfShifter_103 : decode cX6_cycleOfShifter 103 = .ok (.ishl, 1) := by decide +kernel
theorem dX6_cycleOfShifter_104 : decode cX6_cycleOfShifter 104 = .ok (.sipush 255, 3) := by decide +kernel
theorem dX6_cycleOfShifter_107 : decode cX6_cycleOfShifter 107 = .ok (.iand, 1) := by decide +kernel
theorem dX6_cycleOfShifter_108 : decode cX6_cycleOfShifter 108 = .ok (.iload_n 2, 1) := by decide +kernel
theorem dX6_cycleOfShifter_109 : decode cX6_cycleOfShifter 109 = .ok (.ior, 1) := by decide +kernel
theorem dX6_cycleOfShifter_110 : decode cX6_cycleOfShifter 110 = .ok (.putfield 87, 3) := by decide +kernel
theorem dX6_cycleOfShifter_113 : decode cX6_cycleOfShifter 113 = .ok (.aload_n 0, 1) := by decide +kernel
theorem dX6_cycleOfShifter_114 : decode cX6_cycleOfShifter 114 = .ok (.dup, 1) := by decide +kernel
theorem dX6_cycleOfShifter_115 : decode cX6_cycleOfShifter 115 = .ok (.getfield 90, 3) := by decide +kernel
theorem dX6_cycleOfShifter_118 : decode cX6_cycleOfShifter 118 = .ok (.iconst 1, 1) := by decide +kernel
theorem dX6_cycleOfShifter_119 : decode cX6_cycleOfShifter 119 = .ok (.isub, 1) := by decide +kernel
theorem dX6_cycleOfShifter_120 : decode cX6_cycleOfShifter 120 = .ok (.putfield 90, 3) := by decide +kernel
theorem dX6_cycleOfShifter_123 : decode cX6_cycleOfShifter 123 = .ok (.aload_n 0, 1) := by decide +kernel
theorem dX6_cycleOfShifter_124 : decode cX6_cycleOfShifter 124 = .ok (.getfield 90, 3) := by decide +kernel
theorem dX6_cycleOfShifter_127 : decode cX6_cycleOfShifter 127 = .ok (.ifCond .ne 8, 3) := by decide +kernel
theorem dX6_cycleOfShifter_130 : decode cX6_cycleOfShifter 130 = .ok (.aload_n 0, 1) := by decide +kernel
theorem dX6_cycleOfShifter_131 : decode cX6_cycleOfShifter 131 = .ok (.iconst 2, 1) := by decide +kernel
theorem dX6_cycleOfShifter_132 : decode cX6_cycleOfShifter 132 = .ok (.invokevirtual 147, 3) := by decide +kernel
theorem dX6_cycleOfShifter_135 : decode cX6_cycleOfShifter 135 = .ok (.return_, 1) := by decide +kernel
set_option maxRecDepth 20000 in
theorem ggX6_step_X6_cycleOfTimer1 : GoodIn wsX6_step wsX6_cycleOfTimer1 := goodIn_r _ [11, 3, 12, 13, 14, 15, 16, 17, 18, 19, 20, 10, 21, 22, 47, 48, 49, 50, 51, 52, 53, 54, 55, 56, 57, 58, 59, 60, 61, 62, 63, 64, 65, 66, 67, 68, 69, 70, 71, 72, 73, 74, 75, 76, 77] (by decide +kernel) (by decide +kernel)
set_option maxRecDepth 20000 in
theorem gX6_step_X6_cycleOfTimer1 : GoodIn wsX6_step (wsV RX6 157 RX6 yX6_cycleOfTimer1 wsX6_cycleOfTimer1) := goodIn_app (goodIn_of _ (by decide +kernel)) ggX6_step_X6_cycleOfTimer1
set_option maxRecDepth 20000 in
theorem ggX6_step_X6_lessTimer2 : GoodIn wsX6_step wsX6_lessTimer2 := goodIn_r _ [26, 27, 15, 28, 18, 19, 20, 10, 21, 22, 47, 48, 49, 50, 51, 52, 53, 54, 55, 56, 57, 58, 59, 60, 61, 62, 63, 64, 65, 66, 67, 68, 69, 70, 71, 72, 73, 74, 75, 76, 77] (by decide +kernel) (by decide +kernel)
set_option maxRecDepth 20000 in
theorem gX6_step_X6_lessTimer2 : GoodIn wsX6_step (wsV RX6 150 RX6 yX6_lessTimer2 wsX6_lessTimer2) := goodIn_app (goodIn_of _ (by decide +kernel)) ggX6_step_X6_lessTimer2
set_option maxRecDepth 20000 in
theorem ggX6_step_X6_cycleOfShifter : GoodIn wsX6_step wsX6_cycleOfShifter := goodIn_r _ [32, 33, 34, 35, 36, 37, 38, 39, 40, 10, 41, 3, 18, 19, 20, 21, 22, 47, 48, 49, 50, 51, 52, 53, 54, 55, 56, 57, 58, 59, 60, 61, 62, 63, 64, 65, 66, 67, 68, 69, 70, 71, 72, 73, 74, 75, 76, 77] (by decide +kernel) (by decide +kernel)
set_option maxRecDepth 20000 in
theorem gX6_step_X6_cycleOfShifter : GoodIn wsX6_step (wsV RX6 160 RX6 yX6_cycleOfShifter wsX6_cycleOfShifter) := goodIn_app (goodIn_of _ (by decide +kernel)) ggX6_step_X6_cycleOfShifter
set_option maxRecDepth 20000 in
theorem ggX6_step_X6_allFlags : GoodIn wsX6_step wsX6_allFlags := goodIn_r _ [45, 22, 46, 47, 48, 49, 50, 51, 52, 53, 54, 55, 56, 57, 58, 59, 60, 61, 62, 63, 64, 65, 66, 67, 68, 69, 70, 71, 72, 73, 74, 75, 76, 77] (by decide +kernel) (by decide +kernel)
set_option maxRecDepth 20000 in
theorem gX6_step_X6_allFlags : GoodIn wsX6_step (wsV RX6 143 RX6 yX6_allFlags wsX6_allFlags) := goodIn_app (goodIn_of _ (by decide +kernel)) ggX6_step_X6_allFlags
theorem dX6_step_0 : decode cX6_step 0 = .ok (.aload_n 0, 1) := by decide +kernel
theorem dX6_step_1 : decode cX6_step 1 = .ok (.iload_n 1, 1) := by decide +kernel
theorem dX6_step_2 : decode cX6_step 2 = .ok (.ifCond .lt 9, 3) := by decide +kernel
theorem dX6_step_5 : decode cX6_step 5 = .ok (.iload_n 1, 1) := by decide +kernel
theorem dX6_step_6 : decode cX6_step 6 = .ok (.ldc 156, 2) := by decide +kernel
theorem dX6_step_8 : decode cX6_step 8 = .ok (.if_icmp .le 7, 3) := by decide +kernel
theorem dX6_step_11 : decode cX6_step 11 = .ok (.iconst 1, 1) := by decide +kernel
theorem dX6_step_12 : decode cX6_step 12 = .ok (.goto 4, 3) := by decide +kernel
theorem dX6_step_15 : decode cX6_step 15 = .ok (.iconst 0, 1) := by decide +kernel
theorem dX6_step_16 : decode cX6_step 16 = .ok (.putfield 16, 3) := by decide +kernel
theorem dX6_step_19 : decode cX6_step 19 = .ok (.iconst 0, 1) := by decide +kernel
theorem dX6_step_20 : decode cX6_step 20 = .ok (.istore_n 2, 1) := by decide +kernel
theorem dX6_step_21 : decode cX6_step 21 = .ok (.iload_n 2, 1) := by decide +kernel
theorem dX6_step_22 : decode cX6_step 22 = .ok (.iload_n 1, 1) := by decide +kernel
theorem dX6_step_23 : decode cX6_step 23 = .ok (.if_icmp .ge 58, 3) := by decide +kernel
theorem dX6_step_26 : decode cX6_step 26 = .ok (.aload_n 0, 1) := by decide +kernel
theorem dX6_step_27 : decode cX6_step 27 = .ok (.getfield 16, 3) := by decide +kernel
theorem dX6_step_30 : decode cX6_step 30 = .ok (.ifCond .ne 51, 3) := by decide +kernel
theorem dX6_step_33 : decode cX6_step 33 = .ok (.aload_n 0, 1) := by decide +kernel
theorem dX6_step_34 : decode cX6_step 34 = .ok (.invokevirtual 157, 3) := by decide +kernel
theorem dX6_step_37 : decode cX6_step 37 = .ok (.aload_n 0, 1) := by decide +kernel
theorem dX6_step_38 : decode cX6_step 38 = .ok (.getfield 32, 3) := by decide +kernel
theorem dX6_step_41 : decode cX6_step 41 = .ok (.bipush 32, 2) := by decide +kernel
theorem dX6_step_43 : decode cX6_step 43 = .ok (.iand, 1) := by decide +kernel
theorem dX6_step_44 : decode cX6_step 44 = .ok (.ifCond .ne 7, 3) := by decide +kernel
theorem dX6_step_47 : decode cX6_step 47 = .ok (.aload_n 0, 1) := by decide +kernel
theorem dX6_step_48 : decode cX6_step 48 = .ok (.invokevirtual 150, 3) := by decide +kernel
theorem dX6_step_51 : decode cX6_step 51 = .ok (.aload_n 0, 1) := by decide +kernel
theorem dX6_step_52 : decode cX6_step 52 = .ok (.invokevirtual 160, 3) := by decide +kernel
theorem dX6_step_55 : decode cX6_step 55 = .ok (.aload_n 0, 1) := by decide +kernel
theorem dX6_step_56 : decode cX6_step 56 = .ok (.iconst 0, 1) := by decide +kernel
theorem dX6_step_57 : decode cX6_step 57 = .ok (.putfield 54, 3) := by decide +kernel
theorem dX6_step_60 : decode cX6_step 60 = .ok (.aload_n 0, 1) := by decide +kernel
theorem dX6_step_61 : decode cX6_step 61 = .ok (.iconst 0, 1) := by decide +kernel
theorem dX6_step_62 : decode cX6_step 62 = .ok (.putfield 60, 3) := by decide +kernel
theorem dX6_step_65 : decode cX6_step 65 = .ok (.aload_n 0, 1) := by decide +kernel
theorem dX6_step_66 : decode cX6_step 66 = .ok (.dup, 1) := by decide +kernel
theorem dX6_step_67 : decode cX6_step 67 = .ok (.getfield 99, 3) := by decide +kernel
theorem dX6_step_70 : decode cX6_step 70 = .ok (.iconst 1, 1) := by decide +kernel
theorem dX6_step_71 : decode cX6_step 71 = .ok (.iadd, 1) := by decide +kernel
theorem dX6_step_72 : decode cX6_step 72 = .ok (.putfield 99, 3) := by decide +kernel
theorem dX6_step_75 : decode cX6_step 75 = .ok (.iinc 2 1, 3) := by decide +kernel
theorem dX6_step_78 : decode cX6_step 78 = .ok (.goto (-57), 3) := by decide +kernel
theorem dX6_step_81 : decode cX6_step 81 = .ok (.aload_n 0, 1) := by decide +kernel
theorem dX6_step_82 : decode cX6_step 82 = .ok (.getfield 16, 3) := by decide +kernel
theorem dX6_step_85 : decode cX6_step 85 = .ok (.ifCond .le 7, 3) := by decide +kernel
theorem dX6_step_88 : decode cX6_step 88 = .ok (.iconst 0, 1) := by decide +kernel
theorem dX6_step_89 : decode cX6_step 89 = .ok (.goto 7, 3) := by decide +kernel
theorem dX6_step_92 : decode cX6_step 92 = .ok (.aload_n 0, 1) := by decide +kernel
theorem dX6_step_93 : decode cX6_step 93 = .ok (.invokevirtual 143, 3) := by decide +kernel
theorem dX6_step_96 : decode cX6_step 96 = .ok (.ireturn, 1) := by decide +kernel
theorem dX6_given_0 : decode cX6_given 0 = .ok (.iload_n 0, 1) := by decide +kernel
theorem dX6_given_1 : decode cX6_given 1 = .ok (.bipush 6, 2) := by decide +kernel
theorem dX6_given_3 : decode cX6_given 3 = .ok (.if_icmp .eq 21, 3) := by decide +kernel
theorem dX6_given_6 : decode cX6_given 6 = .ok (.iload_n 0, 1) := by decide +kernel
theorem dX6_given_7 : decode cX6_given 7 = .ok (.iconst 4, 1) := by decide +kernel
theorem dX6_given_8 : decode cX6_given 8 = .ok (.if_icmp .ne 7, 3) := by decide +kernel
theorem dX6_given_11 : decode cX6_given 11 = .ok (.iload_n 1, 1) := by decide +kernel
theorem dX6_given_12 : decode cX6_given 12 = .ok (.ifCond .ne 12, 3) := by decide +kernel
theorem dX6_given_15 : decode cX6_given 15 = .ok (.iload_n 0, 1) := by decide +kernel
theorem dX6_given_16 : decode cX6_given 16 = .ok (.iconst 5, 1) := by decide +kernel
theorem dX6_given_17 : decode cX6_given 17 = .ok (.if_icmp .ne 11, 3) := by decide +kernel
theorem dX6_given_20 : decode cX6_given 20 = .ok (.iload_n 2, 1) := by decide +kernel
theorem dX6_given_21 : decode cX6_given 21 = .ok (.ifCond .eq 7, 3) := by decide +kernel
theorem dX6_given_24 : decode cX6_given 24 = .ok (.iconst 1, 1) := by decide +kernel
theorem dX6_given_25 : decode cX6_given 25 = .ok (.goto 4, 3) := by decide +kernel
theorem dX6_given_28 : decode cX6_given 28 = .ok (.iconst 0, 1) := by decide +kernel
theorem dX6_given_29 : decode cX6_given 29 = .ok (.istore_n 3, 1) := by decide +kernel
theorem dX6_given_30 : decode cX6_given 30 = .ok (.iload_n 3, 1) := by decide +kernel
theorem dX6_given_31 : decode cX6_given 31 = .ok (.ifCond .eq 7, 3) := by decide +kernel
theorem dX6_given_34 : decode cX6_given 34 = .ok (.iconst 0, 1) := by decide +kernel
theorem dX6_given_35 : decode cX6_given 35 = .ok (.goto 4, 3) := by decide +kernel
theorem dX6_given_38 : decode cX6_given 38 = .ok (.iconst 1, 1) := by decide +kernel
theorem dX6_given_39 : decode cX6_given 39 = .ok (.ireturn, 1) := by decide +kernel
set_option maxRecDepth 20000 in
theorem ggX6_out_X6_wayA : GoodIn wsX6_out wsX6_wayA := goodIn_r _ [19, 20, 32, 33, 34, 35, 36, 37, 38, 39, 40, 41, 42, 43, 44, 45, 46, 47, 48, 49, 50, 51, 52, 53, 54, 55, 56, 57, 58, 59, 60, 61, 62] (by decide +kernel) (by decide +kernel)
set_option maxRecDepth 20000 in
theorem gX6_out_X6_wayA : GoodIn wsX6_out (wsV RX6 106 RX6 yX6_wayA wsX6_wayA) := goodIn_app (goodIn_of _ (by decide +kernel)) ggX6_out_X6_wayA
set_option maxRecDepth 20000 in
theorem ggX6_out_X6_given : GoodIn wsX6_out wsX6_given := goodIn_r _ [23] (by decide +kernel) (by decide +kernel)
set_option maxRecDepth 20000 in
theorem gX6_out_X6_given : GoodIn wsX6_out (va_wsS RX6 163 yX6_given wsX6_given) := goodIn_app (goodIn_of _ (by decide +kernel)) ggX6_out_X6_given
set_option maxRecDepth 20000 in
theorem ggX6_out_X6_wayB : GoodIn wsX6_out wsX6_wayB := goodIn_r _ [27, 20, 32, 33, 34, 35, 36, 37, 38, 39, 40, 41, 42, 43, 44, 45, 46, 47, 48, 49, 50, 51, 52, 53, 54, 55, 56, 57, 58, 59, 60, 61, 62] (by decide +kernel) (by decide +kernel)
set_option maxRecDepth 20000 in
theorem gX6_out_X6_wayB : GoodIn wsX6_out (wsV RX6 110 RX6 yX6_wayB wsX6_wayB) := goodIn_app (goodIn_of _ (by decide +kernel)) ggX6_out_X6_wayB
set_option maxRecDepth 20000 in
theorem ggX6_out_X6_mode : GoodIn wsX6_out wsX6_mode := goodIn_r _ [31, 6, 32, 33, 34, 35, 36, 37, 38, 39, 40, 41, 42, 43, 44, 45, 46, 47, 48, 49, 50, 51, 52, 53, 54, 55, 56, 57, 58, 59, 60, 61, 62] (by decide +kernel) (by decide +kernel)
set_option maxRecDepth 20000 in
theorem gX6_out_X6_mode : GoodIn wsX6_out (wsV RX6 153 RX6 yX6_mode wsX6_mode) := goodIn_app (goodIn_of _ (by decide +kernel)) ggX6_out_X6_mode
theorem dX6_out_0 : decode cX6_out 0 = .ok (.aload_n 0, 1) := by decide +kernel
theorem dX6_out_1 : decode cX6_out 1 = .ok (.iload_n 1, 1) := by decide +kernel
theorem dX6_out_2 : decode cX6_out 2 = .ok (.ifCond .lt 8, 3) := by decide +kernel
theorem dX6_out_5 : decode cX6_out 5 = .ok (.iload_n 1, 1) := by decide +kernel
theorem dX6_out_6 : decode cX6_out 6 = .ok (.iconst 4, 1) := by decide +kernel
theorem dX6_out_7 : decode cX6_out 7 = .ok (.if_icmp .le 7, 3) := by decide +kernel
theorem dX6_out_10 : decode cX6_out 10 = .ok (.iconst 1, 1) := by decide +kernel
theorem dX6_out_11 : decode cX6_out 11 = .ok (.goto 4, 3) := by decide +kernel
theorem dX6_out_14 : decode cX6_out 14 = .ok (.iconst 0, 1) := by decide +kernel
theorem dX6_out_15 : decode cX6_out 15 = .ok (.putfield 16, 3) := by decide +kernel
theorem dX6_out_18 : decode cX6_out 18 = .ok (.aload_n 0, 1) := by decide +kernel
theorem dX6_out_19 : decode cX6_out 19 = .ok (.getfield 16, 3) := by decide +kernel
theorem dX6_out_22 : decode cX6_out 22 = .ok (.ifCond .le 5, 3) := by decide +kernel
theorem dX6_out_25 : decode cX6_out 25 = .ok (.iconst 0, 1) := by decide +kernel
theorem dX6_out_26 : decode cX6_out 26 = .ok (.ireturn, 1) := by decide +kernel
theorem dX6_out_27 : decode cX6_out 27 = .ok (.iload_n 1, 1) := by decide +kernel
theorem dX6_out_28 : decode cX6_out 28 = .ok (.tableswitch 164 0 3 #[32, 42, 92, 120], 32) := by decide +kernel
theorem dX6_out_60 : decode cX6_out 60 = .ok (.aload_n 0, 1) := by decide +kernel
theorem dX6_out_61 : decode cX6_out 61 = .ok (.getfield 20, 3) := by decide +kernel
theorem dX6_out_64 : decode cX6_out 64 = .ok (.aload_n 0, 1) := by decide +kernel
theorem dX6_out_65 : decode cX6_out 65 = .ok (.getfield 26, 3) := by decide +kernel
theorem dX6_out_68 : decode cX6_out 68 = .ok (.iand, 1) := by decide +kernel
theorem dX6_out_69 : decode cX6_out 69 = .ok (.ireturn, 1) := by decide +kernel
theorem dX6_out_70 : decode cX6_out 70 = .ok (.aload_n 0, 1) := by decide +kernel
theorem dX6_out_71 : decode cX6_out 71 = .ok (.getfield 23, 3) := by decide +kernel
theorem dX6_out_74 : decode cX6_out 74 = .ok (.aload_n 0, 1) := by decide +kernel
theorem dX6_out_75 : decode cX6_out 75 = .ok (.getfield 29, 3) := by decide +kernel
theorem dX6_out_78 : decode cX6_out 78 = .ok (.iand, 1) := by decide +kernel
theorem dX6_out_79 : decode cX6_out 79 = .ok (.istore_n 2, 1) := by decide +kernel
theorem dX6_out_80 : decode cX6_out 80 = .ok (.aload_n 0, 1) := by decide +kernel
theorem dX6_out_81 : decode cX6_out 81 = .ok (.getfield 32, 3) := by decide +kernel
theorem dX6_out_84 : decode cX6_out 84 = .ok (.sipush 128, 3) := by decide +kernel
theorem dX6_out_87 : decode cX6_out 87 = .ok (.iand, 1) := by decide +kernel
theorem dX6_out_88 : decode cX6_out 88 = .ok (.ifCond .ne 7, 3) := by decide +kernel
theorem dX6_out_91 : decode cX6_out 91 = .ok (.iload_n 2, 1) := by decide +kernel
theorem dX6_out_92 : decode cX6_out 92 = .ok (.goto 27, 3) := by decide +kernel
theorem dX6_out_95 : decode cX6_out 95 = .ok (.iload_n 2, 1) := by decide +kernel
theorem dX6_out_96 : decode cX6_out 96 = .ok (.bipush 127, 2) := by decide +kernel
theorem dX6_out_98 : decode cX6_out 98 = .ok (.iand, 1) := by decide +kernel
theorem dX6_out_99 : decode cX6_out 99 = .ok (.aload_n 0, 1) := by decide +kernel
theorem dX6_out_100 : decode cX6_out 100 = .ok (.getfield 75, 3) := by decide +kernel
theorem dX6_out_103 : decode cX6_out 103 = .ok (.ifCond .eq 14, 3) := by decide +kernel
theorem dX6_out_106 : decode cX6_out 106 = .ok (.aload_n 0, 1) := by decide +kernel
theorem dX6_out_107 : decode cX6_out 107 = .ok (.getfield 29, 3) := by decide +kernel
theorem dX6_out_110 : decode cX6_out 110 = .ok (.sipush 128, 3) := by decide +kernel
theorem dX6_out_113 : decode cX6_out 113 = .ok (.iand, 1) := by decide +kernel
theorem dX6_out_114 : decode cX6_out 114 = .ok (.goto 4, 3) := by decide +kernel
theorem dX6_out_117 : decode cX6_out 117 = .ok (.iconst 0, 1) := by decide +kernel
theorem dX6_out_118 : decode cX6_out 118 = .ok (.ior, 1) := by decide +kernel
theorem dX6_out_119 : decode cX6_out 119 = .ok (.ireturn, 1) := by decide +kernel
theorem dX6_out_120 : decode cX6_out 120 = .ok (.aload_n 0, 1) := by decide +kernel
theorem dX6_out_121 : decode cX6_out 121 = .ok (.invokevirtual 106, 3) := by decide +kernel
theorem dX6_out_124 : decode cX6_out 124 = .ok (.iconst 4, 1) := by decide +kernel
theorem dX6_out_125 : decode cX6_out 125 = .ok (.if_icmp .ge 7, 3) := by decide +kernel
theorem dX6_out_128 : decode cX6_out 128 = .ok (.iconst 2, 1) := by decide +kernel
theorem dX6_out_129 : decode cX6_out 129 = .ok (.goto 18, 3) := by decide +kernel
theorem dX6_out_132 : decode cX6_out 132 = .ok (.aload_n 0, 1) := by decide +kernel
theorem dX6_out_133 : decode cX6_out 133 = .ok (.invokevirtual 106, 3) := by decide +kernel
theorem dX6_out_136 : decode cX6_out 136 = .ok (.aload_n 0, 1) := by decide +kernel
theorem dX6_out_137 : decode cX6_out 137 = .ok (.getfield 50, 3) := by decide +kernel
theorem dX6_out_140 : decode cX6_out 140 = .ok (.aload_n 0, 1) := by decide +kernel
theorem dX6_out_141 : decode cX6_out 141 = .ok (.getfield 54, 3) := by decide +kernel
theorem dX6_out_144 : decode cX6_out 144 = .ok (.invokestatic 163, 3) := by decide +kernel
theorem dX6_out_147 : decode cX6_out 147 = .ok (.ireturn, 1) := by decide +kernel
theorem dX6_out_148 : decode cX6_out 148 = .ok (.aload_n 0, 1) := by decide +kernel
theorem dX6_out_149 : decode cX6_out 149 = .ok (.invokevirtual 110, 3) := by decide +kernel
theorem dX6_out_152 : decode cX6_out 152 = .ok (.iconst 3, 1) := by decide +kernel
theorem dX6_out_153 : decode cX6_out 153 = .ok (.if_icmp .le 21, 3) := by decide +kernel
theorem dX6_out_156 : decode cX6_out 156 = .ok (.aload_n 0, 1) := by decide +kernel
theorem dX6_out_157 : decode cX6_out 157 = .ok (.invokevirtual 110, 3) := by decide +kernel
theorem dX6_out_160 : decode cX6_out 160 = .ok (.aload_n 0, 1) := by decide +kernel
theorem dX6_out_161 : decode cX6_out 161 = .ok (.getfield 57, 3) := by decide +kernel
theorem dX6_out_164 : decode cX6_out 164 = .ok (.aload_n 0, 1) := by decide +kernel
theorem dX6_out_165 : decode cX6_out 165 = .ok (.getfield 60, 3) := by decide +kernel
theorem dX6_out_168 : decode cX6_out 168 = .ok (.invokestatic 163, 3) := by decide +kernel
theorem dX6_out_171 : decode cX6_out 171 = .ok (.goto 20, 3) := by decide +kernel
theorem dX6_out_174 : decode cX6_out 174 = .ok (.aload_n 0, 1) := by decide +kernel
theorem dX6_out_175 : decode cX6_out 175 = .ok (.invokevirtual 153, 3) := by decide +kernel
theorem dX6_out_178 : decode cX6_out 178 = .ok (.bipush 6, 2) := by decide +kernel
theorem dX6_out_180 : decode cX6_out 180 = .ok (.if_icmp .ne 10, 3) := by decide +kernel
theorem dX6_out_183 : decode cX6_out 183 = .ok (.aload_n 0, 1) := by decide +kernel
theorem dX6_out_184 : decode cX6_out 184 = .ok (.getfield 96, 3) := by decide +kernel
theorem dX6_out_187 : decode cX6_out 187 = .ok (.goto 4, 3) := by decide +kernel
theorem dX6_out_190 : decode cX6_out 190 = .ok (.iconst 2, 1) := by decide +kernel
theorem dX6_out_191 : decode cX6_out 191 = .ok (.ireturn, 1) := by decide +kernel
theorem dX6_out_192 : decode cX6_out 192 = .ok (.aload_n 0, 1) := by decide +kernel
theorem dX6_out_193 : decode cX6_out 193 = .ok (.getfield 38, 3) := by decide +kernel
theorem dX6_out_196 : decode cX6_out 196 = .ok (.aload_n 0, 1) := by decide +kernel
theorem dX6_out_197 : decode cX6_out 197 = .ok (.getfield 41, 3) := by decide +kernel
theorem dX6_out_200 : decode cX6_out 200 = .ok (.iand, 1) := by decide +kernel
theorem dX6_out_201 : decode cX6_out 201 = .ok (.ifCond .eq 7, 3) := by decide +kernel
theorem dX6_out_204 : decode cX6_out 204 = .ok (.iconst 1, 1) := by decide +kernel
theorem dX6_out_205 : decode cX6_out 205 = .ok (.goto 4, 3) := by decide +kernel
theorem dX6_out_208 : decode cX6_out 208 = .ok (.iconst 0, 1) := by decide +kernel
theorem dX6_out_209 : decode cX6_out 209 = .ok (.ireturn, 1) := by decide +kernel
theorem dX6_told_0 : decode cX6_told 0 = .ok (.aload_n 0, 1) := by decide +kernel
theorem dX6_told_1 : decode cX6_told 1 = .ok (.iload_n 1, 1) := by decide +kernel
theorem dX6_told_2 : decode cX6_told 2 = .ok (.ifCond .lt 9, 3) := by decide +kernel
theorem dX6_told_5 : decode cX6_told 5 = .ok (.iload_n 1, 1) := by decide +kernel
theorem dX6_told_6 : decode cX6_told 6 = .ok (.bipush 6, 2) := by decide +kernel
theorem dX6_told_8 : decode cX6_told 8 = .ok (.if_icmp .le 7, 3) := by decide +kernel
theorem dX6_told_11 : decode cX6_told 11 = .ok (.iconst 1, 1) := by decide +kernel
theorem dX6_told_12 : decode cX6_told 12 = .ok (.goto 4, 3) := by decide +kernel
theorem dX6_told_15 : decode cX6_told 15 = .ok (.iconst 0, 1) := by decide +kernel
theorem dX6_told_16 : decode cX6_told 16 = .ok (.putfield 16, 3) := by decide +kernel
theorem dX6_told_19 : decode cX6_told 19 = .ok (.aload_n 0, 1) := by decide +kernel
theorem dX6_told_20 : decode cX6_told 20 = .ok (.getfield 16, 3) := by decide +kernel
theorem dX6_told_23 : decode cX6_told 23 = .ok (.ifCond .le 5, 3) := by decide +kernel
theorem dX6_told_26 : decode cX6_told 26 = .ok (.iconst 0, 1) := by decide +kernel
theorem dX6_told_27 : decode cX6_told 27 = .ok (.ireturn, 1) := by decide +kernel
theorem dX6_told_28 : decode cX6_told 28 = .ok (.iload_n 1, 1) := by decide +kernel
theorem dX6_told_29 : decode cX6_told 29 = .ok (.tableswitch 98 0 5 #[39, 44, 49, 54, 59, 72], 39) := by decide +kernel
theorem dX6_told_68 : decode cX6_told 68 = .ok (.aload_n 0, 1) := by decide +kernel
theorem dX6_told_69 : decode cX6_told 69 = .ok (.getfield 63, 3) := by decide +kernel
theorem dX6_told_72 : decode cX6_told 72 = .ok (.ireturn, 1) := by decide +kernel
theorem dX6_told_73 : decode cX6_told 73 = .ok (.aload_n 0, 1) := by decide +kernel
theorem dX6_told_74 : decode cX6_told 74 = .ok (.getfield 78, 3) := by decide +kernel
theorem dX6_told_77 : decode cX6_told 77 = .ok (.ireturn, 1) := by decide +kernel
theorem dX6_told_78 : decode cX6_told 78 = .ok (.aload_n 0, 1) := by decide +kernel
theorem dX6_told_79 : decode cX6_told 79 = .ok (.getfield 66, 3) := by decide +kernel
theorem dX6_told_82 : decode cX6_told 82 = .ok (.ireturn, 1) := by decide +kernel
theorem dX6_told_83 : decode cX6_told 83 = .ok (.aload_n 0, 1) := by decide +kernel
theorem dX6_told_84 : decode cX6_told 84 = .ok (.getfield 90, 3) := by decide +kernel
theorem dX6_told_87 : decode cX6_told 87 = .ok (.ireturn, 1) := by decide +kernel
theorem dX6_told_88 : decode cX6_told 88 = .ok (.aload_n 0, 1) := by decide +kernel
theorem dX6_told_89 : decode cX6_told 89 = .ok (.getfield 75, 3) := by decide +kernel
theorem dX6_told_92 : decode cX6_told 92 = .ok (.ifCond .eq 7, 3) := by decide +kernel
theorem dX6_told_95 : decode cX6_told 95 = .ok (.iconst 1, 1) := by decide +kernel
theorem dX6_told_96 : decode cX6_told 96 = .ok (.goto 4, 3) := by decide +kernel
theorem dX6_told_99 : decode cX6_told 99 = .ok (.iconst 0, 1) := by decide +kernel
theorem dX6_told_100 : decode cX6_told 100 = .ok (.ireturn, 1) := by decide +kernel
theorem dX6_told_101 : decode cX6_told 101 = .ok (.aload_n 0, 1) := by decide +kernel
theorem dX6_told_102 : decode cX6_told 102 = .ok (.getfield 69, 3) := by decide +kernel
theorem dX6_told_105 : decode cX6_told 105 = .ok (.ifCond .eq 7, 3) := by decide +kernel
theorem dX6_told_108 : decode cX6_told 108 = .ok (.iconst 1, 1) := by decide +kernel
theorem dX6_told_109 : decode cX6_told 109 = .ok (.goto 4, 3) := by decide +kernel
theorem dX6_told_112 : decode cX6_told 112 = .ok (.iconst 0, 1) := by decide +kernel
theorem dX6_told_113 : decode cX6_told 113 = .ok (.aload_n 0, 1) := by decide +kernel
theorem dX6_told_114 : decode cX6_told 114 = .ok (.getfield 84, 3) := by decide +kernel
theorem dX6_told_117 : decode cX6_told 117 = .ok (.ifCond .eq 7, 3) := by decide +kernel
theorem dX6_told_120 : decode cX6_told 120 = .ok (.iconst 2, 1) := by decide +kernel
theorem dX6_told_121 : decode cX6_told 121 = .ok (.goto 4, 3) := by decide +kernel
theorem dX6_told_124 : decode cX6_told 124 = .ok (.iconst 0, 1) := by decide +kernel
theorem dX6_told_125 : decode cX6_told 125 = .ok (.ior, 1) := by decide +kernel
theorem dX6_told_126 : decode cX6_told 126 = .ok (.ireturn, 1) := by decide +kernel
theorem dX6_told_127 : decode cX6_told 127 = .ok (.aload_n 0, 1) := by decide +kernel
theorem dX6_told_128 : decode cX6_told 128 = .ok (.getfield 99, 3) := by decide +kernel
theorem dX6_told_131 : decode cX6_told 131 = .ok (.ireturn, 1) := by decide +kernel
