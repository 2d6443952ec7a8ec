theorem dX0_init_0 : decode cX0_init 0 = .ok (.aload_n 0, 1) := by decide +kernel
theorem dX0_init_1 : decode cX0_init 1 = .ok (.invokespecial 3, 3) := by decide +kernel
theorem dX0_init_4 : decode cX0_init 4 = .ok (.return_, 1) := by decide +kernel
theorem dX0_clear_0 : decode cX0_clear 0 = .ok (.aload_n 0, 1) := by decide +kernel
theorem dX0_clear_1 : decode cX0_clear 1 = .ok (.iconst 0, 1) := by decide +kernel
theorem dX0_clear_2 : decode cX0_clear 2 = .ok (.putfield 9, 3) := by decide +kernel
theorem dX0_clear_5 : decode cX0_clear 5 = .ok (.aload_n 0, 1) := by decide +kernel
theorem dX0_clear_6 : decode cX0_clear 6 = .ok (.iconst 0, 1) := by decide +kernel
theorem dX0_clear_7 : decode cX0_clear 7 = .ok (.putfield 15, 3) := by decide +kernel
theorem dX0_clear_10 : decode cX0_clear 10 = .ok (.return_, 1) := by decide +kernel
theorem dX0_raise_0 : decode cX0_raise 0 = .ok (.aload_n 0, 1) := by decide +kernel
theorem dX0_raise_1 : decode cX0_raise 1 = .ok (.dup, 1) := by decide +kernel
theorem dX0_raise_2 : decode cX0_raise 2 = .ok (.getfield 9, 3) := by decide +kernel
theorem dX0_raise_5 : decode cX0_raise 5 = .ok (.iload_n 1, 1) := by decide +kernel
theorem dX0_raise_6 : decode cX0_raise 6 = .ok (.ior, 1) := by decide +kernel
theorem dX0_raise_7 : decode cX0_raise 7 = .ok (.putfield 9, 3) := by decide +kernel
theorem dX0_raise_10 : decode cX0_raise 10 = .ok (.return_, 1) := by decide +kernel
theorem dX0_lower_0 : decode cX0_lower 0 = .ok (.aload_n 0, 1) := by decide +kernel
theorem dX0_lower_1 : decode cX0_lower 1 = .ok (.dup, 1) := by decide +kernel
theorem dX0_lower_2 : decode cX0_lower 2 = .ok (.getfield 9, 3) := by decide +kernel
theorem dX0_lower_5 : decode cX0_lower 5 = .ok (.iload_n 1, 1) := by decide +kernel
theorem dX0_lower_6 : decode cX0_lower 6 = .ok (.iconst (-1), 1) := by decide +kernel
theorem dX0_lower_7 : decode cX0_lower 7 = .ok (.ixor, 1) := by decide +kernel
theorem dX0_lower_8 : decode cX0_lower 8 = .ok (.iand, 1) := by decide +kernel
theorem dX0_lower_9 : decode cX0_lower 9 = .ok (.putfield 9, 3) := by decide +kernel
theorem dX0_lower_12 : decode cX0_lower 12 = .ok (.return_, 1) := by decide +kernel
theorem dX0_has_0 : decode cX0_has 0 = .ok (.aload_n 0, 1) := by decide +kernel
theorem dX0_has_1 : decode cX0_has 1 = .ok (.getfield 9, 3) := by decide +kernel
theorem dX0_has_4 : decode cX0_has 4 = .ok (.iload_n 1, 1) := by decide +kernel
theorem dX0_has_5 : decode cX0_has 5 = .ok (.iand, 1) := by decide +kernel
theorem dX0_has_6 : decode cX0_has 6 = .ok (.ifCond .eq 7, 3) := by decide +kernel
theorem dX0_has_9 : decode cX0_has 9 = .ok (.iconst 1, 1) := by decide +kernel
theorem dX0_has_10 : decode cX0_has 10 = .ok (.goto 4, 3) := by decide +kernel
theorem dX0_has_13 : decode cX0_has 13 = .ok (.iconst 0, 1) := by decide +kernel
theorem dX0_has_14 : decode cX0_has 14 = .ok (.ireturn, 1) := by decide +kernel
theorem dX0_enable_0 : decode cX0_enable 0 = .ok (.iload_n 1, 1) := by decide +kernel
theorem dX0_enable_1 : decode cX0_enable 1 = .ok (.sipush 128, 3) := by decide +kernel
theorem dX0_enable_4 : decode cX0_enable 4 = .ok (.iand, 1) := by decide +kernel
theorem dX0_enable_5 : decode cX0_enable 5 = .ok (.ifCond .eq 19, 3) := by decide +kernel
theorem dX0_enable_8 : decode cX0_enable 8 = .ok (.aload_n 0, 1) := by decide +kernel
theorem dX0_enable_9 : decode cX0_enable 9 = .ok (.dup, 1) := by decide +kernel
theorem dX0_enable_10 : decode cX0_enable 10 = .ok (.getfield 15, 3) := by decide +kernel
theorem dX0_enable_13 : decode cX0_enable 13 = .ok (.iload_n 1, 1) := by decide +kernel
theorem dX0_enable_14 : decode cX0_enable 14 = .ok (.bipush 127, 2) := by decide +kernel
theorem dX0_enable_16 : decode cX0_enable 16 = .ok (.iand, 1) := by decide +kernel
theorem dX0_enable_17 : decode cX0_enable 17 = .ok (.ior, 1) := by decide +kernel
theorem dX0_enable_18 : decode cX0_enable 18 = .ok (.putfield 15, 3) := by decide +kernel
theorem dX0_enable_21 : decode cX0_enable 21 = .ok (.goto 15, 3) := by decide +kernel
theorem dX0_enable_24 : decode cX0_enable 24 = .ok (.aload_n 0, 1) := by decide +kernel
theorem dX0_enable_25 : decode cX0_enable 25 = .ok (.dup, 1) := by decide +kernel
theorem dX0_enable_26 : decode cX0_enable 26 = .ok (.getfield 15, 3) := by decide +kernel
theorem dX0_enable_29 : decode cX0_enable 29 = .ok (.iload_n 1, 1) := by decide +kernel
theorem dX0_enable_30 : decode cX0_enable 30 = .ok (.iconst (-1), 1) := by decide +kernel
theorem dX0_enable_31 : decode cX0_enable 31 = .ok (.ixor, 1) := by decide +kernel
theorem dX0_enable_32 : decode cX0_enable 32 = .ok (.iand, 1) := by decide +kernel
theorem dX0_enable_33 : decode cX0_enable 33 = .ok (.putfield 15, 3) := by decide +kernel
theorem dX0_enable_36 : decode cX0_enable 36 = .ok (.return_, 1) := by decide +kernel
theorem dX0_call_0 : decode cX0_call 0 = .ok (.aload_n 0, 1) := by decide +kernel
theorem dX0_call_1 : decode cX0_call 1 = .ok (.getfield 9, 3) := by decide +kernel
theorem dX0_call_4 : decode cX0_call 4 = .ok (.aload_n 0, 1) := by decide +kernel
theorem dX0_call_5 : decode cX0_call 5 = .ok (.getfield 15, 3) := by decide +kernel
theorem dX0_call_8 : decode cX0_call 8 = .ok (.iand, 1) := by decide +kernel
theorem dX0_call_9 : decode cX0_call 9 = .ok (.ifCond .eq 7, 3) := by decide +kernel
theorem dX0_call_12 : decode cX0_call 12 = .ok (.iconst 1, 1) := by decide +kernel
theorem dX0_call_13 : decode cX0_call 13 = .ok (.goto 4, 3) := by decide +kernel
theorem dX0_call_16 : decode cX0_call 16 = .ok (.iconst 0, 1) := by decide +kernel
theorem dX0_call_17 : decode cX0_call 17 = .ok (.ireturn, 1) := by decide +kernel
set_option maxRecDepth 20000 in
theorem ggX0_withCall_X0_call : GoodIn wsX0_withCall wsX0_call := goodIn_r _ [6, 1, 7, 8, 9] (by decide +kernel) (by decide +kernel)
set_option maxRecDepth 20000 in
theorem gX0_withCall_X0_call : GoodIn wsX0_withCall (wsV RX0 18 RX0 yX0_call wsX0_call) := goodIn_app (goodIn_of _ (by decide +kernel)) ggX0_withCall_X0_call
theorem dX0_withCall_0 : decode cX0_withCall 0 = .ok (.aload_n 0, 1) := by decide +kernel
theorem dX0_withCall_1 : decode cX0_withCall 1 = .ok (.invokevirtual 18, 3) := by decide +kernel
theorem dX0_withCall_4 : decode cX0_withCall 4 = .ok (.ifCond .eq 14, 3) := by decide +kernel
theorem dX0_withCall_7 : decode cX0_withCall 7 = .ok (.aload_n 0, 1) := by decide +kernel
theorem dX0_withCall_8 : decode cX0_withCall 8 = .ok (.getfield 9, 3) := by decide +kernel
theorem dX0_withCall_11 : decode cX0_withCall 11 = .ok (.sipush 128, 3) := by decide +kernel
theorem dX0_withCall_14 : decode cX0_withCall 14 = .ok (.ior, 1) := by decide +kernel
theorem dX0_withCall_15 : decode cX0_withCall 15 = .ok (.goto 7, 3) := by decide +kernel
theorem dX0_withCall_18 : decode cX0_withCall 18 = .ok (.aload_n 0, 1) := by decide +kernel
theorem dX0_withCall_19 : decode cX0_withCall 19 = .ok (.getfield 9, 3) := by decide +kernel
theorem dX0_withCall_22 : decode cX0_withCall 22 = .ok (.ireturn, 1) := by decide +kernel
theorem dX1_init_0 : decode cX1_init 0 = .ok (.aload_n 0, 1) := by decide +kernel
theorem dX1_init_1 : decode cX1_init 1 = .ok (.invokespecial 3, 3) := by decide +kernel
theorem dX1_init_4 : decode cX1_init 4 = .ok (.aload_n 0, 1) := by decide +kernel
theorem dX1_init_5 : decode cX1_init 5 = .ok (.iconst 1, 1) := by decide +kernel
theorem dX1_init_6 : decode cX1_init 6 = .ok (.putfield 9, 3) := by decide +kernel
theorem dX1_init_9 : decode cX1_init 9 = .ok (.aload_n 0, 1) := by decide +kernel
theorem dX1_init_10 : decode cX1_init 10 = .ok (.aload_n 1, 1) := by decide +kernel
theorem dX1_init_11 : decode cX1_init 11 = .ok (.putfield 15, 3) := by decide +kernel
theorem dX1_init_14 : decode cX1_init 14 = .ok (.return_, 1) := by decide +kernel
theorem dX1_clear_0 : decode cX1_clear 0 = .ok (.aload_n 0, 1) := by decide +kernel
theorem dX1_clear_1 : decode cX1_clear 1 = .ok (.iconst 0, 1) := by decide +kernel
theorem dX1_clear_2 : decode cX1_clear 2 = .ok (.putfield 19, 3) := by decide +kernel
theorem dX1_clear_5 : decode cX1_clear 5 = .ok (.aload_n 0, 1) := by decide +kernel
theorem dX1_clear_6 : decode cX1_clear 6 = .ok (.iconst 0, 1) := by decide +kernel
theorem dX1_clear_7 : decode cX1_clear 7 = .ok (.putfield 22, 3) := by decide +kernel
theorem dX1_clear_10 : decode cX1_clear 10 = .ok (.aload_n 0, 1) := by decide +kernel
theorem dX1_clear_11 : decode cX1_clear 11 = .ok (.iconst 1, 1) := by decide +kernel
theorem dX1_clear_12 : decode cX1_clear 12 = .ok (.putfield 9, 3) := by decide +kernel
theorem dX1_clear_15 : decode cX1_clear 15 = .ok (.aload_n 0, 1) := by decide +kernel
theorem dX1_clear_16 : decode cX1_clear 16 = .ok (.iconst 0, 1) := by decide +kernel
theorem dX1_clear_17 : decode cX1_clear 17 = .ok (.putfield 25, 3) := by decide +kernel
theorem dX1_clear_20 : decode cX1_clear 20 = .ok (.return_, 1) := by decide +kernel
set_option maxRecDepth 20000 in
theorem ggX1_begin_X0_lower : GoodIn wsX1_begin wsX0_lower := goodIn_r _ [8, 9, 15, 16] (by decide +kernel) (by decide +kernel)
set_option maxRecDepth 20000 in
theorem gX1_begin_X0_lower : GoodIn wsX1_begin (wsV RX1 29 RX0 yX0_lower wsX0_lower) := goodIn_app (goodIn_of _ (by decide +kernel)) ggX1_begin_X0_lower
theorem dX1_begin_0 : decode cX1_begin 0 = .ok (.aload_n 0, 1) := by decide +kernel
theorem dX1_begin_1 : decode cX1_begin 1 = .ok (.getfield 15, 3) := by decide +kernel
theorem dX1_begin_4 : decode cX1_begin 4 = .ok (.iconst 4, 1) := by decide +kernel
theorem dX1_begin_5 : decode cX1_begin 5 = .ok (.invokevirtual 29, 3) := by decide +kernel
theorem dX1_begin_8 : decode cX1_begin 8 = .ok (.aload_n 0, 1) := by decide +kernel
theorem dX1_begin_9 : decode cX1_begin 9 = .ok (.bipush 8, 2) := by decide +kernel
theorem dX1_begin_11 : decode cX1_begin 11 = .ok (.putfield 22, 3) := by decide +kernel
theorem dX1_begin_14 : decode cX1_begin 14 = .ok (.aload_n 0, 1) := by decide +kernel
theorem dX1_begin_15 : decode cX1_begin 15 = .ok (.iconst 0, 1) := by decide +kernel
theorem dX1_begin_16 : decode cX1_begin 16 = .ok (.putfield 25, 3) := by decide +kernel
theorem dX1_begin_19 : decode cX1_begin 19 = .ok (.return_, 1) := by decide +kernel
set_option maxRecDepth 20000 in
theorem ggX1_goOn_X1_shift : GoodIn wsX1_goOn wsX1_shift := goodIn_r _ [7, 8, 9, 1, 10, 11, 12, 13, 14, 15, 16, 17, 18, 19, 20, 21, 22, 23] (by decide +kernel) (by decide +kernel)
set_option maxRecDepth 20000 in
theorem gX1_goOn_X1_shift : GoodIn wsX1_goOn (wsV RX1 35 RX1 yX1_shift wsX1_shift) := goodIn_app (goodIn_of _ (by decide +kernel)) ggX1_goOn_X1_shift
theorem dX1_goOn_0 : decode cX1_goOn 0 = .ok (.iload_n 2, 1) := by decide +kernel
theorem dX1_goOn_1 : decode cX1_goOn 1 = .ok (.iconst 2, 1) := by decide +kernel
theorem dX1_goOn_2 : decode cX1_goOn 2 = .ok (.if_icmp .eq 10, 3) := by decide +kernel
theorem dX1_goOn_5 : decode cX1_goOn 5 = .ok (.iload_n 2, 1) := by decide +kernel
theorem dX1_goOn_6 : decode cX1_goOn 6 = .ok (.bipush 6, 2) := by decide +kernel
theorem dX1_goOn_8 : decode cX1_goOn 8 = .ok (.if_icmp .eq 4, 3) := by decide +kernel
theorem dX1_goOn_11 : decode cX1_goOn 11 = .ok (.return_, 1) := by decide +kernel
theorem dX1_goOn_12 : decode cX1_goOn 12 = .ok (.iconst 0, 1) := by decide +kernel
theorem dX1_goOn_13 : decode cX1_goOn 13 = .ok (.istore 4, 2) := by decide +kernel
theorem dX1_goOn_15 : decode cX1_goOn 15 = .ok (.iload 4, 2) := by decide +kernel
theorem dX1_goOn_17 : decode cX1_goOn 17 = .ok (.iload_n 1, 1) := by decide +kernel
theorem dX1_goOn_18 : decode cX1_goOn 18 = .ok (.if_icmp .ge 45, 3) := by decide +kernel
theorem dX1_goOn_21 : decode cX1_goOn 21 = .ok (.aload_n 0, 1) := by decide +kernel
theorem dX1_goOn_22 : decode cX1_goOn 22 = .ok (.getfield 22, 3) := by decide +kernel
theorem dX1_goOn_25 : decode cX1_goOn 25 = .ok (.ifCond .le 38, 3) := by decide +kernel
theorem dX1_goOn_28 : decode cX1_goOn 28 = .ok (.aload_n 0, 1) := by decide +kernel
theorem dX1_goOn_29 : decode cX1_goOn 29 = .ok (.getfield 25, 3) := by decide +kernel
theorem dX1_goOn_32 : decode cX1_goOn 32 = .ok (.ifCond .eq 9, 3) := by decide +kernel
theorem dX1_goOn_35 : decode cX1_goOn 35 = .ok (.aload_n 0, 1) := by decide +kernel
theorem dX1_goOn_36 : decode cX1_goOn 36 = .ok (.iload_n 2, 1) := by decide +kernel
theorem dX1_goOn_37 : decode cX1_goOn 37 = .ok (.iload_n 3, 1) := by decide +kernel
theorem dX1_goOn_38 : decode cX1_goOn 38 = .ok (.invokevirtual 35, 3) := by decide +kernel
theorem dX1_goOn_41 : decode cX1_goOn 41 = .ok (.aload_n 0, 1) := by decide +kernel
theorem dX1_goOn_42 : decode cX1_goOn 42 = .ok (.aload_n 0, 1) := by decide +kernel
theorem dX1_goOn_43 : decode cX1_goOn 43 = .ok (.getfield 25, 3) := by decide +kernel
theorem dX1_goOn_46 : decode cX1_goOn 46 = .ok (.ifCond .ne 7, 3) := by decide +kernel
theorem dX1_goOn_49 : decode cX1_goOn 49 = .ok (.iconst 1, 1) := by decide +kernel
theorem dX1_goOn_50 : decode cX1_goOn 50 = .ok (.goto 4, 3) := by decide +kernel
theorem dX1_goOn_53 : decode cX1_goOn 53 = .ok (.iconst 0, 1) := by decide +kernel
theorem dX1_goOn_54 : decode cX1_goOn 54 = .ok (.putfield 25, 3) := by decide +kernel
theorem dX1_goOn_57 : decode cX1_goOn 57 = .ok (.iinc 4 1, 3) := by decide +kernel
theorem dX1_goOn_60 : decode cX1_goOn 60 = .ok (.goto (-45), 3) := by decide +kernel
theorem dX1_goOn_63 : decode cX1_goOn 63 = .ok (.return_, 1) := by decide +kernel
set_option maxRecDepth 20000 in
theorem ggX1_shift_X0_raise : GoodIn wsX1_shift wsX0_raise := goodIn_r _ [9, 10, 16, 17] (by decide +kernel) (by decide +kernel)
set_option maxRecDepth 20000 in
theorem gX1_shift_X0_raise : GoodIn wsX1_shift (wsV RX1 39 RX0 yX0_raise wsX0_raise) := goodIn_app (goodIn_of _ (by decide +kernel)) ggX1_shift_X0_raise
theorem dX1_shift_0 : decode cX1_shift 0 = .ok (.aload_n 0, 1) := by decide +kernel
theorem dX1_shift_1 : decode cX1_shift 1 = .ok (.getfield 19, 3) := by decide +kernel
theorem dX1_shift_4 : decode cX1_shift 4 = .ok (.bipush 7, 2) := by decide +kernel
theorem dX1_shift_6 : decode cX1_shift 6 = .ok (.ishr, 1) := by decide +kernel
theorem dX1_shift_7 : decode cX1_shift 7 = .ok (.istore_n 3, 1) := by decide +kernel
theorem dX1_shift_8 : decode cX1_shift 8 = .ok (.iload_n 2, 1) := by decide +kernel
theorem dX1_shift_9 : decode cX1_shift 9 = .ok (.ifCond .eq 7, 3) := by decide +kernel
theorem dX1_shift_12 : decode cX1_shift 12 = .ok (.iconst 1, 1) := by decide +kernel
theorem dX1_shift_13 : decode cX1_shift 13 = .ok (.goto 4, 3) := by decide +kernel
theorem dX1_shift_16 : decode cX1_shift 16 = .ok (.iconst 0, 1) := by decide +kernel
theorem dX1_shift_17 : decode cX1_shift 17 = .ok (.istore 4, 2) := by decide +kernel
theorem dX1_shift_19 : decode cX1_shift 19 = .ok (.iload_n 1, 1) := by decide +kernel
theorem dX1_shift_20 : decode cX1_shift 20 = .ok (.bipush 6, 2) := by decide +kernel
theorem dX1_shift_22 : decode cX1_shift 22 = .ok (.if_icmp .ne 11, 3) := by decide +kernel
theorem dX1_shift_25 : decode cX1_shift 25 = .ok (.aload_n 0, 1) := by decide +kernel
theorem dX1_shift_26 : decode cX1_shift 26 = .ok (.iload_n 3, 1) := by decide +kernel
theorem dX1_shift_27 : decode cX1_shift 27 = .ok (.putfield 9, 3) := by decide +kernel
theorem dX1_shift_30 : decode cX1_shift 30 = .ok (.iload_n 3, 1) := by decide +kernel
theorem dX1_shift_31 : decode cX1_shift 31 = .ok (.istore 4, 2) := by decide +kernel
theorem dX1_shift_33 : decode cX1_shift 33 = .ok (.aload_n 0, 1) := by decide +kernel
theorem dX1_shift_34 : decode cX1_shift 34 = .ok (.aload_n 0, 1) := by decide +kernel
theorem dX1_shift_35 : decode cX1_shift 35 = .ok (.getfield 19, 3) := by decide +kernel
theorem dX1_shift_38 : decode cX1_shift 38 = .ok (.iconst 1, 1) := by decide +kernel
theorem dX1_shift_39 : decode cX1_shift 39 = .ok (.ishl, 1) := by decide +kernel
theorem dX1_shift_40 : decode cX1_shift 40 = .ok (.sipush 255, 3) := by decide +kernel
theorem dX1_shift_43 : decode cX1_shift 43 = .ok (.iand, 1) := by decide +kernel
theorem dX1_shift_44 : decode cX1_shift 44 = .ok (.iload 4, 2) := by decide +kernel
theorem dX1_shift_46 : decode cX1_shift 46 = .ok (.ior, 1) := by decide +kernel
theorem dX1_shift_47 : decode cX1_shift 47 = .ok (.putfield 19, 3) := by decide +kernel
theorem dX1_shift_50 : decode cX1_shift 50 = .ok (.aload_n 0, 1) := by decide +kernel
theorem dX1_shift_51 : decode cX1_shift 51 = .ok (.dup, 1) := by decide +kernel
theorem dX1_shift_52 : decode cX1_shift 52 = .ok (.getfield 22, 3) := by decide +kernel
theorem dX1_shift_55 : decode cX1_shift 55 = .ok (.iconst 1, 1) := by decide +kernel
theorem dX1_shift_56 : decode cX1_shift 56 = .ok (.isub, 1) := by decide +kernel
theorem dX1_shift_57 : decode cX1_shift 57 = .ok (.putfield 22, 3) := by decide +kernel
theorem dX1_shift_60 : decode cX1_shift 60 = .ok (.aload_n 0, 1) := by decide +kernel
theorem dX1_shift_61 : decode cX1_shift 61 = .ok (.getfield 22, 3) := by decide +kernel
theorem dX1_shift_64 : decode cX1_shift 64 = .ok (.ifCond .ne 11, 3) := by decide +kernel
theorem dX1_shift_67 : decode cX1_shift 67 = .ok (.aload_n 0, 1) := by decide +kernel
theorem dX1_shift_68 : decode cX1_shift 68 = .ok (.getfield 15, 3) := by decide +kernel
theorem dX1_shift_71 : decode cX1_shift 71 = .ok (.iconst 4, 1) := by decide +kernel
theorem dX1_shift_72 : decode cX1_shift 72 = .ok (.invokevirtual 39, 3) := by decide +kernel
theorem dX1_shift_75 : decode cX1_shift 75 = .ok (.return_, 1) := by decide +kernel
theorem dX2_init_0 : decode cX2_init 0 = .ok (.aload_n 0, 1) := by decide +kernel
theorem dX2_init_1 : decode cX2_init 1 = .ok (.invokespecial 3, 3) := by decide +kernel
theorem dX2_init_4 : decode cX2_init 4 = .ok (.aload_n 0, 1) := by decide +kernel
theorem dX2_init_5 : decode cX2_init 5 = .ok (.aload_n 1, 1) := by decide +kernel
theorem dX2_init_6 : decode cX2_init 6 = .ok (.putfield 9, 3) := by decide +kernel
theorem dX2_init_9 : decode cX2_init 9 = .ok (.aload_n 0, 1) := by decide +kernel
theorem dX2_init_10 : decode cX2_init 10 = .ok (.iload_n 2, 1) := by decide +kernel
theorem dX2_init_11 : decode cX2_init 11 = .ok (.putfield 15, 3) := by decide +kernel
theorem dX2_init_14 : decode cX2_init 14 = .ok (.aload_n 0, 1) := by decide +kernel
theorem dX2_init_15 : decode cX2_init 15 = .ok (.iload_n 3, 1) := by decide +kernel
theorem dX2_init_16 : decode cX2_init 16 = .ok (.putfield 19, 3) := by decide +kernel
theorem dX2_init_19 : decode cX2_init 19 = .ok (.return_, 1) := by decide +kernel
theorem dX2_clear_0 : decode cX2_clear 0 = .ok (.aload_n 0, 1) := by decide +kernel
theorem dX2_clear_1 : decode cX2_clear 1 = .ok (.iconst 0, 1) := by decide +kernel
theorem dX2_clear_2 : decode cX2_clear 2 = .ok (.putfield 22, 3) := by decide +kernel
theorem dX2_clear_5 : decode cX2_clear 5 = .ok (.aload_n 0, 1) := by decide +kernel
theorem dX2_clear_6 : decode cX2_clear 6 = .ok (.iconst 0, 1) := by decide +kernel
theorem dX2_clear_7 : decode cX2_clear 7 = .ok (.putfield 25, 3) := by decide +kernel
theorem dX2_clear_10 : decode cX2_clear 10 = .ok (.aload_n 0, 1) := by decide +kernel
theorem dX2_clear_11 : decode cX2_clear 11 = .ok (.iconst 0, 1) := by decide +kernel
theorem dX2_clear_12 : decode cX2_clear 12 = .ok (.putfield 28, 3) := by decide +kernel
theorem dX2_clear_15 : decode cX2_clear 15 = .ok (.aload_n 0, 1) := by decide +kernel
theorem dX2_clear_16 : decode cX2_clear 16 = .ok (.iconst 0, 1) := by decide +kernel
theorem dX2_clear_17 : decode cX2_clear 17 = .ok (.putfield 31, 3) := by decide +kernel
theorem dX2_clear_20 : decode cX2_clear 20 = .ok (.aload_n 0, 1) := by decide +kernel
theorem dX2_clear_21 : decode cX2_clear 21 = .ok (.iconst 0, 1) := by decide +kernel
theorem dX2_clear_22 : decode cX2_clear 22 = .ok (.putfield 34, 3) := by decide +kernel
theorem dX2_clear_25 : decode cX2_clear 25 = .ok (.aload_n 0, 1) := by decide +kernel
theorem dX2_clear_26 : decode cX2_clear 26 = .ok (.iconst 0, 1) := by decide +kernel
theorem dX2_clear_27 : decode cX2_clear 27 = .ok (.putfield 38, 3) := by decide +kernel
theorem dX2_clear_30 : decode cX2_clear 30 = .ok (.return_, 1) := by decide +kernel
theorem dX2_wayOfLine2_0 : decode cX2_wayOfLine2 0 = .ok (.aload_n 0, 1) := by decide +kernel
theorem dX2_wayOfLine2_1 : decode cX2_wayOfLine2 1 = .ok (.getfield 28, 3) := by decide +kernel
theorem dX2_wayOfLine2_4 : decode cX2_wayOfLine2 4 = .ok (.iconst 1, 1) := by decide +kernel
theorem dX2_wayOfLine2_5 : decode cX2_wayOfLine2 5 = .ok (.ishr, 1) := by decide +kernel
theorem dX2_wayOfLine2_6 : decode cX2_wayOfLine2 6 = .ok (.ireturn, 1) := by decide +kernel
set_option maxRecDepth 20000 in
theorem ggX2_port_X0_has : GoodIn wsX2_port wsX0_has := goodIn_r _ [11, 12, 25, 26] (by decide +kernel) (by decide +kernel)
set_option maxRecDepth 20000 in
theorem gX2_port_X0_has : GoodIn wsX2_port (wsV RX2 41 RX0 yX0_has wsX0_has) := goodIn_app (goodIn_of _ (by decide +kernel)) ggX2_port_X0_has
theorem dX2_port_0 : decode cX2_port 0 = .ok (.iload_n 1, 1) := by decide +kernel
theorem dX2_port_1 : decode cX2_port 1 = .ok (.ifCond .eq 24, 3) := by decide +kernel
theorem dX2_port_4 : decode cX2_port 4 = .ok (.aload_n 0, 1) := by decide +kernel
theorem dX2_port_5 : decode cX2_port 5 = .ok (.getfield 9, 3) := by decide +kernel
theorem dX2_port_8 : decode cX2_port 8 = .ok (.aload_n 0, 1) := by decide +kernel
theorem dX2_port_9 : decode cX2_port 9 = .ok (.getfield 15, 3) := by decide +kernel
theorem dX2_port_12 : decode cX2_port 12 = .ok (.invokevirtual 41, 3) := by decide +kernel
theorem dX2_port_15 : decode cX2_port 15 = .ok (.ifCond .eq 10, 3) := by decide +kernel
theorem dX2_port_18 : decode cX2_port 18 = .ok (.aload_n 0, 1) := by decide +kernel
theorem dX2_port_19 : decode cX2_port 19 = .ok (.getfield 31, 3) := by decide +kernel
theorem dX2_port_22 : decode cX2_port 22 = .ok (.goto 7, 3) := by decide +kernel
theorem dX2_port_25 : decode cX2_port 25 = .ok (.aload_n 0, 1) := by decide +kernel
theorem dX2_port_26 : decode cX2_port 26 = .ok (.getfield 47, 3) := by decide +kernel
theorem dX2_port_29 : decode cX2_port 29 = .ok (.istore_n 2, 1) := by decide +kernel
theorem dX2_port_30 : decode cX2_port 30 = .ok (.aload_n 0, 1) := by decide +kernel
theorem dX2_port_31 : decode cX2_port 31 = .ok (.getfield 22, 3) := by decide +kernel
theorem dX2_port_34 : decode cX2_port 34 = .ok (.aload_n 0, 1) := by decide +kernel
theorem dX2_port_35 : decode cX2_port 35 = .ok (.getfield 25, 3) := by decide +kernel
theorem dX2_port_38 : decode cX2_port 38 = .ok (.iand, 1) := by decide +kernel
theorem dX2_port_39 : decode cX2_port 39 = .ok (.iload_n 2, 1) := by decide +kernel
theorem dX2_port_40 : decode cX2_port 40 = .ok (.aload_n 0, 1) := by decide +kernel
theorem dX2_port_41 : decode cX2_port 41 = .ok (.getfield 25, 3) := by decide +kernel
theorem dX2_port_44 : decode cX2_port 44 = .ok (.iconst (-1), 1) := by decide +kernel
theorem dX2_port_45 : decode cX2_port 45 = .ok (.ixor, 1) := by decide +kernel
theorem dX2_port_46 : decode cX2_port 46 = .ok (.iand, 1) := by decide +kernel
theorem dX2_port_47 : decode cX2_port 47 = .ok (.ior, 1) := by decide +kernel
theorem dX2_port_48 : decode cX2_port 48 = .ok (.ireturn, 1) := by decide +kernel
set_option maxRecDepth 20000 in
theorem ggX2_touch_X0_lower : GoodIn wsX2_touch wsX0_lower := goodIn_r _ [8, 9, 28, 29] (by decide +kernel) (by decide +kernel)
set_option maxRecDepth 20000 in
theorem gX2_touch_X0_lower : GoodIn wsX2_touch (wsV RX2 50 RX0 yX0_lower wsX0_lower) := goodIn_app (goodIn_of _ (by decide +kernel)) ggX2_touch_X0_lower
set_option maxRecDepth 20000 in
theorem ggX2_touch_X2_wayOfLine2 : GoodIn wsX2_touch wsX2_wayOfLine2 := goodIn_r _ [14, 15, 16, 17, 18, 19, 20, 21, 22, 23, 24, 25, 26, 27] (by decide +kernel) (by decide +kernel)
set_option maxRecDepth 20000 in
theorem gX2_touch_X2_wayOfLine2 : GoodIn wsX2_touch (wsV RX2 54 RX2 yX2_wayOfLine2 wsX2_wayOfLine2) := goodIn_app (goodIn_of _ (by decide +kernel)) ggX2_touch_X2_wayOfLine2
theorem dX2_touch_0 : decode cX2_touch 0 = .ok (.aload_n 0, 1) := by decide +kernel
theorem dX2_touch_1 : decode cX2_touch 1 = .ok (.getfield 9, 3) := by decide +kernel
theorem dX2_touch_4 : decode cX2_touch 4 = .ok (.aload_n 0, 1) := by decide +kernel
theorem dX2_touch_5 : decode cX2_touch 5 = .ok (.getfield 15, 3) := by decide +kernel
theorem dX2_touch_8 : decode cX2_touch 8 = .ok (.invokevirtual 50, 3) := by decide +kernel
theorem dX2_touch_11 : decode cX2_touch 11 = .ok (.aload_n 0, 1) := by decide +kernel
theorem dX2_touch_12 : decode cX2_touch 12 = .ok (.invokevirtual 54, 3) := by decide +kernel
theorem dX2_touch_15 : decode cX2_touch 15 = .ok (.istore_n 1, 1) := by decide +kernel
theorem dX2_touch_16 : decode cX2_touch 16 = .ok (.iload_n 1, 1) := by decide +kernel
theorem dX2_touch_17 : decode cX2_touch 17 = .ok (.iconst 1, 1) := by decide +kernel
theorem dX2_touch_18 : decode cX2_touch 18 = .ok (.if_icmp .eq 19, 3) := by decide +kernel
theorem dX2_touch_21 : decode cX2_touch 21 = .ok (.iload_n 1, 1) := by decide +kernel
theorem dX2_touch_22 : decode cX2_touch 22 = .ok (.iconst 3, 1) := by decide +kernel
theorem dX2_touch_23 : decode cX2_touch 23 = .ok (.if_icmp .eq 14, 3) := by decide +kernel
theorem dX2_touch_26 : decode cX2_touch 26 = .ok (.aload_n 0, 1) := by decide +kernel
theorem dX2_touch_27 : decode cX2_touch 27 = .ok (.getfield 9, 3) := by decide +kernel
theorem dX2_touch_30 : decode cX2_touch 30 = .ok (.aload_n 0, 1) := by decide +kernel
theorem dX2_touch_31 : decode cX2_touch 31 = .ok (.getfield 19, 3) := by decide +kernel
theorem dX2_touch_34 : decode cX2_touch 34 = .ok (.invokevirtual 50, 3) := by decide +kernel
theorem dX2_touch_37 : decode cX2_touch 37 = .ok (.return_, 1) := by decide +kernel
set_option maxRecDepth 20000 in
theorem ggX2_giveTouch_X2_wayOfLine2 : GoodIn wsX2_giveTouch wsX2_wayOfLine2 := goodIn_r _ [7, 8, 9, 10, 11, 12, 13, 14, 15, 16, 17, 18, 19, 20] (by decide +kernel) (by decide +kernel)
set_option maxRecDepth 20000 in
theorem gX2_giveTouch_X2_wayOfLine2 : GoodIn wsX2_giveTouch (wsV RX2 54 RX2 yX2_wayOfLine2 wsX2_wayOfLine2) := goodIn_app (goodIn_of _ (by decide +kernel)) ggX2_giveTouch_X2_wayOfLine2
theorem dX2_giveTouch_0 : decode cX2_giveTouch 0 = .ok (.aload_n 0, 1) := by decide +kernel
theorem dX2_giveTouch_1 : decode cX2_giveTouch 1 = .ok (.invokevirtual 54, 3) := by decide +kernel
theorem dX2_giveTouch_4 : decode cX2_giveTouch 4 = .ok (.istore_n 1, 1) := by decide +kernel
theorem dX2_giveTouch_5 : decode cX2_giveTouch 5 = .ok (.iload_n 1, 1) := by decide +kernel
theorem dX2_giveTouch_6 : decode cX2_giveTouch 6 = .ok (.iconst 4, 1) := by decide +kernel
theorem dX2_giveTouch_7 : decode cX2_giveTouch 7 = .ok (.if_icmp .ne 11, 3) := by decide +kernel
theorem dX2_giveTouch_10 : decode cX2_giveTouch 10 = .ok (.aload_n 0, 1) := by decide +kernel
theorem dX2_giveTouch_11 : decode cX2_giveTouch 11 = .ok (.iconst 1, 1) := by decide +kernel
theorem dX2_giveTouch_12 : decode cX2_giveTouch 12 = .ok (.putfield 34, 3) := by decide +kernel
theorem dX2_giveTouch_15 : decode cX2_giveTouch 15 = .ok (.goto 13, 3) := by decide +kernel
theorem dX2_giveTouch_18 : decode cX2_giveTouch 18 = .ok (.iload_n 1, 1) := by decide +kernel
theorem dX2_giveTouch_19 : decode cX2_giveTouch 19 = .ok (.iconst 5, 1) := by decide +kernel
theorem dX2_giveTouch_20 : decode cX2_giveTouch 20 = .ok (.if_icmp .ne 8, 3) := by decide +kernel
theorem dX2_giveTouch_23 : decode cX2_giveTouch 23 = .ok (.aload_n 0, 1) := by decide +kernel
theorem dX2_giveTouch_24 : decode cX2_giveTouch 24 = .ok (.iconst 1, 1) := by decide +kernel
theorem dX2_giveTouch_25 : decode cX2_giveTouch 25 = .ok (.putfield 38, 3) := by decide +kernel
theorem dX2_giveTouch_28 : decode cX2_giveTouch 28 = .ok (.return_, 1) := by decide +kernel
theorem dX2_endCycle_0 : decode cX2_endCycle 0 = .ok (.aload_n 0, 1) := by decide +kernel
theorem dX2_endCycle_1 : decode cX2_endCycle 1 = .ok (.iconst 0, 1) := by decide +kernel
theorem dX2_endCycle_2 : decode cX2_endCycle 2 = .ok (.putfield 38, 3) := by decide +kernel
theorem dX2_endCycle_5 : decode cX2_endCycle 5 = .ok (.return_, 1) := by decide +kernel
set_option maxRecDepth 20000 in
theorem ggX2_moveLine1_X0_raise : GoodIn wsX2_moveLine1 wsX0_raise := goodIn_r _ [12, 13, 26, 27] (by decide +kernel) (by decide +kernel)
set_option maxRecDepth 20000 in
theorem gX2_moveLine1_X0_raise : GoodIn wsX2_moveLine1 (wsV RX2 61 RX0 yX0_raise wsX0_raise) := goodIn_app (goodIn_of _ (by decide +kernel)) ggX2_moveLine1_X0_raise
theorem dX2_moveLine1_0 : decode cX2_moveLine1 0 = .ok (.aload_n 0, 1) := by decide +kernel
theorem dX2_moveLine1_1 : decode cX2_moveLine1 1 = .ok (.getfield 28, 3) := by decide +kernel
theorem dX2_moveLine1_4 : decode cX2_moveLine1 4 = .ok (.iconst 1, 1) := by decide +kernel
theorem dX2_moveLine1_5 : decode cX2_moveLine1 5 = .ok (.iand, 1) := by decide +kernel
theorem dX2_moveLine1_6 : decode cX2_moveLine1 6 = .ok (.ifCond .eq 7, 3) := by decide +kernel
theorem dX2_moveLine1_9 : decode cX2_moveLine1 9 = .ok (.iconst 1, 1) := by decide +kernel
theorem dX2_moveLine1_10 : decode cX2_moveLine1 10 = .ok (.goto 4, 3) := by decide +kernel
theorem dX2_moveLine1_13 : decode cX2_moveLine1 13 = .ok (.iconst 0, 1) := by decide +kernel
theorem dX2_moveLine1_14 : decode cX2_moveLine1 14 = .ok (.istore_n 2, 1) := by decide +kernel
theorem dX2_moveLine1_15 : decode cX2_moveLine1 15 = .ok (.iload_n 1, 1) := by decide +kernel
theorem dX2_moveLine1_16 : decode cX2_moveLine1 16 = .ok (.aload_n 0, 1) := by decide +kernel
theorem dX2_moveLine1_17 : decode cX2_moveLine1 17 = .ok (.getfield 58, 3) := by decide +kernel
theorem dX2_moveLine1_20 : decode cX2_moveLine1 20 = .ok (.if_icmp .eq 12, 3) := by decide +kernel
theorem dX2_moveLine1_23 : decode cX2_moveLine1 23 = .ok (.iload_n 1, 1) := by decide +kernel
theorem dX2_moveLine1_24 : decode cX2_moveLine1 24 = .ok (.iload_n 2, 1) := by decide +kernel
theorem dX2_moveLine1_25 : decode cX2_moveLine1 25 = .ok (.if_icmp .ne 7, 3) := by decide +kernel
theorem dX2_moveLine1_28 : decode cX2_moveLine1 28 = .ok (.iconst 1, 1) := by decide +kernel
theorem dX2_moveLine1_29 : decode cX2_moveLine1 29 = .ok (.goto 4, 3) := by decide +kernel
theorem dX2_moveLine1_32 : decode cX2_moveLine1 32 = .ok (.iconst 0, 1) := by decide +kernel
theorem dX2_moveLine1_33 : decode cX2_moveLine1 33 = .ok (.istore_n 3, 1) := by decide +kernel
theorem dX2_moveLine1_34 : decode cX2_moveLine1 34 = .ok (.aload_n 0, 1) := by decide +kernel
theorem dX2_moveLine1_35 : decode cX2_moveLine1 35 = .ok (.iload_n 1, 1) := by decide +kernel
theorem dX2_moveLine1_36 : decode cX2_moveLine1 36 = .ok (.putfield 58, 3) := by decide +kernel
theorem dX2_moveLine1_39 : decode cX2_moveLine1 39 = .ok (.iload_n 3, 1) := by decide +kernel
theorem dX2_moveLine1_40 : decode cX2_moveLine1 40 = .ok (.ifCond .eq 27, 3) := by decide +kernel
theorem dX2_moveLine1_43 : decode cX2_moveLine1 43 = .ok (.aload_n 0, 1) := by decide +kernel
theorem dX2_moveLine1_44 : decode cX2_moveLine1 44 = .ok (.getfield 9, 3) := by decide +kernel
theorem dX2_moveLine1_47 : decode cX2_moveLine1 47 = .ok (.aload_n 0, 1) := by decide +kernel
theorem dX2_moveLine1_48 : decode cX2_moveLine1 48 = .ok (.getfield 15, 3) := by decide +kernel
theorem dX2_moveLine1_51 : decode cX2_moveLine1 51 = .ok (.invokevirtual 61, 3) := by decide +kernel
theorem dX2_moveLine1_54 : decode cX2_moveLine1 54 = .ok (.aload_n 0, 1) := by decide +kernel
theorem dX2_moveLine1_55 : decode cX2_moveLine1 55 = .ok (.aload_n 0, 1) := by decide +kernel
theorem dX2_moveLine1_56 : decode cX2_moveLine1 56 = .ok (.getfield 47, 3) := by decide +kernel
theorem dX2_moveLine1_59 : decode cX2_moveLine1 59 = .ok (.putfield 31, 3) := by decide +kernel
theorem dX2_moveLine1_62 : decode cX2_moveLine1 62 = .ok (.aload_n 0, 1) := by decide +kernel
theorem dX2_moveLine1_63 : decode cX2_moveLine1 63 = .ok (.iconst 0, 1) := by decide +kernel
theorem dX2_moveLine1_64 : decode cX2_moveLine1 64 = .ok (.putfield 34, 3) := by decide +kernel
theorem dX2_moveLine1_67 : decode cX2_moveLine1 67 = .ok (.iload_n 3, 1) := by decide +kernel
theorem dX2_moveLine1_68 : decode cX2_moveLine1 68 = .ok (.ireturn, 1) := by decide +kernel
set_option maxRecDepth 20000 in
theorem ggX2_moveLine2_X2_wayOfLine2 : GoodIn wsX2_moveLine2 wsX2_wayOfLine2 := goodIn_r _ [8, 9, 16, 17, 18, 19, 20, 21, 22, 23, 24, 25, 26, 27] (by decide +kernel) (by decide +kernel)
set_option maxRecDepth 20000 in
theorem gX2_moveLine2_X2_wayOfLine2 : GoodIn wsX2_moveLine2 (wsV RX2 54 RX2 yX2_wayOfLine2 wsX2_wayOfLine2) := goodIn_app (goodIn_of _ (by decide +kernel)) ggX2_moveLine2_X2_wayOfLine2
set_option maxRecDepth 20000 in
theorem ggX2_moveLine2_X0_raise : GoodIn wsX2_moveLine2 wsX0_raise := goodIn_r _ [14, 15, 28, 29] (by decide +kernel) (by decide +kernel)
set_option maxRecDepth 20000 in
theorem gX2_moveLine2_X0_raise : GoodIn wsX2_moveLine2 (wsV RX2 61 RX0 yX0_raise wsX0_raise) := goodIn_app (goodIn_of _ (by decide +kernel)) ggX2_moveLine2_X0_raise
theorem dX2_moveLine2_0 : decode cX2_moveLine2 0 = .ok (.aload_n 0, 1) := by decide +kernel
theorem dX2_moveLine2_1 : decode cX2_moveLine2 1 = .ok (.invokevirtual 54, 3) := by decide +kernel
theorem dX2_moveLine2_4 : decode cX2_moveLine2 4 = .ok (.istore_n 2, 1) := by decide +kernel
theorem dX2_moveLine2_5 : decode cX2_moveLine2 5 = .ok (.iload_n 2, 1) := by decide +kernel
theorem dX2_moveLine2_6 : decode cX2_moveLine2 6 = .ok (.iconst 2, 1) := by decide +kernel
theorem dX2_moveLine2_7 : decode cX2_moveLine2 7 = .ok (.if_icmp .lt 7, 3) := by decide +kernel
theorem dX2_moveLine2_10 : decode cX2_moveLine2 10 = .ok (.iconst 1, 1) := by decide +kernel
theorem dX2_moveLine2_11 : decode cX2_moveLine2 11 = .ok (.goto 4, 3) := by decide +kernel
theorem dX2_moveLine2_14 : decode cX2_moveLine2 14 = .ok (.iconst 0, 1) := by decide +kernel
theorem dX2_moveLine2_15 : decode cX2_moveLine2 15 = .ok (.istore_n 3, 1) := by decide +kernel
theorem dX2_moveLine2_16 : decode cX2_moveLine2 16 = .ok (.iload_n 2, 1) := by decide +kernel
theorem dX2_moveLine2_17 : decode cX2_moveLine2 17 = .ok (.iconst 4, 1) := by decide +kernel
theorem dX2_moveLine2_18 : decode cX2_moveLine2 18 = .ok (.if_icmp .ge 20, 3) := by decide +kernel
theorem dX2_moveLine2_21 : decode cX2_moveLine2 21 = .ok (.iload_n 1, 1) := by decide +kernel
theorem dX2_moveLine2_22 : decode cX2_moveLine2 22 = .ok (.aload_n 0, 1) := by decide +kernel
theorem dX2_moveLine2_23 : decode cX2_moveLine2 23 = .ok (.getfield 64, 3) := by decide +kernel
theorem dX2_moveLine2_26 : decode cX2_moveLine2 26 = .ok (.if_icmp .eq 12, 3) := by decide +kernel
theorem dX2_moveLine2_29 : decode cX2_moveLine2 29 = .ok (.iload_n 1, 1) := by decide +kernel
theorem dX2_moveLine2_30 : decode cX2_moveLine2 30 = .ok (.iload_n 3, 1) := by decide +kernel
theorem dX2_moveLine2_31 : decode cX2_moveLine2 31 = .ok (.if_icmp .ne 7, 3) := by decide +kernel
theorem dX2_moveLine2_34 : decode cX2_moveLine2 34 = .ok (.iconst 1, 1) := by decide +kernel
theorem dX2_moveLine2_35 : decode cX2_moveLine2 35 = .ok (.goto 4, 3) := by decide +kernel
theorem dX2_moveLine2_38 : decode cX2_moveLine2 38 = .ok (.iconst 0, 1) := by decide +kernel
theorem dX2_moveLine2_39 : decode cX2_moveLine2 39 = .ok (.istore 4, 2) := by decide +kernel
theorem dX2_moveLine2_41 : decode cX2_moveLine2 41 = .ok (.aload_n 0, 1) := by decide +kernel
theorem dX2_moveLine2_42 : decode cX2_moveLine2 42 = .ok (.iload_n 1, 1) := by decide +kernel
theorem dX2_moveLine2_43 : decode cX2_moveLine2 43 = .ok (.putfield 64, 3) := by decide +kernel
theorem dX2_moveLine2_46 : decode cX2_moveLine2 46 = .ok (.iload 4, 2) := by decide +kernel
theorem dX2_moveLine2_48 : decode cX2_moveLine2 48 = .ok (.ifCond .eq 14, 3) := by decide +kernel
theorem dX2_moveLine2_51 : decode cX2_moveLine2 51 = .ok (.aload_n 0, 1) := by decide +kernel
theorem dX2_moveLine2_52 : decode cX2_moveLine2 52 = .ok (.getfield 9, 3) := by decide +kernel
theorem dX2_moveLine2_55 : decode cX2_moveLine2 55 = .ok (.aload_n 0, 1) := by decide +kernel
theorem dX2_moveLine2_56 : decode cX2_moveLine2 56 = .ok (.getfield 19, 3) := by decide +kernel
theorem dX2_moveLine2_59 : decode cX2_moveLine2 59 = .ok (.invokevirtual 61, 3) := by decide +kernel
theorem dX2_moveLine2_62 : decode cX2_moveLine2 62 = .ok (.iload 4, 2) := by decide +kernel
theorem dX2_moveLine2_64 : decode cX2_moveLine2 64 = .ok (.ireturn, 1) := by decide +kernel
set_option maxRecDepth 20000 in
theorem ggX2_line2Gives_X2_wayOfLine2 : GoodIn wsX2_line2Gives wsX2_wayOfLine2 := goodIn_r _ [7, 8, 9, 10, 11, 12, 13, 14, 15, 16, 17, 18, 19, 20] (by decide +kernel) (by decide +kernel)
set_option maxRecDepth 20000 in
theorem gX2_line2Gives_X2_wayOfLine2 : GoodIn wsX2_line2Gives (wsV RX2 54 RX2 yX2_wayOfLine2 wsX2_wayOfLine2) := goodIn_app (goodIn_of _ (by decide +kernel)) ggX2_line2Gives_X2_wayOfLine2
theorem dX2_line2Gives_0 : decode cX2_line2Gives 0 = .ok (.aload_n 0, 1) := by decide +kernel
theorem dX2_line2Gives_1 : decode cX2_line2Gives 1 = .ok (.invokevirtual 54, 3) := by decide +kernel
theorem dX2_line2Gives_4 : decode cX2_line2Gives 4 = .ok (.istore_n 1, 1) := by decide +kernel
theorem dX2_line2Gives_5 : decode cX2_line2Gives 5 = .ok (.iload_n 1, 1) := by decide +kernel
theorem dX2_line2Gives_6 : decode cX2_line2Gives 6 = .ok (.iconst 4, 1) := by decide +kernel
theorem dX2_line2Gives_7 : decode cX2_line2Gives 7 = .ok (.if_icmp .ge 5, 3) := by decide +kernel
theorem dX2_line2Gives_10 : decode cX2_line2Gives 10 = .ok (.iconst 2, 1) := by decide +kernel
theorem dX2_line2Gives_11 : decode cX2_line2Gives 11 = .ok (.ireturn, 1) := by decide +kernel
theorem dX2_line2Gives_12 : decode cX2_line2Gives 12 = .ok (.iload_n 1, 1) := by decide +kernel
theorem dX2_line2Gives_13 : decode cX2_line2Gives 13 = .ok (.iconst 4, 1) := by decide +kernel
theorem dX2_line2Gives_14 : decode cX2_line2Gives 14 = .ok (.if_icmp .ne 10, 3) := by decide +kernel
theorem dX2_line2Gives_17 : decode cX2_line2Gives 17 = .ok (.aload_n 0, 1) := by decide +kernel
theorem dX2_line2Gives_18 : decode cX2_line2Gives 18 = .ok (.getfield 34, 3) := by decide +kernel
theorem dX2_line2Gives_21 : decode cX2_line2Gives 21 = .ok (.ifCond .ne 21, 3) := by decide +kernel
theorem dX2_line2Gives_24 : decode cX2_line2Gives 24 = .ok (.iload_n 1, 1) := by decide +kernel
theorem dX2_line2Gives_25 : decode cX2_line2Gives 25 = .ok (.iconst 5, 1) := by decide +kernel
theorem dX2_line2Gives_26 : decode cX2_line2Gives 26 = .ok (.if_icmp .ne 10, 3) := by decide +kernel
theorem dX2_line2Gives_29 : decode cX2_line2Gives 29 = .ok (.aload_n 0, 1) := by decide +kernel
theorem dX2_line2Gives_30 : decode cX2_line2Gives 30 = .ok (.getfield 38, 3) := by decide +kernel
theorem dX2_line2Gives_33 : decode cX2_line2Gives 33 = .ok (.ifCond .ne 9, 3) := by decide +kernel
theorem dX2_line2Gives_36 : decode cX2_line2Gives 36 = .ok (.iload_n 1, 1) := by decide +kernel
theorem dX2_line2Gives_37 : decode cX2_line2Gives 37 = .ok (.bipush 6, 2) := by decide +kernel
theorem dX2_line2Gives_39 : decode cX2_line2Gives 39 = .ok (.if_icmp .ne 7, 3) := by decide +kernel
theorem dX2_line2Gives_42 : decode cX2_line2Gives 42 = .ok (.iconst 1, 1) := by decide +kernel
theorem dX2_line2Gives_43 : decode cX2_line2Gives 43 = .ok (.goto 4, 3) := by decide +kernel
theorem dX2_line2Gives_46 : decode cX2_line2Gives 46 = .ok (.iconst 0, 1) := by decide +kernel
theorem dX2_line2Gives_47 : decode cX2_line2Gives 47 = .ok (.istore_n 2, 1) := by decide +kernel
theorem dX2_line2Gives_48 : decode cX2_line2Gives 48 = .ok (.iload_n 2, 1) := by decide +kernel
theorem dX2_line2Gives_49 : decode cX2_line2Gives 49 = .ok (.ifCond .eq 7, 3) := by decide +kernel
theorem dX2_line2Gives_52 : decode cX2_line2Gives 52 = .ok (.iconst 0, 1) := by decide +kernel
theorem dX2_line2Gives_53 : decode cX2_line2Gives 53 = .ok (.goto 4, 3) := by decide +kernel
theorem dX2_line2Gives_56 : decode cX2_line2Gives 56 = .ok (.iconst 1, 1) := by decide +kernel
theorem dX2_line2Gives_57 : decode cX2_line2Gives 57 = .ok (.ireturn, 1) := by decide +kernel
theorem dX3_init_0 : decode cX3_init 0 = .ok (.aload_n 0, 1) := by decide +kernel
theorem dX3_init_1 : decode cX3_init 1 = .ok (.invokespecial 3, 3) := by decide +kernel
theorem dX3_init_4 : decode cX3_init 4 = .ok (.aload_n 0, 1) := by decide +kernel
theorem dX3_init_5 : decode cX3_init 5 = .ok (.iconst 1, 1) := by decide +kernel
theorem dX3_init_6 : decode cX3_init 6 = .ok (.putfield 9, 3) := by decide +kernel
theorem dX3_init_9 : decode cX3_init 9 = .ok (.aload_n 0, 1) := by decide +kernel
theorem dX3_init_10 : decode cX3_init 10 = .ok (.aload_n 1, 1) := by decide +kernel
theorem dX3_init_11 : decode cX3_init 11 = .ok (.putfield 15, 3) := by decide +kernel
theorem dX3_init_14 : decode cX3_init 14 = .ok (.return_, 1) := by decide +kernel
theorem dX3_clear_0 : decode cX3_clear 0 = .ok (.aload_n 0, 1) := by decide +kernel
theorem dX3_clear_1 : decode cX3_clear 1 = .ok (.iconst 0, 1) := by decide +kernel
theorem dX3_clear_2 : decode cX3_clear 2 = .ok (.putfield 19, 3) := by decide +kernel
theorem dX3_clear_5 : decode cX3_clear 5 = .ok (.aload_n 0, 1) := by decide +kernel
theorem dX3_clear_6 : decode cX3_clear 6 = .ok (.iconst 0, 1) := by decide +kernel
theorem dX3_clear_7 : decode cX3_clear 7 = .ok (.putfield 22, 3) := by decide +kernel
theorem dX3_clear_10 : decode cX3_clear 10 = .ok (.aload_n 0, 1) := by decide +kernel
theorem dX3_clear_11 : decode cX3_clear 11 = .ok (.iconst 1, 1) := by decide +kernel
theorem dX3_clear_12 : decode cX3_clear 12 = .ok (.putfield 9, 3) := by decide +kernel
theorem dX3_clear_15 : decode cX3_clear 15 = .ok (.aload_n 0, 1) := by decide +kernel
theorem dX3_clear_16 : decode cX3_clear 16 = .ok (.iconst 0, 1) := by decide +kernel
theorem dX3_clear_17 : decode cX3_clear 17 = .ok (.putfield 25, 3) := by decide +kernel
theorem dX3_clear_20 : decode cX3_clear 20 = .ok (.aload_n 0, 1) := by decide +kernel
theorem dX3_clear_21 : decode cX3_clear 21 = .ok (.iconst 0, 1) := by decide +kernel
theorem dX3_clear_22 : decode cX3_clear 22 = .ok (.putfield 29, 3) := by decide +kernel
theorem dX3_clear_25 : decode cX3_clear 25 = .ok (.return_, 1) := by decide +kernel
theorem dX3_latchLow_0 : decode cX3_latchLow 0 = .ok (.aload_n 0, 1) := by decide +kernel
theorem dX3_latchLow_1 : decode cX3_latchLow 1 = .ok (.aload_n 0, 1) := by decide +kernel
theorem dX3_latchLow_2 : decode cX3_latchLow 2 = .ok (.getfield 22, 3) := by decide +kernel
theorem dX3_latchLow_5 : decode cX3_latchLow 5 = .ok (.sipush (-256), 3) := by decide +kernel
theorem dX3_latchLow_8 : decode cX3_latchLow 8 = .ok (.iand, 1) := by decide +kernel
theorem dX3_latchLow_9 : decode cX3_latchLow 9 = .ok (.iload_n 1, 1) := by decide +kernel
theorem dX3_latchLow_10 : decode cX3_latchLow 10 = .ok (.ior, 1) := by decide +kernel
theorem dX3_latchLow_11 : decode cX3_latchLow 11 = .ok (.putfield 22, 3) := by decide +kernel
theorem dX3_latchLow_14 : decode cX3_latchLow 14 = .ok (.return_, 1) := by decide +kernel
set_option maxRecDepth 20000 in
theorem ggX3_latchHigh_X0_lower : GoodIn wsX3_latchHigh wsX0_lower := goodIn_r _ [7, 8, 15, 16] (by decide +kernel) (by decide +kernel)
set_option maxRecDepth 20000 in
theorem gX3_latchHigh_X0_lower : GoodIn wsX3_latchHigh (wsV RX3 32 RX0 yX0_lower wsX0_lower) := goodIn_app (goodIn_of _ (by decide +kernel)) ggX3_latchHigh_X0_lower
theorem dX3_latchHigh_0 : decode cX3_latchHigh 0 = .ok (.aload_n 0, 1) := by decide +kernel
theorem dX3_latchHigh_1 : decode cX3_latchHigh 1 = .ok (.iload_n 1, 1) := by decide +kernel
theorem dX3_latchHigh_2 : decode cX3_latchHigh 2 = .ok (.bipush 8, 2) := by decide +kernel
theorem dX3_latchHigh_4 : decode cX3_latchHigh 4 = .ok (.ishl, 1) := by decide +kernel
theorem dX3_latchHigh_5 : decode cX3_latchHigh 5 = .ok (.aload_n 0, 1) := by decide +kernel
theorem dX3_latchHigh_6 : decode cX3_latchHigh 6 = .ok (.getfield 22, 3) := by decide +kernel
theorem dX3_latchHigh_9 : decode cX3_latchHigh 9 = .ok (.sipush 255, 3) := by decide +kernel
theorem dX3_latchHigh_12 : decode cX3_latchHigh 12 = .ok (.iand, 1) := by decide +kernel
theorem dX3_latchHigh_13 : decode cX3_latchHigh 13 = .ok (.ior, 1) := by decide +kernel
theorem dX3_latchHigh_14 : decode cX3_latchHigh 14 = .ok (.putfield 22, 3) := by decide +kernel
theorem dX3_latchHigh_17 : decode cX3_latchHigh 17 = .ok (.aload_n 0, 1) := by decide +kernel
theorem dX3_latchHigh_18 : decode cX3_latchHigh 18 = .ok (.getfield 15, 3) := by decide +kernel
theorem dX3_latchHigh_21 : decode cX3_latchHigh 21 = .ok (.bipush 64, 2) := by decide +kernel
theorem dX3_latchHigh_23 : decode cX3_latchHigh 23 = .ok (.invokevirtual 32, 3) := by decide +kernel
theorem dX3_latchHigh_26 : decode cX3_latchHigh 26 = .ok (.return_, 1) := by decide +kernel
theorem dX3_start_0 : decode cX3_start 0 = .ok (.aload_n 0, 1) := by decide +kernel
theorem dX3_start_1 : decode cX3_start 1 = .ok (.aload_n 0, 1) := by decide +kernel
theorem dX3_start_2 : decode cX3_start 2 = .ok (.getfield 22, 3) := by decide +kernel
theorem dX3_start_5 : decode cX3_start 5 = .ok (.putfield 19, 3) := by decide +kernel
theorem dX3_start_8 : decode cX3_start 8 = .ok (.aload_n 0, 1) := by decide +kernel
theorem dX3_start_9 : decode cX3_start 9 = .ok (.iconst 1, 1) := by decide +kernel
theorem dX3_start_10 : decode cX3_start 10 = .ok (.putfield 25, 3) := by decide +kernel
theorem dX3_start_13 : decode cX3_start 13 = .ok (.aload_n 0, 1) := by decide +kernel
theorem dX3_start_14 : decode cX3_start 14 = .ok (.iconst 0, 1) := by decide +kernel
theorem dX3_start_15 : decode cX3_start 15 = .ok (.putfield 9, 3) := by decide +kernel
theorem dX3_start_18 : decode cX3_start 18 = .ok (.aload_n 0, 1) := by decide +kernel
theorem dX3_start_19 : decode cX3_start 19 = .ok (.iconst 0, 1) := by decide +kernel
theorem dX3_start_20 : decode cX3_start 20 = .ok (.putfield 29, 3) := by decide +kernel
theorem dX3_start_23 : decode cX3_start 23 = .ok (.return_, 1) := by decide +kernel
set_option maxRecDepth 20000 in
theorem ggX3_goOn_X3_runFreely : GoodIn wsX3_goOn wsX3_runFreely := goodIn_r _ [5, 6, 7, 8, 9, 10, 11, 4, 12, 13, 14, 15, 16, 17, 18, 19, 20, 21, 27, 28, 29, 30, 31, 32, 33, 34] (by decide +kernel) (by decide +kernel)
set_option maxRecDepth 20000 in
theorem gX3_goOn_X3_runFreely : GoodIn wsX3_goOn (wsV RX3 38 RX3 yX3_runFreely wsX3_runFreely) := goodIn_app (goodIn_of _ (by decide +kernel)) ggX3_goOn_X3_runFreely
set_option maxRecDepth 20000 in
theorem ggX3_goOn_X3_runOnce : GoodIn wsX3_goOn wsX3_runOnce := goodIn_r _ [25, 6, 8, 26, 13, 14, 15, 16, 17, 18, 19, 20, 21, 27, 28, 29, 30, 31, 32, 33, 34] (by decide +kernel) (by decide +kernel)
set_option maxRecDepth 20000 in
theorem gX3_goOn_X3_runOnce : GoodIn wsX3_goOn (wsV RX3 41 RX3 yX3_runOnce wsX3_runOnce) := goodIn_app (goodIn_of _ (by decide +kernel)) ggX3_goOn_X3_runOnce
theorem dX3_goOn_0 : decode cX3_goOn 0 = .ok (.iload_n 2, 1) := by decide +kernel
theorem dX3_goOn_1 : decode cX3_goOn 1 = .ok (.ifCond .eq 11, 3) := by decide +kernel
theorem dX3_goOn_4 : decode cX3_goOn 4 = .ok (.aload_n 0, 1) := by decide +kernel
theorem dX3_goOn_5 : decode cX3_goOn 5 = .ok (.iload_n 1, 1) := by decide +kernel
theorem dX3_goOn_6 : decode cX3_goOn 6 = .ok (.invokevirtual 38, 3) := by decide +kernel
theorem dX3_goOn_9 : decode cX3_goOn 9 = .ok (.goto 8, 3) := by decide +kernel
theorem dX3_goOn_12 : decode cX3_goOn 12 = .ok (.aload_n 0, 1) := by decide +kernel
theorem dX3_goOn_13 : decode cX3_goOn 13 = .ok (.iload_n 1, 1) := by decide +kernel
theorem dX3_goOn_14 : decode cX3_goOn 14 = .ok (.invokevirtual 41, 3) := by decide +kernel
theorem dX3_goOn_17 : decode cX3_goOn 17 = .ok (.return_, 1) := by decide +kernel
set_option maxRecDepth 20000 in
theorem ggX3_runOnce_X0_raise : GoodIn wsX3_runOnce wsX0_raise := goodIn_r _ [11, 12, 19, 20] (by decide +kernel) (by decide +kernel)
set_option maxRecDepth 20000 in
theorem gX3_runOnce_X0_raise : GoodIn wsX3_runOnce (wsV RX3 44 RX0 yX0_raise wsX0_raise) := goodIn_app (goodIn_of _ (by decide +kernel)) ggX3_runOnce_X0_raise
theorem dX3_runOnce_0 : decode cX3_runOnce 0 = .ok (.aload_n 0, 1) := by decide +kernel
theorem dX3_runOnce_1 : decode cX3_runOnce 1 = .ok (.iconst 0, 1) := by decide +kernel
theorem dX3_runOnce_2 : decode cX3_runOnce 2 = .ok (.putfield 29, 3) := by decide +kernel
theorem dX3_runOnce_5 : decode cX3_runOnce 5 = .ok (.iload_n 1, 1) := by decide +kernel
theorem dX3_runOnce_6 : decode cX3_runOnce 6 = .ok (.aload_n 0, 1) := by decide +kernel
theorem dX3_runOnce_7 : decode cX3_runOnce 7 = .ok (.getfield 19, 3) := by decide +kernel
theorem dX3_runOnce_10 : decode cX3_runOnce 10 = .ok (.if_icmp .le 29, 3) := by decide +kernel
theorem dX3_runOnce_13 : decode cX3_runOnce 13 = .ok (.aload_n 0, 1) := by decide +kernel
theorem dX3_runOnce_14 : decode cX3_runOnce 14 = .ok (.getfield 25, 3) := by decide +kernel
theorem dX3_runOnce_17 : decode cX3_runOnce 17 = .ok (.ifCond .eq 22, 3) := by decide +kernel
theorem dX3_runOnce_20 : decode cX3_runOnce 20 = .ok (.aload_n 0, 1) := by decide +kernel
theorem dX3_runOnce_21 : decode cX3_runOnce 21 = .ok (.getfield 15, 3) := by decide +kernel
theorem dX3_runOnce_24 : decode cX3_runOnce 24 = .ok (.bipush 64, 2) := by decide +kernel
theorem dX3_runOnce_26 : decode cX3_runOnce 26 = .ok (.invokevirtual 44, 3) := by decide +kernel
theorem dX3_runOnce_29 : decode cX3_runOnce 29 = .ok (.aload_n 0, 1) := by decide +kernel
theorem dX3_runOnce_30 : decode cX3_runOnce 30 = .ok (.iconst 1, 1) := by decide +kernel
theorem dX3_runOnce_31 : decode cX3_runOnce 31 = .ok (.putfield 9, 3) := by decide +kernel
theorem dX3_runOnce_34 : decode cX3_runOnce 34 = .ok (.aload_n 0, 1) := by decide +kernel
theorem dX3_runOnce_35 : decode cX3_runOnce 35 = .ok (.iconst 0, 1) := by decide +kernel
theorem dX3_runOnce_36 : decode cX3_runOnce 36 = .ok (.putfield 25, 3) := by decide +kernel
theorem dX3_runOnce_39 : decode cX3_runOnce 39 = .ok (.aload_n 0, 1) := by decide +kernel
theorem dX3_runOnce_40 : decode cX3_runOnce 40 = .ok (.aload_n 0, 1) := by decide +kernel
theorem dX3_runOnce_41 : decode cX3_runOnce 41 = .ok (.getfield 19, 3) := by decide +kernel
theorem dX3_runOnce_44 : decode cX3_runOnce 44 = .ok (.iload_n 1, 1) := by decide +kernel
theorem dX3_runOnce_45 : decode cX3_runOnce 45 = .ok (.isub, 1) := by decide +kernel
theorem dX3_runOnce_46 : decode cX3_runOnce 46 = .ok (.ldc 47, 2) := by decide +kernel
theorem dX3_runOnce_48 : decode cX3_runOnce 48 = .ok (.iand, 1) := by decide +kernel
theorem dX3_runOnce_49 : decode cX3_runOnce 49 = .ok (.putfield 19, 3) := by decide +kernel
theorem dX3_runOnce_52 : decode cX3_runOnce 52 = .ok (.return_, 1) := by decide +kernel
set_option maxRecDepth 20000 in
theorem ggX3_runFreely_X3_runOut : GoodIn wsX3_runFreely wsX3_runOut := goodIn_r _ [8, 2, 9, 10, 1, 11, 3, 12, 13, 14, 15, 16, 17, 18, 19, 20, 21, 22, 23, 24, 25] (by decide +kernel) (by decide +kernel)
set_option maxRecDepth 20000 in
theorem gX3_runFreely_X3_runOut : GoodIn wsX3_runFreely (wsV RX3 48 RX3 yX3_runOut wsX3_runOut) := goodIn_app (goodIn_of _ (by decide +kernel)) ggX3_runFreely_X3_runOut
theorem dX3_runFreely_0 : decode cX3_runFreely 0 = .ok (.iload_n 1, 1) := by decide +kernel
theorem dX3_runFreely_1 : decode cX3_runFreely 1 = .ok (.istore_n 2, 1) := by decide +kernel
theorem dX3_runFreely_2 : decode cX3_runFreely 2 = .ok (.aload_n 0, 1) := by decide +kernel
theorem dX3_runFreely_3 : decode cX3_runFreely 3 = .ok (.getfield 29, 3) := by decide +kernel
theorem dX3_runFreely_6 : decode cX3_runFreely 6 = .ok (.ifCond .eq 19, 3) := by decide +kernel
theorem dX3_runFreely_9 : decode cX3_runFreely 9 = .ok (.aload_n 0, 1) := by decide +kernel
theorem dX3_runFreely_10 : decode cX3_runFreely 10 = .ok (.aload_n 0, 1) := by decide +kernel
theorem dX3_runFreely_11 : decode cX3_runFreely 11 = .ok (.getfield 22, 3) := by decide +kernel
theorem dX3_runFreely_14 : decode cX3_runFreely 14 = .ok (.putfield 19, 3) := by decide +kernel
theorem dX3_runFreely_17 : decode cX3_runFreely 17 = .ok (.aload_n 0, 1) := by decide +kernel
theorem dX3_runFreely_18 : decode cX3_runFreely 18 = .ok (.iconst 0, 1) := by decide +kernel
theorem dX3_runFreely_19 : decode cX3_runFreely 19 = .ok (.putfield 29, 3) := by decide +kernel
theorem dX3_runFreely_22 : decode cX3_runFreely 22 = .ok (.iinc 2 (-1), 3) := by decide +kernel
theorem dX3_runFreely_25 : decode cX3_runFreely 25 = .ok (.iload_n 2, 1) := by decide +kernel
theorem dX3_runFreely_26 : decode cX3_runFreely 26 = .ok (.aload_n 0, 1) := by decide +kernel
theorem dX3_runFreely_27 : decode cX3_runFreely 27 = .ok (.getfield 19, 3) := by decide +kernel
theorem dX3_runFreely_30 : decode cX3_runFreely 30 = .ok (.if_icmp .le 18, 3) := by decide +kernel
theorem dX3_runFreely_33 : decode cX3_runFreely 33 = .ok (.aload_n 0, 1) := by decide +kernel
theorem dX3_runFreely_34 : decode cX3_runFreely 34 = .ok (.iload_n 2, 1) := by decide +kernel
theorem dX3_runFreely_35 : decode cX3_runFreely 35 = .ok (.aload_n 0, 1) := by decide +kernel
theorem dX3_runFreely_36 : decode cX3_runFreely 36 = .ok (.getfield 19, 3) := by decide +kernel
theorem dX3_runFreely_39 : decode cX3_runFreely 39 = .ok (.isub, 1) := by decide +kernel
theorem dX3_runFreely_40 : decode cX3_runFreely 40 = .ok (.iconst 1, 1) := by decide +kernel
theorem dX3_runFreely_41 : decode cX3_runFreely 41 = .ok (.isub, 1) := by decide +kernel
theorem dX3_runFreely_42 : decode cX3_runFreely 42 = .ok (.invokevirtual 48, 3) := by decide +kernel
theorem dX3_runFreely_45 : decode cX3_runFreely 45 = .ok (.goto 13, 3) := by decide +kernel
theorem dX3_runFreely_48 : decode cX3_runFreely 48 = .ok (.aload_n 0, 1) := by decide +kernel
theorem dX3_runFreely_49 : decode cX3_runFreely 49 = .ok (.dup, 1) := by decide +kernel
theorem dX3_runFreely_50 : decode cX3_runFreely 50 = .ok (.getfield 19, 3) := by decide +kernel
theorem dX3_runFreely_53 : decode cX3_runFreely 53 = .ok (.iload_n 2, 1) := by decide +kernel
theorem dX3_runFreely_54 : decode cX3_runFreely 54 = .ok (.isub, 1) := by decide +kernel
theorem dX3_runFreely_55 : decode cX3_runFreely 55 = .ok (.putfield 19, 3) := by decide +kernel
theorem dX3_runFreely_58 : decode cX3_runFreely 58 = .ok (.return_, 1) := by decide +kernel
set_option maxRecDepth 20000 in
theorem ggX3_runOut_X0_raise : GoodIn wsX3_runOut wsX0_raise := goodIn_r _ [11, 12, 19, 20] (by decide +kernel) (by decide +kernel)
set_option maxRecDepth 20000 in
theorem gX3_runOut_X0_raise : GoodIn wsX3_runOut (wsV RX3 44 RX0 yX0_raise wsX0_raise) := goodIn_app (goodIn_of _ (by decide +kernel)) ggX3_runOut_X0_raise
theorem dX3_runOut_0 : decode cX3_runOut 0 = .ok (.aload_n 0, 1) := by decide +kernel
theorem dX3_runOut_1 : decode cX3_runOut 1 = .ok (.getfield 22, 3) := by decide +kernel
theorem dX3_runOut_4 : decode cX3_runOut 4 = .ok (.iconst 2, 1) := by decide +kernel
theorem dX3_runOut_5 : decode cX3_runOut 5 = .ok (.iadd, 1) := by decide +kernel
theorem dX3_runOut_6 : decode cX3_runOut 6 = .ok (.istore_n 2, 1) := by decide +kernel
theorem dX3_runOut_7 : decode cX3_runOut 7 = .ok (.iconst 1, 1) := by decide +kernel
theorem dX3_runOut_8 : decode cX3_runOut 8 = .ok (.iload_n 1, 1) := by decide +kernel
theorem dX3_runOut_9 : decode cX3_runOut 9 = .ok (.iload_n 2, 1) := by decide +kernel
theorem dX3_runOut_10 : decode cX3_runOut 10 = .ok (.idiv, 1) := by decide +kernel
theorem dX3_runOut_11 : decode cX3_runOut 11 = .ok (.iadd, 1) := by decide +kernel
theorem dX3_runOut_12 : decode cX3_runOut 12 = .ok (.istore_n 3, 1) := by decide +kernel
theorem dX3_runOut_13 : decode cX3_runOut 13 = .ok (.iload_n 1, 1) := by decide +kernel
theorem dX3_runOut_14 : decode cX3_runOut 14 = .ok (.iload_n 2, 1) := by decide +kernel
theorem dX3_runOut_15 : decode cX3_runOut 15 = .ok (.irem, 1) := by decide +kernel
theorem dX3_runOut_16 : decode cX3_runOut 16 = .ok (.istore 4, 2) := by decide +kernel
theorem dX3_runOut_18 : decode cX3_runOut 18 = .ok (.aload_n 0, 1) := by decide +kernel
theorem dX3_runOut_19 : decode cX3_runOut 19 = .ok (.getfield 15, 3) := by decide +kernel
theorem dX3_runOut_22 : decode cX3_runOut 22 = .ok (.bipush 64, 2) := by decide +kernel
theorem dX3_runOut_24 : decode cX3_runOut 24 = .ok (.invokevirtual 44, 3) := by decide +kernel
theorem dX3_runOut_27 : decode cX3_runOut 27 = .ok (.aload_n 0, 1) := by decide +kernel
theorem dX3_runOut_28 : decode cX3_runOut 28 = .ok (.dup, 1) := by decide +kernel
theorem dX3_runOut_29 : decode cX3_runOut 29 = .ok (.getfield 9, 3) := by decide +kernel
theorem dX3_runOut_32 : decode cX3_runOut 32 = .ok (.iload_n 3, 1) := by decide +kernel
theorem dX3_runOut_33 : decode cX3_runOut 33 = .ok (.iconst 1, 1) := by decide +kernel
theorem dX3_runOut_34 : decode cX3_runOut 34 = .ok (.iand, 1) := by decide +kernel
theorem dX3_runOut_35 : decode cX3_runOut 35 = .ok (.ixor, 1) := by decide +kernel
theorem dX3_runOut_36 : decode cX3_runOut 36 = .ok (.putfield 9, 3) := by decide +kernel
theorem dX3_runOut_39 : decode cX3_runOut 39 = .ok (.aload_n 0, 1) := by decide +kernel
theorem dX3_runOut_40 : decode cX3_runOut 40 = .ok (.iload 4, 2) := by decide +kernel
theorem dX3_runOut_42 : decode cX3_runOut 42 = .ok (.ifCond .ne 7, 3) := by decide +kernel
theorem dX3_runOut_45 : decode cX3_runOut 45 = .ok (.iconst 1, 1) := by decide +kernel
theorem dX3_runOut_46 : decode cX3_runOut 46 = .ok (.goto 4, 3) := by decide +kernel
theorem dX3_runOut_49 : decode cX3_runOut 49 = .ok (.iconst 0, 1) := by decide +kernel
theorem dX3_runOut_50 : decode cX3_runOut 50 = .ok (.putfield 29, 3) := by decide +kernel
theorem dX3_runOut_53 : decode cX3_runOut 53 = .ok (.aload_n 0, 1) := by decide +kernel
theorem dX3_runOut_54 : decode cX3_runOut 54 = .ok (.aload_n 0, 1) := by decide +kernel
theorem dX3_runOut_55 : decode cX3_runOut 55 = .ok (.getfield 29, 3) := by decide +kernel
theorem dX3_runOut_58 : decode cX3_runOut 58 = .ok (.ifCond .eq 8, 3) := by decide +kernel
theorem dX3_runOut_61 : decode cX3_runOut 61 = .ok (.ldc 47, 2) := by decide +kernel
theorem dX3_runOut_63 : decode cX3_runOut 63 = .ok (.goto 12, 3) := by decide +kernel
theorem dX3_runOut_66 : decode cX3_runOut 66 = .ok (.aload_n 0, 1) := by decide +kernel
theorem dX3_runOut_67 : decode cX3_runOut 67 = .ok (.getfield 22, 3) := by decide +kernel
theorem dX3_runOut_70 : decode cX3_runOut 70 = .ok (.iconst 1, 1) := by decide +kernel
theorem dX3_runOut_71 : decode cX3_runOut 71 = .ok (.iadd, 1) := by decide +kernel
theorem dX3_runOut_72 : decode cX3_runOut 72 = .ok (.iload 4, 2) := by decide +kernel
theorem dX3_runOut_74 : decode cX3_runOut 74 = .ok (.isub, 1) := by decide +kernel
theorem dX3_runOut_75 : decode cX3_runOut 75 = .ok (.putfield 19, 3) := by decide +kernel
theorem dX3_runOut_78 : decode cX3_runOut 78 = .ok (.return_, 1) := by decide +kernel
theorem dX4_init_0 : decode cX4_init 0 = .ok (.aload_n 0, 1) := by decide +kernel
theorem dX4_init_1 : decode cX4_init 1 = .ok (.invokespecial 3, 3) := by decide +kernel
theorem dX4_init_4 : decode cX4_init 4 = .ok (.aload_n 0, 1) := by decide +kernel
theorem dX4_init_5 : decode cX4_init 5 = .ok (.aload_n 1, 1) := by decide +kernel
theorem dX4_init_6 : decode cX4_init 6 = .ok (.putfield 9, 3) := by decide +kernel
theorem dX4_init_9 : decode cX4_init 9 = .ok (.return_, 1) := by decide +kernel
theorem dX4_clear_0 : decode cX4_clear 0 = .ok (.aload_n 0, 1) := by decide +kernel
theorem dX4_clear_1 : decode cX4_clear 1 = .ok (.iconst 0, 1) := by decide +kernel
theorem dX4_clear_2 : decode cX4_clear 2 = .ok (.putfield 15, 3) := by decide +kernel
theorem dX4_clear_5 : decode cX4_clear 5 = .ok (.aload_n 0, 1) := by decide +kernel
theorem dX4_clear_6 : decode cX4_clear 6 = .ok (.iconst 0, 1) := by decide +kernel
theorem dX4_clear_7 : decode cX4_clear 7 = .ok (.putfield 19, 3) := by decide +kernel
theorem dX4_clear_10 : decode cX4_clear 10 = .ok (.aload_n 0, 1) := by decide +kernel
theorem dX4_clear_11 : decode cX4_clear 11 = .ok (.iconst 0, 1) := by decide +kernel
theorem dX4_clear_12 : decode cX4_clear 12 = .ok (.putfield 22, 3) := by decide +kernel
theorem dX4_clear_15 : decode cX4_clear 15 = .ok (.return_, 1) := by decide +kernel
set_option maxRecDepth 20000 in
theorem ggX4_start_X0_lower : GoodIn wsX4_start wsX0_lower := goodIn_r _ [9, 10, 15, 16] (by decide +kernel) (by decide +kernel)
set_option maxRecDepth 20000 in
theorem gX4_start_X0_lower : GoodIn wsX4_start (wsV RX4 26 RX0 yX0_lower wsX0_lower) := goodIn_app (goodIn_of _ (by decide +kernel)) ggX4_start_X0_lower
theorem dX4_start_0 : decode cX4_start 0 = .ok (.aload_n 0, 1) := by decide +kernel
theorem dX4_start_1 : decode cX4_start 1 = .ok (.iload_n 1, 1) := by decide +kernel
theorem dX4_start_2 : decode cX4_start 2 = .ok (.bipush 8, 2) := by decide +kernel
theorem dX4_start_4 : decode cX4_start 4 = .ok (.ishl, 1) := by decide +kernel
theorem dX4_start_5 : decode cX4_start 5 = .ok (.aload_n 0, 1) := by decide +kernel
theorem dX4_start_6 : decode cX4_start 6 = .ok (.getfield 19, 3) := by decide +kernel
theorem dX4_start_9 : decode cX4_start 9 = .ok (.ior, 1) := by decide +kernel
theorem dX4_start_10 : decode cX4_start 10 = .ok (.putfield 15, 3) := by decide +kernel
theorem dX4_start_13 : decode cX4_start 13 = .ok (.aload_n 0, 1) := by decide +kernel
theorem dX4_start_14 : decode cX4_start 14 = .ok (.iconst 1, 1) := by decide +kernel
theorem dX4_start_15 : decode cX4_start 15 = .ok (.putfield 22, 3) := by decide +kernel
theorem dX4_start_18 : decode cX4_start 18 = .ok (.aload_n 0, 1) := by decide +kernel
theorem dX4_start_19 : decode cX4_start 19 = .ok (.getfield 9, 3) := by decide +kernel
theorem dX4_start_22 : decode cX4_start 22 = .ok (.bipush 32, 2) := by decide +kernel
theorem dX4_start_24 : decode cX4_start 24 = .ok (.invokevirtual 26, 3) := by decide +kernel
theorem dX4_start_27 : decode cX4_start 27 = .ok (.return_, 1) := by decide +kernel
set_option maxRecDepth 20000 in
theorem ggX4_countDown_X0_raise : GoodIn wsX4_countDown wsX0_raise := goodIn_r _ [9, 10, 15, 16] (by decide +kernel) (by decide +kernel)
set_option maxRecDepth 20000 in
theorem gX4_countDown_X0_raise : GoodIn wsX4_countDown (wsV RX4 32 RX0 yX0_raise wsX0_raise) := goodIn_app (goodIn_of _ (by decide +kernel)) ggX4_countDown_X0_raise
theorem dX4_countDown_0 : decode cX4_countDown 0 = .ok (.iload_n 1, 1) := by decide +kernel
theorem dX4_countDown_1 : decode cX4_countDown 1 = .ok (.aload_n 0, 1) := by decide +kernel
theorem dX4_countDown_2 : decode cX4_countDown 2 = .ok (.getfield 15, 3) := by decide +kernel
theorem dX4_countDown_5 : decode cX4_countDown 5 = .ok (.if_icmp .le 24, 3) := by decide +kernel
theorem dX4_countDown_8 : decode cX4_countDown 8 = .ok (.aload_n 0, 1) := by decide +kernel
theorem dX4_countDown_9 : decode cX4_countDown 9 = .ok (.getfield 22, 3) := by decide +kernel
theorem dX4_countDown_12 : decode cX4_countDown 12 = .ok (.ifCond .eq 17, 3) := by decide +kernel
theorem dX4_countDown_15 : decode cX4_countDown 15 = .ok (.aload_n 0, 1) := by decide +kernel
theorem dX4_countDown_16 : decode cX4_countDown 16 = .ok (.getfield 9, 3) := by decide +kernel
theorem dX4_countDown_19 : decode cX4_countDown 19 = .ok (.bipush 32, 2) := by decide +kernel
theorem dX4_countDown_21 : decode cX4_countDown 21 = .ok (.invokevirtual 32, 3) := by decide +kernel
theorem dX4_countDown_24 : decode cX4_countDown 24 = .ok (.aload_n 0, 1) := by decide +kernel
theorem dX4_countDown_25 : decode cX4_countDown 25 = .ok (.iconst 0, 1) := by decide +kernel
theorem dX4_countDown_26 : decode cX4_countDown 26 = .ok (.putfield 22, 3) := by decide +kernel
theorem dX4_countDown_29 : decode cX4_countDown 29 = .ok (.aload_n 0, 1) := by decide +kernel
theorem dX4_countDown_30 : decode cX4_countDown 30 = .ok (.aload_n 0, 1) := by decide +kernel
theorem dX4_countDown_31 : decode cX4_countDown 31 = .ok (.getfield 15, 3) := by decide +kernel
theorem dX4_countDown_34 : decode cX4_countDown 34 = .ok (.iload_n 1, 1) := by decide +kernel
theorem dX4_countDown_35 : decode cX4_countDown 35 = .ok (.isub, 1) := by decide +kernel
theorem dX4_countDown_36 : decode cX4_countDown 36 = .ok (.ldc 35, 2) := by decide +kernel
theorem dX4_countDown_38 : decode cX4_countDown 38 = .ok (.iand, 1) := by decide +kernel
theorem dX4_countDown_39 : decode cX4_countDown 39 = .ok (.putfield 15, 3) := by decide +kernel
theorem dX4_countDown_42 : decode cX4_countDown 42 = .ok (.return_, 1) := by decide +kernel
