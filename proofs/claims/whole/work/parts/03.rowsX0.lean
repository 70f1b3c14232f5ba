theorem dJ6_bitCount_0f7a4_0 : decode cJ6_bitCount_0f7a4 0 = .ok (.iload_n 0, 1) := by decide +kernel
theorem dJ6_bitCount_0f7a4_1 : decode cJ6_bitCount_0f7a4 1 = .ok (.iload_n 0, 1) := by decide +kernel
theorem dJ6_bitCount_0f7a4_2 : decode cJ6_bitCount_0f7a4 2 = .ok (.iconst 1, 1) := by decide +kernel
theorem dJ6_bitCount_0f7a4_3 : decode cJ6_bitCount_0f7a4 3 = .ok (.iushr, 1) := by decide +kernel
theorem dJ6_bitCount_0f7a4_4 : decode cJ6_bitCount_0f7a4 4 = .ok (.ldc_w 265, 3) := by decide +kernel
theorem dJ6_bitCount_0f7a4_7 : decode cJ6_bitCount_0f7a4 7 = .ok (.iand, 1) := by decide +kernel
theorem dJ6_bitCount_0f7a4_8 : decode cJ6_bitCount_0f7a4 8 = .ok (.isub, 1) := by decide +kernel
theorem dJ6_bitCount_0f7a4_9 : decode cJ6_bitCount_0f7a4 9 = .ok (.istore_n 0, 1) := by decide +kernel
theorem dJ6_bitCount_0f7a4_10 : decode cJ6_bitCount_0f7a4 10 = .ok (.iload_n 0, 1) := by decide +kernel
theorem dJ6_bitCount_0f7a4_11 : decode cJ6_bitCount_0f7a4 11 = .ok (.ldc_w 266, 3) := by decide +kernel
theorem dJ6_bitCount_0f7a4_14 : decode cJ6_bitCount_0f7a4 14 = .ok (.iand, 1) := by decide +kernel
theorem dJ6_bitCount_0f7a4_15 : decode cJ6_bitCount_0f7a4 15 = .ok (.iload_n 0, 1) := by decide +kernel
theorem dJ6_bitCount_0f7a4_16 : decode cJ6_bitCount_0f7a4 16 = .ok (.iconst 2, 1) := by decide +kernel
theorem dJ6_bitCount_0f7a4_17 : decode cJ6_bitCount_0f7a4 17 = .ok (.iushr, 1) := by decide +kernel
theorem dJ6_bitCount_0f7a4_18 : decode cJ6_bitCount_0f7a4 18 = .ok (.ldc_w 266, 3) := by decide +kernel
theorem dJ6_bitCount_0f7a4_21 : decode cJ6_bitCount_0f7a4 21 = .ok (.iand, 1) := by decide +kernel
theorem dJ6_bitCount_0f7a4_22 : decode cJ6_bitCount_0f7a4 22 = .ok (.iadd, 1) := by decide +kernel
theorem dJ6_bitCount_0f7a4_23 : decode cJ6_bitCount_0f7a4 23 = .ok (.istore_n 0, 1) := by decide +kernel
theorem dJ6_bitCount_0f7a4_24 : decode cJ6_bitCount_0f7a4 24 = .ok (.iload_n 0, 1) := by decide +kernel
theorem dJ6_bitCount_0f7a4_25 : decode cJ6_bitCount_0f7a4 25 = .ok (.iload_n 0, 1) := by decide +kernel
theorem dJ6_bitCount_0f7a4_26 : decode cJ6_bitCount_0f7a4 26 = .ok (.iconst 4, 1) := by decide +kernel
theorem dJ6_bitCount_0f7a4_27 : decode cJ6_bitCount_0f7a4 27 = .ok (.iushr, 1) := by decide +kernel
theorem dJ6_bitCount_0f7a4_28 : decode cJ6_bitCount_0f7a4 28 = .ok (.iadd, 1) := by decide +kernel
theorem dJ6_bitCount_0f7a4_29 : decode cJ6_bitCount_0f7a4 29 = .ok (.ldc_w 267, 3) := by decide +kernel
theorem dJ6_bitCount_0f7a4_32 : decode cJ6_bitCount_0f7a4 32 = .ok (.iand, 1) := by decide +kernel
theorem dJ6_bitCount_0f7a4_33 : decode cJ6_bitCount_0f7a4 33 = .ok (.istore_n 0, 1) := by decide +kernel
theorem dJ6_bitCount_0f7a4_34 : decode cJ6_bitCount_0f7a4 34 = .ok (.iload_n 0, 1) := by decide +kernel
theorem dJ6_bitCount_0f7a4_35 : decode cJ6_bitCount_0f7a4 35 = .ok (.iload_n 0, 1) := by decide +kernel
theorem dJ6_bitCount_0f7a4_36 : decode cJ6_bitCount_0f7a4 36 = .ok (.bipush 8, 2) := by decide +kernel
theorem dJ6_bitCount_0f7a4_38 : decode cJ6_bitCount_0f7a4 38 = .ok (.iushr, 1) := by decide +kernel
theorem dJ6_bitCount_0f7a4_39 : decode cJ6_bitCount_0f7a4 39 = .ok (.iadd, 1) := by decide +kernel
theorem dJ6_bitCount_0f7a4_40 : decode cJ6_bitCount_0f7a4 40 = .ok (.istore_n 0, 1) := by decide +kernel
theorem dJ6_bitCount_0f7a4_41 : decode cJ6_bitCount_0f7a4 41 = .ok (.iload_n 0, 1) := by decide +kernel
theorem dJ6_bitCount_0f7a4_42 : decode cJ6_bitCount_0f7a4 42 = .ok (.iload_n 0, 1) := by decide +kernel
theorem dJ6_bitCount_0f7a4_43 : decode cJ6_bitCount_0f7a4 43 = .ok (.bipush 16, 2) := by decide +kernel
theorem dJ6_bitCount_0f7a4_45 : decode cJ6_bitCount_0f7a4 45 = .ok (.iushr, 1) := by decide +kernel
theorem dJ6_bitCount_0f7a4_46 : decode cJ6_bitCount_0f7a4 46 = .ok (.iadd, 1) := by decide +kernel
theorem dJ6_bitCount_0f7a4_47 : decode cJ6_bitCount_0f7a4 47 = .ok (.istore_n 0, 1) := by decide +kernel
theorem dJ6_bitCount_0f7a4_48 : decode cJ6_bitCount_0f7a4 48 = .ok (.iload_n 0, 1) := by decide +kernel
theorem dJ6_bitCount_0f7a4_49 : decode cJ6_bitCount_0f7a4 49 = .ok (.bipush 63, 2) := by decide +kernel
theorem dJ6_bitCount_0f7a4_51 : decode cJ6_bitCount_0f7a4 51 = .ok (.iand, 1) := by decide +kernel
theorem dJ6_bitCount_0f7a4_52 : decode cJ6_bitCount_0f7a4 52 = .ok (.ireturn, 1) := by decide +kernel
theorem dJ13_bitCount_95d88_0 : decode cJ13_bitCount_95d88 0 = .ok (.lload_n 0, 1) := by decide +kernel
theorem dJ13_bitCount_95d88_1 : decode cJ13_bitCount_95d88 1 = .ok (.lload_n 0, 1) := by decide +kernel
theorem dJ13_bitCount_95d88_2 : decode cJ13_bitCount_95d88 2 = .ok (.iconst 1, 1) := by decide +kernel
theorem dJ13_bitCount_95d88_3 : decode cJ13_bitCount_95d88 3 = .ok (.lushr, 1) := by decide +kernel
theorem dJ13_bitCount_95d88_4 : decode cJ13_bitCount_95d88 4 = .ok (.ldc2_w 314, 3) := by decide +kernel
theorem dJ13_bitCount_95d88_7 : decode cJ13_bitCount_95d88 7 = .ok (.land, 1) := by decide +kernel
theorem dJ13_bitCount_95d88_8 : decode cJ13_bitCount_95d88 8 = .ok (.lsub, 1) := by decide +kernel
theorem dJ13_bitCount_95d88_9 : decode cJ13_bitCount_95d88 9 = .ok (.lstore_n 0, 1) := by decide +kernel
theorem dJ13_bitCount_95d88_10 : decode cJ13_bitCount_95d88 10 = .ok (.lload_n 0, 1) := by decide +kernel
theorem dJ13_bitCount_95d88_11 : decode cJ13_bitCount_95d88 11 = .ok (.ldc2_w 316, 3) := by decide +kernel
theorem dJ13_bitCount_95d88_14 : decode cJ13_bitCount_95d88 14 = .ok (.land, 1) := by decide +kernel
theorem dJ13_bitCount_95d88_15 : decode cJ13_bitCount_95d88 15 = .ok (.lload_n 0, 1) := by decide +kernel
theorem dJ13_bitCount_95d88_16 : decode cJ13_bitCount_95d88 16 = .ok (.iconst 2, 1) := by decide +kernel
theorem dJ13_bitCount_95d88_17 : decode cJ13_bitCount_95d88 17 = .ok (.lushr, 1) := by decide +kernel
theorem dJ13_bitCount_95d88_18 : decode cJ13_bitCount_95d88 18 = .ok (.ldc2_w 316, 3) := by decide +kernel
theorem dJ13_bitCount_95d88_21 : decode cJ13_bitCount_95d88 21 = .ok (.land, 1) := by decide +kernel
theorem dJ13_bitCount_95d88_22 : decode cJ13_bitCount_95d88 22 = .ok (.ladd, 1) := by decide +kernel
theorem dJ13_bitCount_95d88_23 : decode cJ13_bitCount_95d88 23 = .ok (.lstore_n 0, 1) := by decide +kernel
theorem dJ13_bitCount_95d88_24 : decode cJ13_bitCount_95d88 24 = .ok (.lload_n 0, 1) := by decide +kernel
theorem dJ13_bitCount_95d88_25 : decode cJ13_bitCount_95d88 25 = .ok (.lload_n 0, 1) := by decide +kernel
theorem dJ13_bitCount_95d88_26 : decode cJ13_bitCount_95d88 26 = .ok (.iconst 4, 1) := by decide +kernel
theorem dJ13_bitCount_95d88_27 : decode cJ13_bitCount_95d88 27 = .ok (.lushr, 1) := by decide +kernel
theorem dJ13_bitCount_95d88_28 : decode cJ13_bitCount_95d88 28 = .ok (.ladd, 1) := by decide +kernel
theorem dJ13_bitCount_95d88_29 : decode cJ13_bitCount_95d88 29 = .ok (.ldc2_w 318, 3) := by decide +kernel
theorem dJ13_bitCount_95d88_32 : decode cJ13_bitCount_95d88 32 = .ok (.land, 1) := by decide +kernel
theorem dJ13_bitCount_95d88_33 : decode cJ13_bitCount_95d88 33 = .ok (.lstore_n 0, 1) := by decide +kernel
theorem dJ13_bitCount_95d88_34 : decode cJ13_bitCount_95d88 34 = .ok (.lload_n 0, 1) := by decide +kernel
theorem dJ13_bitCount_95d88_35 : decode cJ13_bitCount_95d88 35 = .ok (.lload_n 0, 1) := by decide +kernel
theorem dJ13_bitCount_95d88_36 : decode cJ13_bitCount_95d88 36 = .ok (.bipush 8, 2) := by decide +kernel
theorem dJ13_bitCount_95d88_38 : decode cJ13_bitCount_95d88 38 = .ok (.lushr, 1) := by decide +kernel
theorem dJ13_bitCount_95d88_39 : decode cJ13_bitCount_95d88 39 = .ok (.ladd, 1) := by decide +kernel
theorem dJ13_bitCount_95d88_40 : decode cJ13_bitCount_95d88 40 = .ok (.lstore_n 0, 1) := by decide +kernel
theorem dJ13_bitCount_95d88_41 : decode cJ13_bitCount_95d88 41 = .ok (.lload_n 0, 1) := by decide +kernel
theorem dJ13_bitCount_95d88_42 : decode cJ13_bitCount_95d88 42 = .ok (.lload_n 0, 1) := by decide +kernel
theorem dJ13_bitCount_95d88_43 : decode cJ13_bitCount_95d88 43 = .ok (.bipush 16, 2) := by decide +kernel
theorem dJ13_bitCount_95d88_45 : decode cJ13_bitCount_95d88 45 = .ok (.lushr, 1) := by decide +kernel
theorem dJ13_bitCount_95d88_46 : decode cJ13_bitCount_95d88 46 = .ok (.ladd, 1) := by decide +kernel
theorem dJ13_bitCount_95d88_47 : decode cJ13_bitCount_95d88 47 = .ok (.lstore_n 0, 1) := by decide +kernel
theorem dJ13_bitCount_95d88_48 : decode cJ13_bitCount_95d88 48 = .ok (.lload_n 0, 1) := by decide +kernel
theorem dJ13_bitCount_95d88_49 : decode cJ13_bitCount_95d88 49 = .ok (.lload_n 0, 1) := by decide +kernel
theorem dJ13_bitCount_95d88_50 : decode cJ13_bitCount_95d88 50 = .ok (.bipush 32, 2) := by decide +kernel
theorem dJ13_bitCount_95d88_52 : decode cJ13_bitCount_95d88 52 = .ok (.lushr, 1) := by decide +kernel
theorem dJ13_bitCount_95d88_53 : decode cJ13_bitCount_95d88 53 = .ok (.ladd, 1) := by decide +kernel
theorem dJ13_bitCount_95d88_54 : decode cJ13_bitCount_95d88 54 = .ok (.lstore_n 0, 1) := by decide +kernel
theorem dJ13_bitCount_95d88_55 : decode cJ13_bitCount_95d88 55 = .ok (.lload_n 0, 1) := by decide +kernel
theorem dJ13_bitCount_95d88_56 : decode cJ13_bitCount_95d88 56 = .ok (.l2i, 1) := by decide +kernel
theorem dJ13_bitCount_95d88_57 : decode cJ13_bitCount_95d88 57 = .ok (.bipush 127, 2) := by decide +kernel
theorem dJ13_bitCount_95d88_59 : decode cJ13_bitCount_95d88 59 = .ok (.iand, 1) := by decide +kernel
theorem dJ13_bitCount_95d88_60 : decode cJ13_bitCount_95d88 60 = .ok (.ireturn, 1) := by decide +kernel
theorem dJ9_abs_0f7a4_0 : decode cJ9_abs_0f7a4 0 = .ok (.iload_n 0, 1) := by decide +kernel
theorem dJ9_abs_0f7a4_1 : decode cJ9_abs_0f7a4 1 = .ok (.ifCond .ge 8, 3) := by decide +kernel
theorem dJ9_abs_0f7a4_4 : decode cJ9_abs_0f7a4 4 = .ok (.iload_n 0, 1) := by decide +kernel
theorem dJ9_abs_0f7a4_5 : decode cJ9_abs_0f7a4 5 = .ok (.ineg, 1) := by decide +kernel
theorem dJ9_abs_0f7a4_6 : decode cJ9_abs_0f7a4 6 = .ok (.goto 4, 3) := by decide +kernel
theorem dJ9_abs_0f7a4_9 : decode cJ9_abs_0f7a4 9 = .ok (.iload_n 0, 1) := by decide +kernel
theorem dJ9_abs_0f7a4_10 : decode cJ9_abs_0f7a4 10 = .ok (.ireturn, 1) := by decide +kernel
theorem dJ7_fill_53178_0 : decode cJ7_fill_53178 0 = .ok (.iconst 0, 1) := by decide +kernel
theorem dJ7_fill_53178_1 : decode cJ7_fill_53178 1 = .ok (.istore_n 2, 1) := by decide +kernel
theorem dJ7_fill_53178_2 : decode cJ7_fill_53178 2 = .ok (.aload_n 0, 1) := by decide +kernel
theorem dJ7_fill_53178_3 : decode cJ7_fill_53178 3 = .ok (.arraylength, 1) := by decide +kernel
theorem dJ7_fill_53178_4 : decode cJ7_fill_53178 4 = .ok (.istore_n 3, 1) := by decide +kernel
theorem dJ7_fill_53178_5 : decode cJ7_fill_53178 5 = .ok (.iload_n 2, 1) := by decide +kernel
theorem dJ7_fill_53178_6 : decode cJ7_fill_53178 6 = .ok (.iload_n 3, 1) := by decide +kernel
theorem dJ7_fill_53178_7 : decode cJ7_fill_53178 7 = .ok (.if_icmp .ge 13, 3) := by decide +kernel
theorem dJ7_fill_53178_10 : decode cJ7_fill_53178 10 = .ok (.aload_n 0, 1) := by decide +kernel
theorem dJ7_fill_53178_11 : decode cJ7_fill_53178 11 = .ok (.iload_n 2, 1) := by decide +kernel
theorem dJ7_fill_53178_12 : decode cJ7_fill_53178 12 = .ok (.iload_n 1, 1) := by decide +kernel
theorem dJ7_fill_53178_13 : decode cJ7_fill_53178 13 = .ok (.iastore, 1) := by decide +kernel
theorem dJ7_fill_53178_14 : decode cJ7_fill_53178 14 = .ok (.iinc 2 1, 3) := by decide +kernel
theorem dJ7_fill_53178_17 : decode cJ7_fill_53178 17 = .ok (.goto (-12), 3) := by decide +kernel
theorem dJ7_fill_53178_20 : decode cJ7_fill_53178 20 = .ok (.return_, 1) := by decide +kernel
set_option maxRecDepth 20000 in
theorem ggX0_init_X0_layBoard : GoodIn wsX0_init wsX0_layBoard := goodIn_r _ [15, 16, 17, 18, 5, 6, 7, 19, 20, 21, 22, 23, 24, 25, 26, 27, 28, 29, 30, 31, 32, 33, 34, 35] (by decide +kernel) (by decide +kernel)
set_option maxRecDepth 20000 in
theorem gX0_init_X0_layBoard : GoodIn wsX0_init (wsV RX0 25 RX0 yX0_layBoard wsX0_layBoard) := goodIn_app (goodIn_of _ (by decide +kernel)) ggX0_init_X0_layBoard
theorem dX0_init_0 : decode cX0_init 0 = .ok (.aload_n 0, 1) := by decide +kernel
theorem dX0_init_1 : decode cX0_init 1 = .ok (.invokespecial 3, 3) := by decide +kernel
theorem dX0_init_4 : decode cX0_init 4 = .ok (.aload_n 0, 1) := by decide +kernel
theorem dX0_init_5 : decode cX0_init 5 = .ok (.bipush 48, 2) := by decide +kernel
theorem dX0_init_7 : decode cX0_init 7 = .ok (.newarray .int, 2) := by decide +kernel
theorem dX0_init_9 : decode cX0_init 9 = .ok (.putfield 9, 3) := by decide +kernel
theorem dX0_init_12 : decode cX0_init 12 = .ok (.aload_n 0, 1) := by decide +kernel
theorem dX0_init_13 : decode cX0_init 13 = .ok (.bipush 42, 2) := by decide +kernel
theorem dX0_init_15 : decode cX0_init 15 = .ok (.newarray .int, 2) := by decide +kernel
theorem dX0_init_17 : decode cX0_init 17 = .ok (.putfield 13, 3) := by decide +kernel
theorem dX0_init_20 : decode cX0_init 20 = .ok (.aload_n 0, 1) := by decide +kernel
theorem dX0_init_21 : decode cX0_init 21 = .ok (.sipush 144, 3) := by decide +kernel
theorem dX0_init_24 : decode cX0_init 24 = .ok (.newarray .int, 2) := by decide +kernel
theorem dX0_init_26 : decode cX0_init 26 = .ok (.putfield 16, 3) := by decide +kernel
theorem dX0_init_29 : decode cX0_init 29 = .ok (.aload_n 0, 1) := by decide +kernel
theorem dX0_init_30 : decode cX0_init 30 = .ok (.bipush 16, 2) := by decide +kernel
theorem dX0_init_32 : decode cX0_init 32 = .ok (.newarray .int, 2) := by decide +kernel
theorem dX0_init_34 : decode cX0_init 34 = .ok (.putfield 19, 3) := by decide +kernel
theorem dX0_init_37 : decode cX0_init 37 = .ok (.aload_n 0, 1) := by decide +kernel
theorem dX0_init_38 : decode cX0_init 38 = .ok (.iconst 2, 1) := by decide +kernel
theorem dX0_init_39 : decode cX0_init 39 = .ok (.newarray .int, 2) := by decide +kernel
theorem dX0_init_41 : decode cX0_init 41 = .ok (.putfield 22, 3) := by decide +kernel
theorem dX0_init_44 : decode cX0_init 44 = .ok (.aload_n 0, 1) := by decide +kernel
theorem dX0_init_45 : decode cX0_init 45 = .ok (.iconst 4, 1) := by decide +kernel
theorem dX0_init_46 : decode cX0_init 46 = .ok (.iconst 4, 1) := by decide +kernel
theorem dX0_init_47 : decode cX0_init 47 = .ok (.iconst 2, 1) := by decide +kernel
theorem dX0_init_48 : decode cX0_init 48 = .ok (.invokevirtual 25, 3) := by decide +kernel
theorem dX0_init_51 : decode cX0_init 51 = .ok (.aload_n 0, 1) := by decide +kernel
theorem dX0_init_52 : decode cX0_init 52 = .ok (.iconst 0, 1) := by decide +kernel
theorem dX0_init_53 : decode cX0_init 53 = .ok (.putfield 29, 3) := by decide +kernel
theorem dX0_init_56 : decode cX0_init 56 = .ok (.return_, 1) := by decide +kernel
set_option maxRecDepth 20000 in
theorem ggX0_board_X0_within : GoodIn wsX0_board wsX0_within := goodIn_r _ [4] (by decide +kernel) (by decide +kernel)
set_option maxRecDepth 20000 in
theorem gX0_board_X0_within : GoodIn wsX0_board (va_wsS RX0 33 yX0_within wsX0_within) := goodIn_app (goodIn_of _ (by decide +kernel)) ggX0_board_X0_within
set_option maxRecDepth 20000 in
theorem ggX0_board_X0_layBoard : GoodIn wsX0_board wsX0_layBoard := goodIn_r _ [8, 9, 10, 11, 12, 13, 14, 15, 16, 17, 18, 19, 20, 21, 22, 23, 24, 25, 26, 27, 28, 29, 30, 31] (by decide +kernel) (by decide +kernel)
set_option maxRecDepth 20000 in
theorem gX0_board_X0_layBoard : GoodIn wsX0_board (wsV RX0 25 RX0 yX0_layBoard wsX0_layBoard) := goodIn_app (goodIn_of _ (by decide +kernel)) ggX0_board_X0_layBoard
theorem dX0_board_0 : decode cX0_board 0 = .ok (.iload_n 1, 1) := by decide +kernel
theorem dX0_board_1 : decode cX0_board 1 = .ok (.iconst 1, 1) := by decide +kernel
theorem dX0_board_2 : decode cX0_board 2 = .ok (.bipush 6, 2) := by decide +kernel
theorem dX0_board_4 : decode cX0_board 4 = .ok (.invokestatic 33, 3) := by decide +kernel
theorem dX0_board_7 : decode cX0_board 7 = .ok (.ifCond .eq 22, 3) := by decide +kernel
theorem dX0_board_10 : decode cX0_board 10 = .ok (.iload_n 2, 1) := by decide +kernel
theorem dX0_board_11 : decode cX0_board 11 = .ok (.iconst 1, 1) := by decide +kernel
theorem dX0_board_12 : decode cX0_board 12 = .ok (.bipush 8, 2) := by decide +kernel
theorem dX0_board_14 : decode cX0_board 14 = .ok (.invokestatic 33, 3) := by decide +kernel
theorem dX0_board_17 : decode cX0_board 17 = .ok (.ifCond .eq 12, 3) := by decide +kernel
theorem dX0_board_20 : decode cX0_board 20 = .ok (.iload_n 3, 1) := by decide +kernel
theorem dX0_board_21 : decode cX0_board 21 = .ok (.iconst 1, 1) := by decide +kernel
theorem dX0_board_22 : decode cX0_board 22 = .ok (.iconst 3, 1) := by decide +kernel
theorem dX0_board_23 : decode cX0_board 23 = .ok (.invokestatic 33, 3) := by decide +kernel
theorem dX0_board_26 : decode cX0_board 26 = .ok (.ifCond .ne 5, 3) := by decide +kernel
theorem dX0_board_29 : decode cX0_board 29 = .ok (.iconst (-1), 1) := by decide +kernel
theorem dX0_board_30 : decode cX0_board 30 = .ok (.ireturn, 1) := by decide +kernel
theorem dX0_board_31 : decode cX0_board 31 = .ok (.aload_n 0, 1) := by decide +kernel
theorem dX0_board_32 : decode cX0_board 32 = .ok (.iload_n 1, 1) := by decide +kernel
theorem dX0_board_33 : decode cX0_board 33 = .ok (.iload_n 2, 1) := by decide +kernel
theorem dX0_board_34 : decode cX0_board 34 = .ok (.iload_n 3, 1) := by decide +kernel
theorem dX0_board_35 : decode cX0_board 35 = .ok (.invokevirtual 25, 3) := by decide +kernel
theorem dX0_board_38 : decode cX0_board 38 = .ok (.iload_n 1, 1) := by decide +kernel
theorem dX0_board_39 : decode cX0_board 39 = .ok (.iload_n 2, 1) := by decide +kernel
theorem dX0_board_40 : decode cX0_board 40 = .ok (.imul, 1) := by decide +kernel
theorem dX0_board_41 : decode cX0_board 41 = .ok (.ireturn, 1) := by decide +kernel
set_option maxRecDepth 20000 in
theorem ggX0_set_X0_isCell : GoodIn wsX0_set wsX0_isCell := goodIn_r _ [6, 7, 8, 9, 10, 5, 11, 19, 20, 21, 22, 23, 24, 25, 26, 27, 28, 29, 30] (by decide +kernel) (by decide +kernel)
set_option maxRecDepth 20000 in
theorem gX0_set_X0_isCell : GoodIn wsX0_set (wsV RX0 37 RX0 yX0_isCell wsX0_isCell) := goodIn_app (goodIn_of _ (by decide +kernel)) ggX0_set_X0_isCell
set_option maxRecDepth 20000 in
theorem ggX0_set_X0_within : GoodIn wsX0_set wsX0_within := goodIn_r _ [11] (by decide +kernel) (by decide +kernel)
set_option maxRecDepth 20000 in
theorem gX0_set_X0_within : GoodIn wsX0_set (va_wsS RX0 33 yX0_within wsX0_within) := goodIn_app (goodIn_of _ (by decide +kernel)) ggX0_set_X0_within
set_option maxRecDepth 20000 in
theorem ggX0_set_X0_boardAt : GoodIn wsX0_set wsX0_boardAt := goodIn_r _ [15, 1, 16, 17, 5, 18, 19, 20, 21, 22, 23, 24, 25, 26, 27, 28, 29, 30] (by decide +kernel) (by decide +kernel)
set_option maxRecDepth 20000 in
theorem gX0_set_X0_boardAt : GoodIn wsX0_set (wsV RX0 41 RX0 yX0_boardAt wsX0_boardAt) := goodIn_app (goodIn_of _ (by decide +kernel)) ggX0_set_X0_boardAt
set_option maxRecDepth 20000 in
theorem ggX0_set_X0_cell : GoodIn wsX0_set wsX0_cell := goodIn_r _ [18] (by decide +kernel) (by decide +kernel)
set_option maxRecDepth 20000 in
theorem gX0_set_X0_cell : GoodIn wsX0_set (va_wsS RX0 45 yX0_cell wsX0_cell) := goodIn_app (goodIn_of _ (by decide +kernel)) ggX0_set_X0_cell
theorem dX0_set_0 : decode cX0_set 0 = .ok (.aload_n 0, 1) := by decide +kernel
theorem dX0_set_1 : decode cX0_set 1 = .ok (.iload_n 1, 1) := by decide +kernel
theorem dX0_set_2 : decode cX0_set 2 = .ok (.iload_n 2, 1) := by decide +kernel
theorem dX0_set_3 : decode cX0_set 3 = .ok (.invokevirtual 37, 3) := by decide +kernel
theorem dX0_set_6 : decode cX0_set 6 = .ok (.ifCond .eq 13, 3) := by decide +kernel
theorem dX0_set_9 : decode cX0_set 9 = .ok (.iload_n 3, 1) := by decide +kernel
theorem dX0_set_10 : decode cX0_set 10 = .ok (.iconst 0, 1) := by decide +kernel
theorem dX0_set_11 : decode cX0_set 11 = .ok (.bipush 99, 2) := by decide +kernel
theorem dX0_set_13 : decode cX0_set 13 = .ok (.invokestatic 33, 3) := by decide +kernel
theorem dX0_set_16 : decode cX0_set 16 = .ok (.ifCond .ne 5, 3) := by decide +kernel
theorem dX0_set_19 : decode cX0_set 19 = .ok (.iconst (-1), 1) := by decide +kernel
theorem dX0_set_20 : decode cX0_set 20 = .ok (.ireturn, 1) := by decide +kernel
theorem dX0_set_21 : decode cX0_set 21 = .ok (.aload_n 0, 1) := by decide +kernel
theorem dX0_set_22 : decode cX0_set 22 = .ok (.iload_n 1, 1) := by decide +kernel
theorem dX0_set_23 : decode cX0_set 23 = .ok (.iload_n 2, 1) := by decide +kernel
theorem dX0_set_24 : decode cX0_set 24 = .ok (.invokevirtual 41, 3) := by decide +kernel
theorem dX0_set_27 : decode cX0_set 27 = .ok (.istore 4, 2) := by decide +kernel
theorem dX0_set_29 : decode cX0_set 29 = .ok (.aload_n 0, 1) := by decide +kernel
theorem dX0_set_30 : decode cX0_set 30 = .ok (.getfield 9, 3) := by decide +kernel
theorem dX0_set_33 : decode cX0_set 33 = .ok (.iload_n 1, 1) := by decide +kernel
theorem dX0_set_34 : decode cX0_set 34 = .ok (.iload_n 2, 1) := by decide +kernel
theorem dX0_set_35 : decode cX0_set 35 = .ok (.invokestatic 45, 3) := by decide +kernel
theorem dX0_set_38 : decode cX0_set 38 = .ok (.iload_n 3, 1) := by decide +kernel
theorem dX0_set_39 : decode cX0_set 39 = .ok (.iastore, 1) := by decide +kernel
theorem dX0_set_40 : decode cX0_set 40 = .ok (.iload 4, 2) := by decide +kernel
theorem dX0_set_42 : decode cX0_set 42 = .ok (.ireturn, 1) := by decide +kernel
set_option maxRecDepth 20000 in
theorem ggX0_at_X0_isCell : GoodIn wsX0_at wsX0_isCell := goodIn_r _ [5, 6, 7, 8, 9, 4, 10, 52, 53, 54, 55, 56, 57, 58, 59, 60, 61, 62, 63] (by decide +kernel) (by decide +kernel)
set_option maxRecDepth 20000 in
theorem gX0_at_X0_isCell : GoodIn wsX0_at (wsV RX0 37 RX0 yX0_isCell wsX0_isCell) := goodIn_app (goodIn_of _ (by decide +kernel)) ggX0_at_X0_isCell
set_option maxRecDepth 20000 in
theorem ggX0_at_X0_boardAt : GoodIn wsX0_at wsX0_boardAt := goodIn_r _ [14, 15, 16, 17, 4, 18, 52, 53, 54, 55, 56, 57, 58, 59, 60, 61, 62, 63] (by decide +kernel) (by decide +kernel)
set_option maxRecDepth 20000 in
theorem gX0_at_X0_boardAt : GoodIn wsX0_at (wsV RX0 41 RX0 yX0_boardAt wsX0_boardAt) := goodIn_app (goodIn_of _ (by decide +kernel)) ggX0_at_X0_boardAt
set_option maxRecDepth 20000 in
theorem ggX0_at_X0_sumAt : GoodIn wsX0_at wsX0_sumAt := goodIn_r _ [22, 23, 24, 25, 26, 4, 27, 28, 52, 53, 54, 55, 56, 57, 58, 59, 60, 61, 62, 63] (by decide +kernel) (by decide +kernel)
set_option maxRecDepth 20000 in
theorem gX0_at_X0_sumAt : GoodIn wsX0_at (wsV RX0 48 RX0 yX0_sumAt wsX0_sumAt) := goodIn_app (goodIn_of _ (by decide +kernel)) ggX0_at_X0_sumAt
set_option maxRecDepth 20000 in
theorem ggX0_at_X0_bestPeriod : GoodIn wsX0_at wsX0_bestPeriod := goodIn_r _ [32, 7, 33, 34, 35, 4, 36, 6, 37, 38, 39, 40, 11, 12, 13, 14, 15, 16, 17, 18, 41, 42, 43, 44, 45, 46, 47, 48, 49, 50, 51, 52, 53, 54, 55, 56, 57, 58, 59, 60, 61, 62, 63] (by decide +kernel) (by decide +kernel)
set_option maxRecDepth 20000 in
theorem gX0_at_X0_bestPeriod : GoodIn wsX0_at (wsV RX0 51 RX0 yX0_bestPeriod wsX0_bestPeriod) := goodIn_app (goodIn_of _ (by decide +kernel)) ggX0_at_X0_bestPeriod
set_option maxRecDepth 20000 in
theorem ggX0_at_X0_backgroundAt : GoodIn wsX0_at wsX0_backgroundAt := goodIn_r _ [44, 7, 45, 46, 4, 47, 48, 49, 50, 51, 11, 12, 13, 14, 15, 16, 17, 18, 52, 53, 54, 55, 56, 57, 58, 59, 60, 61, 62, 63] (by decide +kernel) (by decide +kernel)
set_option maxRecDepth 20000 in
theorem gX0_at_X0_backgroundAt : GoodIn wsX0_at (wsV RX0 55 RX0 yX0_backgroundAt wsX0_backgroundAt) := goodIn_app (goodIn_of _ (by decide +kernel)) ggX0_at_X0_backgroundAt
theorem dX0_at_0 : decode cX0_at 0 = .ok (.aload_n 0, 1) := by decide +kernel
theorem dX0_at_1 : decode cX0_at 1 = .ok (.iload_n 1, 1) := by decide +kernel
theorem dX0_at_2 : decode cX0_at 2 = .ok (.iload_n 2, 1) := by decide +kernel
theorem dX0_at_3 : decode cX0_at 3 = .ok (.invokevirtual 37, 3) := by decide +kernel
theorem dX0_at_6 : decode cX0_at 6 = .ok (.ifCond .ne 5, 3) := by decide +kernel
theorem dX0_at_9 : decode cX0_at 9 = .ok (.iconst (-1), 1) := by decide +kernel
theorem dX0_at_10 : decode cX0_at 10 = .ok (.ireturn, 1) := by decide +kernel
theorem dX0_at_11 : decode cX0_at 11 = .ok (.iload_n 3, 1) := by decide +kernel
theorem dX0_at_12 : decode cX0_at 12 = .ok (.tableswitch 53 0 2 #[28, 35, 42], 28) := by decide +kernel
theorem dX0_at_40 : decode cX0_at 40 = .ok (.aload_n 0, 1) := by decide +kernel
theorem dX0_at_41 : decode cX0_at 41 = .ok (.iload_n 1, 1) := by decide +kernel
theorem dX0_at_42 : decode cX0_at 42 = .ok (.iload_n 2, 1) := by decide +kernel
theorem dX0_at_43 : decode cX0_at 43 = .ok (.invokevirtual 41, 3) := by decide +kernel
theorem dX0_at_46 : decode cX0_at 46 = .ok (.ireturn, 1) := by decide +kernel
theorem dX0_at_47 : decode cX0_at 47 = .ok (.aload_n 0, 1) := by decide +kernel
theorem dX0_at_48 : decode cX0_at 48 = .ok (.iload_n 1, 1) := by decide +kernel
theorem dX0_at_49 : decode cX0_at 49 = .ok (.iload_n 2, 1) := by decide +kernel
theorem dX0_at_50 : decode cX0_at 50 = .ok (.invokevirtual 48, 3) := by decide +kernel
theorem dX0_at_53 : decode cX0_at 53 = .ok (.ireturn, 1) := by decide +kernel
theorem dX0_at_54 : decode cX0_at 54 = .ok (.aload_n 0, 1) := by decide +kernel
theorem dX0_at_55 : decode cX0_at 55 = .ok (.aload_n 0, 1) := by decide +kernel
theorem dX0_at_56 : decode cX0_at 56 = .ok (.invokevirtual 51, 3) := by decide +kernel
theorem dX0_at_59 : decode cX0_at 59 = .ok (.iload_n 1, 1) := by decide +kernel
theorem dX0_at_60 : decode cX0_at 60 = .ok (.iload_n 2, 1) := by decide +kernel
theorem dX0_at_61 : decode cX0_at 61 = .ok (.invokevirtual 55, 3) := by decide +kernel
theorem dX0_at_64 : decode cX0_at 64 = .ok (.ireturn, 1) := by decide +kernel
theorem dX0_at_65 : decode cX0_at 65 = .ok (.iconst (-1), 1) := by decide +kernel
theorem dX0_at_66 : decode cX0_at 66 = .ok (.ireturn, 1) := by decide +kernel
set_option maxRecDepth 20000 in
theorem ggX0_number_X0_isNumber : GoodIn wsX0_number wsX0_isNumber := goodIn_r _ [6, 7, 8, 9, 5, 10, 11, 12, 13, 14, 15, 16, 17, 18, 19, 20, 24, 25, 26, 27, 28, 29, 30, 31, 32, 33, 34, 35] (by decide +kernel) (by decide +kernel)
set_option maxRecDepth 20000 in
theorem gX0_number_X0_isNumber : GoodIn wsX0_number (wsV RX0 59 RX0 yX0_isNumber wsX0_isNumber) := goodIn_app (goodIn_of _ (by decide +kernel)) ggX0_number_X0_isNumber
set_option maxRecDepth 20000 in
theorem ggX0_number_X0_place : GoodIn wsX0_number wsX0_place := goodIn_r _ [23] (by decide +kernel) (by decide +kernel)
set_option maxRecDepth 20000 in
theorem gX0_number_X0_place : GoodIn wsX0_number (va_wsS RX0 62 yX0_place wsX0_place) := goodIn_app (goodIn_of _ (by decide +kernel)) ggX0_number_X0_place
theorem dX0_number_0 : decode cX0_number 0 = .ok (.aload_n 0, 1) := by decide +kernel
theorem dX0_number_1 : decode cX0_number 1 = .ok (.iload_n 1, 1) := by decide +kernel
theorem dX0_number_2 : decode cX0_number 2 = .ok (.iload_n 2, 1) := by decide +kernel
theorem dX0_number_3 : decode cX0_number 3 = .ok (.iload_n 3, 1) := by decide +kernel
theorem dX0_number_4 : decode cX0_number 4 = .ok (.invokevirtual 59, 3) := by decide +kernel
theorem dX0_number_7 : decode cX0_number 7 = .ok (.ifCond .ne 5, 3) := by decide +kernel
theorem dX0_number_10 : decode cX0_number 10 = .ok (.iconst (-1), 1) := by decide +kernel
theorem dX0_number_11 : decode cX0_number 11 = .ok (.ireturn, 1) := by decide +kernel
theorem dX0_number_12 : decode cX0_number 12 = .ok (.aload_n 0, 1) := by decide +kernel
theorem dX0_number_13 : decode cX0_number 13 = .ok (.getfield 13, 3) := by decide +kernel
theorem dX0_number_16 : decode cX0_number 16 = .ok (.iload_n 1, 1) := by decide +kernel
theorem dX0_number_17 : decode cX0_number 17 = .ok (.iload_n 2, 1) := by decide +kernel
theorem dX0_number_18 : decode cX0_number 18 = .ok (.iload_n 3, 1) := by decide +kernel
theorem dX0_number_19 : decode cX0_number 19 = .ok (.invokestatic 62, 3) := by decide +kernel
theorem dX0_number_22 : decode cX0_number 22 = .ok (.iaload, 1) := by decide +kernel
theorem dX0_number_23 : decode cX0_number 23 = .ok (.ireturn, 1) := by decide +kernel
set_option maxRecDepth 20000 in
theorem ggX0_begin_X0_isNumber : GoodIn wsX0_begin wsX0_isNumber := goodIn_r _ [6, 7, 8, 9, 5, 10, 11, 12, 13, 14, 15, 16, 17, 18, 19, 20, 29, 30, 31, 32, 33, 34, 35, 36, 37, 38, 39, 40] (by decide +kernel) (by decide +kernel)
set_option maxRecDepth 20000 in
theorem gX0_begin_X0_isNumber : GoodIn wsX0_begin (wsV RX0 59 RX0 yX0_isNumber wsX0_isNumber) := goodIn_app (goodIn_of _ (by decide +kernel)) ggX0_begin_X0_isNumber
set_option maxRecDepth 20000 in
theorem ggX0_begin_X0_within : GoodIn wsX0_begin wsX0_within := goodIn_r _ [14] (by decide +kernel) (by decide +kernel)
set_option maxRecDepth 20000 in
theorem gX0_begin_X0_within : GoodIn wsX0_begin (va_wsS RX0 33 yX0_within wsX0_within) := goodIn_app (goodIn_of _ (by decide +kernel)) ggX0_begin_X0_within
set_option maxRecDepth 20000 in
theorem ggX0_begin_X0_place : GoodIn wsX0_begin wsX0_place := goodIn_r _ [23] (by decide +kernel) (by decide +kernel)
set_option maxRecDepth 20000 in
theorem gX0_begin_X0_place : GoodIn wsX0_begin (va_wsS RX0 62 yX0_place wsX0_place) := goodIn_app (goodIn_of _ (by decide +kernel)) ggX0_begin_X0_place
set_option maxRecDepth 20000 in
theorem ggX0_begin_X0_isBarred : GoodIn wsX0_begin wsX0_isBarred := goodIn_r _ [27, 28, 29, 30, 31, 32, 33, 34, 35, 36, 37, 38, 39, 40] (by decide +kernel) (by decide +kernel)
set_option maxRecDepth 20000 in
theorem gX0_begin_X0_isBarred : GoodIn wsX0_begin (wsV RX0 65 RX0 yX0_isBarred wsX0_isBarred) := goodIn_app (goodIn_of _ (by decide +kernel)) ggX0_begin_X0_isBarred
theorem dX0_begin_0 : decode cX0_begin 0 = .ok (.aload_n 0, 1) := by decide +kernel
theorem dX0_begin_1 : decode cX0_begin 1 = .ok (.iload_n 1, 1) := by decide +kernel
theorem dX0_begin_2 : decode cX0_begin 2 = .ok (.iload_n 2, 1) := by decide +kernel
theorem dX0_begin_3 : decode cX0_begin 3 = .ok (.iload_n 3, 1) := by decide +kernel
theorem dX0_begin_4 : decode cX0_begin 4 = .ok (.invokevirtual 59, 3) := by decide +kernel
theorem dX0_begin_7 : decode cX0_begin 7 = .ok (.ifCond .eq 14, 3) := by decide +kernel
theorem dX0_begin_10 : decode cX0_begin 10 = .ok (.iload 4, 2) := by decide +kernel
theorem dX0_begin_12 : decode cX0_begin 12 = .ok (.iconst 0, 1) := by decide +kernel
theorem dX0_begin_13 : decode cX0_begin 13 = .ok (.bipush 20, 2) := by decide +kernel
theorem dX0_begin_15 : decode cX0_begin 15 = .ok (.invokestatic 33, 3) := by decide +kernel
theorem dX0_begin_18 : decode cX0_begin 18 = .ok (.ifCond .ne 5, 3) := by decide +kernel
theorem dX0_begin_21 : decode cX0_begin 21 = .ok (.iconst (-1), 1) := by decide +kernel
theorem dX0_begin_22 : decode cX0_begin 22 = .ok (.ireturn, 1) := by decide +kernel
theorem dX0_begin_23 : decode cX0_begin 23 = .ok (.iload_n 1, 1) := by decide +kernel
theorem dX0_begin_24 : decode cX0_begin 24 = .ok (.iload_n 2, 1) := by decide +kernel
theorem dX0_begin_25 : decode cX0_begin 25 = .ok (.iload_n 3, 1) := by decide +kernel
theorem dX0_begin_26 : decode cX0_begin 26 = .ok (.invokestatic 62, 3) := by decide +kernel
theorem dX0_begin_29 : decode cX0_begin 29 = .ok (.istore 5, 2) := by decide +kernel
theorem dX0_begin_31 : decode cX0_begin 31 = .ok (.aload_n 0, 1) := by decide +kernel
theorem dX0_begin_32 : decode cX0_begin 32 = .ok (.iload 5, 2) := by decide +kernel
theorem dX0_begin_34 : decode cX0_begin 34 = .ok (.invokevirtual 65, 3) := by decide +kernel
theorem dX0_begin_37 : decode cX0_begin 37 = .ok (.ifCond .eq 6, 3) := by decide +kernel
theorem dX0_begin_40 : decode cX0_begin 40 = .ok (.bipush (-2), 2) := by decide +kernel
theorem dX0_begin_42 : decode cX0_begin 42 = .ok (.ireturn, 1) := by decide +kernel
theorem dX0_begin_43 : decode cX0_begin 43 = .ok (.aload_n 0, 1) := by decide +kernel
theorem dX0_begin_44 : decode cX0_begin 44 = .ok (.getfield 13, 3) := by decide +kernel
theorem dX0_begin_47 : decode cX0_begin 47 = .ok (.iload 5, 2) := by decide +kernel
theorem dX0_begin_49 : decode cX0_begin 49 = .ok (.iaload, 1) := by decide +kernel
theorem dX0_begin_50 : decode cX0_begin 50 = .ok (.istore 6, 2) := by decide +kernel
theorem dX0_begin_52 : decode cX0_begin 52 = .ok (.aload_n 0, 1) := by decide +kernel
theorem dX0_begin_53 : decode cX0_begin 53 = .ok (.getfield 13, 3) := by decide +kernel
theorem dX0_begin_56 : decode cX0_begin 56 = .ok (.iload 5, 2) := by decide +kernel
theorem dX0_begin_58 : decode cX0_begin 58 = .ok (.iload 4, 2) := by decide +kernel
theorem dX0_begin_60 : decode cX0_begin 60 = .ok (.iastore, 1) := by decide +kernel
theorem dX0_begin_61 : decode cX0_begin 61 = .ok (.iload 6, 2) := by decide +kernel
theorem dX0_begin_63 : decode cX0_begin 63 = .ok (.ireturn, 1) := by decide +kernel
set_option maxRecDepth 20000 in
theorem ggX0_bar_X0_isNumber : GoodIn wsX0_bar wsX0_isNumber := goodIn_r _ [7, 8, 9, 10, 6, 11, 12, 13, 14, 15, 16, 17, 18, 19, 20, 21, 29, 30, 31, 32, 33, 34, 35, 36, 37, 38, 39, 40] (by decide +kernel) (by decide +kernel)
set_option maxRecDepth 20000 in
theorem gX0_bar_X0_isNumber : GoodIn wsX0_bar (wsV RX0 59 RX0 yX0_isNumber wsX0_isNumber) := goodIn_app (goodIn_of _ (by decide +kernel)) ggX0_bar_X0_isNumber
set_option maxRecDepth 20000 in
theorem ggX0_bar_X0_place : GoodIn wsX0_bar wsX0_place := goodIn_r _ [24] (by decide +kernel) (by decide +kernel)
set_option maxRecDepth 20000 in
theorem gX0_bar_X0_place : GoodIn wsX0_bar (va_wsS RX0 62 yX0_place wsX0_place) := goodIn_app (goodIn_of _ (by decide +kernel)) ggX0_bar_X0_place
set_option maxRecDepth 20000 in
theorem ggX0_bar_X0_isBarred : GoodIn wsX0_bar wsX0_isBarred := goodIn_r _ [28, 2, 29, 30, 31, 32, 33, 34, 35, 36, 37, 38, 39, 40] (by decide +kernel) (by decide +kernel)
set_option maxRecDepth 20000 in
theorem gX0_bar_X0_isBarred : GoodIn wsX0_bar (wsV RX0 65 RX0 yX0_isBarred wsX0_isBarred) := goodIn_app (goodIn_of _ (by decide +kernel)) ggX0_bar_X0_isBarred
theorem dX0_bar_0 : decode cX0_bar 0 = .ok (.aload_n 0, 1) := by decide +kernel
theorem dX0_bar_1 : decode cX0_bar 1 = .ok (.iload_n 1, 1) := by decide +kernel
theorem dX0_bar_2 : decode cX0_bar 2 = .ok (.iload_n 2, 1) := by decide +kernel
theorem dX0_bar_3 : decode cX0_bar 3 = .ok (.iload_n 3, 1) := by decide +kernel
theorem dX0_bar_4 : decode cX0_bar 4 = .ok (.invokevirtual 59, 3) := by decide +kernel
theorem dX0_bar_7 : decode cX0_bar 7 = .ok (.ifCond .ne 5, 3) := by decide +kernel
theorem dX0_bar_10 : decode cX0_bar 10 = .ok (.iconst (-1), 1) := by decide +kernel
theorem dX0_bar_11 : decode cX0_bar 11 = .ok (.ireturn, 1) := by decide +kernel
theorem dX0_bar_12 : decode cX0_bar 12 = .ok (.iload_n 1, 1) := by decide +kernel
theorem dX0_bar_13 : decode cX0_bar 13 = .ok (.iload_n 2, 1) := by decide +kernel
theorem dX0_bar_14 : decode cX0_bar 14 = .ok (.iload_n 3, 1) := by decide +kernel
theorem dX0_bar_15 : decode cX0_bar 15 = .ok (.invokestatic 62, 3) := by decide +kernel
theorem dX0_bar_18 : decode cX0_bar 18 = .ok (.istore 4, 2) := by decide +kernel
theorem dX0_bar_20 : decode cX0_bar 20 = .ok (.aload_n 0, 1) := by decide +kernel
theorem dX0_bar_21 : decode cX0_bar 21 = .ok (.iload 4, 2) := by decide +kernel
theorem dX0_bar_23 : decode cX0_bar 23 = .ok (.invokevirtual 65, 3) := by decide +kernel
theorem dX0_bar_26 : decode cX0_bar 26 = .ok (.ifCond .eq 6, 3) := by decide +kernel
theorem dX0_bar_29 : decode cX0_bar 29 = .ok (.bipush (-2), 2) := by decide +kernel
theorem dX0_bar_31 : decode cX0_bar 31 = .ok (.ireturn, 1) := by decide +kernel
theorem dX0_bar_32 : decode cX0_bar 32 = .ok (.aload_n 0, 1) := by decide +kernel
theorem dX0_bar_33 : decode cX0_bar 33 = .ok (.getfield 13, 3) := by decide +kernel
theorem dX0_bar_36 : decode cX0_bar 36 = .ok (.iload 4, 2) := by decide +kernel
theorem dX0_bar_38 : decode cX0_bar 38 = .ok (.iaload, 1) := by decide +kernel
theorem dX0_bar_39 : decode cX0_bar 39 = .ok (.istore 5, 2) := by decide +kernel
theorem dX0_bar_41 : decode cX0_bar 41 = .ok (.aload_n 0, 1) := by decide +kernel
theorem dX0_bar_42 : decode cX0_bar 42 = .ok (.getfield 13, 3) := by decide +kernel
theorem dX0_bar_45 : decode cX0_bar 45 = .ok (.iload 4, 2) := by decide +kernel
theorem dX0_bar_47 : decode cX0_bar 47 = .ok (.iconst 0, 1) := by decide +kernel
theorem dX0_bar_48 : decode cX0_bar 48 = .ok (.iastore, 1) := by decide +kernel
theorem dX0_bar_49 : decode cX0_bar 49 = .ok (.aload_n 0, 1) := by decide +kernel
theorem dX0_bar_50 : decode cX0_bar 50 = .ok (.dup, 1) := by decide +kernel
theorem dX0_bar_51 : decode cX0_bar 51 = .ok (.getfield 69, 3) := by decide +kernel
theorem dX0_bar_54 : decode cX0_bar 54 = .ok (.lconst 1, 1) := by decide +kernel
theorem dX0_bar_55 : decode cX0_bar 55 = .ok (.iload 4, 2) := by decide +kernel
theorem dX0_bar_57 : decode cX0_bar 57 = .ok (.lshl, 1) := by decide +kernel
theorem dX0_bar_58 : decode cX0_bar 58 = .ok (.lor, 1) := by decide +kernel
theorem dX0_bar_59 : decode cX0_bar 59 = .ok (.putfield 69, 3) := by decide +kernel
theorem dX0_bar_62 : decode cX0_bar 62 = .ok (.iload 5, 2) := by decide +kernel
theorem dX0_bar_64 : decode cX0_bar 64 = .ok (.ireturn, 1) := by decide +kernel
set_option maxRecDepth 20000 in
theorem ggX0_judge_X0_isKind : GoodIn wsX0_judge wsX0_isKind := goodIn_r _ [5, 6, 7, 4, 8] (by decide +kernel) (by decide +kernel)
set_option maxRecDepth 20000 in
theorem gX0_judge_X0_isKind : GoodIn wsX0_judge (va_wsS RX0 73 yX0_isKind wsX0_isKind) := goodIn_app (goodIn_of _ (by decide +kernel)) ggX0_judge_X0_isKind
theorem dX0_judge_0 : decode cX0_judge 0 = .ok (.iload_n 1, 1) := by decide +kernel
theorem dX0_judge_1 : decode cX0_judge 1 = .ok (.invokestatic 73, 3) := by decide +kernel
theorem dX0_judge_4 : decode cX0_judge 4 = .ok (.ifCond .ne 5, 3) := by decide +kernel
theorem dX0_judge_7 : decode cX0_judge 7 = .ok (.iconst (-1), 1) := by decide +kernel
theorem dX0_judge_8 : decode cX0_judge 8 = .ok (.ireturn, 1) := by decide +kernel
theorem dX0_judge_9 : decode cX0_judge 9 = .ok (.aload_n 0, 1) := by decide +kernel
theorem dX0_judge_10 : decode cX0_judge 10 = .ok (.getfield 29, 3) := by decide +kernel
theorem dX0_judge_13 : decode cX0_judge 13 = .ok (.istore_n 2, 1) := by decide +kernel
theorem dX0_judge_14 : decode cX0_judge 14 = .ok (.aload_n 0, 1) := by decide +kernel
theorem dX0_judge_15 : decode cX0_judge 15 = .ok (.iload_n 1, 1) := by decide +kernel
theorem dX0_judge_16 : decode cX0_judge 16 = .ok (.putfield 29, 3) := by decide +kernel
theorem dX0_judge_19 : decode cX0_judge 19 = .ok (.iload_n 2, 1) := by decide +kernel
theorem dX0_judge_20 : decode cX0_judge 20 = .ok (.ireturn, 1) := by decide +kernel
set_option maxRecDepth 20000 in
theorem ggX0_cost_X0_isKind : GoodIn wsX0_cost wsX0_isKind := goodIn_r _ [5, 6, 7, 4, 8] (by decide +kernel) (by decide +kernel)
set_option maxRecDepth 20000 in
theorem gX0_cost_X0_isKind : GoodIn wsX0_cost (va_wsS RX0 73 yX0_isKind wsX0_isKind) := goodIn_app (goodIn_of _ (by decide +kernel)) ggX0_cost_X0_isKind
set_option maxRecDepth 20000 in
theorem ggX0_cost_X0_within : GoodIn wsX0_cost wsX0_within := goodIn_r _ [8] (by decide +kernel) (by decide +kernel)
set_option maxRecDepth 20000 in
theorem gX0_cost_X0_within : GoodIn wsX0_cost (va_wsS RX0 33 yX0_within wsX0_within) := goodIn_app (goodIn_of _ (by decide +kernel)) ggX0_cost_X0_within
set_option maxRecDepth 20000 in
theorem ggX0_cost_X0_traceOfKind : GoodIn wsX0_cost wsX0_traceOfKind := goodIn_r _ [11] (by decide +kernel) (by decide +kernel)
set_option maxRecDepth 20000 in
theorem gX0_cost_X0_traceOfKind : GoodIn wsX0_cost (va_wsS RX0 79 yX0_traceOfKind wsX0_traceOfKind) := goodIn_app (goodIn_of _ (by decide +kernel)) ggX0_cost_X0_traceOfKind
set_option maxRecDepth 20000 in
theorem ggX0_cost_X0_costBy : GoodIn wsX0_cost wsX0_costBy := goodIn_r _ [14] (by decide +kernel) (by decide +kernel)
set_option maxRecDepth 20000 in
theorem gX0_cost_X0_costBy : GoodIn wsX0_cost (va_wsS RX0 83 yX0_costBy wsX0_costBy) := goodIn_app (goodIn_of _ (by decide +kernel)) ggX0_cost_X0_costBy
theorem dX0_cost_0 : decode cX0_cost 0 = .ok (.iload_n 1, 1) := by decide +kernel
theorem dX0_cost_1 : decode cX0_cost 1 = .ok (.invokestatic 73, 3) := by decide +kernel
theorem dX0_cost_4 : decode cX0_cost 4 = .ok (.ifCond .eq 14, 3) := by decide +kernel
theorem dX0_cost_7 : decode cX0_cost 7 = .ok (.iload_n 2, 1) := by decide +kernel
theorem dX0_cost_8 : decode cX0_cost 8 = .ok (.iconst 0, 1) := by decide +kernel
theorem dX0_cost_9 : decode cX0_cost 9 = .ok (.sipush 2000, 3) := by decide +kernel
theorem dX0_cost_12 : decode cX0_cost 12 = .ok (.invokestatic 33, 3) := by decide +kernel
theorem dX0_cost_15 : decode cX0_cost 15 = .ok (.ifCond .ne 5, 3) := by decide +kernel
theorem dX0_cost_18 : decode cX0_cost 18 = .ok (.iconst (-1), 1) := by decide +kernel
theorem dX0_cost_19 : decode cX0_cost 19 = .ok (.ireturn, 1) := by decide +kernel
theorem dX0_cost_20 : decode cX0_cost 20 = .ok (.aload_n 0, 1) := by decide +kernel
theorem dX0_cost_21 : decode cX0_cost 21 = .ok (.dup, 1) := by decide +kernel
theorem dX0_cost_22 : decode cX0_cost 22 = .ok (.getfield 76, 3) := by decide +kernel
theorem dX0_cost_25 : decode cX0_cost 25 = .ok (.iload_n 1, 1) := by decide +kernel
theorem dX0_cost_26 : decode cX0_cost 26 = .ok (.invokestatic 79, 3) := by decide +kernel
theorem dX0_cost_29 : decode cX0_cost 29 = .ok (.i2l, 1) := by decide +kernel
theorem dX0_cost_30 : decode cX0_cost 30 = .ok (.ladd, 1) := by decide +kernel
theorem dX0_cost_31 : decode cX0_cost 31 = .ok (.putfield 76, 3) := by decide +kernel
theorem dX0_cost_34 : decode cX0_cost 34 = .ok (.iload_n 1, 1) := by decide +kernel
theorem dX0_cost_35 : decode cX0_cost 35 = .ok (.iload_n 2, 1) := by decide +kernel
theorem dX0_cost_36 : decode cX0_cost 36 = .ok (.invokestatic 83, 3) := by decide +kernel
theorem dX0_cost_39 : decode cX0_cost 39 = .ok (.ireturn, 1) := by decide +kernel
set_option maxRecDepth 20000 in
theorem ggX0_miss_X0_missAlong : GoodIn wsX0_miss wsX0_missAlong := goodIn_r _ [6, 7, 8, 9, 5, 10, 1, 11, 12, 13, 14, 15, 16, 17, 18, 19, 20, 21, 22, 23, 24, 25, 26, 27, 28, 29, 30, 31, 32, 33, 34, 35, 36, 37, 38, 39, 40, 41, 42, 43, 44, 45, 46, 47, 48, 49, 50, 51, 52, 53] (by decide +kernel) (by decide +kernel)
set_option maxRecDepth 20000 in
theorem gX0_miss_X0_missAlong : GoodIn wsX0_miss (wsV RX0 89 RX0 yX0_missAlong wsX0_missAlong) := goodIn_app (goodIn_of _ (by decide +kernel)) ggX0_miss_X0_missAlong
theorem dX0_miss_0 : decode cX0_miss 0 = .ok (.iconst 0, 1) := by decide +kernel
theorem dX0_miss_1 : decode cX0_miss 1 = .ok (.istore_n 1, 1) := by decide +kernel
theorem dX0_miss_2 : decode cX0_miss 2 = .ok (.iconst 0, 1) := by decide +kernel
theorem dX0_miss_3 : decode cX0_miss 3 = .ok (.istore_n 2, 1) := by decide +kernel
theorem dX0_miss_4 : decode cX0_miss 4 = .ok (.iload_n 2, 1) := by decide +kernel
theorem dX0_miss_5 : decode cX0_miss 5 = .ok (.aload_n 0, 1) := by decide +kernel
theorem dX0_miss_6 : decode cX0_miss 6 = .ok (.getfield 86, 3) := by decide +kernel
theorem dX0_miss_9 : decode cX0_miss 9 = .ok (.if_icmp .ge 18, 3) := by decide +kernel
theorem dX0_miss_12 : decode cX0_miss 12 = .ok (.iload_n 1, 1) := by decide +kernel
theorem dX0_miss_13 : decode cX0_miss 13 = .ok (.aload_n 0, 1) := by decide +kernel
theorem dX0_miss_14 : decode cX0_miss 14 = .ok (.iconst 0, 1) := by decide +kernel
theorem dX0_miss_15 : decode cX0_miss 15 = .ok (.iload_n 2, 1) := by decide +kernel
theorem dX0_miss_16 : decode cX0_miss 16 = .ok (.invokevirtual 89, 3) := by decide +kernel
theorem dX0_miss_19 : decode cX0_miss 19 = .ok (.iadd, 1) := by decide +kernel
theorem dX0_miss_20 : decode cX0_miss 20 = .ok (.istore_n 1, 1) := by decide +kernel
theorem dX0_miss_21 : decode cX0_miss 21 = .ok (.iinc 2 1, 3) := by decide +kernel
theorem dX0_miss_24 : decode cX0_miss 24 = .ok (.goto (-20), 3) := by decide +kernel
theorem dX0_miss_27 : decode cX0_miss 27 = .ok (.iload_n 1, 1) := by decide +kernel
theorem dX0_miss_28 : decode cX0_miss 28 = .ok (.ireturn, 1) := by decide +kernel
set_option maxRecDepth 20000 in
theorem ggX0_rounds_X0_within : GoodIn wsX0_rounds wsX0_within := goodIn_r _ [5] (by decide +kernel) (by decide +kernel)
set_option maxRecDepth 20000 in
theorem gX0_rounds_X0_within : GoodIn wsX0_rounds (va_wsS RX0 33 yX0_within wsX0_within) := goodIn_app (goodIn_of _ (by decide +kernel)) ggX0_rounds_X0_within
set_option maxRecDepth 20000 in
theorem ggX0_rounds_X0_playRound : GoodIn wsX0_rounds wsX0_playRound := goodIn_r _ [9, 10, 11, 12, 13, 4, 14, 15, 16, 17, 18, 19, 20, 21, 22, 23, 24, 25, 26, 27, 28, 29, 30, 31, 32, 33, 34, 35, 36, 37, 38, 39, 40, 41, 42, 43, 44, 45, 46, 47, 48, 49, 50, 51, 52, 53, 54, 55, 56, 57, 58, 59, 60, 61, 2, 3, 5, 66, 67, 68, 69, 70, 71, 72, 73, 74, 75, 76, 77] (by decide +kernel) (by decide +kernel)
set_option maxRecDepth 20000 in
theorem gX0_rounds_X0_playRound : GoodIn wsX0_rounds (wsV RX0 92 RX0 yX0_playRound wsX0_playRound) := goodIn_app (goodIn_of _ (by decide +kernel)) ggX0_rounds_X0_playRound
set_option maxRecDepth 20000 in
theorem ggX0_rounds_X0_miss : GoodIn wsX0_rounds wsX0_miss := goodIn_r _ [65, 15, 30, 31, 32, 4, 33, 11, 12, 13, 14, 16, 34, 35, 36, 37, 38, 39, 40, 41, 42, 43, 44, 45, 46, 47, 48, 49, 50, 51, 52, 53, 54, 10, 55, 56, 57, 58, 21, 59, 60, 61, 66, 67, 68, 69, 70, 71, 72, 73, 74, 75, 76, 77] (by decide +kernel) (by decide +kernel)
set_option maxRecDepth 20000 in
theorem gX0_rounds_X0_miss : GoodIn wsX0_rounds (wsV RX0 98 RX0 yX0_miss wsX0_miss) := goodIn_app (goodIn_of _ (by decide +kernel)) ggX0_rounds_X0_miss
theorem dX0_rounds_0 : decode cX0_rounds 0 = .ok (.iload_n 1, 1) := by decide +kernel
theorem dX0_rounds_1 : decode cX0_rounds 1 = .ok (.iconst 1, 1) := by decide +kernel
theorem dX0_rounds_2 : decode cX0_rounds 2 = .ok (.bipush 10, 2) := by decide +kernel
theorem dX0_rounds_4 : decode cX0_rounds 4 = .ok (.invokestatic 33, 3) := by decide +kernel
theorem dX0_rounds_7 : decode cX0_rounds 7 = .ok (.ifCond .ne 5, 3) := by decide +kernel
theorem dX0_rounds_10 : decode cX0_rounds 10 = .ok (.iconst (-1), 1) := by decide +kernel
theorem dX0_rounds_11 : decode cX0_rounds 11 = .ok (.ireturn, 1) := by decide +kernel
theorem dX0_rounds_12 : decode cX0_rounds 12 = .ok (.iconst 0, 1) := by decide +kernel
theorem dX0_rounds_13 : decode cX0_rounds 13 = .ok (.istore_n 2, 1) := by decide +kernel
theorem dX0_rounds_14 : decode cX0_rounds 14 = .ok (.iload_n 2, 1) := by decide +kernel
theorem dX0_rounds_15 : decode cX0_rounds 15 = .ok (.iload_n 1, 1) := by decide +kernel
theorem dX0_rounds_16 : decode cX0_rounds 16 = .ok (.if_icmp .ge 13, 3) := by decide +kernel
theorem dX0_rounds_19 : decode cX0_rounds 19 = .ok (.aload_n 0, 1) := by decide +kernel
theorem dX0_rounds_20 : decode cX0_rounds 20 = .ok (.invokevirtual 92, 3) := by decide +kernel
theorem dX0_rounds_23 : decode cX0_rounds 23 = .ok (.iinc 2 1, 3) := by decide +kernel
theorem dX0_rounds_26 : decode cX0_rounds 26 = .ok (.goto (-12), 3) := by decide +kernel
theorem dX0_rounds_29 : decode cX0_rounds 29 = .ok (.aload_n 0, 1) := by decide +kernel
theorem dX0_rounds_30 : decode cX0_rounds 30 = .ok (.dup, 1) := by decide +kernel
theorem dX0_rounds_31 : decode cX0_rounds 31 = .ok (.getfield 95, 3) := by decide +kernel
theorem dX0_rounds_34 : decode cX0_rounds 34 = .ok (.iload_n 1, 1) := by decide +kernel
theorem dX0_rounds_35 : decode cX0_rounds 35 = .ok (.iadd, 1) := by decide +kernel
theorem dX0_rounds_36 : decode cX0_rounds 36 = .ok (.putfield 95, 3) := by decide +kernel
theorem dX0_rounds_39 : decode cX0_rounds 39 = .ok (.aload_n 0, 1) := by decide +kernel
theorem dX0_rounds_40 : decode cX0_rounds 40 = .ok (.invokevirtual 98, 3) := by decide +kernel
theorem dX0_rounds_43 : decode cX0_rounds 43 = .ok (.ireturn, 1) := by decide +kernel
set_option maxRecDepth 20000 in
theorem ggX0_share_X0_isVoice : GoodIn wsX0_share wsX0_isVoice := goodIn_r _ [5, 6, 7, 8, 4, 9, 37, 38, 39, 40, 41, 42, 43, 44, 45, 46, 47, 48] (by decide +kernel) (by decide +kernel)
set_option maxRecDepth 20000 in
theorem gX0_share_X0_isVoice : GoodIn wsX0_share (wsV RX0 101 RX0 yX0_isVoice wsX0_isVoice) := goodIn_app (goodIn_of _ (by decide +kernel)) ggX0_share_X0_isVoice
set_option maxRecDepth 20000 in
theorem ggX0_share_X0_isCell : GoodIn wsX0_share wsX0_isCell := goodIn_r _ [13, 14, 15, 7, 8, 4, 9, 37, 38, 39, 40, 41, 42, 43, 44, 45, 46, 47, 48] (by decide +kernel) (by decide +kernel)
set_option maxRecDepth 20000 in
theorem gX0_share_X0_isCell : GoodIn wsX0_share (wsV RX0 37 RX0 yX0_isCell wsX0_isCell) := goodIn_app (goodIn_of _ (by decide +kernel)) ggX0_share_X0_isCell
set_option maxRecDepth 20000 in
theorem ggX0_share_X0_shareAt : GoodIn wsX0_share wsX0_shareAt := goodIn_r _ [19, 6, 20, 21, 22, 4, 23, 24, 25, 26, 27, 28, 29, 30, 31, 32, 33, 34, 35, 36, 37, 38, 39, 40, 41, 42, 43, 44, 45, 46, 47, 48] (by decide +kernel) (by decide +kernel)
set_option maxRecDepth 20000 in
theorem gX0_share_X0_shareAt : GoodIn wsX0_share (wsV RX0 104 RX0 yX0_shareAt wsX0_shareAt) := goodIn_app (goodIn_of _ (by decide +kernel)) ggX0_share_X0_shareAt
theorem dX0_share_0 : decode cX0_share 0 = .ok (.aload_n 0, 1) := by decide +kernel
theorem dX0_share_1 : decode cX0_share 1 = .ok (.iload_n 1, 1) := by decide +kernel
theorem dX0_share_2 : decode cX0_share 2 = .ok (.invokevirtual 101, 3) := by decide +kernel
theorem dX0_share_5 : decode cX0_share 5 = .ok (.ifCond .eq 12, 3) := by decide +kernel
theorem dX0_share_8 : decode cX0_share 8 = .ok (.aload_n 0, 1) := by decide +kernel
theorem dX0_share_9 : decode cX0_share 9 = .ok (.iload_n 2, 1) := by decide +kernel
theorem dX0_share_10 : decode cX0_share 10 = .ok (.iload_n 3, 1) := by decide +kernel
theorem dX0_share_11 : decode cX0_share 11 = .ok (.invokevirtual 37, 3) := by decide +kernel
theorem dX0_share_14 : decode cX0_share 14 = .ok (.ifCond .ne 5, 3) := by decide +kernel
theorem dX0_share_17 : decode cX0_share 17 = .ok (.iconst (-1), 1) := by decide +kernel
theorem dX0_share_18 : decode cX0_share 18 = .ok (.ireturn, 1) := by decide +kernel
theorem dX0_share_19 : decode cX0_share 19 = .ok (.aload_n 0, 1) := by decide +kernel
theorem dX0_share_20 : decode cX0_share 20 = .ok (.iload_n 1, 1) := by decide +kernel
theorem dX0_share_21 : decode cX0_share 21 = .ok (.iload_n 2, 1) := by decide +kernel
theorem dX0_share_22 : decode cX0_share 22 = .ok (.iload_n 3, 1) := by decide +kernel
theorem dX0_share_23 : decode cX0_share 23 = .ok (.invokevirtual 104, 3) := by decide +kernel
theorem dX0_share_26 : decode cX0_share 26 = .ok (.ireturn, 1) := by decide +kernel
set_option maxRecDepth 20000 in
theorem ggX0_background_X0_within : GoodIn wsX0_background wsX0_within := goodIn_r _ [5] (by decide +kernel) (by decide +kernel)
set_option maxRecDepth 20000 in
theorem gX0_background_X0_within : GoodIn wsX0_background (va_wsS RX0 33 yX0_within wsX0_within) := goodIn_app (goodIn_of _ (by decide +kernel)) ggX0_background_X0_within
set_option maxRecDepth 20000 in
theorem ggX0_background_X0_isCell : GoodIn wsX0_background wsX0_isCell := goodIn_r _ [9, 10, 1, 2, 3, 4, 5, 30, 31, 32, 33, 34, 35, 36, 37, 38, 39, 40, 41] (by decide +kernel) (by decide +kernel)
set_option maxRecDepth 20000 in
theorem gX0_background_X0_isCell : GoodIn wsX0_background (wsV RX0 37 RX0 yX0_isCell wsX0_isCell) := goodIn_app (goodIn_of _ (by decide +kernel)) ggX0_background_X0_isCell
set_option maxRecDepth 20000 in
theorem ggX0_background_X0_backgroundAt : GoodIn wsX0_background wsX0_backgroundAt := goodIn_r _ [14, 1, 15, 16, 4, 17, 18, 19, 20, 21, 22, 23, 24, 25, 26, 27, 28, 29, 30, 31, 32, 33, 34, 35, 36, 37, 38, 39, 40, 41] (by decide +kernel) (by decide +kernel)
set_option maxRecDepth 20000 in
theorem gX0_background_X0_backgroundAt : GoodIn wsX0_background (wsV RX0 55 RX0 yX0_backgroundAt wsX0_backgroundAt) := goodIn_app (goodIn_of _ (by decide +kernel)) ggX0_background_X0_backgroundAt
theorem dX0_background_0 : decode cX0_background 0 = .ok (.iload_n 1, 1) := by decide +kernel
theorem dX0_background_1 : decode cX0_background 1 = .ok (.iconst 1, 1) := by decide +kernel
theorem dX0_background_2 : decode cX0_background 2 = .ok (.aload_n 0, 1) := by decide +kernel
theorem dX0_background_3 : decode cX0_background 3 = .ok (.getfield 107, 3) := by decide +kernel
theorem dX0_background_6 : decode cX0_background 6 = .ok (.invokestatic 33, 3) := by decide +kernel
theorem dX0_background_9 : decode cX0_background 9 = .ok (.ifCond .eq 12, 3) := by decide +kernel
theorem dX0_background_12 : decode cX0_background 12 = .ok (.aload_n 0, 1) := by decide +kernel
theorem dX0_background_13 : decode cX0_background 13 = .ok (.iload_n 2, 1) := by decide +kernel
theorem dX0_background_14 : decode cX0_background 14 = .ok (.iload_n 3, 1) := by decide +kernel
theorem dX0_background_15 : decode cX0_background 15 = .ok (.invokevirtual 37, 3) := by decide +kernel
theorem dX0_background_18 : decode cX0_background 18 = .ok (.ifCond .ne 5, 3) := by decide +kernel
theorem dX0_background_21 : decode cX0_background 21 = .ok (.iconst (-1), 1) := by decide +kernel
theorem dX0_background_22 : decode cX0_background 22 = .ok (.ireturn, 1) := by decide +kernel
theorem dX0_background_23 : decode cX0_background 23 = .ok (.aload_n 0, 1) := by decide +kernel
theorem dX0_background_24 : decode cX0_background 24 = .ok (.iload_n 1, 1) := by decide +kernel
theorem dX0_background_25 : decode cX0_background 25 = .ok (.iload_n 2, 1) := by decide +kernel
theorem dX0_background_26 : decode cX0_background 26 = .ok (.iload_n 3, 1) := by decide +kernel
theorem dX0_background_27 : decode cX0_background 27 = .ok (.invokevirtual 55, 3) := by decide +kernel
theorem dX0_background_30 : decode cX0_background 30 = .ok (.ireturn, 1) := by decide +kernel
set_option maxRecDepth 20000 in
theorem ggX0_period_X0_bestPeriod : GoodIn wsX0_period wsX0_bestPeriod := goodIn_r _ [5, 6, 7, 8, 9, 4, 10, 11, 12, 13, 14, 15, 16, 17, 18, 19, 20, 21, 22, 23, 24, 25, 26, 27, 28, 29, 30, 31, 32, 33, 34, 35, 36, 37, 38, 39, 40, 41, 42, 43, 44, 45, 46] (by decide +kernel) (by decide +kernel)
set_option maxRecDepth 20000 in
theorem gX0_period_X0_bestPeriod : GoodIn wsX0_period (wsV RX0 51 RX0 yX0_bestPeriod wsX0_bestPeriod) := goodIn_app (goodIn_of _ (by decide +kernel)) ggX0_period_X0_bestPeriod
theorem dX0_period_0 : decode cX0_period 0 = .ok (.aload_n 0, 1) := by decide +kernel
theorem dX0_period_1 : decode cX0_period 1 = .ok (.invokevirtual 51, 3) := by decide +kernel
theorem dX0_period_4 : decode cX0_period 4 = .ok (.ireturn, 1) := by decide +kernel
set_option maxRecDepth 20000 in
theorem ggX0_hear_X0_isRow : GoodIn wsX0_hear wsX0_isRow := goodIn_r _ [6, 7, 8, 5, 9] (by decide +kernel) (by decide +kernel)
set_option maxRecDepth 20000 in
theorem gX0_hear_X0_isRow : GoodIn wsX0_hear (va_wsS RX0 110 yX0_isRow wsX0_isRow) := goodIn_app (goodIn_of _ (by decide +kernel)) ggX0_hear_X0_isRow
set_option maxRecDepth 20000 in
theorem ggX0_hear_X0_within : GoodIn wsX0_hear wsX0_within := goodIn_r _ [9] (by decide +kernel) (by decide +kernel)
set_option maxRecDepth 20000 in
theorem gX0_hear_X0_within : GoodIn wsX0_hear (va_wsS RX0 33 yX0_within wsX0_within) := goodIn_app (goodIn_of _ (by decide +kernel)) ggX0_hear_X0_within
theorem dX0_hear_0 : decode cX0_hear 0 = .ok (.iload_n 1, 1) := by decide +kernel
theorem dX0_hear_1 : decode cX0_hear 1 = .ok (.invokestatic 110, 3) := by decide +kernel
theorem dX0_hear_4 : decode cX0_hear 4 = .ok (.ifCond .eq 16, 3) := by decide +kernel
theorem dX0_hear_7 : decode cX0_hear 7 = .ok (.iload_n 2, 1) := by decide +kernel
theorem dX0_hear_8 : decode cX0_hear 8 = .ok (.sipush (-1000), 3) := by decide +kernel
theorem dX0_hear_11 : decode cX0_hear 11 = .ok (.sipush 1000, 3) := by decide +kernel
theorem dX0_hear_14 : decode cX0_hear 14 = .ok (.invokestatic 33, 3) := by decide +kernel
theorem dX0_hear_17 : decode cX0_hear 17 = .ok (.ifCond .ne 5, 3) := by decide +kernel
theorem dX0_hear_20 : decode cX0_hear 20 = .ok (.iconst (-1), 1) := by decide +kernel
theorem dX0_hear_21 : decode cX0_hear 21 = .ok (.ireturn, 1) := by decide +kernel
theorem dX0_hear_22 : decode cX0_hear 22 = .ok (.aload_n 0, 1) := by decide +kernel
theorem dX0_hear_23 : decode cX0_hear 23 = .ok (.getfield 22, 3) := by decide +kernel
theorem dX0_hear_26 : decode cX0_hear 26 = .ok (.iload_n 1, 1) := by decide +kernel
theorem dX0_hear_27 : decode cX0_hear 27 = .ok (.iaload, 1) := by decide +kernel
theorem dX0_hear_28 : decode cX0_hear 28 = .ok (.istore_n 3, 1) := by decide +kernel
theorem dX0_hear_29 : decode cX0_hear 29 = .ok (.iload_n 3, 1) := by decide +kernel
theorem dX0_hear_30 : decode cX0_hear 30 = .ok (.bipush 8, 2) := by decide +kernel
theorem dX0_hear_32 : decode cX0_hear 32 = .ok (.if_icmp .lt 6, 3) := by decide +kernel
theorem dX0_hear_35 : decode cX0_hear 35 = .ok (.bipush (-3), 2) := by decide +kernel
theorem dX0_hear_37 : decode cX0_hear 37 = .ok (.ireturn, 1) := by decide +kernel
theorem dX0_hear_38 : decode cX0_hear 38 = .ok (.aload_n 0, 1) := by decide +kernel
theorem dX0_hear_39 : decode cX0_hear 39 = .ok (.getfield 19, 3) := by decide +kernel
theorem dX0_hear_42 : decode cX0_hear 42 = .ok (.iload_n 1, 1) := by decide +kernel
theorem dX0_hear_43 : decode cX0_hear 43 = .ok (.bipush 8, 2) := by decide +kernel
theorem dX0_hear_45 : decode cX0_hear 45 = .ok (.imul, 1) := by decide +kernel
theorem dX0_hear_46 : decode cX0_hear 46 = .ok (.iload_n 3, 1) := by decide +kernel
theorem dX0_hear_47 : decode cX0_hear 47 = .ok (.iadd, 1) := by decide +kernel
theorem dX0_hear_48 : decode cX0_hear 48 = .ok (.iload_n 2, 1) := by decide +kernel
theorem dX0_hear_49 : decode cX0_hear 49 = .ok (.iastore, 1) := by decide +kernel
theorem dX0_hear_50 : decode cX0_hear 50 = .ok (.aload_n 0, 1) := by decide +kernel
theorem dX0_hear_51 : decode cX0_hear 51 = .ok (.getfield 22, 3) := by decide +kernel
theorem dX0_hear_54 : decode cX0_hear 54 = .ok (.iload_n 1, 1) := by decide +kernel
theorem dX0_hear_55 : decode cX0_hear 55 = .ok (.iload_n 3, 1) := by decide +kernel
theorem dX0_hear_56 : decode cX0_hear 56 = .ok (.iconst 1, 1) := by decide +kernel
theorem dX0_hear_57 : decode cX0_hear 57 = .ok (.iadd, 1) := by decide +kernel
theorem dX0_hear_58 : decode cX0_hear 58 = .ok (.iastore, 1) := by decide +kernel
theorem dX0_hear_59 : decode cX0_hear 59 = .ok (.iload_n 3, 1) := by decide +kernel
theorem dX0_hear_60 : decode cX0_hear 60 = .ok (.iconst 1, 1) := by decide +kernel
theorem dX0_hear_61 : decode cX0_hear 61 = .ok (.iadd, 1) := by decide +kernel
theorem dX0_hear_62 : decode cX0_hear 62 = .ok (.ireturn, 1) := by decide +kernel
set_option maxRecDepth 20000 in
theorem ggX0_clear_X0_isRow : GoodIn wsX0_clear wsX0_isRow := goodIn_r _ [5, 6, 7, 4, 8] (by decide +kernel) (by decide +kernel)
set_option maxRecDepth 20000 in
theorem gX0_clear_X0_isRow : GoodIn wsX0_clear (va_wsS RX0 110 yX0_isRow wsX0_isRow) := goodIn_app (goodIn_of _ (by decide +kernel)) ggX0_clear_X0_isRow
theorem dX0_clear_0 : decode cX0_clear 0 = .ok (.iload_n 1, 1) := by decide +kernel
theorem dX0_clear_1 : decode cX0_clear 1 = .ok (.invokestatic 110, 3) := by decide +kernel
theorem dX0_clear_4 : decode cX0_clear 4 = .ok (.ifCond .ne 5, 3) := by decide +kernel
theorem dX0_clear_7 : decode cX0_clear 7 = .ok (.iconst (-1), 1) := by decide +kernel
theorem dX0_clear_8 : decode cX0_clear 8 = .ok (.ireturn, 1) := by decide +kernel
theorem dX0_clear_9 : decode cX0_clear 9 = .ok (.aload_n 0, 1) := by decide +kernel
theorem dX0_clear_10 : decode cX0_clear 10 = .ok (.getfield 22, 3) := by decide +kernel
theorem dX0_clear_13 : decode cX0_clear 13 = .ok (.iload_n 1, 1) := by decide +kernel
theorem dX0_clear_14 : decode cX0_clear 14 = .ok (.iaload, 1) := by decide +kernel
theorem dX0_clear_15 : decode cX0_clear 15 = .ok (.istore_n 2, 1) := by decide +kernel
theorem dX0_clear_16 : decode cX0_clear 16 = .ok (.aload_n 0, 1) := by decide +kernel
theorem dX0_clear_17 : decode cX0_clear 17 = .ok (.getfield 22, 3) := by decide +kernel
theorem dX0_clear_20 : decode cX0_clear 20 = .ok (.iload_n 1, 1) := by decide +kernel
theorem dX0_clear_21 : decode cX0_clear 21 = .ok (.iconst 0, 1) := by decide +kernel
theorem dX0_clear_22 : decode cX0_clear 22 = .ok (.iastore, 1) := by decide +kernel
theorem dX0_clear_23 : decode cX0_clear 23 = .ok (.iload_n 2, 1) := by decide +kernel
theorem dX0_clear_24 : decode cX0_clear 24 = .ok (.ireturn, 1) := by decide +kernel
set_option maxRecDepth 20000 in
theorem ggX0_later_X0_productsAt : GoodIn wsX0_later wsX0_productsAt := goodIn_r _ [10, 1, 11, 12, 13, 9, 14, 15, 16, 17, 18, 19, 20, 21, 22, 23, 24, 25, 26] (by decide +kernel) (by decide +kernel)
set_option maxRecDepth 20000 in
theorem gX0_later_X0_productsAt : GoodIn wsX0_later (wsV RX0 113 RX0 yX0_productsAt wsX0_productsAt) := goodIn_app (goodIn_of _ (by decide +kernel)) ggX0_later_X0_productsAt
theorem dX0_later_0 : decode cX0_later 0 = .ok (.aload_n 0, 1) := by decide +kernel
theorem dX0_later_1 : decode cX0_later 1 = .ok (.getfield 22, 3) := by decide +kernel
theorem dX0_later_4 : decode cX0_later 4 = .ok (.iconst 0, 1) := by decide +kernel
theorem dX0_later_5 : decode cX0_later 5 = .ok (.iaload, 1) := by decide +kernel
theorem dX0_later_6 : decode cX0_later 6 = .ok (.ifCond .eq 12, 3) := by decide +kernel
theorem dX0_later_9 : decode cX0_later 9 = .ok (.aload_n 0, 1) := by decide +kernel
theorem dX0_later_10 : decode cX0_later 10 = .ok (.getfield 22, 3) := by decide +kernel
theorem dX0_later_13 : decode cX0_later 13 = .ok (.iconst 1, 1) := by decide +kernel
theorem dX0_later_14 : decode cX0_later 14 = .ok (.iaload, 1) := by decide +kernel
theorem dX0_later_15 : decode cX0_later 15 = .ok (.ifCond .ne 6, 3) := by decide +kernel
theorem dX0_later_18 : decode cX0_later 18 = .ok (.bipush (-9), 2) := by decide +kernel
theorem dX0_later_20 : decode cX0_later 20 = .ok (.ireturn, 1) := by decide +kernel
theorem dX0_later_21 : decode cX0_later 21 = .ok (.bipush (-7), 2) := by decide +kernel
theorem dX0_later_23 : decode cX0_later 23 = .ok (.istore_n 1, 1) := by decide +kernel
theorem dX0_later_24 : decode cX0_later 24 = .ok (.aload_n 0, 1) := by decide +kernel
theorem dX0_later_25 : decode cX0_later 25 = .ok (.iload_n 1, 1) := by decide +kernel
theorem dX0_later_26 : decode cX0_later 26 = .ok (.invokevirtual 113, 3) := by decide +kernel
theorem dX0_later_29 : decode cX0_later 29 = .ok (.istore_n 2, 1) := by decide +kernel
theorem dX0_later_30 : decode cX0_later 30 = .ok (.iload_n 1, 1) := by decide +kernel
theorem dX0_later_31 : decode cX0_later 31 = .ok (.iconst 1, 1) := by decide +kernel
theorem dX0_later_32 : decode cX0_later 32 = .ok (.iadd, 1) := by decide +kernel
theorem dX0_later_33 : decode cX0_later 33 = .ok (.istore_n 3, 1) := by decide +kernel
theorem dX0_later_34 : decode cX0_later 34 = .ok (.iload_n 3, 1) := by decide +kernel
theorem dX0_later_35 : decode cX0_later 35 = .ok (.bipush 7, 2) := by decide +kernel
theorem dX0_later_37 : decode cX0_later 37 = .ok (.if_icmp .gt 56, 3) := by decide +kernel
theorem dX0_later_40 : decode cX0_later 40 = .ok (.aload_n 0, 1) := by decide +kernel
theorem dX0_later_41 : decode cX0_later 41 = .ok (.iload_n 3, 1) := by decide +kernel
theorem dX0_later_42 : decode cX0_later 42 = .ok (.invokevirtual 113, 3) := by decide +kernel
theorem dX0_later_45 : decode cX0_later 45 = .ok (.istore 4, 2) := by decide +kernel
theorem dX0_later_47 : decode cX0_later 47 = .ok (.iload_n 3, 1) := by decide +kernel
theorem dX0_later_48 : decode cX0_later 48 = .ok (.invokestatic 116, 3) := by decide +kernel
theorem dX0_later_51 : decode cX0_later 51 = .ok (.iload_n 1, 1) := by decide +kernel
theorem dX0_later_52 : decode cX0_later 52 = .ok (.invokestatic 116, 3) := by decide +kernel
theorem dX0_later_55 : decode cX0_later 55 = .ok (.if_icmp .ge 7, 3) := by decide +kernel
theorem dX0_later_58 : decode cX0_later 58 = .ok (.iconst 1, 1) := by decide +kernel
theorem dX0_later_59 : decode cX0_later 59 = .ok (.goto 4, 3) := by decide +kernel
theorem dX0_later_62 : decode cX0_later 62 = .ok (.iconst 0, 1) := by decide +kernel
theorem dX0_later_63 : decode cX0_later 63 = .ok (.istore 5, 2) := by decide +kernel
theorem dX0_later_65 : decode cX0_later 65 = .ok (.iload 4, 2) := by decide +kernel
theorem dX0_later_67 : decode cX0_later 67 = .ok (.iload_n 2, 1) := by decide +kernel
theorem dX0_later_68 : decode cX0_later 68 = .ok (.if_icmp .gt 14, 3) := by decide +kernel
theorem dX0_later_71 : decode cX0_later 71 = .ok (.iload 4, 2) := by decide +kernel
theorem dX0_later_73 : decode cX0_later 73 = .ok (.iload_n 2, 1) := by decide +kernel
theorem dX0_later_74 : decode cX0_later 74 = .ok (.if_icmp .ne 13, 3) := by decide +kernel
theorem dX0_later_77 : decode cX0_later 77 = .ok (.iload 5, 2) := by decide +kernel
theorem dX0_later_79 : decode cX0_later 79 = .ok (.ifCond .eq 8, 3) := by decide +kernel
theorem dX0_later_82 : decode cX0_later 82 = .ok (.iload 4, 2) := by decide +kernel
theorem dX0_later_84 : decode cX0_later 84 = .ok (.istore_n 2, 1) := by decide +kernel
theorem dX0_later_85 : decode cX0_later 85 = .ok (.iload_n 3, 1) := by decide +kernel
theorem dX0_later_86 : decode cX0_later 86 = .ok (.istore_n 1, 1) := by decide +kernel
theorem dX0_later_87 : decode cX0_later 87 = .ok (.iinc 3 1, 3) := by decide +kernel
theorem dX0_later_90 : decode cX0_later 90 = .ok (.goto (-56), 3) := by decide +kernel
theorem dX0_later_93 : decode cX0_later 93 = .ok (.iload_n 1, 1) := by decide +kernel
theorem dX0_later_94 : decode cX0_later 94 = .ok (.ireturn, 1) := by decide +kernel
set_option maxRecDepth 20000 in
theorem ggX0_turned_X0_within : GoodIn wsX0_turned wsX0_within := goodIn_r _ [5] (by decide +kernel) (by decide +kernel)
set_option maxRecDepth 20000 in
theorem gX0_turned_X0_within : GoodIn wsX0_turned (va_wsS RX0 33 yX0_within wsX0_within) := goodIn_app (goodIn_of _ (by decide +kernel)) ggX0_turned_X0_within
set_option maxRecDepth 20000 in
theorem ggX0_turned_X0_turnedAt : GoodIn wsX0_turned wsX0_turnedAt := goodIn_r _ [9, 10, 11, 4, 12, 13, 14, 15, 16, 17, 18, 19, 20, 21, 22, 23, 24, 25, 30, 31, 32, 33, 34, 35, 36, 37, 38, 39, 40, 41] (by decide +kernel) (by decide +kernel)
set_option maxRecDepth 20000 in
theorem gX0_turned_X0_turnedAt : GoodIn wsX0_turned (wsV RX0 122 RX0 yX0_turnedAt wsX0_turnedAt) := goodIn_app (goodIn_of _ (by decide +kernel)) ggX0_turned_X0_turnedAt
set_option maxRecDepth 20000 in
theorem ggX0_turned_X0_backAt : GoodIn wsX0_turned wsX0_backAt := goodIn_r _ [29, 10, 11, 4, 12, 13, 14, 15, 16, 17, 18, 19, 6, 7, 8, 9, 20, 21, 22, 23, 24, 25, 30, 31, 32, 33, 34, 35, 36, 37, 38, 39, 40, 41] (by decide +kernel) (by decide +kernel)
set_option maxRecDepth 20000 in
theorem gX0_turned_X0_backAt : GoodIn wsX0_turned (wsV RX0 125 RX0 yX0_backAt wsX0_backAt) := goodIn_app (goodIn_of _ (by decide +kernel)) ggX0_turned_X0_backAt
theorem dX0_turned_0 : decode cX0_turned 0 = .ok (.iload_n 1, 1) := by decide +kernel
theorem dX0_turned_1 : decode cX0_turned 1 = .ok (.iconst 0, 1) := by decide +kernel
theorem dX0_turned_2 : decode cX0_turned 2 = .ok (.bipush 7, 2) := by decide +kernel
theorem dX0_turned_4 : decode cX0_turned 4 = .ok (.invokestatic 33, 3) := by decide +kernel
theorem dX0_turned_7 : decode cX0_turned 7 = .ok (.ifCond .ne 6, 3) := by decide +kernel
theorem dX0_turned_10 : decode cX0_turned 10 = .ok (.ldc 121, 2) := by decide +kernel
theorem dX0_turned_12 : decode cX0_turned 12 = .ok (.ireturn, 1) := by decide +kernel
theorem dX0_turned_13 : decode cX0_turned 13 = .ok (.iload_n 2, 1) := by decide +kernel
theorem dX0_turned_14 : decode cX0_turned 14 = .ok (.lookupswitch 38 #[(0, 26), (1, 32)], 26) := by decide +kernel
theorem dX0_turned_40 : decode cX0_turned 40 = .ok (.aload_n 0, 1) := by decide +kernel
theorem dX0_turned_41 : decode cX0_turned 41 = .ok (.iload_n 1, 1) := by decide +kernel
theorem dX0_turned_42 : decode cX0_turned 42 = .ok (.invokevirtual 122, 3) := by decide +kernel
theorem dX0_turned_45 : decode cX0_turned 45 = .ok (.ireturn, 1) := by decide +kernel
theorem dX0_turned_46 : decode cX0_turned 46 = .ok (.aload_n 0, 1) := by decide +kernel
theorem dX0_turned_47 : decode cX0_turned 47 = .ok (.iload_n 1, 1) := by decide +kernel
theorem dX0_turned_48 : decode cX0_turned 48 = .ok (.invokevirtual 125, 3) := by decide +kernel
theorem dX0_turned_51 : decode cX0_turned 51 = .ok (.ireturn, 1) := by decide +kernel
theorem dX0_turned_52 : decode cX0_turned 52 = .ok (.ldc 121, 2) := by decide +kernel
theorem dX0_turned_54 : decode cX0_turned 54 = .ok (.ireturn, 1) := by decide +kernel
set_option maxRecDepth 20000 in
theorem ggX0_truth_X0_isVoice : GoodIn wsX0_truth wsX0_isVoice := goodIn_r _ [6, 7, 8, 9, 5, 10, 23, 24, 25, 26, 27, 28, 29, 30, 31, 32, 33, 34] (by decide +kernel) (by decide +kernel)
set_option maxRecDepth 20000 in
theorem gX0_truth_X0_isVoice : GoodIn wsX0_truth (wsV RX0 101 RX0 yX0_isVoice wsX0_isVoice) := goodIn_app (goodIn_of _ (by decide +kernel)) ggX0_truth_X0_isVoice
set_option maxRecDepth 20000 in
theorem ggX0_truth_X0_isCell : GoodIn wsX0_truth wsX0_isCell := goodIn_r _ [14, 15, 16, 8, 9, 5, 10, 23, 24, 25, 26, 27, 28, 29, 30, 31, 32, 33, 34] (by decide +kernel) (by decide +kernel)
set_option maxRecDepth 20000 in
theorem gX0_truth_X0_isCell : GoodIn wsX0_truth (wsV RX0 37 RX0 yX0_isCell wsX0_isCell) := goodIn_app (goodIn_of _ (by decide +kernel)) ggX0_truth_X0_isCell
set_option maxRecDepth 20000 in
theorem ggX0_truth_X0_within : GoodIn wsX0_truth wsX0_within := goodIn_r _ [10] (by decide +kernel) (by decide +kernel)
set_option maxRecDepth 20000 in
theorem gX0_truth_X0_within : GoodIn wsX0_truth (va_wsS RX0 33 yX0_within wsX0_within) := goodIn_app (goodIn_of _ (by decide +kernel)) ggX0_truth_X0_within
set_option maxRecDepth 20000 in
theorem ggX0_truth_X0_truthPlace : GoodIn wsX0_truth wsX0_truthPlace := goodIn_r _ [19, 20, 21, 5, 22] (by decide +kernel) (by decide +kernel)
set_option maxRecDepth 20000 in
theorem gX0_truth_X0_truthPlace : GoodIn wsX0_truth (va_wsS RX0 128 yX0_truthPlace wsX0_truthPlace) := goodIn_app (goodIn_of _ (by decide +kernel)) ggX0_truth_X0_truthPlace
theorem dX0_truth_0 : decode cX0_truth 0 = .ok (.aload_n 0, 1) := by decide +kernel
theorem dX0_truth_1 : decode cX0_truth 1 = .ok (.iload_n 1, 1) := by decide +kernel
theorem dX0_truth_2 : decode cX0_truth 2 = .ok (.invokevirtual 101, 3) := by decide +kernel
theorem dX0_truth_5 : decode cX0_truth 5 = .ok (.ifCond .eq 23, 3) := by decide +kernel
theorem dX0_truth_8 : decode cX0_truth 8 = .ok (.aload_n 0, 1) := by decide +kernel
theorem dX0_truth_9 : decode cX0_truth 9 = .ok (.iload_n 2, 1) := by decide +kernel
theorem dX0_truth_10 : decode cX0_truth 10 = .ok (.iload_n 3, 1) := by decide +kernel
theorem dX0_truth_11 : decode cX0_truth 11 = .ok (.invokevirtual 37, 3) := by decide +kernel
theorem dX0_truth_14 : decode cX0_truth 14 = .ok (.ifCond .eq 14, 3) := by decide +kernel
theorem dX0_truth_17 : decode cX0_truth 17 = .ok (.iload 4, 2) := by decide +kernel
theorem dX0_truth_19 : decode cX0_truth 19 = .ok (.iconst 0, 1) := by decide +kernel
theorem dX0_truth_20 : decode cX0_truth 20 = .ok (.bipush 99, 2) := by decide +kernel
theorem dX0_truth_22 : decode cX0_truth 22 = .ok (.invokestatic 33, 3) := by decide +kernel
theorem dX0_truth_25 : decode cX0_truth 25 = .ok (.ifCond .ne 5, 3) := by decide +kernel
theorem dX0_truth_28 : decode cX0_truth 28 = .ok (.iconst (-1), 1) := by decide +kernel
theorem dX0_truth_29 : decode cX0_truth 29 = .ok (.ireturn, 1) := by decide +kernel
theorem dX0_truth_30 : decode cX0_truth 30 = .ok (.iload_n 1, 1) := by decide +kernel
theorem dX0_truth_31 : decode cX0_truth 31 = .ok (.iload_n 2, 1) := by decide +kernel
theorem dX0_truth_32 : decode cX0_truth 32 = .ok (.iload_n 3, 1) := by decide +kernel
theorem dX0_truth_33 : decode cX0_truth 33 = .ok (.invokestatic 128, 3) := by decide +kernel
theorem dX0_truth_36 : decode cX0_truth 36 = .ok (.istore 5, 2) := by decide +kernel
theorem dX0_truth_38 : decode cX0_truth 38 = .ok (.aload_n 0, 1) := by decide +kernel
theorem dX0_truth_39 : decode cX0_truth 39 = .ok (.getfield 16, 3) := by decide +kernel
theorem dX0_truth_42 : decode cX0_truth 42 = .ok (.iload 5, 2) := by decide +kernel
theorem dX0_truth_44 : decode cX0_truth 44 = .ok (.iaload, 1) := by decide +kernel
theorem dX0_truth_45 : decode cX0_truth 45 = .ok (.istore 6, 2) := by decide +kernel
theorem dX0_truth_47 : decode cX0_truth 47 = .ok (.aload_n 0, 1) := by decide +kernel
theorem dX0_truth_48 : decode cX0_truth 48 = .ok (.getfield 16, 3) := by decide +kernel
theorem dX0_truth_51 : decode cX0_truth 51 = .ok (.iload 5, 2) := by decide +kernel
theorem dX0_truth_53 : decode cX0_truth 53 = .ok (.iload 4, 2) := by decide +kernel
theorem dX0_truth_55 : decode cX0_truth 55 = .ok (.iastore, 1) := by decide +kernel
theorem dX0_truth_56 : decode cX0_truth 56 = .ok (.iload 6, 2) := by decide +kernel
theorem dX0_truth_58 : decode cX0_truth 58 = .ok (.ireturn, 1) := by decide +kernel
set_option maxRecDepth 20000 in
theorem ggX0_apart_X0_howManyOrders : GoodIn wsX0_apart wsX0_howManyOrders := goodIn_r _ [5, 6, 56, 57, 58, 59, 60, 61, 62, 63, 64, 65, 66, 67] (by decide +kernel) (by decide +kernel)
set_option maxRecDepth 20000 in
theorem gX0_apart_X0_howManyOrders : GoodIn wsX0_apart (wsV RX0 131 RX0 yX0_howManyOrders wsX0_howManyOrders) := goodIn_app (goodIn_of _ (by decide +kernel)) ggX0_apart_X0_howManyOrders
set_option maxRecDepth 20000 in
theorem ggX0_apart_X0_within : GoodIn wsX0_apart wsX0_within := goodIn_r _ [9] (by decide +kernel) (by decide +kernel)
set_option maxRecDepth 20000 in
theorem gX0_apart_X0_within : GoodIn wsX0_apart (va_wsS RX0 33 yX0_within wsX0_within) := goodIn_app (goodIn_of _ (by decide +kernel)) ggX0_apart_X0_within
set_option maxRecDepth 20000 in
theorem ggX0_apart_X0_apartBy : GoodIn wsX0_apart wsX0_apartBy := goodIn_r _ [13, 6, 14, 15, 16, 4, 17, 18, 19, 20, 21, 22, 23, 24, 25, 26, 27, 28, 29, 30, 31, 32, 33, 34, 35, 36, 37, 38, 39, 40, 41, 42, 43, 44, 45, 46, 47, 48, 49, 50, 51, 52, 53, 54, 55, 56, 57, 58, 59, 60, 61, 62, 63, 64, 65, 66, 67] (by decide +kernel) (by decide +kernel)
set_option maxRecDepth 20000 in
theorem gX0_apart_X0_apartBy : GoodIn wsX0_apart (wsV RX0 134 RX0 yX0_apartBy wsX0_apartBy) := goodIn_app (goodIn_of _ (by decide +kernel)) ggX0_apart_X0_apartBy
theorem dX0_apart_0 : decode cX0_apart 0 = .ok (.iload_n 1, 1) := by decide +kernel
theorem dX0_apart_1 : decode cX0_apart 1 = .ok (.iconst 0, 1) := by decide +kernel
theorem dX0_apart_2 : decode cX0_apart 2 = .ok (.aload_n 0, 1) := by decide +kernel
theorem dX0_apart_3 : decode cX0_apart 3 = .ok (.invokevirtual 131, 3) := by decide +kernel
theorem dX0_apart_6 : decode cX0_apart 6 = .ok (.iconst 1, 1) := by decide +kernel
theorem dX0_apart_7 : decode cX0_apart 7 = .ok (.isub, 1) := by decide +kernel
theorem dX0_apart_8 : decode cX0_apart 8 = .ok (.invokestatic 33, 3) := by decide +kernel
theorem dX0_apart_11 : decode cX0_apart 11 = .ok (.ifCond .ne 5, 3) := by decide +kernel
theorem dX0_apart_14 : decode cX0_apart 14 = .ok (.iconst (-1), 1) := by decide +kernel
theorem dX0_apart_15 : decode cX0_apart 15 = .ok (.ireturn, 1) := by decide +kernel
theorem dX0_apart_16 : decode cX0_apart 16 = .ok (.aload_n 0, 1) := by decide +kernel
theorem dX0_apart_17 : decode cX0_apart 17 = .ok (.iload_n 1, 1) := by decide +kernel
theorem dX0_apart_18 : decode cX0_apart 18 = .ok (.invokevirtual 134, 3) := by decide +kernel
theorem dX0_apart_21 : decode cX0_apart 21 = .ok (.ireturn, 1) := by decide +kernel
set_option maxRecDepth 20000 in
theorem ggX0_order_X0_apartBy : GoodIn wsX0_order wsX0_apartBy := goodIn_r _ [5, 6, 7, 8, 9, 4, 10, 11, 12, 13, 14, 15, 16, 17, 18, 19, 20, 21, 22, 23, 24, 25, 26, 27, 28, 29, 30, 31, 32, 33, 34, 35, 36, 37, 38, 39, 40, 41, 42, 43, 44, 45, 46, 47, 48, 53, 54, 55, 56, 57, 58, 59, 60, 61, 62, 63, 64] (by decide +kernel) (by decide +kernel)
set_option maxRecDepth 20000 in
theorem gX0_order_X0_apartBy : GoodIn wsX0_order (wsV RX0 134 RX0 yX0_apartBy wsX0_apartBy) := goodIn_app (goodIn_of _ (by decide +kernel)) ggX0_order_X0_apartBy
set_option maxRecDepth 20000 in
theorem ggX0_order_X0_howManyOrders : GoodIn wsX0_order wsX0_howManyOrders := goodIn_r _ [52, 6, 53, 54, 55, 56, 57, 58, 59, 60, 61, 62, 63, 64] (by decide +kernel) (by decide +kernel)
set_option maxRecDepth 20000 in
theorem gX0_order_X0_howManyOrders : GoodIn wsX0_order (wsV RX0 131 RX0 yX0_howManyOrders wsX0_howManyOrders) := goodIn_app (goodIn_of _ (by decide +kernel)) ggX0_order_X0_howManyOrders
theorem dX0_order_0 : decode cX0_order 0 = .ok (.iconst 0, 1) := by decide +kernel
theorem dX0_order_1 : decode cX0_order 1 = .ok (.istore_n 1, 1) := by decide +kernel
theorem dX0_order_2 : decode cX0_order 2 = .ok (.aload_n 0, 1) := by decide +kernel
theorem dX0_order_3 : decode cX0_order 3 = .ok (.iconst 0, 1) := by decide +kernel
theorem dX0_order_4 : decode cX0_order 4 = .ok (.invokevirtual 134, 3) := by decide +kernel
theorem dX0_order_7 : decode cX0_order 7 = .ok (.istore_n 2, 1) := by decide +kernel
theorem dX0_order_8 : decode cX0_order 8 = .ok (.aload_n 0, 1) := by decide +kernel
theorem dX0_order_9 : decode cX0_order 9 = .ok (.invokevirtual 131, 3) := by decide +kernel
theorem dX0_order_12 : decode cX0_order 12 = .ok (.istore_n 3, 1) := by decide +kernel
theorem dX0_order_13 : decode cX0_order 13 = .ok (.iconst 1, 1) := by decide +kernel
theorem dX0_order_14 : decode cX0_order 14 = .ok (.istore 4, 2) := by decide +kernel
theorem dX0_order_16 : decode cX0_order 16 = .ok (.iload 4, 2) := by decide +kernel
theorem dX0_order_18 : decode cX0_order 18 = .ok (.iload_n 3, 1) := by decide +kernel
theorem dX0_order_19 : decode cX0_order 19 = .ok (.if_icmp .ge 29, 3) := by decide +kernel
theorem dX0_order_22 : decode cX0_order 22 = .ok (.aload_n 0, 1) := by decide +kernel
theorem dX0_order_23 : decode cX0_order 23 = .ok (.iload 4, 2) := by decide +kernel
theorem dX0_order_25 : decode cX0_order 25 = .ok (.invokevirtual 134, 3) := by decide +kernel
theorem dX0_order_28 : decode cX0_order 28 = .ok (.istore 5, 2) := by decide +kernel
theorem dX0_order_30 : decode cX0_order 30 = .ok (.iload 5, 2) := by decide +kernel
theorem dX0_order_32 : decode cX0_order 32 = .ok (.iload_n 2, 1) := by decide +kernel
theorem dX0_order_33 : decode cX0_order 33 = .ok (.if_icmp .ge 9, 3) := by decide +kernel
theorem dX0_order_36 : decode cX0_order 36 = .ok (.iload 5, 2) := by decide +kernel
theorem dX0_order_38 : decode cX0_order 38 = .ok (.istore_n 2, 1) := by decide +kernel
theorem dX0_order_39 : decode cX0_order 39 = .ok (.iload 4, 2) := by decide +kernel
theorem dX0_order_41 : decode cX0_order 41 = .ok (.istore_n 1, 1) := by decide +kernel
theorem dX0_order_42 : decode cX0_order 42 = .ok (.iinc 4 1, 3) := by decide +kernel
theorem dX0_order_45 : decode cX0_order 45 = .ok (.goto (-29), 3) := by decide +kernel
theorem dX0_order_48 : decode cX0_order 48 = .ok (.iload_n 1, 1) := by decide +kernel
theorem dX0_order_49 : decode cX0_order 49 = .ok (.ireturn, 1) := by decide +kernel
set_option maxRecDepth 20000 in
theorem ggX0_count_J13_bitCount_95d88 : GoodIn wsX0_count wsJ13_bitCount_95d88 := goodIn_r _ [11, 12, 13, 14] (by decide +kernel) (by decide +kernel)
set_option maxRecDepth 20000 in
theorem gX0_count_J13_bitCount_95d88 : GoodIn wsX0_count (va_wsS RX0 140 yJ13_bitCount_95d88 wsJ13_bitCount_95d88) := goodIn_app (goodIn_of _ (by decide +kernel)) ggX0_count_J13_bitCount_95d88
theorem dX0_count_0 : decode cX0_count 0 = .ok (.iload_n 1, 1) := by decide +kernel
theorem dX0_count_1 : decode cX0_count 1 = .ok (.tableswitch 94 0 7 #[47, 52, 57, 62, 67, 75, 82, 89], 47) := by decide +kernel
theorem dX0_count_48 : decode cX0_count 48 = .ok (.aload_n 0, 1) := by decide +kernel
theorem dX0_count_49 : decode cX0_count 49 = .ok (.getfield 86, 3) := by decide +kernel
theorem dX0_count_52 : decode cX0_count 52 = .ok (.ireturn, 1) := by decide +kernel
theorem dX0_count_53 : decode cX0_count 53 = .ok (.aload_n 0, 1) := by decide +kernel
theorem dX0_count_54 : decode cX0_count 54 = .ok (.getfield 107, 3) := by decide +kernel
theorem dX0_count_57 : decode cX0_count 57 = .ok (.ireturn, 1) := by decide +kernel
theorem dX0_count_58 : decode cX0_count 58 = .ok (.aload_n 0, 1) := by decide +kernel
theorem dX0_count_59 : decode cX0_count 59 = .ok (.getfield 137, 3) := by decide +kernel
theorem dX0_count_62 : decode cX0_count 62 = .ok (.ireturn, 1) := by decide +kernel
theorem dX0_count_63 : decode cX0_count 63 = .ok (.aload_n 0, 1) := by decide +kernel
theorem dX0_count_64 : decode cX0_count 64 = .ok (.getfield 29, 3) := by decide +kernel
theorem dX0_count_67 : decode cX0_count 67 = .ok (.ireturn, 1) := by decide +kernel
theorem dX0_count_68 : decode cX0_count 68 = .ok (.aload_n 0, 1) := by decide +kernel
theorem dX0_count_69 : decode cX0_count 69 = .ok (.getfield 69, 3) := by decide +kernel
theorem dX0_count_72 : decode cX0_count 72 = .ok (.invokestatic 140, 3) := by decide +kernel
theorem dX0_count_75 : decode cX0_count 75 = .ok (.ireturn, 1) := by decide +kernel
theorem dX0_count_76 : decode cX0_count 76 = .ok (.aload_n 0, 1) := by decide +kernel
theorem dX0_count_77 : decode cX0_count 77 = .ok (.getfield 22, 3) := by decide +kernel
theorem dX0_count_80 : decode cX0_count 80 = .ok (.iconst 0, 1) := by decide +kernel
theorem dX0_count_81 : decode cX0_count 81 = .ok (.iaload, 1) := by decide +kernel
theorem dX0_count_82 : decode cX0_count 82 = .ok (.ireturn, 1) := by decide +kernel
theorem dX0_count_83 : decode cX0_count 83 = .ok (.aload_n 0, 1) := by decide +kernel
theorem dX0_count_84 : decode cX0_count 84 = .ok (.getfield 22, 3) := by decide +kernel
theorem dX0_count_87 : decode cX0_count 87 = .ok (.iconst 1, 1) := by decide +kernel
theorem dX0_count_88 : decode cX0_count 88 = .ok (.iaload, 1) := by decide +kernel
theorem dX0_count_89 : decode cX0_count 89 = .ok (.ireturn, 1) := by decide +kernel
theorem dX0_count_90 : decode cX0_count 90 = .ok (.aload_n 0, 1) := by decide +kernel
theorem dX0_count_91 : decode cX0_count 91 = .ok (.getfield 95, 3) := by decide +kernel
theorem dX0_count_94 : decode cX0_count 94 = .ok (.ireturn, 1) := by decide +kernel
theorem dX0_count_95 : decode cX0_count 95 = .ok (.iconst (-1), 1) := by decide +kernel
theorem dX0_count_96 : decode cX0_count 96 = .ok (.ireturn, 1) := by decide +kernel
theorem dX0_trace_0 : decode cX0_trace 0 = .ok (.aload_n 0, 1) := by decide +kernel
theorem dX0_trace_1 : decode cX0_trace 1 = .ok (.getfield 76, 3) := by decide +kernel
theorem dX0_trace_4 : decode cX0_trace 4 = .ok (.lreturn, 1) := by decide +kernel
theorem dX0_within_0 : decode cX0_within 0 = .ok (.iload_n 0, 1) := by decide +kernel
theorem dX0_within_1 : decode cX0_within 1 = .ok (.iload_n 1, 1) := by decide +kernel
theorem dX0_within_2 : decode cX0_within 2 = .ok (.if_icmp .lt 12, 3) := by decide +kernel
theorem dX0_within_5 : decode cX0_within 5 = .ok (.iload_n 0, 1) := by decide +kernel
theorem dX0_within_6 : decode cX0_within 6 = .ok (.iload_n 2, 1) := by decide +kernel
theorem dX0_within_7 : decode cX0_within 7 = .ok (.if_icmp .gt 7, 3) := by decide +kernel
theorem dX0_within_10 : decode cX0_within 10 = .ok (.iconst 1, 1) := by decide +kernel
theorem dX0_within_11 : decode cX0_within 11 = .ok (.goto 4, 3) := by decide +kernel
theorem dX0_within_14 : decode cX0_within 14 = .ok (.iconst 0, 1) := by decide +kernel
theorem dX0_within_15 : decode cX0_within 15 = .ok (.ireturn, 1) := by decide +kernel
set_option maxRecDepth 20000 in
theorem ggX0_isKind_X0_within : GoodIn wsX0_isKind wsX0_within := goodIn_r _ [4] (by decide +kernel) (by decide +kernel)
set_option maxRecDepth 20000 in
theorem gX0_isKind_X0_within : GoodIn wsX0_isKind (va_wsS RX0 33 yX0_within wsX0_within) := goodIn_app (goodIn_of _ (by decide +kernel)) ggX0_isKind_X0_within
theorem dX0_isKind_0 : decode cX0_isKind 0 = .ok (.iload_n 0, 1) := by decide +kernel
theorem dX0_isKind_1 : decode cX0_isKind 1 = .ok (.iconst 0, 1) := by decide +kernel
theorem dX0_isKind_2 : decode cX0_isKind 2 = .ok (.iconst 2, 1) := by decide +kernel
theorem dX0_isKind_3 : decode cX0_isKind 3 = .ok (.invokestatic 33, 3) := by decide +kernel
theorem dX0_isKind_6 : decode cX0_isKind 6 = .ok (.ireturn, 1) := by decide +kernel
set_option maxRecDepth 20000 in
theorem ggX0_isRow_X0_within : GoodIn wsX0_isRow wsX0_within := goodIn_r _ [4] (by decide +kernel) (by decide +kernel)
set_option maxRecDepth 20000 in
theorem gX0_isRow_X0_within : GoodIn wsX0_isRow (va_wsS RX0 33 yX0_within wsX0_within) := goodIn_app (goodIn_of _ (by decide +kernel)) ggX0_isRow_X0_within
theorem dX0_isRow_0 : decode cX0_isRow 0 = .ok (.iload_n 0, 1) := by decide +kernel
theorem dX0_isRow_1 : decode cX0_isRow 1 = .ok (.iconst 0, 1) := by decide +kernel
theorem dX0_isRow_2 : decode cX0_isRow 2 = .ok (.iconst 1, 1) := by decide +kernel
theorem dX0_isRow_3 : decode cX0_isRow 3 = .ok (.invokestatic 33, 3) := by decide +kernel
theorem dX0_isRow_6 : decode cX0_isRow 6 = .ok (.ireturn, 1) := by decide +kernel
set_option maxRecDepth 20000 in
theorem ggX0_isVoice_X0_within : GoodIn wsX0_isVoice wsX0_within := goodIn_r _ [5] (by decide +kernel) (by decide +kernel)
set_option maxRecDepth 20000 in
theorem gX0_isVoice_X0_within : GoodIn wsX0_isVoice (va_wsS RX0 33 yX0_within wsX0_within) := goodIn_app (goodIn_of _ (by decide +kernel)) ggX0_isVoice_X0_within
theorem dX0_isVoice_0 : decode cX0_isVoice 0 = .ok (.iload_n 1, 1) := by decide +kernel
theorem dX0_isVoice_1 : decode cX0_isVoice 1 = .ok (.iconst 0, 1) := by decide +kernel
theorem dX0_isVoice_2 : decode cX0_isVoice 2 = .ok (.aload_n 0, 1) := by decide +kernel
theorem dX0_isVoice_3 : decode cX0_isVoice 3 = .ok (.getfield 137, 3) := by decide +kernel
theorem dX0_isVoice_6 : decode cX0_isVoice 6 = .ok (.iconst 1, 1) := by decide +kernel
theorem dX0_isVoice_7 : decode cX0_isVoice 7 = .ok (.isub, 1) := by decide +kernel
theorem dX0_isVoice_8 : decode cX0_isVoice 8 = .ok (.invokestatic 33, 3) := by decide +kernel
theorem dX0_isVoice_11 : decode cX0_isVoice 11 = .ok (.ireturn, 1) := by decide +kernel
set_option maxRecDepth 20000 in
theorem ggX0_isCell_X0_within : GoodIn wsX0_isCell wsX0_within := goodIn_r _ [6] (by decide +kernel) (by decide +kernel)
set_option maxRecDepth 20000 in
theorem gX0_isCell_X0_within : GoodIn wsX0_isCell (va_wsS RX0 33 yX0_within wsX0_within) := goodIn_app (goodIn_of _ (by decide +kernel)) ggX0_isCell_X0_within
theorem dX0_isCell_0 : decode cX0_isCell 0 = .ok (.iload_n 1, 1) := by decide +kernel
theorem dX0_isCell_1 : decode cX0_isCell 1 = .ok (.iconst 0, 1) := by decide +kernel
theorem dX0_isCell_2 : decode cX0_isCell 2 = .ok (.aload_n 0, 1) := by decide +kernel
theorem dX0_isCell_3 : decode cX0_isCell 3 = .ok (.getfield 86, 3) := by decide +kernel
theorem dX0_isCell_6 : decode cX0_isCell 6 = .ok (.iconst 1, 1) := by decide +kernel
theorem dX0_isCell_7 : decode cX0_isCell 7 = .ok (.isub, 1) := by decide +kernel
theorem dX0_isCell_8 : decode cX0_isCell 8 = .ok (.invokestatic 33, 3) := by decide +kernel
theorem dX0_isCell_11 : decode cX0_isCell 11 = .ok (.ifCond .eq 21, 3) := by decide +kernel
theorem dX0_isCell_14 : decode cX0_isCell 14 = .ok (.iload_n 2, 1) := by decide +kernel
theorem dX0_isCell_15 : decode cX0_isCell 15 = .ok (.iconst 0, 1) := by decide +kernel
theorem dX0_isCell_16 : decode cX0_isCell 16 = .ok (.aload_n 0, 1) := by decide +kernel
theorem dX0_isCell_17 : decode cX0_isCell 17 = .ok (.getfield 107, 3) := by decide +kernel
theorem dX0_isCell_20 : decode cX0_isCell 20 = .ok (.iconst 1, 1) := by decide +kernel
theorem dX0_isCell_21 : decode cX0_isCell 21 = .ok (.isub, 1) := by decide +kernel
theorem dX0_isCell_22 : decode cX0_isCell 22 = .ok (.invokestatic 33, 3) := by decide +kernel
theorem dX0_isCell_25 : decode cX0_isCell 25 = .ok (.ifCond .eq 7, 3) := by decide +kernel
theorem dX0_isCell_28 : decode cX0_isCell 28 = .ok (.iconst 1, 1) := by decide +kernel
theorem dX0_isCell_29 : decode cX0_isCell 29 = .ok (.goto 4, 3) := by decide +kernel
theorem dX0_isCell_32 : decode cX0_isCell 32 = .ok (.iconst 0, 1) := by decide +kernel
theorem dX0_isCell_33 : decode cX0_isCell 33 = .ok (.ireturn, 1) := by decide +kernel
set_option maxRecDepth 20000 in
theorem ggX0_isNumber_X0_isVoice : GoodIn wsX0_isNumber wsX0_isVoice := goodIn_r _ [5, 6, 7, 8, 4, 9, 16, 17, 18, 19, 20, 21, 22, 23, 24, 25, 26, 27] (by decide +kernel) (by decide +kernel)
set_option maxRecDepth 20000 in
theorem gX0_isNumber_X0_isVoice : GoodIn wsX0_isNumber (wsV RX0 101 RX0 yX0_isVoice wsX0_isVoice) := goodIn_app (goodIn_of _ (by decide +kernel)) ggX0_isNumber_X0_isVoice
set_option maxRecDepth 20000 in
theorem ggX0_isNumber_X0_within : GoodIn wsX0_isNumber wsX0_within := goodIn_r _ [9] (by decide +kernel) (by decide +kernel)
set_option maxRecDepth 20000 in
theorem gX0_isNumber_X0_within : GoodIn wsX0_isNumber (va_wsS RX0 33 yX0_within wsX0_within) := goodIn_app (goodIn_of _ (by decide +kernel)) ggX0_isNumber_X0_within
set_option maxRecDepth 20000 in
theorem ggX0_isNumber_X0_howManyOf : GoodIn wsX0_isNumber wsX0_howManyOf := goodIn_r _ [13, 14, 15, 16, 17, 18, 19, 20, 21, 22, 23, 24, 25, 26, 27] (by decide +kernel) (by decide +kernel)
set_option maxRecDepth 20000 in
theorem gX0_isNumber_X0_howManyOf : GoodIn wsX0_isNumber (wsV RX0 146 RX0 yX0_howManyOf wsX0_howManyOf) := goodIn_app (goodIn_of _ (by decide +kernel)) ggX0_isNumber_X0_howManyOf
theorem dX0_isNumber_0 : decode cX0_isNumber 0 = .ok (.aload_n 0, 1) := by decide +kernel
theorem dX0_isNumber_1 : decode cX0_isNumber 1 = .ok (.iload_n 1, 1) := by decide +kernel
theorem dX0_isNumber_2 : decode cX0_isNumber 2 = .ok (.invokevirtual 101, 3) := by decide +kernel
theorem dX0_isNumber_5 : decode cX0_isNumber 5 = .ok (.ifCond .eq 31, 3) := by decide +kernel
theorem dX0_isNumber_8 : decode cX0_isNumber 8 = .ok (.iload_n 2, 1) := by decide +kernel
theorem dX0_isNumber_9 : decode cX0_isNumber 9 = .ok (.iconst 0, 1) := by decide +kernel
theorem dX0_isNumber_10 : decode cX0_isNumber 10 = .ok (.iconst 1, 1) := by decide +kernel
theorem dX0_isNumber_11 : decode cX0_isNumber 11 = .ok (.invokestatic 33, 3) := by decide +kernel
theorem dX0_isNumber_14 : decode cX0_isNumber 14 = .ok (.ifCond .eq 22, 3) := by decide +kernel
theorem dX0_isNumber_17 : decode cX0_isNumber 17 = .ok (.iload_n 3, 1) := by decide +kernel
theorem dX0_isNumber_18 : decode cX0_isNumber 18 = .ok (.iconst 0, 1) := by decide +kernel
theorem dX0_isNumber_19 : decode cX0_isNumber 19 = .ok (.aload_n 0, 1) := by decide +kernel
theorem dX0_isNumber_20 : decode cX0_isNumber 20 = .ok (.iload_n 2, 1) := by decide +kernel
theorem dX0_isNumber_21 : decode cX0_isNumber 21 = .ok (.invokevirtual 146, 3) := by decide +kernel
theorem dX0_isNumber_24 : decode cX0_isNumber 24 = .ok (.iconst 1, 1) := by decide +kernel
theorem dX0_isNumber_25 : decode cX0_isNumber 25 = .ok (.isub, 1) := by decide +kernel
theorem dX0_isNumber_26 : decode cX0_isNumber 26 = .ok (.invokestatic 33, 3) := by decide +kernel
theorem dX0_isNumber_29 : decode cX0_isNumber 29 = .ok (.ifCond .eq 7, 3) := by decide +kernel
theorem dX0_isNumber_32 : decode cX0_isNumber 32 = .ok (.iconst 1, 1) := by decide +kernel
theorem dX0_isNumber_33 : decode cX0_isNumber 33 = .ok (.goto 4, 3) := by decide +kernel
theorem dX0_isNumber_36 : decode cX0_isNumber 36 = .ok (.iconst 0, 1) := by decide +kernel
theorem dX0_isNumber_37 : decode cX0_isNumber 37 = .ok (.ireturn, 1) := by decide +kernel
theorem dX0_howManyOf_0 : decode cX0_howManyOf 0 = .ok (.iload_n 1, 1) := by decide +kernel
theorem dX0_howManyOf_1 : decode cX0_howManyOf 1 = .ok (.ifCond .ne 10, 3) := by decide +kernel
theorem dX0_howManyOf_4 : decode cX0_howManyOf 4 = .ok (.aload_n 0, 1) := by decide +kernel
theorem dX0_howManyOf_5 : decode cX0_howManyOf 5 = .ok (.getfield 86, 3) := by decide +kernel
theorem dX0_howManyOf_8 : decode cX0_howManyOf 8 = .ok (.goto 7, 3) := by decide +kernel
theorem dX0_howManyOf_11 : decode cX0_howManyOf 11 = .ok (.aload_n 0, 1) := by decide +kernel
theorem dX0_howManyOf_12 : decode cX0_howManyOf 12 = .ok (.getfield 107, 3) := by decide +kernel
theorem dX0_howManyOf_15 : decode cX0_howManyOf 15 = .ok (.ireturn, 1) := by decide +kernel
theorem dX0_isBarred_0 : decode cX0_isBarred 0 = .ok (.aload_n 0, 1) := by decide +kernel
theorem dX0_isBarred_1 : decode cX0_isBarred 1 = .ok (.getfield 69, 3) := by decide +kernel
theorem dX0_isBarred_4 : decode cX0_isBarred 4 = .ok (.iload_n 1, 1) := by decide +kernel
theorem dX0_isBarred_5 : decode cX0_isBarred 5 = .ok (.lushr, 1) := by decide +kernel
theorem dX0_isBarred_6 : decode cX0_isBarred 6 = .ok (.lconst 1, 1) := by decide +kernel
theorem dX0_isBarred_7 : decode cX0_isBarred 7 = .ok (.land, 1) := by decide +kernel
theorem dX0_isBarred_8 : decode cX0_isBarred 8 = .ok (.lconst 0, 1) := by decide +kernel
theorem dX0_isBarred_9 : decode cX0_isBarred 9 = .ok (.lcmp, 1) := by decide +kernel
theorem dX0_isBarred_10 : decode cX0_isBarred 10 = .ok (.ifCond .eq 7, 3) := by decide +kernel
theorem dX0_isBarred_13 : decode cX0_isBarred 13 = .ok (.iconst 1, 1) := by decide +kernel
theorem dX0_isBarred_14 : decode cX0_isBarred 14 = .ok (.goto 4, 3) := by decide +kernel
theorem dX0_isBarred_17 : decode cX0_isBarred 17 = .ok (.iconst 0, 1) := by decide +kernel
theorem dX0_isBarred_18 : decode cX0_isBarred 18 = .ok (.ireturn, 1) := by decide +kernel
theorem dX0_cell_0 : decode cX0_cell 0 = .ok (.iload_n 0, 1) := by decide +kernel
theorem dX0_cell_1 : decode cX0_cell 1 = .ok (.bipush 8, 2) := by decide +kernel
theorem dX0_cell_3 : decode cX0_cell 3 = .ok (.imul, 1) := by decide +kernel
theorem dX0_cell_4 : decode cX0_cell 4 = .ok (.iload_n 1, 1) := by decide +kernel
theorem dX0_cell_5 : decode cX0_cell 5 = .ok (.iadd, 1) := by decide +kernel
theorem dX0_cell_6 : decode cX0_cell 6 = .ok (.ireturn, 1) := by decide +kernel
theorem dX0_place_0 : decode cX0_place 0 = .ok (.iload_n 0, 1) := by decide +kernel
theorem dX0_place_1 : decode cX0_place 1 = .ok (.bipush 14, 2) := by decide +kernel
theorem dX0_place_3 : decode cX0_place 3 = .ok (.imul, 1) := by decide +kernel
theorem dX0_place_4 : decode cX0_place 4 = .ok (.iload_n 1, 1) := by decide +kernel
theorem dX0_place_5 : decode cX0_place 5 = .ok (.ifCond .ne 7, 3) := by decide +kernel
theorem dX0_place_8 : decode cX0_place 8 = .ok (.iload_n 2, 1) := by decide +kernel
theorem dX0_place_9 : decode cX0_place 9 = .ok (.goto 7, 3) := by decide +kernel
theorem dX0_place_12 : decode cX0_place 12 = .ok (.bipush 6, 2) := by decide +kernel
theorem dX0_place_14 : decode cX0_place 14 = .ok (.iload_n 2, 1) := by decide +kernel
theorem dX0_place_15 : decode cX0_place 15 = .ok (.iadd, 1) := by decide +kernel
theorem dX0_place_16 : decode cX0_place 16 = .ok (.iadd, 1) := by decide +kernel
theorem dX0_place_17 : decode cX0_place 17 = .ok (.ireturn, 1) := by decide +kernel
set_option maxRecDepth 20000 in
theorem ggX0_truthPlace_X0_cell : GoodIn wsX0_truthPlace wsX0_cell := goodIn_r _ [4] (by decide +kernel) (by decide +kernel)
set_option maxRecDepth 20000 in
theorem gX0_truthPlace_X0_cell : GoodIn wsX0_truthPlace (va_wsS RX0 45 yX0_cell wsX0_cell) := goodIn_app (goodIn_of _ (by decide +kernel)) ggX0_truthPlace_X0_cell
theorem dX0_truthPlace_0 : decode cX0_truthPlace 0 = .ok (.iload_n 0, 1) := by decide +kernel
theorem dX0_truthPlace_1 : decode cX0_truthPlace 1 = .ok (.bipush 48, 2) := by decide +kernel
theorem dX0_truthPlace_3 : decode cX0_truthPlace 3 = .ok (.imul, 1) := by decide +kernel
theorem dX0_truthPlace_4 : decode cX0_truthPlace 4 = .ok (.iload_n 1, 1) := by decide +kernel
theorem dX0_truthPlace_5 : decode cX0_truthPlace 5 = .ok (.iload_n 2, 1) := by decide +kernel
theorem dX0_truthPlace_6 : decode cX0_truthPlace 6 = .ok (.invokestatic 45, 3) := by decide +kernel
theorem dX0_truthPlace_9 : decode cX0_truthPlace 9 = .ok (.iadd, 1) := by decide +kernel
theorem dX0_truthPlace_10 : decode cX0_truthPlace 10 = .ok (.ireturn, 1) := by decide +kernel
set_option maxRecDepth 20000 in
theorem ggX0_layBoard_J7_fill_53178 : GoodIn wsX0_layBoard wsJ7_fill_53178 := goodIn_r _ [11] (by decide +kernel) (by decide +kernel)
set_option maxRecDepth 20000 in
theorem gX0_layBoard_J7_fill_53178 : GoodIn wsX0_layBoard (va_wsS RX0 149 yJ7_fill_53178 wsJ7_fill_53178) := goodIn_app (goodIn_of _ (by decide +kernel)) ggX0_layBoard_J7_fill_53178
theorem dX0_layBoard_0 : decode cX0_layBoard 0 = .ok (.aload_n 0, 1) := by decide +kernel
theorem dX0_layBoard_1 : decode cX0_layBoard 1 = .ok (.iload_n 1, 1) := by decide +kernel
theorem dX0_layBoard_2 : decode cX0_layBoard 2 = .ok (.putfield 86, 3) := by decide +kernel
theorem dX0_layBoard_5 : decode cX0_layBoard 5 = .ok (.aload_n 0, 1) := by decide +kernel
theorem dX0_layBoard_6 : decode cX0_layBoard 6 = .ok (.iload_n 2, 1) := by decide +kernel
theorem dX0_layBoard_7 : decode cX0_layBoard 7 = .ok (.putfield 107, 3) := by decide +kernel
theorem dX0_layBoard_10 : decode cX0_layBoard 10 = .ok (.aload_n 0, 1) := by decide +kernel
theorem dX0_layBoard_11 : decode cX0_layBoard 11 = .ok (.iload_n 3, 1) := by decide +kernel
theorem dX0_layBoard_12 : decode cX0_layBoard 12 = .ok (.putfield 137, 3) := by decide +kernel
theorem dX0_layBoard_15 : decode cX0_layBoard 15 = .ok (.aload_n 0, 1) := by decide +kernel
theorem dX0_layBoard_16 : decode cX0_layBoard 16 = .ok (.getfield 9, 3) := by decide +kernel
theorem dX0_layBoard_19 : decode cX0_layBoard 19 = .ok (.iconst 0, 1) := by decide +kernel
theorem dX0_layBoard_20 : decode cX0_layBoard 20 = .ok (.invokestatic 149, 3) := by decide +kernel
theorem dX0_layBoard_23 : decode cX0_layBoard 23 = .ok (.aload_n 0, 1) := by decide +kernel
theorem dX0_layBoard_24 : decode cX0_layBoard 24 = .ok (.getfield 13, 3) := by decide +kernel
theorem dX0_layBoard_27 : decode cX0_layBoard 27 = .ok (.iconst 1, 1) := by decide +kernel
theorem dX0_layBoard_28 : decode cX0_layBoard 28 = .ok (.invokestatic 149, 3) := by decide +kernel
theorem dX0_layBoard_31 : decode cX0_layBoard 31 = .ok (.aload_n 0, 1) := by decide +kernel
theorem dX0_layBoard_32 : decode cX0_layBoard 32 = .ok (.getfield 16, 3) := by decide +kernel
theorem dX0_layBoard_35 : decode cX0_layBoard 35 = .ok (.iconst 0, 1) := by decide +kernel
theorem dX0_layBoard_36 : decode cX0_layBoard 36 = .ok (.invokestatic 149, 3) := by decide +kernel
theorem dX0_layBoard_39 : decode cX0_layBoard 39 = .ok (.aload_n 0, 1) := by decide +kernel
theorem dX0_layBoard_40 : decode cX0_layBoard 40 = .ok (.lconst 0, 1) := by decide +kernel
theorem dX0_layBoard_41 : decode cX0_layBoard 41 = .ok (.putfield 69, 3) := by decide +kernel
theorem dX0_layBoard_44 : decode cX0_layBoard 44 = .ok (.return_, 1) := by decide +kernel
set_option maxRecDepth 20000 in
theorem ggX0_boardAt_X0_cell : GoodIn wsX0_boardAt wsX0_cell := goodIn_r _ [5] (by decide +kernel) (by decide +kernel)
set_option maxRecDepth 20000 in
theorem gX0_boardAt_X0_cell : GoodIn wsX0_boardAt (va_wsS RX0 45 yX0_cell wsX0_cell) := goodIn_app (goodIn_of _ (by decide +kernel)) ggX0_boardAt_X0_cell
theorem dX0_boardAt_0 : decode cX0_boardAt 0 = .ok (.aload_n 0, 1) := by decide +kernel
theorem dX0_boardAt_1 : decode cX0_boardAt 1 = .ok (.getfield 9, 3) := by decide +kernel
theorem dX0_boardAt_4 : decode cX0_boardAt 4 = .ok (.iload_n 1, 1) := by decide +kernel
theorem dX0_boardAt_5 : decode cX0_boardAt 5 = .ok (.iload_n 2, 1) := by decide +kernel
theorem dX0_boardAt_6 : decode cX0_boardAt 6 = .ok (.invokestatic 45, 3) := by decide +kernel
theorem dX0_boardAt_9 : decode cX0_boardAt 9 = .ok (.iaload, 1) := by decide +kernel
theorem dX0_boardAt_10 : decode cX0_boardAt 10 = .ok (.ireturn, 1) := by decide +kernel
theorem dX0_productAt_0 : decode cX0_productAt 0 = .ok (.iload_n 1, 1) := by decide +kernel
theorem dX0_productAt_1 : decode cX0_productAt 1 = .ok (.bipush 14, 2) := by decide +kernel
theorem dX0_productAt_3 : decode cX0_productAt 3 = .ok (.imul, 1) := by decide +kernel
theorem dX0_productAt_4 : decode cX0_productAt 4 = .ok (.istore 4, 2) := by decide +kernel
theorem dX0_productAt_6 : decode cX0_productAt 6 = .ok (.aload_n 0, 1) := by decide +kernel
theorem dX0_productAt_7 : decode cX0_productAt 7 = .ok (.getfield 13, 3) := by decide +kernel
theorem dX0_productAt_10 : decode cX0_productAt 10 = .ok (.iload 4, 2) := by decide +kernel
theorem dX0_productAt_12 : decode cX0_productAt 12 = .ok (.iload_n 2, 1) := by decide +kernel
theorem dX0_productAt_13 : decode cX0_productAt 13 = .ok (.iadd, 1) := by decide +kernel
theorem dX0_productAt_14 : decode cX0_productAt 14 = .ok (.iaload, 1) := by decide +kernel
theorem dX0_productAt_15 : decode cX0_productAt 15 = .ok (.aload_n 0, 1) := by decide +kernel
theorem dX0_productAt_16 : decode cX0_productAt 16 = .ok (.getfield 13, 3) := by decide +kernel
theorem dX0_productAt_19 : decode cX0_productAt 19 = .ok (.iload 4, 2) := by decide +kernel
theorem dX0_productAt_21 : decode cX0_productAt 21 = .ok (.bipush 6, 2) := by decide +kernel
theorem dX0_productAt_23 : decode cX0_productAt 23 = .ok (.iadd, 1) := by decide +kernel
theorem dX0_productAt_24 : decode cX0_productAt 24 = .ok (.iload_n 3, 1) := by decide +kernel
theorem dX0_productAt_25 : decode cX0_productAt 25 = .ok (.iadd, 1) := by decide +kernel
theorem dX0_productAt_26 : decode cX0_productAt 26 = .ok (.iaload, 1) := by decide +kernel
theorem dX0_productAt_27 : decode cX0_productAt 27 = .ok (.imul, 1) := by decide +kernel
theorem dX0_productAt_28 : decode cX0_productAt 28 = .ok (.ireturn, 1) := by decide +kernel
set_option maxRecDepth 20000 in
theorem ggX0_sumAt_X0_productAt : GoodIn wsX0_sumAt wsX0_productAt := goodIn_r _ [6, 7, 8, 9, 10, 11, 12, 13, 14, 15, 16, 17, 18, 19] (by decide +kernel) (by decide +kernel)
set_option maxRecDepth 20000 in
theorem gX0_sumAt_X0_productAt : GoodIn wsX0_sumAt (wsV RX0 155 RX0 yX0_productAt wsX0_productAt) := goodIn_app (goodIn_of _ (by decide +kernel)) ggX0_sumAt_X0_productAt
theorem dX0_sumAt_0 : decode cX0_sumAt 0 = .ok (.iconst 0, 1) := by decide +kernel
theorem dX0_sumAt_1 : decode cX0_sumAt 1 = .ok (.istore_n 3, 1) := by decide +kernel
theorem dX0_sumAt_2 : decode cX0_sumAt 2 = .ok (.iconst 0, 1) := by decide +kernel
theorem dX0_sumAt_3 : decode cX0_sumAt 3 = .ok (.istore 4, 2) := by decide +kernel
theorem dX0_sumAt_5 : decode cX0_sumAt 5 = .ok (.iload 4, 2) := by decide +kernel
theorem dX0_sumAt_7 : decode cX0_sumAt 7 = .ok (.aload_n 0, 1) := by decide +kernel
theorem dX0_sumAt_8 : decode cX0_sumAt 8 = .ok (.getfield 137, 3) := by decide +kernel
theorem dX0_sumAt_11 : decode cX0_sumAt 11 = .ok (.if_icmp .ge 20, 3) := by decide +kernel
theorem dX0_sumAt_14 : decode cX0_sumAt 14 = .ok (.iload_n 3, 1) := by decide +kernel
theorem dX0_sumAt_15 : decode cX0_sumAt 15 = .ok (.aload_n 0, 1) := by decide +kernel
theorem dX0_sumAt_16 : decode cX0_sumAt 16 = .ok (.iload 4, 2) := by decide +kernel
theorem dX0_sumAt_18 : decode cX0_sumAt 18 = .ok (.iload_n 1, 1) := by decide +kernel
theorem dX0_sumAt_19 : decode cX0_sumAt 19 = .ok (.iload_n 2, 1) := by decide +kernel
theorem dX0_sumAt_20 : decode cX0_sumAt 20 = .ok (.invokevirtual 155, 3) := by decide +kernel
theorem dX0_sumAt_23 : decode cX0_sumAt 23 = .ok (.iadd, 1) := by decide +kernel
theorem dX0_sumAt_24 : decode cX0_sumAt 24 = .ok (.istore_n 3, 1) := by decide +kernel
theorem dX0_sumAt_25 : decode cX0_sumAt 25 = .ok (.iinc 4 1, 3) := by decide +kernel
theorem dX0_sumAt_28 : decode cX0_sumAt 28 = .ok (.goto (-23), 3) := by decide +kernel
theorem dX0_sumAt_31 : decode cX0_sumAt 31 = .ok (.iload_n 3, 1) := by decide +kernel
theorem dX0_sumAt_32 : decode cX0_sumAt 32 = .ok (.ireturn, 1) := by decide +kernel
theorem dX0_costBy_0 : decode cX0_costBy 0 = .ok (.iload_n 1, 1) := by decide +kernel
theorem dX0_costBy_1 : decode cX0_costBy 1 = .ok (.istore_n 2, 1) := by decide +kernel
theorem dX0_costBy_2 : decode cX0_costBy 2 = .ok (.iload_n 0, 1) := by decide +kernel
theorem dX0_costBy_3 : decode cX0_costBy 3 = .ok (.iconst 1, 1) := by decide +kernel
theorem dX0_costBy_4 : decode cX0_costBy 4 = .ok (.if_icmp .lt 7, 3) := by decide +kernel
theorem dX0_costBy_7 : decode cX0_costBy 7 = .ok (.iload_n 2, 1) := by decide +kernel
theorem dX0_costBy_8 : decode cX0_costBy 8 = .ok (.iload_n 2, 1) := by decide +kernel
theorem dX0_costBy_9 : decode cX0_costBy 9 = .ok (.imul, 1) := by decide +kernel
theorem dX0_costBy_10 : decode cX0_costBy 10 = .ok (.istore_n 2, 1) := by decide +kernel
theorem dX0_costBy_11 : decode cX0_costBy 11 = .ok (.iload_n 0, 1) := by decide +kernel
theorem dX0_costBy_12 : decode cX0_costBy 12 = .ok (.iconst 2, 1) := by decide +kernel
theorem dX0_costBy_13 : decode cX0_costBy 13 = .ok (.if_icmp .lt 17, 3) := by decide +kernel
theorem dX0_costBy_16 : decode cX0_costBy 16 = .ok (.iload_n 2, 1) := by decide +kernel
theorem dX0_costBy_17 : decode cX0_costBy 17 = .ok (.bipush 100, 2) := by decide +kernel
theorem dX0_costBy_19 : decode cX0_costBy 19 = .ok (.if_icmp .le 11, 3) := by decide +kernel
theorem dX0_costBy_22 : decode cX0_costBy 22 = .ok (.bipush 90, 2) := by decide +kernel
theorem dX0_costBy_24 : decode cX0_costBy 24 = .ok (.iload_n 2, 1) := by decide +kernel
theorem dX0_costBy_25 : decode cX0_costBy 25 = .ok (.bipush 10, 2) := by decide +kernel
theorem dX0_costBy_27 : decode cX0_costBy 27 = .ok (.idiv, 1) := by decide +kernel
theorem dX0_costBy_28 : decode cX0_costBy 28 = .ok (.iadd, 1) := by decide +kernel
theorem dX0_costBy_29 : decode cX0_costBy 29 = .ok (.istore_n 2, 1) := by decide +kernel
theorem dX0_costBy_30 : decode cX0_costBy 30 = .ok (.iload_n 2, 1) := by decide +kernel
theorem dX0_costBy_31 : decode cX0_costBy 31 = .ok (.ireturn, 1) := by decide +kernel
theorem dX0_traceOfKind_0 : decode cX0_traceOfKind 0 = .ok (.iload_n 0, 1) := by decide +kernel
theorem dX0_traceOfKind_1 : decode cX0_traceOfKind 1 = .ok (.lookupswitch 32 #[(0, 27), (1, 29)], 27) := by decide +kernel
theorem dX0_traceOfKind_28 : decode cX0_traceOfKind 28 = .ok (.iconst 1, 1) := by decide +kernel
theorem dX0_traceOfKind_29 : decode cX0_traceOfKind 29 = .ok (.ireturn, 1) := by decide +kernel
theorem dX0_traceOfKind_30 : decode cX0_traceOfKind 30 = .ok (.bipush 11, 2) := by decide +kernel
theorem dX0_traceOfKind_32 : decode cX0_traceOfKind 32 = .ok (.ireturn, 1) := by decide +kernel
theorem dX0_traceOfKind_33 : decode cX0_traceOfKind 33 = .ok (.bipush 111, 2) := by decide +kernel
theorem dX0_traceOfKind_35 : decode cX0_traceOfKind 35 = .ok (.ireturn, 1) := by decide +kernel
set_option maxRecDepth 20000 in
theorem ggX0_costAt_X0_boardAt : GoodIn wsX0_costAt wsX0_boardAt := goodIn_r _ [10, 11, 12, 13, 9, 14, 28, 29, 30, 31, 32, 33, 34, 35, 36, 37, 38, 39] (by decide +kernel) (by decide +kernel)
set_option maxRecDepth 20000 in
theorem gX0_costAt_X0_boardAt : GoodIn wsX0_costAt (wsV RX0 41 RX0 yX0_boardAt wsX0_boardAt) := goodIn_app (goodIn_of _ (by decide +kernel)) ggX0_costAt_X0_boardAt
set_option maxRecDepth 20000 in
theorem ggX0_costAt_X0_sumAt : GoodIn wsX0_costAt wsX0_sumAt := goodIn_r _ [18, 19, 20, 21, 22, 9, 23, 24, 28, 29, 30, 31, 32, 33, 34, 35, 36, 37, 38, 39] (by decide +kernel) (by decide +kernel)
set_option maxRecDepth 20000 in
theorem gX0_costAt_X0_sumAt : GoodIn wsX0_costAt (wsV RX0 48 RX0 yX0_sumAt wsX0_sumAt) := goodIn_app (goodIn_of _ (by decide +kernel)) ggX0_costAt_X0_sumAt
set_option maxRecDepth 20000 in
theorem ggX0_costAt_X0_costBy : GoodIn wsX0_costAt wsX0_costBy := goodIn_r _ [27] (by decide +kernel) (by decide +kernel)
set_option maxRecDepth 20000 in
theorem gX0_costAt_X0_costBy : GoodIn wsX0_costAt (va_wsS RX0 83 yX0_costBy wsX0_costBy) := goodIn_app (goodIn_of _ (by decide +kernel)) ggX0_costAt_X0_costBy
theorem dX0_costAt_0 : decode cX0_costAt 0 = .ok (.aload_n 0, 1) := by decide +kernel
theorem dX0_costAt_1 : decode cX0_costAt 1 = .ok (.getfield 29, 3) := by decide +kernel
theorem dX0_costAt_4 : decode cX0_costAt 4 = .ok (.aload_n 0, 1) := by decide +kernel
theorem dX0_costAt_5 : decode cX0_costAt 5 = .ok (.iload_n 1, 1) := by decide +kernel
theorem dX0_costAt_6 : decode cX0_costAt 6 = .ok (.iload_n 2, 1) := by decide +kernel
theorem dX0_costAt_7 : decode cX0_costAt 7 = .ok (.invokevirtual 41, 3) := by decide +kernel
theorem dX0_costAt_10 : decode cX0_costAt 10 = .ok (.aload_n 0, 1) := by decide +kernel
theorem dX0_costAt_11 : decode cX0_costAt 11 = .ok (.iload_n 1, 1) := by decide +kernel
theorem dX0_costAt_12 : decode cX0_costAt 12 = .ok (.iload_n 2, 1) := by decide +kernel
theorem dX0_costAt_13 : decode cX0_costAt 13 = .ok (.invokevirtual 48, 3) := by decide +kernel
theorem dX0_costAt_16 : decode cX0_costAt 16 = .ok (.isub, 1) := by decide +kernel
theorem dX0_costAt_17 : decode cX0_costAt 17 = .ok (.invokestatic 116, 3) := by decide +kernel
theorem dX0_costAt_20 : decode cX0_costAt 20 = .ok (.invokestatic 83, 3) := by decide +kernel
theorem dX0_costAt_23 : decode cX0_costAt 23 = .ok (.ireturn, 1) := by decide +kernel
set_option maxRecDepth 20000 in
theorem ggX0_missAlong_X0_howManyOf : GoodIn wsX0_missAlong wsX0_howManyOf := goodIn_r _ [5, 6, 7, 38, 39, 40, 41, 42, 43, 44, 45, 46, 47, 48, 49] (by decide +kernel) (by decide +kernel)
set_option maxRecDepth 20000 in
theorem gX0_missAlong_X0_howManyOf : GoodIn wsX0_missAlong (wsV RX0 146 RX0 yX0_howManyOf wsX0_howManyOf) := goodIn_app (goodIn_of _ (by decide +kernel)) ggX0_missAlong_X0_howManyOf
set_option maxRecDepth 20000 in
theorem ggX0_missAlong_X0_costAt : GoodIn wsX0_missAlong wsX0_costAt := goodIn_r _ [11, 12, 13, 14, 15, 16, 17, 18, 19, 4, 20, 21, 22, 23, 24, 25, 26, 27, 28, 29, 30, 31, 32, 33, 34, 35, 36, 37, 38, 39, 40, 41, 42, 43, 44, 45, 46, 47, 48, 49] (by decide +kernel) (by decide +kernel)
set_option maxRecDepth 20000 in
theorem gX0_missAlong_X0_costAt : GoodIn wsX0_missAlong (wsV RX0 158 RX0 yX0_costAt wsX0_costAt) := goodIn_app (goodIn_of _ (by decide +kernel)) ggX0_missAlong_X0_costAt
theorem dX0_missAlong_0 : decode cX0_missAlong 0 = .ok (.aload_n 0, 1) := by decide +kernel
theorem dX0_missAlong_1 : decode cX0_missAlong 1 = .ok (.iload_n 1, 1) := by decide +kernel
theorem dX0_missAlong_2 : decode cX0_missAlong 2 = .ok (.ifCond .ne 7, 3) := by decide +kernel
theorem dX0_missAlong_5 : decode cX0_missAlong 5 = .ok (.iconst 1, 1) := by decide +kernel
theorem dX0_missAlong_6 : decode cX0_missAlong 6 = .ok (.goto 4, 3) := by decide +kernel
theorem dX0_missAlong_9 : decode cX0_missAlong 9 = .ok (.iconst 0, 1) := by decide +kernel
theorem dX0_missAlong_10 : decode cX0_missAlong 10 = .ok (.invokevirtual 146, 3) := by decide +kernel
theorem dX0_missAlong_13 : decode cX0_missAlong 13 = .ok (.istore_n 3, 1) := by decide +kernel
theorem dX0_missAlong_14 : decode cX0_missAlong 14 = .ok (.iconst 0, 1) := by decide +kernel
theorem dX0_missAlong_15 : decode cX0_missAlong 15 = .ok (.istore 4, 2) := by decide +kernel
theorem dX0_missAlong_17 : decode cX0_missAlong 17 = .ok (.iconst 0, 1) := by decide +kernel
theorem dX0_missAlong_18 : decode cX0_missAlong 18 = .ok (.istore 5, 2) := by decide +kernel
theorem dX0_missAlong_20 : decode cX0_missAlong 20 = .ok (.iload 5, 2) := by decide +kernel
theorem dX0_missAlong_22 : decode cX0_missAlong 22 = .ok (.iload_n 3, 1) := by decide +kernel
theorem dX0_missAlong_23 : decode cX0_missAlong 23 = .ok (.if_icmp .ge 35, 3) := by decide +kernel
theorem dX0_missAlong_26 : decode cX0_missAlong 26 = .ok (.iload 4, 2) := by decide +kernel
theorem dX0_missAlong_28 : decode cX0_missAlong 28 = .ok (.iload_n 1, 1) := by decide +kernel
theorem dX0_missAlong_29 : decode cX0_missAlong 29 = .ok (.ifCond .ne 13, 3) := by decide +kernel
theorem dX0_missAlong_32 : decode cX0_missAlong 32 = .ok (.aload_n 0, 1) := by decide +kernel
theorem dX0_missAlong_33 : decode cX0_missAlong 33 = .ok (.iload_n 2, 1) := by decide +kernel
theorem dX0_missAlong_34 : decode cX0_missAlong 34 = .ok (.iload 5, 2) := by decide +kernel
theorem dX0_missAlong_36 : decode cX0_missAlong 36 = .ok (.invokevirtual 158, 3) := by decide +kernel
theorem dX0_missAlong_39 : decode cX0_missAlong 39 = .ok (.goto 10, 3) := by decide +kernel
theorem dX0_missAlong_42 : decode cX0_missAlong 42 = .ok (.aload_n 0, 1) := by decide +kernel
theorem dX0_missAlong_43 : decode cX0_missAlong 43 = .ok (.iload 5, 2) := by decide +kernel
theorem dX0_missAlong_45 : decode cX0_missAlong 45 = .ok (.iload_n 2, 1) := by decide +kernel
theorem dX0_missAlong_46 : decode cX0_missAlong 46 = .ok (.invokevirtual 158, 3) := by decide +kernel
theorem dX0_missAlong_49 : decode cX0_missAlong 49 = .ok (.iadd, 1) := by decide +kernel
theorem dX0_missAlong_50 : decode cX0_missAlong 50 = .ok (.istore 4, 2) := by decide +kernel
theorem dX0_missAlong_52 : decode cX0_missAlong 52 = .ok (.iinc 5 1, 3) := by decide +kernel
theorem dX0_missAlong_55 : decode cX0_missAlong 55 = .ok (.goto (-35), 3) := by decide +kernel
theorem dX0_missAlong_58 : decode cX0_missAlong 58 = .ok (.iload 4, 2) := by decide +kernel
theorem dX0_missAlong_60 : decode cX0_missAlong 60 = .ok (.ireturn, 1) := by decide +kernel
set_option maxRecDepth 20000 in
theorem ggX0_playRound_X0_howManyOf : GoodIn wsX0_playRound wsX0_howManyOf := goodIn_r _ [6, 7, 8, 57, 58, 59, 60, 61, 62, 63, 64, 65, 66, 67, 68] (by decide +kernel) (by decide +kernel)
set_option maxRecDepth 20000 in
theorem gX0_playRound_X0_howManyOf : GoodIn wsX0_playRound (wsV RX0 146 RX0 yX0_howManyOf wsX0_howManyOf) := goodIn_app (goodIn_of _ (by decide +kernel)) ggX0_playRound_X0_howManyOf
set_option maxRecDepth 20000 in
theorem ggX0_playRound_X0_stepNumber : GoodIn wsX0_playRound wsX0_stepNumber := goodIn_r _ [12, 13, 14, 15, 5, 16, 17, 18, 19, 20, 21, 22, 23, 24, 25, 2, 3, 4, 6, 7, 8, 26, 27, 28, 29, 30, 31, 32, 33, 34, 35, 36, 37, 38, 39, 40, 41, 42, 43, 44, 45, 46, 1, 47, 48, 49, 50, 51, 52, 53, 54, 55, 56, 57, 58, 59, 60, 61, 62, 63, 64, 65, 66, 67, 68] (by decide +kernel) (by decide +kernel)
set_option maxRecDepth 20000 in
theorem gX0_playRound_X0_stepNumber : GoodIn wsX0_playRound (wsV RX0 161 RX0 yX0_stepNumber wsX0_stepNumber) := goodIn_app (goodIn_of _ (by decide +kernel)) ggX0_playRound_X0_stepNumber
theorem dX0_playRound_0 : decode cX0_playRound 0 = .ok (.iconst 0, 1) := by decide +kernel
theorem dX0_playRound_1 : decode cX0_playRound 1 = .ok (.istore_n 1, 1) := by decide +kernel
theorem dX0_playRound_2 : decode cX0_playRound 2 = .ok (.iload_n 1, 1) := by decide +kernel
theorem dX0_playRound_3 : decode cX0_playRound 3 = .ok (.aload_n 0, 1) := by decide +kernel
theorem dX0_playRound_4 : decode cX0_playRound 4 = .ok (.getfield 137, 3) := by decide +kernel
theorem dX0_playRound_7 : decode cX0_playRound 7 = .ok (.if_icmp .ge 51, 3) := by decide +kernel
theorem dX0_playRound_10 : decode cX0_playRound 10 = .ok (.iconst 0, 1) := by decide +kernel
theorem dX0_playRound_11 : decode cX0_playRound 11 = .ok (.istore_n 2, 1) := by decide +kernel
theorem dX0_playRound_12 : decode cX0_playRound 12 = .ok (.iload_n 2, 1) := by decide +kernel
theorem dX0_playRound_13 : decode cX0_playRound 13 = .ok (.iconst 1, 1) := by decide +kernel
theorem dX0_playRound_14 : decode cX0_playRound 14 = .ok (.if_icmp .gt 38, 3) := by decide +kernel
theorem dX0_playRound_17 : decode cX0_playRound 17 = .ok (.aload_n 0, 1) := by decide +kernel
theorem dX0_playRound_18 : decode cX0_playRound 18 = .ok (.iload_n 2, 1) := by decide +kernel
theorem dX0_playRound_19 : decode cX0_playRound 19 = .ok (.invokevirtual 146, 3) := by decide +kernel
theorem dX0_playRound_22 : decode cX0_playRound 22 = .ok (.istore_n 3, 1) := by decide +kernel
theorem dX0_playRound_23 : decode cX0_playRound 23 = .ok (.iconst 0, 1) := by decide +kernel
theorem dX0_playRound_24 : decode cX0_playRound 24 = .ok (.istore 4, 2) := by decide +kernel
theorem dX0_playRound_26 : decode cX0_playRound 26 = .ok (.iload 4, 2) := by decide +kernel
theorem dX0_playRound_28 : decode cX0_playRound 28 = .ok (.iload_n 3, 1) := by decide +kernel
theorem dX0_playRound_29 : decode cX0_playRound 29 = .ok (.if_icmp .ge 17, 3) := by decide +kernel
theorem dX0_playRound_32 : decode cX0_playRound 32 = .ok (.aload_n 0, 1) := by decide +kernel
theorem dX0_playRound_33 : decode cX0_playRound 33 = .ok (.iload_n 1, 1) := by decide +kernel
theorem dX0_playRound_34 : decode cX0_playRound 34 = .ok (.iload_n 2, 1) := by decide +kernel
theorem dX0_playRound_35 : decode cX0_playRound 35 = .ok (.iload 4, 2) := by decide +kernel
theorem dX0_playRound_37 : decode cX0_playRound 37 = .ok (.invokevirtual 161, 3) := by decide +kernel
theorem dX0_playRound_40 : decode cX0_playRound 40 = .ok (.iinc 4 1, 3) := by decide +kernel
theorem dX0_playRound_43 : decode cX0_playRound 43 = .ok (.goto (-17), 3) := by decide +kernel
theorem dX0_playRound_46 : decode cX0_playRound 46 = .ok (.iinc 2 1, 3) := by decide +kernel
theorem dX0_playRound_49 : decode cX0_playRound 49 = .ok (.goto (-37), 3) := by decide +kernel
theorem dX0_playRound_52 : decode cX0_playRound 52 = .ok (.iinc 1 1, 3) := by decide +kernel
theorem dX0_playRound_55 : decode cX0_playRound 55 = .ok (.goto (-53), 3) := by decide +kernel
theorem dX0_playRound_58 : decode cX0_playRound 58 = .ok (.return_, 1) := by decide +kernel
set_option maxRecDepth 20000 in
theorem ggX0_stepNumber_X0_place : GoodIn wsX0_stepNumber wsX0_place := goodIn_r _ [5] (by decide +kernel) (by decide +kernel)
set_option maxRecDepth 20000 in
theorem gX0_stepNumber_X0_place : GoodIn wsX0_stepNumber (va_wsS RX0 62 yX0_place wsX0_place) := goodIn_app (goodIn_of _ (by decide +kernel)) ggX0_stepNumber_X0_place
set_option maxRecDepth 20000 in
theorem ggX0_stepNumber_X0_isBarred : GoodIn wsX0_stepNumber wsX0_isBarred := goodIn_r _ [9, 10, 53, 54, 55, 56, 57, 58, 59, 60, 61, 62, 63, 64] (by decide +kernel) (by decide +kernel)
set_option maxRecDepth 20000 in
theorem gX0_stepNumber_X0_isBarred : GoodIn wsX0_stepNumber (wsV RX0 65 RX0 yX0_isBarred wsX0_isBarred) := goodIn_app (goodIn_of _ (by decide +kernel)) ggX0_stepNumber_X0_isBarred
set_option maxRecDepth 20000 in
theorem ggX0_stepNumber_X0_missAlong : GoodIn wsX0_stepNumber wsX0_missAlong := goodIn_r _ [14, 15, 16, 17, 4, 18, 19, 20, 21, 22, 23, 24, 25, 26, 27, 28, 29, 30, 31, 32, 33, 34, 35, 36, 37, 38, 39, 40, 41, 42, 43, 44, 45, 46, 1, 47, 48, 49, 53, 54, 55, 56, 57, 58, 59, 60, 61, 62, 63, 64] (by decide +kernel) (by decide +kernel)
set_option maxRecDepth 20000 in
theorem gX0_stepNumber_X0_missAlong : GoodIn wsX0_stepNumber (wsV RX0 89 RX0 yX0_missAlong wsX0_missAlong) := goodIn_app (goodIn_of _ (by decide +kernel)) ggX0_stepNumber_X0_missAlong
set_option maxRecDepth 20000 in
theorem ggX0_stepNumber_X0_within : GoodIn wsX0_stepNumber wsX0_within := goodIn_r _ [52] (by decide +kernel) (by decide +kernel)
set_option maxRecDepth 20000 in
theorem gX0_stepNumber_X0_within : GoodIn wsX0_stepNumber (va_wsS RX0 33 yX0_within wsX0_within) := goodIn_app (goodIn_of _ (by decide +kernel)) ggX0_stepNumber_X0_within
theorem dX0_stepNumber_0 : decode cX0_stepNumber 0 = .ok (.iload_n 1, 1) := by decide +kernel
theorem dX0_stepNumber_1 : decode cX0_stepNumber 1 = .ok (.iload_n 2, 1) := by decide +kernel
theorem dX0_stepNumber_2 : decode cX0_stepNumber 2 = .ok (.iload_n 3, 1) := by decide +kernel
theorem dX0_stepNumber_3 : decode cX0_stepNumber 3 = .ok (.invokestatic 62, 3) := by decide +kernel
theorem dX0_stepNumber_6 : decode cX0_stepNumber 6 = .ok (.istore 4, 2) := by decide +kernel
theorem dX0_stepNumber_8 : decode cX0_stepNumber 8 = .ok (.aload_n 0, 1) := by decide +kernel
theorem dX0_stepNumber_9 : decode cX0_stepNumber 9 = .ok (.iload 4, 2) := by decide +kernel
theorem dX0_stepNumber_11 : decode cX0_stepNumber 11 = .ok (.invokevirtual 65, 3) := by decide +kernel
theorem dX0_stepNumber_14 : decode cX0_stepNumber 14 = .ok (.ifCond .eq 4, 3) := by decide +kernel
theorem dX0_stepNumber_17 : decode cX0_stepNumber 17 = .ok (.return_, 1) := by decide +kernel
theorem dX0_stepNumber_18 : decode cX0_stepNumber 18 = .ok (.aload_n 0, 1) := by decide +kernel
theorem dX0_stepNumber_19 : decode cX0_stepNumber 19 = .ok (.getfield 13, 3) := by decide +kernel
theorem dX0_stepNumber_22 : decode cX0_stepNumber 22 = .ok (.iload 4, 2) := by decide +kernel
theorem dX0_stepNumber_24 : decode cX0_stepNumber 24 = .ok (.iaload, 1) := by decide +kernel
theorem dX0_stepNumber_25 : decode cX0_stepNumber 25 = .ok (.istore 5, 2) := by decide +kernel
theorem dX0_stepNumber_27 : decode cX0_stepNumber 27 = .ok (.iload 5, 2) := by decide +kernel
theorem dX0_stepNumber_29 : decode cX0_stepNumber 29 = .ok (.istore 6, 2) := by decide +kernel
theorem dX0_stepNumber_31 : decode cX0_stepNumber 31 = .ok (.aload_n 0, 1) := by decide +kernel
theorem dX0_stepNumber_32 : decode cX0_stepNumber 32 = .ok (.iload_n 2, 1) := by decide +kernel
theorem dX0_stepNumber_33 : decode cX0_stepNumber 33 = .ok (.iload_n 3, 1) := by decide +kernel
theorem dX0_stepNumber_34 : decode cX0_stepNumber 34 = .ok (.invokevirtual 89, 3) := by decide +kernel
theorem dX0_stepNumber_37 : decode cX0_stepNumber 37 = .ok (.istore 7, 2) := by decide +kernel
theorem dX0_stepNumber_39 : decode cX0_stepNumber 39 = .ok (.iload 5, 2) := by decide +kernel
theorem dX0_stepNumber_41 : decode cX0_stepNumber 41 = .ok (.iconst 1, 1) := by decide +kernel
theorem dX0_stepNumber_42 : decode cX0_stepNumber 42 = .ok (.isub, 1) := by decide +kernel
theorem dX0_stepNumber_43 : decode cX0_stepNumber 43 = .ok (.istore 8, 2) := by decide +kernel
theorem dX0_stepNumber_45 : decode cX0_stepNumber 45 = .ok (.iload 8, 2) := by decide +kernel
theorem dX0_stepNumber_47 : decode cX0_stepNumber 47 = .ok (.iload 5, 2) := by decide +kernel
theorem dX0_stepNumber_49 : decode cX0_stepNumber 49 = .ok (.iconst 1, 1) := by decide +kernel
theorem dX0_stepNumber_50 : decode cX0_stepNumber 50 = .ok (.iadd, 1) := by decide +kernel
theorem dX0_stepNumber_51 : decode cX0_stepNumber 51 = .ok (.if_icmp .gt 52, 3) := by decide +kernel
theorem dX0_stepNumber_54 : decode cX0_stepNumber 54 = .ok (.iload 8, 2) := by decide +kernel
theorem dX0_stepNumber_56 : decode cX0_stepNumber 56 = .ok (.iconst 0, 1) := by decide +kernel
theorem dX0_stepNumber_57 : decode cX0_stepNumber 57 = .ok (.bipush 20, 2) := by decide +kernel
theorem dX0_stepNumber_59 : decode cX0_stepNumber 59 = .ok (.invokestatic 33, 3) := by decide +kernel
theorem dX0_stepNumber_62 : decode cX0_stepNumber 62 = .ok (.ifCond .eq 35, 3) := by decide +kernel
theorem dX0_stepNumber_65 : decode cX0_stepNumber 65 = .ok (.aload_n 0, 1) := by decide +kernel
theorem dX0_stepNumber_66 : decode cX0_stepNumber 66 = .ok (.getfield 13, 3) := by decide +kernel
theorem dX0_stepNumber_69 : decode cX0_stepNumber 69 = .ok (.iload 4, 2) := by decide +kernel
theorem dX0_stepNumber_71 : decode cX0_stepNumber 71 = .ok (.iload 8, 2) := by decide +kernel
theorem dX0_stepNumber_73 : decode cX0_stepNumber 73 = .ok (.iastore, 1) := by decide +kernel
theorem dX0_stepNumber_74 : decode cX0_stepNumber 74 = .ok (.aload_n 0, 1) := by decide +kernel
theorem dX0_stepNumber_75 : decode cX0_stepNumber 75 = .ok (.iload_n 2, 1) := by decide +kernel
theorem dX0_stepNumber_76 : decode cX0_stepNumber 76 = .ok (.iload_n 3, 1) := by decide +kernel
theorem dX0_stepNumber_77 : decode cX0_stepNumber 77 = .ok (.invokevirtual 89, 3) := by decide +kernel
theorem dX0_stepNumber_80 : decode cX0_stepNumber 80 = .ok (.istore 9, 2) := by decide +kernel
theorem dX0_stepNumber_82 : decode cX0_stepNumber 82 = .ok (.iload 9, 2) := by decide +kernel
theorem dX0_stepNumber_84 : decode cX0_stepNumber 84 = .ok (.iload 7, 2) := by decide +kernel
theorem dX0_stepNumber_86 : decode cX0_stepNumber 86 = .ok (.if_icmp .ge 11, 3) := by decide +kernel
theorem dX0_stepNumber_89 : decode cX0_stepNumber 89 = .ok (.iload 9, 2) := by decide +kernel
theorem dX0_stepNumber_91 : decode cX0_stepNumber 91 = .ok (.istore 7, 2) := by decide +kernel
theorem dX0_stepNumber_93 : decode cX0_stepNumber 93 = .ok (.iload 8, 2) := by decide +kernel
theorem dX0_stepNumber_95 : decode cX0_stepNumber 95 = .ok (.istore 6, 2) := by decide +kernel
theorem dX0_stepNumber_97 : decode cX0_stepNumber 97 = .ok (.iinc 8 2, 3) := by decide +kernel
theorem dX0_stepNumber_100 : decode cX0_stepNumber 100 = .ok (.goto (-55), 3) := by decide +kernel
theorem dX0_stepNumber_103 : decode cX0_stepNumber 103 = .ok (.aload_n 0, 1) := by decide +kernel
theorem dX0_stepNumber_104 : decode cX0_stepNumber 104 = .ok (.getfield 13, 3) := by decide +kernel
theorem dX0_stepNumber_107 : decode cX0_stepNumber 107 = .ok (.iload 4, 2) := by decide +kernel
theorem dX0_stepNumber_109 : decode cX0_stepNumber 109 = .ok (.iload 6, 2) := by decide +kernel
theorem dX0_stepNumber_111 : decode cX0_stepNumber 111 = .ok (.iastore, 1) := by decide +kernel
theorem dX0_stepNumber_112 : decode cX0_stepNumber 112 = .ok (.return_, 1) := by decide +kernel
set_option maxRecDepth 20000 in
theorem ggX0_shareAt_X0_boardAt : GoodIn wsX0_shareAt wsX0_boardAt := goodIn_r _ [6, 7, 8, 9, 5, 10, 20, 21, 22, 23, 24, 25, 26, 27, 28, 29, 30, 31] (by decide +kernel) (by decide +kernel)
set_option maxRecDepth 20000 in
theorem gX0_shareAt_X0_boardAt : GoodIn wsX0_shareAt (wsV RX0 41 RX0 yX0_boardAt wsX0_boardAt) := goodIn_app (goodIn_of _ (by decide +kernel)) ggX0_shareAt_X0_boardAt
set_option maxRecDepth 20000 in
theorem ggX0_shareAt_X0_sumAt : GoodIn wsX0_shareAt wsX0_sumAt := goodIn_r _ [14, 1, 15, 16, 17, 5, 18, 19, 20, 21, 22, 23, 24, 25, 26, 27, 28, 29, 30, 31] (by decide +kernel) (by decide +kernel)
set_option maxRecDepth 20000 in
theorem gX0_shareAt_X0_sumAt : GoodIn wsX0_shareAt (wsV RX0 48 RX0 yX0_sumAt wsX0_sumAt) := goodIn_app (goodIn_of _ (by decide +kernel)) ggX0_shareAt_X0_sumAt
set_option maxRecDepth 20000 in
theorem ggX0_shareAt_X0_productAt : GoodIn wsX0_shareAt wsX0_productAt := goodIn_r _ [18, 19, 20, 21, 22, 23, 24, 25, 26, 27, 28, 29, 30, 31] (by decide +kernel) (by decide +kernel)
set_option maxRecDepth 20000 in
theorem gX0_shareAt_X0_productAt : GoodIn wsX0_shareAt (wsV RX0 155 RX0 yX0_productAt wsX0_productAt) := goodIn_app (goodIn_of _ (by decide +kernel)) ggX0_shareAt_X0_productAt
theorem dX0_shareAt_0 : decode cX0_shareAt 0 = .ok (.aload_n 0, 1) := by decide +kernel
theorem dX0_shareAt_1 : decode cX0_shareAt 1 = .ok (.iload_n 2, 1) := by decide +kernel
theorem dX0_shareAt_2 : decode cX0_shareAt 2 = .ok (.iload_n 3, 1) := by decide +kernel
theorem dX0_shareAt_3 : decode cX0_shareAt 3 = .ok (.invokevirtual 41, 3) := by decide +kernel
theorem dX0_shareAt_6 : decode cX0_shareAt 6 = .ok (.istore 4, 2) := by decide +kernel
theorem dX0_shareAt_8 : decode cX0_shareAt 8 = .ok (.aload_n 0, 1) := by decide +kernel
theorem dX0_shareAt_9 : decode cX0_shareAt 9 = .ok (.iload_n 2, 1) := by decide +kernel
theorem dX0_shareAt_10 : decode cX0_shareAt 10 = .ok (.iload_n 3, 1) := by decide +kernel
theorem dX0_shareAt_11 : decode cX0_shareAt 11 = .ok (.invokevirtual 48, 3) := by decide +kernel
theorem dX0_shareAt_14 : decode cX0_shareAt 14 = .ok (.istore 5, 2) := by decide +kernel
theorem dX0_shareAt_16 : decode cX0_shareAt 16 = .ok (.iload 5, 2) := by decide +kernel
theorem dX0_shareAt_18 : decode cX0_shareAt 18 = .ok (.ifCond .gt 14, 3) := by decide +kernel
theorem dX0_shareAt_21 : decode cX0_shareAt 21 = .ok (.iload_n 1, 1) := by decide +kernel
theorem dX0_shareAt_22 : decode cX0_shareAt 22 = .ok (.ifCond .ne 8, 3) := by decide +kernel
theorem dX0_shareAt_25 : decode cX0_shareAt 25 = .ok (.iload 4, 2) := by decide +kernel
theorem dX0_shareAt_27 : decode cX0_shareAt 27 = .ok (.goto 4, 3) := by decide +kernel
theorem dX0_shareAt_30 : decode cX0_shareAt 30 = .ok (.iconst 0, 1) := by decide +kernel
theorem dX0_shareAt_31 : decode cX0_shareAt 31 = .ok (.ireturn, 1) := by decide +kernel
theorem dX0_shareAt_32 : decode cX0_shareAt 32 = .ok (.iload 4, 2) := by decide +kernel
theorem dX0_shareAt_34 : decode cX0_shareAt 34 = .ok (.aload_n 0, 1) := by decide +kernel
theorem dX0_shareAt_35 : decode cX0_shareAt 35 = .ok (.iload_n 1, 1) := by decide +kernel
theorem dX0_shareAt_36 : decode cX0_shareAt 36 = .ok (.iload_n 2, 1) := by decide +kernel
theorem dX0_shareAt_37 : decode cX0_shareAt 37 = .ok (.iload_n 3, 1) := by decide +kernel
theorem dX0_shareAt_38 : decode cX0_shareAt 38 = .ok (.invokevirtual 155, 3) := by decide +kernel
theorem dX0_shareAt_41 : decode cX0_shareAt 41 = .ok (.imul, 1) := by decide +kernel
theorem dX0_shareAt_42 : decode cX0_shareAt 42 = .ok (.istore 6, 2) := by decide +kernel
theorem dX0_shareAt_44 : decode cX0_shareAt 44 = .ok (.iload 4, 2) := by decide +kernel
theorem dX0_shareAt_46 : decode cX0_shareAt 46 = .ok (.istore 7, 2) := by decide +kernel
theorem dX0_shareAt_48 : decode cX0_shareAt 48 = .ok (.iconst 0, 1) := by decide +kernel
theorem dX0_shareAt_49 : decode cX0_shareAt 49 = .ok (.istore 8, 2) := by decide +kernel
theorem dX0_shareAt_51 : decode cX0_shareAt 51 = .ok (.iconst 0, 1) := by decide +kernel
theorem dX0_shareAt_52 : decode cX0_shareAt 52 = .ok (.istore 9, 2) := by decide +kernel
theorem dX0_shareAt_54 : decode cX0_shareAt 54 = .ok (.iload 9, 2) := by decide +kernel
theorem dX0_shareAt_56 : decode cX0_shareAt 56 = .ok (.aload_n 0, 1) := by decide +kernel
theorem dX0_shareAt_57 : decode cX0_shareAt 57 = .ok (.getfield 137, 3) := by decide +kernel
theorem dX0_shareAt_60 : decode cX0_shareAt 60 = .ok (.if_icmp .ge 67, 3) := by decide +kernel
theorem dX0_shareAt_63 : decode cX0_shareAt 63 = .ok (.iload 4, 2) := by decide +kernel
theorem dX0_shareAt_65 : decode cX0_shareAt 65 = .ok (.aload_n 0, 1) := by decide +kernel
theorem dX0_shareAt_66 : decode cX0_shareAt 66 = .ok (.iload 9, 2) := by decide +kernel
theorem dX0_shareAt_68 : decode cX0_shareAt 68 = .ok (.iload_n 2, 1) := by decide +kernel
theorem dX0_shareAt_69 : decode cX0_shareAt 69 = .ok (.iload_n 3, 1) := by decide +kernel
theorem dX0_shareAt_70 : decode cX0_shareAt 70 = .ok (.invokevirtual 155, 3) := by decide +kernel
theorem dX0_shareAt_73 : decode cX0_shareAt 73 = .ok (.imul, 1) := by decide +kernel
theorem dX0_shareAt_74 : decode cX0_shareAt 74 = .ok (.istore 10, 2) := by decide +kernel
theorem dX0_shareAt_76 : decode cX0_shareAt 76 = .ok (.iload 7, 2) := by decide +kernel
theorem dX0_shareAt_78 : decode cX0_shareAt 78 = .ok (.iload 10, 2) := by decide +kernel
theorem dX0_shareAt_80 : decode cX0_shareAt 80 = .ok (.iload 5, 2) := by decide +kernel
theorem dX0_shareAt_82 : decode cX0_shareAt 82 = .ok (.idiv, 1) := by decide +kernel
theorem dX0_shareAt_83 : decode cX0_shareAt 83 = .ok (.isub, 1) := by decide +kernel
theorem dX0_shareAt_84 : decode cX0_shareAt 84 = .ok (.istore 7, 2) := by decide +kernel
theorem dX0_shareAt_86 : decode cX0_shareAt 86 = .ok (.iload 10, 2) := by decide +kernel
theorem dX0_shareAt_88 : decode cX0_shareAt 88 = .ok (.iload 5, 2) := by decide +kernel
theorem dX0_shareAt_90 : decode cX0_shareAt 90 = .ok (.irem, 1) := by decide +kernel
theorem dX0_shareAt_91 : decode cX0_shareAt 91 = .ok (.iload 6, 2) := by decide +kernel
theorem dX0_shareAt_93 : decode cX0_shareAt 93 = .ok (.iload 5, 2) := by decide +kernel
theorem dX0_shareAt_95 : decode cX0_shareAt 95 = .ok (.irem, 1) := by decide +kernel
theorem dX0_shareAt_96 : decode cX0_shareAt 96 = .ok (.if_icmp .gt 22, 3) := by decide +kernel
theorem dX0_shareAt_99 : decode cX0_shareAt 99 = .ok (.iload 10, 2) := by decide +kernel
theorem dX0_shareAt_101 : decode cX0_shareAt 101 = .ok (.iload 5, 2) := by decide +kernel
theorem dX0_shareAt_103 : decode cX0_shareAt 103 = .ok (.irem, 1) := by decide +kernel
theorem dX0_shareAt_104 : decode cX0_shareAt 104 = .ok (.iload 6, 2) := by decide +kernel
theorem dX0_shareAt_106 : decode cX0_shareAt 106 = .ok (.iload 5, 2) := by decide +kernel
theorem dX0_shareAt_108 : decode cX0_shareAt 108 = .ok (.irem, 1) := by decide +kernel
theorem dX0_shareAt_109 : decode cX0_shareAt 109 = .ok (.if_icmp .ne 12, 3) := by decide +kernel
theorem dX0_shareAt_112 : decode cX0_shareAt 112 = .ok (.iload 9, 2) := by decide +kernel
theorem dX0_shareAt_114 : decode cX0_shareAt 114 = .ok (.iload_n 1, 1) := by decide +kernel
theorem dX0_shareAt_115 : decode cX0_shareAt 115 = .ok (.if_icmp .ge 6, 3) := by decide +kernel
theorem dX0_shareAt_118 : decode cX0_shareAt 118 = .ok (.iinc 8 1, 3) := by decide +kernel
theorem dX0_shareAt_121 : decode cX0_shareAt 121 = .ok (.iinc 9 1, 3) := by decide +kernel
theorem dX0_shareAt_124 : decode cX0_shareAt 124 = .ok (.goto (-70), 3) := by decide +kernel
theorem dX0_shareAt_127 : decode cX0_shareAt 127 = .ok (.iload 6, 2) := by decide +kernel
theorem dX0_shareAt_129 : decode cX0_shareAt 129 = .ok (.iload 5, 2) := by decide +kernel
theorem dX0_shareAt_131 : decode cX0_shareAt 131 = .ok (.idiv, 1) := by decide +kernel
theorem dX0_shareAt_132 : decode cX0_shareAt 132 = .ok (.iload 8, 2) := by decide +kernel
theorem dX0_shareAt_134 : decode cX0_shareAt 134 = .ok (.iload 7, 2) := by decide +kernel
theorem dX0_shareAt_136 : decode cX0_shareAt 136 = .ok (.if_icmp .ge 7, 3) := by decide +kernel
theorem dX0_shareAt_139 : decode cX0_shareAt 139 = .ok (.iconst 1, 1) := by decide +kernel
theorem dX0_shareAt_140 : decode cX0_shareAt 140 = .ok (.goto 4, 3) := by decide +kernel
theorem dX0_shareAt_143 : decode cX0_shareAt 143 = .ok (.iconst 0, 1) := by decide +kernel
theorem dX0_shareAt_144 : decode cX0_shareAt 144 = .ok (.iadd, 1) := by decide +kernel
theorem dX0_shareAt_145 : decode cX0_shareAt 145 = .ok (.ireturn, 1) := by decide +kernel
theorem dX0_areInStep_0 : decode cX0_areInStep 0 = .ok (.iload_n 2, 1) := by decide +kernel
theorem dX0_areInStep_1 : decode cX0_areInStep 1 = .ok (.ifCond .le 15, 3) := by decide +kernel
theorem dX0_areInStep_4 : decode cX0_areInStep 4 = .ok (.iload_n 0, 1) := by decide +kernel
theorem dX0_areInStep_5 : decode cX0_areInStep 5 = .ok (.iload_n 1, 1) := by decide +kernel
theorem dX0_areInStep_6 : decode cX0_areInStep 6 = .ok (.isub, 1) := by decide +kernel
theorem dX0_areInStep_7 : decode cX0_areInStep 7 = .ok (.iload_n 2, 1) := by decide +kernel
theorem dX0_areInStep_8 : decode cX0_areInStep 8 = .ok (.irem, 1) := by decide +kernel
theorem dX0_areInStep_9 : decode cX0_areInStep 9 = .ok (.ifCond .ne 7, 3) := by decide +kernel
theorem dX0_areInStep_12 : decode cX0_areInStep 12 = .ok (.iconst 1, 1) := by decide +kernel
theorem dX0_areInStep_13 : decode cX0_areInStep 13 = .ok (.goto 4, 3) := by decide +kernel
theorem dX0_areInStep_16 : decode cX0_areInStep 16 = .ok (.iconst 0, 1) := by decide +kernel
theorem dX0_areInStep_17 : decode cX0_areInStep 17 = .ok (.ireturn, 1) := by decide +kernel
set_option maxRecDepth 20000 in
theorem ggX0_backgroundAt_X0_areInStep : GoodIn wsX0_backgroundAt wsX0_areInStep := goodIn_r _ [5] (by decide +kernel) (by decide +kernel)
set_option maxRecDepth 20000 in
theorem gX0_backgroundAt_X0_areInStep : GoodIn wsX0_backgroundAt (va_wsS RX0 164 yX0_areInStep wsX0_areInStep) := goodIn_app (goodIn_of _ (by decide +kernel)) ggX0_backgroundAt_X0_areInStep
set_option maxRecDepth 20000 in
theorem ggX0_backgroundAt_X0_howManyAhead : GoodIn wsX0_backgroundAt wsX0_howManyAhead := goodIn_r _ [9, 1, 10, 11, 12, 4, 13, 14, 15, 16, 17, 2, 3, 5, 18, 19, 20, 21, 22, 23, 24, 25, 26, 27, 28, 29] (by decide +kernel) (by decide +kernel)
set_option maxRecDepth 20000 in
theorem gX0_backgroundAt_X0_howManyAhead : GoodIn wsX0_backgroundAt (wsV RX0 167 RX0 yX0_howManyAhead wsX0_howManyAhead) := goodIn_app (goodIn_of _ (by decide +kernel)) ggX0_backgroundAt_X0_howManyAhead
set_option maxRecDepth 20000 in
theorem ggX0_backgroundAt_X0_boardAt : GoodIn wsX0_backgroundAt wsX0_boardAt := goodIn_r _ [13, 14, 15, 16, 4, 17, 18, 19, 20, 21, 22, 23, 24, 25, 26, 27, 28, 29] (by decide +kernel) (by decide +kernel)
set_option maxRecDepth 20000 in
theorem gX0_backgroundAt_X0_boardAt : GoodIn wsX0_backgroundAt (wsV RX0 41 RX0 yX0_boardAt wsX0_boardAt) := goodIn_app (goodIn_of _ (by decide +kernel)) ggX0_backgroundAt_X0_boardAt
theorem dX0_backgroundAt_0 : decode cX0_backgroundAt 0 = .ok (.iconst 0, 1) := by decide +kernel
theorem dX0_backgroundAt_1 : decode cX0_backgroundAt 1 = .ok (.istore 4, 2) := by decide +kernel
theorem dX0_backgroundAt_3 : decode cX0_backgroundAt 3 = .ok (.iconst 0, 1) := by decide +kernel
theorem dX0_backgroundAt_4 : decode cX0_backgroundAt 4 = .ok (.istore 5, 2) := by decide +kernel
theorem dX0_backgroundAt_6 : decode cX0_backgroundAt 6 = .ok (.iload 5, 2) := by decide +kernel
theorem dX0_backgroundAt_8 : decode cX0_backgroundAt 8 = .ok (.aload_n 0, 1) := by decide +kernel
theorem dX0_backgroundAt_9 : decode cX0_backgroundAt 9 = .ok (.getfield 107, 3) := by decide +kernel
theorem dX0_backgroundAt_12 : decode cX0_backgroundAt 12 = .ok (.if_icmp .ge 22, 3) := by decide +kernel
theorem dX0_backgroundAt_15 : decode cX0_backgroundAt 15 = .ok (.iload_n 3, 1) := by decide +kernel
theorem dX0_backgroundAt_16 : decode cX0_backgroundAt 16 = .ok (.iload 5, 2) := by decide +kernel
theorem dX0_backgroundAt_18 : decode cX0_backgroundAt 18 = .ok (.iload_n 1, 1) := by decide +kernel
theorem dX0_backgroundAt_19 : decode cX0_backgroundAt 19 = .ok (.invokestatic 164, 3) := by decide +kernel
theorem dX0_backgroundAt_22 : decode cX0_backgroundAt 22 = .ok (.ifCond .eq 6, 3) := by decide +kernel
theorem dX0_backgroundAt_25 : decode cX0_backgroundAt 25 = .ok (.iinc 4 1, 3) := by decide +kernel
theorem dX0_backgroundAt_28 : decode cX0_backgroundAt 28 = .ok (.iinc 5 1, 3) := by decide +kernel
theorem dX0_backgroundAt_31 : decode cX0_backgroundAt 31 = .ok (.goto (-25), 3) := by decide +kernel
theorem dX0_backgroundAt_34 : decode cX0_backgroundAt 34 = .ok (.iload 4, 2) := by decide +kernel
theorem dX0_backgroundAt_36 : decode cX0_backgroundAt 36 = .ok (.iconst 1, 1) := by decide +kernel
theorem dX0_backgroundAt_37 : decode cX0_backgroundAt 37 = .ok (.isub, 1) := by decide +kernel
theorem dX0_backgroundAt_38 : decode cX0_backgroundAt 38 = .ok (.iconst 2, 1) := by decide +kernel
theorem dX0_backgroundAt_39 : decode cX0_backgroundAt 39 = .ok (.idiv, 1) := by decide +kernel
theorem dX0_backgroundAt_40 : decode cX0_backgroundAt 40 = .ok (.istore 5, 2) := by decide +kernel
theorem dX0_backgroundAt_42 : decode cX0_backgroundAt 42 = .ok (.iconst 0, 1) := by decide +kernel
theorem dX0_backgroundAt_43 : decode cX0_backgroundAt 43 = .ok (.istore 6, 2) := by decide +kernel
theorem dX0_backgroundAt_45 : decode cX0_backgroundAt 45 = .ok (.iload 6, 2) := by decide +kernel
theorem dX0_backgroundAt_47 : decode cX0_backgroundAt 47 = .ok (.aload_n 0, 1) := by decide +kernel
theorem dX0_backgroundAt_48 : decode cX0_backgroundAt 48 = .ok (.getfield 107, 3) := by decide +kernel
theorem dX0_backgroundAt_51 : decode cX0_backgroundAt 51 = .ok (.if_icmp .ge 40, 3) := by decide +kernel
theorem dX0_backgroundAt_54 : decode cX0_backgroundAt 54 = .ok (.iload_n 3, 1) := by decide +kernel
theorem dX0_backgroundAt_55 : decode cX0_backgroundAt 55 = .ok (.iload 6, 2) := by decide +kernel
theorem dX0_backgroundAt_57 : decode cX0_backgroundAt 57 = .ok (.iload_n 1, 1) := by decide +kernel
theorem dX0_backgroundAt_58 : decode cX0_backgroundAt 58 = .ok (.invokestatic 164, 3) := by decide +kernel
theorem dX0_backgroundAt_61 : decode cX0_backgroundAt 61 = .ok (.ifCond .eq 24, 3) := by decide +kernel
theorem dX0_backgroundAt_64 : decode cX0_backgroundAt 64 = .ok (.aload_n 0, 1) := by decide +kernel
theorem dX0_backgroundAt_65 : decode cX0_backgroundAt 65 = .ok (.iload_n 1, 1) := by decide +kernel
theorem dX0_backgroundAt_66 : decode cX0_backgroundAt 66 = .ok (.iload_n 2, 1) := by decide +kernel
theorem dX0_backgroundAt_67 : decode cX0_backgroundAt 67 = .ok (.iload 6, 2) := by decide +kernel
theorem dX0_backgroundAt_69 : decode cX0_backgroundAt 69 = .ok (.invokevirtual 167, 3) := by decide +kernel
theorem dX0_backgroundAt_72 : decode cX0_backgroundAt 72 = .ok (.iload 5, 2) := by decide +kernel
theorem dX0_backgroundAt_74 : decode cX0_backgroundAt 74 = .ok (.if_icmp .ne 11, 3) := by decide +kernel
theorem dX0_backgroundAt_77 : decode cX0_backgroundAt 77 = .ok (.aload_n 0, 1) := by decide +kernel
theorem dX0_backgroundAt_78 : decode cX0_backgroundAt 78 = .ok (.iload_n 2, 1) := by decide +kernel
theorem dX0_backgroundAt_79 : decode cX0_backgroundAt 79 = .ok (.iload 6, 2) := by decide +kernel
theorem dX0_backgroundAt_81 : decode cX0_backgroundAt 81 = .ok (.invokevirtual 41, 3) := by decide +kernel
theorem dX0_backgroundAt_84 : decode cX0_backgroundAt 84 = .ok (.ireturn, 1) := by decide +kernel
theorem dX0_backgroundAt_85 : decode cX0_backgroundAt 85 = .ok (.iinc 6 1, 3) := by decide +kernel
theorem dX0_backgroundAt_88 : decode cX0_backgroundAt 88 = .ok (.goto (-43), 3) := by decide +kernel
theorem dX0_backgroundAt_91 : decode cX0_backgroundAt 91 = .ok (.aload_n 0, 1) := by decide +kernel
theorem dX0_backgroundAt_92 : decode cX0_backgroundAt 92 = .ok (.iload_n 2, 1) := by decide +kernel
theorem dX0_backgroundAt_93 : decode cX0_backgroundAt 93 = .ok (.iload_n 3, 1) := by decide +kernel
theorem dX0_backgroundAt_94 : decode cX0_backgroundAt 94 = .ok (.invokevirtual 41, 3) := by decide +kernel
theorem dX0_backgroundAt_97 : decode cX0_backgroundAt 97 = .ok (.ireturn, 1) := by decide +kernel
set_option maxRecDepth 20000 in
theorem ggX0_howManyAhead_X0_boardAt : GoodIn wsX0_howManyAhead wsX0_boardAt := goodIn_r _ [6, 7, 8, 9, 5, 10, 14, 15, 16, 17, 18, 19, 20, 21, 22, 23, 24, 25] (by decide +kernel) (by decide +kernel)
set_option maxRecDepth 20000 in
theorem gX0_howManyAhead_X0_boardAt : GoodIn wsX0_howManyAhead (wsV RX0 41 RX0 yX0_boardAt wsX0_boardAt) := goodIn_app (goodIn_of _ (by decide +kernel)) ggX0_howManyAhead_X0_boardAt
set_option maxRecDepth 20000 in
theorem ggX0_howManyAhead_X0_areInStep : GoodIn wsX0_howManyAhead wsX0_areInStep := goodIn_r _ [13] (by decide +kernel) (by decide +kernel)
set_option maxRecDepth 20000 in
theorem gX0_howManyAhead_X0_areInStep : GoodIn wsX0_howManyAhead (va_wsS RX0 164 yX0_areInStep wsX0_areInStep) := goodIn_app (goodIn_of _ (by decide +kernel)) ggX0_howManyAhead_X0_areInStep
theorem dX0_howManyAhead_0 : decode cX0_howManyAhead 0 = .ok (.aload_n 0, 1) := by decide +kernel
theorem dX0_howManyAhead_1 : decode cX0_howManyAhead 1 = .ok (.iload_n 2, 1) := by decide +kernel
theorem dX0_howManyAhead_2 : decode cX0_howManyAhead 2 = .ok (.iload_n 3, 1) := by decide +kernel
theorem dX0_howManyAhead_3 : decode cX0_howManyAhead 3 = .ok (.invokevirtual 41, 3) := by decide +kernel
theorem dX0_howManyAhead_6 : decode cX0_howManyAhead 6 = .ok (.istore 4, 2) := by decide +kernel
theorem dX0_howManyAhead_8 : decode cX0_howManyAhead 8 = .ok (.iconst 0, 1) := by decide +kernel
theorem dX0_howManyAhead_9 : decode cX0_howManyAhead 9 = .ok (.istore 5, 2) := by decide +kernel
theorem dX0_howManyAhead_11 : decode cX0_howManyAhead 11 = .ok (.iconst 0, 1) := by decide +kernel
theorem dX0_howManyAhead_12 : decode cX0_howManyAhead 12 = .ok (.istore 6, 2) := by decide +kernel
theorem dX0_howManyAhead_14 : decode cX0_howManyAhead 14 = .ok (.iload 6, 2) := by decide +kernel
theorem dX0_howManyAhead_16 : decode cX0_howManyAhead 16 = .ok (.aload_n 0, 1) := by decide +kernel
theorem dX0_howManyAhead_17 : decode cX0_howManyAhead 17 = .ok (.getfield 107, 3) := by decide +kernel
theorem dX0_howManyAhead_20 : decode cX0_howManyAhead 20 = .ok (.if_icmp .ge 51, 3) := by decide +kernel
theorem dX0_howManyAhead_23 : decode cX0_howManyAhead 23 = .ok (.aload_n 0, 1) := by decide +kernel
theorem dX0_howManyAhead_24 : decode cX0_howManyAhead 24 = .ok (.iload_n 2, 1) := by decide +kernel
theorem dX0_howManyAhead_25 : decode cX0_howManyAhead 25 = .ok (.iload 6, 2) := by decide +kernel
theorem dX0_howManyAhead_27 : decode cX0_howManyAhead 27 = .ok (.invokevirtual 41, 3) := by decide +kernel
theorem dX0_howManyAhead_30 : decode cX0_howManyAhead 30 = .ok (.istore 7, 2) := by decide +kernel
theorem dX0_howManyAhead_32 : decode cX0_howManyAhead 32 = .ok (.iload_n 3, 1) := by decide +kernel
theorem dX0_howManyAhead_33 : decode cX0_howManyAhead 33 = .ok (.iload 6, 2) := by decide +kernel
theorem dX0_howManyAhead_35 : decode cX0_howManyAhead 35 = .ok (.iload_n 1, 1) := by decide +kernel
theorem dX0_howManyAhead_36 : decode cX0_howManyAhead 36 = .ok (.invokestatic 164, 3) := by decide +kernel
theorem dX0_howManyAhead_39 : decode cX0_howManyAhead 39 = .ok (.ifCond .eq 26, 3) := by decide +kernel
theorem dX0_howManyAhead_42 : decode cX0_howManyAhead 42 = .ok (.iload 7, 2) := by decide +kernel
theorem dX0_howManyAhead_44 : decode cX0_howManyAhead 44 = .ok (.iload 4, 2) := by decide +kernel
theorem dX0_howManyAhead_46 : decode cX0_howManyAhead 46 = .ok (.if_icmp .lt 16, 3) := by decide +kernel
theorem dX0_howManyAhead_49 : decode cX0_howManyAhead 49 = .ok (.iload 7, 2) := by decide +kernel
theorem dX0_howManyAhead_51 : decode cX0_howManyAhead 51 = .ok (.iload 4, 2) := by decide +kernel
theorem dX0_howManyAhead_53 : decode cX0_howManyAhead 53 = .ok (.if_icmp .ne 12, 3) := by decide +kernel
theorem dX0_howManyAhead_56 : decode cX0_howManyAhead 56 = .ok (.iload 6, 2) := by decide +kernel
theorem dX0_howManyAhead_58 : decode cX0_howManyAhead 58 = .ok (.iload_n 3, 1) := by decide +kernel
theorem dX0_howManyAhead_59 : decode cX0_howManyAhead 59 = .ok (.if_icmp .ge 6, 3) := by decide +kernel
theorem dX0_howManyAhead_62 : decode cX0_howManyAhead 62 = .ok (.iinc 5 1, 3) := by decide +kernel
theorem dX0_howManyAhead_65 : decode cX0_howManyAhead 65 = .ok (.iinc 6 1, 3) := by decide +kernel
theorem dX0_howManyAhead_68 : decode cX0_howManyAhead 68 = .ok (.goto (-54), 3) := by decide +kernel
theorem dX0_howManyAhead_71 : decode cX0_howManyAhead 71 = .ok (.iload 5, 2) := by decide +kernel
theorem dX0_howManyAhead_73 : decode cX0_howManyAhead 73 = .ok (.ireturn, 1) := by decide +kernel
set_option maxRecDepth 20000 in
theorem ggX0_priceOfPeriod_X0_boardAt : GoodIn wsX0_priceOfPeriod wsX0_boardAt := goodIn_r _ [11, 12, 13, 14, 10, 15, 27, 28, 29, 30, 31, 32, 33, 34, 35, 36, 37, 38] (by decide +kernel) (by decide +kernel)
set_option maxRecDepth 20000 in
theorem gX0_priceOfPeriod_X0_boardAt : GoodIn wsX0_priceOfPeriod (wsV RX0 41 RX0 yX0_boardAt wsX0_boardAt) := goodIn_app (goodIn_of _ (by decide +kernel)) ggX0_priceOfPeriod_X0_boardAt
set_option maxRecDepth 20000 in
theorem ggX0_priceOfPeriod_X0_backgroundAt : GoodIn wsX0_priceOfPeriod wsX0_backgroundAt := goodIn_r _ [19, 2, 20, 21, 10, 22, 23, 24, 25, 26, 7, 8, 9, 11, 12, 13, 14, 15, 27, 28, 29, 30, 31, 32, 33, 34, 35, 36, 37, 38] (by decide +kernel) (by decide +kernel)
set_option maxRecDepth 20000 in
theorem gX0_priceOfPeriod_X0_backgroundAt : GoodIn wsX0_priceOfPeriod (wsV RX0 55 RX0 yX0_backgroundAt wsX0_backgroundAt) := goodIn_app (goodIn_of _ (by decide +kernel)) ggX0_priceOfPeriod_X0_backgroundAt
theorem dX0_priceOfPeriod_0 : decode cX0_priceOfPeriod 0 = .ok (.iload_n 1, 1) := by decide +kernel
theorem dX0_priceOfPeriod_1 : decode cX0_priceOfPeriod 1 = .ok (.aload_n 0, 1) := by decide +kernel
theorem dX0_priceOfPeriod_2 : decode cX0_priceOfPeriod 2 = .ok (.getfield 86, 3) := by decide +kernel
theorem dX0_priceOfPeriod_5 : decode cX0_priceOfPeriod 5 = .ok (.imul, 1) := by decide +kernel
theorem dX0_priceOfPeriod_6 : decode cX0_priceOfPeriod 6 = .ok (.istore_n 2, 1) := by decide +kernel
theorem dX0_priceOfPeriod_7 : decode cX0_priceOfPeriod 7 = .ok (.iconst 0, 1) := by decide +kernel
theorem dX0_priceOfPeriod_8 : decode cX0_priceOfPeriod 8 = .ok (.istore_n 3, 1) := by decide +kernel
theorem dX0_priceOfPeriod_9 : decode cX0_priceOfPeriod 9 = .ok (.iload_n 3, 1) := by decide +kernel
theorem dX0_priceOfPeriod_10 : decode cX0_priceOfPeriod 10 = .ok (.aload_n 0, 1) := by decide +kernel
theorem dX0_priceOfPeriod_11 : decode cX0_priceOfPeriod 11 = .ok (.getfield 86, 3) := by decide +kernel
theorem dX0_priceOfPeriod_14 : decode cX0_priceOfPeriod 14 = .ok (.if_icmp .ge 49, 3) := by decide +kernel
theorem dX0_priceOfPeriod_17 : decode cX0_priceOfPeriod 17 = .ok (.iconst 0, 1) := by decide +kernel
theorem dX0_priceOfPeriod_18 : decode cX0_priceOfPeriod 18 = .ok (.istore 4, 2) := by decide +kernel
theorem dX0_priceOfPeriod_20 : decode cX0_priceOfPeriod 20 = .ok (.iload 4, 2) := by decide +kernel
theorem dX0_priceOfPeriod_22 : decode cX0_priceOfPeriod 22 = .ok (.aload_n 0, 1) := by decide +kernel
theorem dX0_priceOfPeriod_23 : decode cX0_priceOfPeriod 23 = .ok (.getfield 107, 3) := by decide +kernel
theorem dX0_priceOfPeriod_26 : decode cX0_priceOfPeriod 26 = .ok (.if_icmp .ge 31, 3) := by decide +kernel
theorem dX0_priceOfPeriod_29 : decode cX0_priceOfPeriod 29 = .ok (.iload_n 2, 1) := by decide +kernel
theorem dX0_priceOfPeriod_30 : decode cX0_priceOfPeriod 30 = .ok (.aload_n 0, 1) := by decide +kernel
theorem dX0_priceOfPeriod_31 : decode cX0_priceOfPeriod 31 = .ok (.iload_n 3, 1) := by decide +kernel
theorem dX0_priceOfPeriod_32 : decode cX0_priceOfPeriod 32 = .ok (.iload 4, 2) := by decide +kernel
theorem dX0_priceOfPeriod_34 : decode cX0_priceOfPeriod 34 = .ok (.invokevirtual 41, 3) := by decide +kernel
theorem dX0_priceOfPeriod_37 : decode cX0_priceOfPeriod 37 = .ok (.aload_n 0, 1) := by decide +kernel
theorem dX0_priceOfPeriod_38 : decode cX0_priceOfPeriod 38 = .ok (.iload_n 1, 1) := by decide +kernel
theorem dX0_priceOfPeriod_39 : decode cX0_priceOfPeriod 39 = .ok (.iload_n 3, 1) := by decide +kernel
theorem dX0_priceOfPeriod_40 : decode cX0_priceOfPeriod 40 = .ok (.iload 4, 2) := by decide +kernel
theorem dX0_priceOfPeriod_42 : decode cX0_priceOfPeriod 42 = .ok (.invokevirtual 55, 3) := by decide +kernel
theorem dX0_priceOfPeriod_45 : decode cX0_priceOfPeriod 45 = .ok (.isub, 1) := by decide +kernel
theorem dX0_priceOfPeriod_46 : decode cX0_priceOfPeriod 46 = .ok (.invokestatic 116, 3) := by decide +kernel
theorem dX0_priceOfPeriod_49 : decode cX0_priceOfPeriod 49 = .ok (.iadd, 1) := by decide +kernel
theorem dX0_priceOfPeriod_50 : decode cX0_priceOfPeriod 50 = .ok (.istore_n 2, 1) := by decide +kernel
theorem dX0_priceOfPeriod_51 : decode cX0_priceOfPeriod 51 = .ok (.iinc 4 1, 3) := by decide +kernel
theorem dX0_priceOfPeriod_54 : decode cX0_priceOfPeriod 54 = .ok (.goto (-34), 3) := by decide +kernel
theorem dX0_priceOfPeriod_57 : decode cX0_priceOfPeriod 57 = .ok (.iinc 3 1, 3) := by decide +kernel
theorem dX0_priceOfPeriod_60 : decode cX0_priceOfPeriod 60 = .ok (.goto (-51), 3) := by decide +kernel
theorem dX0_priceOfPeriod_63 : decode cX0_priceOfPeriod 63 = .ok (.iload_n 2, 1) := by decide +kernel
theorem dX0_priceOfPeriod_64 : decode cX0_priceOfPeriod 64 = .ok (.ireturn, 1) := by decide +kernel
set_option maxRecDepth 20000 in
theorem ggX0_bestPeriod_X0_priceOfPeriod : GoodIn wsX0_bestPeriod wsX0_priceOfPeriod := goodIn_r _ [6, 7, 1, 8, 9, 10, 11, 12, 13, 14, 5, 15, 16, 17, 18, 19, 20, 21, 22, 23, 24, 25, 26, 27, 28, 29, 30, 31, 32, 33, 34, 35, 36, 37, 38, 39, 40, 41, 42] (by decide +kernel) (by decide +kernel)
set_option maxRecDepth 20000 in
theorem gX0_bestPeriod_X0_priceOfPeriod : GoodIn wsX0_bestPeriod (wsV RX0 170 RX0 yX0_priceOfPeriod wsX0_priceOfPeriod) := goodIn_app (goodIn_of _ (by decide +kernel)) ggX0_bestPeriod_X0_priceOfPeriod
theorem dX0_bestPeriod_0 : decode cX0_bestPeriod 0 = .ok (.iconst 1, 1) := by decide +kernel
theorem dX0_bestPeriod_1 : decode cX0_bestPeriod 1 = .ok (.istore_n 1, 1) := by decide +kernel
theorem dX0_bestPeriod_2 : decode cX0_bestPeriod 2 = .ok (.aload_n 0, 1) := by decide +kernel
theorem dX0_bestPeriod_3 : decode cX0_bestPeriod 3 = .ok (.iconst 1, 1) := by decide +kernel
theorem dX0_bestPeriod_4 : decode cX0_bestPeriod 4 = .ok (.invokevirtual 170, 3) := by decide +kernel
theorem dX0_bestPeriod_7 : decode cX0_bestPeriod 7 = .ok (.istore_n 2, 1) := by decide +kernel
theorem dX0_bestPeriod_8 : decode cX0_bestPeriod 8 = .ok (.iconst 2, 1) := by decide +kernel
theorem dX0_bestPeriod_9 : decode cX0_bestPeriod 9 = .ok (.istore_n 3, 1) := by decide +kernel
theorem dX0_bestPeriod_10 : decode cX0_bestPeriod 10 = .ok (.iload_n 3, 1) := by decide +kernel
theorem dX0_bestPeriod_11 : decode cX0_bestPeriod 11 = .ok (.aload_n 0, 1) := by decide +kernel
theorem dX0_bestPeriod_12 : decode cX0_bestPeriod 12 = .ok (.getfield 107, 3) := by decide +kernel
theorem dX0_bestPeriod_15 : decode cX0_bestPeriod 15 = .ok (.if_icmp .gt 27, 3) := by decide +kernel
theorem dX0_bestPeriod_18 : decode cX0_bestPeriod 18 = .ok (.aload_n 0, 1) := by decide +kernel
theorem dX0_bestPeriod_19 : decode cX0_bestPeriod 19 = .ok (.iload_n 3, 1) := by decide +kernel
theorem dX0_bestPeriod_20 : decode cX0_bestPeriod 20 = .ok (.invokevirtual 170, 3) := by decide +kernel
theorem dX0_bestPeriod_23 : decode cX0_bestPeriod 23 = .ok (.istore 4, 2) := by decide +kernel
theorem dX0_bestPeriod_25 : decode cX0_bestPeriod 25 = .ok (.iload 4, 2) := by decide +kernel
theorem dX0_bestPeriod_27 : decode cX0_bestPeriod 27 = .ok (.iload_n 2, 1) := by decide +kernel
theorem dX0_bestPeriod_28 : decode cX0_bestPeriod 28 = .ok (.if_icmp .ge 8, 3) := by decide +kernel
theorem dX0_bestPeriod_31 : decode cX0_bestPeriod 31 = .ok (.iload 4, 2) := by decide +kernel
theorem dX0_bestPeriod_33 : decode cX0_bestPeriod 33 = .ok (.istore_n 2, 1) := by decide +kernel
theorem dX0_bestPeriod_34 : decode cX0_bestPeriod 34 = .ok (.iload_n 3, 1) := by decide +kernel
theorem dX0_bestPeriod_35 : decode cX0_bestPeriod 35 = .ok (.istore_n 1, 1) := by decide +kernel
theorem dX0_bestPeriod_36 : decode cX0_bestPeriod 36 = .ok (.iinc 3 1, 3) := by decide +kernel
theorem dX0_bestPeriod_39 : decode cX0_bestPeriod 39 = .ok (.goto (-29), 3) := by decide +kernel
theorem dX0_bestPeriod_42 : decode cX0_bestPeriod 42 = .ok (.iload_n 1, 1) := by decide +kernel
theorem dX0_bestPeriod_43 : decode cX0_bestPeriod 43 = .ok (.ireturn, 1) := by decide +kernel
theorem dX0_filledRowAt_0 : decode cX0_filledRowAt 0 = .ok (.iload_n 1, 1) := by decide +kernel
theorem dX0_filledRowAt_1 : decode cX0_filledRowAt 1 = .ok (.aload_n 0, 1) := by decide +kernel
theorem dX0_filledRowAt_2 : decode cX0_filledRowAt 2 = .ok (.getfield 22, 3) := by decide +kernel
theorem dX0_filledRowAt_5 : decode cX0_filledRowAt 5 = .ok (.iconst 0, 1) := by decide +kernel
theorem dX0_filledRowAt_6 : decode cX0_filledRowAt 6 = .ok (.iaload, 1) := by decide +kernel
theorem dX0_filledRowAt_7 : decode cX0_filledRowAt 7 = .ok (.if_icmp .ge 12, 3) := by decide +kernel
theorem dX0_filledRowAt_10 : decode cX0_filledRowAt 10 = .ok (.aload_n 0, 1) := by decide +kernel
theorem dX0_filledRowAt_11 : decode cX0_filledRowAt 11 = .ok (.getfield 19, 3) := by decide +kernel
theorem dX0_filledRowAt_14 : decode cX0_filledRowAt 14 = .ok (.iload_n 1, 1) := by decide +kernel
theorem dX0_filledRowAt_15 : decode cX0_filledRowAt 15 = .ok (.iaload, 1) := by decide +kernel
theorem dX0_filledRowAt_16 : decode cX0_filledRowAt 16 = .ok (.goto 4, 3) := by decide +kernel
theorem dX0_filledRowAt_19 : decode cX0_filledRowAt 19 = .ok (.iconst 0, 1) := by decide +kernel
theorem dX0_filledRowAt_20 : decode cX0_filledRowAt 20 = .ok (.ireturn, 1) := by decide +kernel
set_option maxRecDepth 20000 in
theorem ggX0_productsAt_X0_within : GoodIn wsX0_productsAt wsX0_within := goodIn_r _ [6] (by decide +kernel) (by decide +kernel)
set_option maxRecDepth 20000 in
theorem gX0_productsAt_X0_within : GoodIn wsX0_productsAt (va_wsS RX0 33 yX0_within wsX0_within) := goodIn_app (goodIn_of _ (by decide +kernel)) ggX0_productsAt_X0_within
theorem dX0_productsAt_0 : decode cX0_productsAt 0 = .ok (.iconst 0, 1) := by decide +kernel
theorem dX0_productsAt_1 : decode cX0_productsAt 1 = .ok (.istore_n 2, 1) := by decide +kernel
theorem dX0_productsAt_2 : decode cX0_productsAt 2 = .ok (.iconst 0, 1) := by decide +kernel
theorem dX0_productsAt_3 : decode cX0_productsAt 3 = .ok (.istore_n 3, 1) := by decide +kernel
theorem dX0_productsAt_4 : decode cX0_productsAt 4 = .ok (.iload_n 3, 1) := by decide +kernel
theorem dX0_productsAt_5 : decode cX0_productsAt 5 = .ok (.aload_n 0, 1) := by decide +kernel
theorem dX0_productsAt_6 : decode cX0_productsAt 6 = .ok (.getfield 22, 3) := by decide +kernel
theorem dX0_productsAt_9 : decode cX0_productsAt 9 = .ok (.iconst 0, 1) := by decide +kernel
theorem dX0_productsAt_10 : decode cX0_productsAt 10 = .ok (.iaload, 1) := by decide +kernel
theorem dX0_productsAt_11 : decode cX0_productsAt 11 = .ok (.if_icmp .ge 51, 3) := by decide +kernel
theorem dX0_productsAt_14 : decode cX0_productsAt 14 = .ok (.iload_n 3, 1) := by decide +kernel
theorem dX0_productsAt_15 : decode cX0_productsAt 15 = .ok (.iload_n 1, 1) := by decide +kernel
theorem dX0_productsAt_16 : decode cX0_productsAt 16 = .ok (.iadd, 1) := by decide +kernel
theorem dX0_productsAt_17 : decode cX0_productsAt 17 = .ok (.istore 4, 2) := by decide +kernel
theorem dX0_productsAt_19 : decode cX0_productsAt 19 = .ok (.iload 4, 2) := by decide +kernel
theorem dX0_productsAt_21 : decode cX0_productsAt 21 = .ok (.iconst 0, 1) := by decide +kernel
theorem dX0_productsAt_22 : decode cX0_productsAt 22 = .ok (.aload_n 0, 1) := by decide +kernel
theorem dX0_productsAt_23 : decode cX0_productsAt 23 = .ok (.getfield 22, 3) := by decide +kernel
theorem dX0_productsAt_26 : decode cX0_productsAt 26 = .ok (.iconst 1, 1) := by decide +kernel
theorem dX0_productsAt_27 : decode cX0_productsAt 27 = .ok (.iaload, 1) := by decide +kernel
theorem dX0_productsAt_28 : decode cX0_productsAt 28 = .ok (.iconst 1, 1) := by decide +kernel
theorem dX0_productsAt_29 : decode cX0_productsAt 29 = .ok (.isub, 1) := by decide +kernel
theorem dX0_productsAt_30 : decode cX0_productsAt 30 = .ok (.invokestatic 33, 3) := by decide +kernel
theorem dX0_productsAt_33 : decode cX0_productsAt 33 = .ok (.ifCond .eq 23, 3) := by decide +kernel
theorem dX0_productsAt_36 : decode cX0_productsAt 36 = .ok (.iload_n 2, 1) := by decide +kernel
theorem dX0_productsAt_37 : decode cX0_productsAt 37 = .ok (.aload_n 0, 1) := by decide +kernel
theorem dX0_productsAt_38 : decode cX0_productsAt 38 = .ok (.getfield 19, 3) := by decide +kernel
theorem dX0_productsAt_41 : decode cX0_productsAt 41 = .ok (.iload_n 3, 1) := by decide +kernel
theorem dX0_productsAt_42 : decode cX0_productsAt 42 = .ok (.iaload, 1) := by decide +kernel
theorem dX0_productsAt_43 : decode cX0_productsAt 43 = .ok (.aload_n 0, 1) := by decide +kernel
theorem dX0_productsAt_44 : decode cX0_productsAt 44 = .ok (.getfield 19, 3) := by decide +kernel
theorem dX0_productsAt_47 : decode cX0_productsAt 47 = .ok (.bipush 8, 2) := by decide +kernel
theorem dX0_productsAt_49 : decode cX0_productsAt 49 = .ok (.iload 4, 2) := by decide +kernel
theorem dX0_productsAt_51 : decode cX0_productsAt 51 = .ok (.iadd, 1) := by decide +kernel
theorem dX0_productsAt_52 : decode cX0_productsAt 52 = .ok (.iaload, 1) := by decide +kernel
theorem dX0_productsAt_53 : decode cX0_productsAt 53 = .ok (.imul, 1) := by decide +kernel
theorem dX0_productsAt_54 : decode cX0_productsAt 54 = .ok (.iadd, 1) := by decide +kernel
theorem dX0_productsAt_55 : decode cX0_productsAt 55 = .ok (.istore_n 2, 1) := by decide +kernel
theorem dX0_productsAt_56 : decode cX0_productsAt 56 = .ok (.iinc 3 1, 3) := by decide +kernel
theorem dX0_productsAt_59 : decode cX0_productsAt 59 = .ok (.goto (-55), 3) := by decide +kernel
theorem dX0_productsAt_62 : decode cX0_productsAt 62 = .ok (.iload_n 2, 1) := by decide +kernel
theorem dX0_productsAt_63 : decode cX0_productsAt 63 = .ok (.ireturn, 1) := by decide +kernel
set_option maxRecDepth 20000 in
theorem ggX0_sign_J6_bitCount_0f7a4 : GoodIn wsX0_sign wsJ6_bitCount_0f7a4 := goodIn_r _ [4, 5, 6, 7] (by decide +kernel) (by decide +kernel)
set_option maxRecDepth 20000 in
theorem gX0_sign_J6_bitCount_0f7a4 : GoodIn wsX0_sign (va_wsS RX0 173 yJ6_bitCount_0f7a4 wsJ6_bitCount_0f7a4) := goodIn_app (goodIn_of _ (by decide +kernel)) ggX0_sign_J6_bitCount_0f7a4
theorem dX0_sign_0 : decode cX0_sign 0 = .ok (.iload_n 0, 1) := by decide +kernel
theorem dX0_sign_1 : decode cX0_sign 1 = .ok (.iload_n 1, 1) := by decide +kernel
theorem dX0_sign_2 : decode cX0_sign 2 = .ok (.iand, 1) := by decide +kernel
theorem dX0_sign_3 : decode cX0_sign 3 = .ok (.invokestatic 173, 3) := by decide +kernel
theorem dX0_sign_6 : decode cX0_sign 6 = .ok (.iconst 2, 1) := by decide +kernel
theorem dX0_sign_7 : decode cX0_sign 7 = .ok (.irem, 1) := by decide +kernel
theorem dX0_sign_8 : decode cX0_sign 8 = .ok (.ifCond .ne 7, 3) := by decide +kernel
theorem dX0_sign_11 : decode cX0_sign 11 = .ok (.iconst 1, 1) := by decide +kernel
theorem dX0_sign_12 : decode cX0_sign 12 = .ok (.goto 4, 3) := by decide +kernel
theorem dX0_sign_15 : decode cX0_sign 15 = .ok (.iconst (-1), 1) := by decide +kernel
theorem dX0_sign_16 : decode cX0_sign 16 = .ok (.ireturn, 1) := by decide +kernel
set_option maxRecDepth 20000 in
theorem ggX0_turnedAt_X0_sign : GoodIn wsX0_turnedAt wsX0_sign := goodIn_r _ [4, 5, 6, 7, 8, 9, 10, 11] (by decide +kernel) (by decide +kernel)
set_option maxRecDepth 20000 in
theorem gX0_turnedAt_X0_sign : GoodIn wsX0_turnedAt (va_wsS RX0 177 yX0_sign wsX0_sign) := goodIn_app (goodIn_of _ (by decide +kernel)) ggX0_turnedAt_X0_sign
set_option maxRecDepth 20000 in
theorem ggX0_turnedAt_X0_filledRowAt : GoodIn wsX0_turnedAt wsX0_filledRowAt := goodIn_r _ [15, 16, 17, 18, 19, 20, 21, 22, 23, 24, 25, 26, 27, 28, 29] (by decide +kernel) (by decide +kernel)
set_option maxRecDepth 20000 in
theorem gX0_turnedAt_X0_filledRowAt : GoodIn wsX0_turnedAt (wsV RX0 180 RX0 yX0_filledRowAt wsX0_filledRowAt) := goodIn_app (goodIn_of _ (by decide +kernel)) ggX0_turnedAt_X0_filledRowAt
theorem dX0_turnedAt_0 : decode cX0_turnedAt 0 = .ok (.iconst 0, 1) := by decide +kernel
theorem dX0_turnedAt_1 : decode cX0_turnedAt 1 = .ok (.istore_n 2, 1) := by decide +kernel
theorem dX0_turnedAt_2 : decode cX0_turnedAt 2 = .ok (.iconst 0, 1) := by decide +kernel
theorem dX0_turnedAt_3 : decode cX0_turnedAt 3 = .ok (.istore_n 3, 1) := by decide +kernel
theorem dX0_turnedAt_4 : decode cX0_turnedAt 4 = .ok (.iload_n 3, 1) := by decide +kernel
theorem dX0_turnedAt_5 : decode cX0_turnedAt 5 = .ok (.bipush 8, 2) := by decide +kernel
theorem dX0_turnedAt_7 : decode cX0_turnedAt 7 = .ok (.if_icmp .ge 23, 3) := by decide +kernel
theorem dX0_turnedAt_10 : decode cX0_turnedAt 10 = .ok (.iload_n 2, 1) := by decide +kernel
theorem dX0_turnedAt_11 : decode cX0_turnedAt 11 = .ok (.iload_n 1, 1) := by decide +kernel
theorem dX0_turnedAt_12 : decode cX0_turnedAt 12 = .ok (.iload_n 3, 1) := by decide +kernel
theorem dX0_turnedAt_13 : decode cX0_turnedAt 13 = .ok (.invokestatic 177, 3) := by decide +kernel
theorem dX0_turnedAt_16 : decode cX0_turnedAt 16 = .ok (.aload_n 0, 1) := by decide +kernel
theorem dX0_turnedAt_17 : decode cX0_turnedAt 17 = .ok (.iload_n 3, 1) := by decide +kernel
theorem dX0_turnedAt_18 : decode cX0_turnedAt 18 = .ok (.invokevirtual 180, 3) := by decide +kernel
theorem dX0_turnedAt_21 : decode cX0_turnedAt 21 = .ok (.imul, 1) := by decide +kernel
theorem dX0_turnedAt_22 : decode cX0_turnedAt 22 = .ok (.iadd, 1) := by decide +kernel
theorem dX0_turnedAt_23 : decode cX0_turnedAt 23 = .ok (.istore_n 2, 1) := by decide +kernel
theorem dX0_turnedAt_24 : decode cX0_turnedAt 24 = .ok (.iinc 3 1, 3) := by decide +kernel
theorem dX0_turnedAt_27 : decode cX0_turnedAt 27 = .ok (.goto (-23), 3) := by decide +kernel
theorem dX0_turnedAt_30 : decode cX0_turnedAt 30 = .ok (.iload_n 2, 1) := by decide +kernel
theorem dX0_turnedAt_31 : decode cX0_turnedAt 31 = .ok (.ireturn, 1) := by decide +kernel
set_option maxRecDepth 20000 in
theorem ggX0_backAt_X0_sign : GoodIn wsX0_backAt wsX0_sign := goodIn_r _ [4, 5, 6, 7, 8, 9, 10, 11] (by decide +kernel) (by decide +kernel)
set_option maxRecDepth 20000 in
theorem gX0_backAt_X0_sign : GoodIn wsX0_backAt (va_wsS RX0 177 yX0_sign wsX0_sign) := goodIn_app (goodIn_of _ (by decide +kernel)) ggX0_backAt_X0_sign
set_option maxRecDepth 20000 in
theorem ggX0_backAt_X0_turnedAt : GoodIn wsX0_backAt wsX0_turnedAt := goodIn_r _ [15, 1, 2, 3, 4, 5, 6, 7, 8, 9, 10, 11, 16, 17, 18, 19, 20, 21, 22, 23, 24, 25, 26, 27, 28, 29, 30, 31, 32, 33] (by decide +kernel) (by decide +kernel)
set_option maxRecDepth 20000 in
theorem gX0_backAt_X0_turnedAt : GoodIn wsX0_backAt (wsV RX0 122 RX0 yX0_turnedAt wsX0_turnedAt) := goodIn_app (goodIn_of _ (by decide +kernel)) ggX0_backAt_X0_turnedAt
theorem dX0_backAt_0 : decode cX0_backAt 0 = .ok (.iconst 0, 1) := by decide +kernel
theorem dX0_backAt_1 : decode cX0_backAt 1 = .ok (.istore_n 2, 1) := by decide +kernel
theorem dX0_backAt_2 : decode cX0_backAt 2 = .ok (.iconst 0, 1) := by decide +kernel
theorem dX0_backAt_3 : decode cX0_backAt 3 = .ok (.istore_n 3, 1) := by decide +kernel
theorem dX0_backAt_4 : decode cX0_backAt 4 = .ok (.iload_n 3, 1) := by decide +kernel
theorem dX0_backAt_5 : decode cX0_backAt 5 = .ok (.bipush 8, 2) := by decide +kernel
theorem dX0_backAt_7 : decode cX0_backAt 7 = .ok (.if_icmp .ge 23, 3) := by decide +kernel
theorem dX0_backAt_10 : decode cX0_backAt 10 = .ok (.iload_n 2, 1) := by decide +kernel
theorem dX0_backAt_11 : decode cX0_backAt 11 = .ok (.iload_n 1, 1) := by decide +kernel
theorem dX0_backAt_12 : decode cX0_backAt 12 = .ok (.iload_n 3, 1) := by decide +kernel
theorem dX0_backAt_13 : decode cX0_backAt 13 = .ok (.invokestatic 177, 3) := by decide +kernel
theorem dX0_backAt_16 : decode cX0_backAt 16 = .ok (.aload_n 0, 1) := by decide +kernel
theorem dX0_backAt_17 : decode cX0_backAt 17 = .ok (.iload_n 3, 1) := by decide +kernel
theorem dX0_backAt_18 : decode cX0_backAt 18 = .ok (.invokevirtual 122, 3) := by decide +kernel
theorem dX0_backAt_21 : decode cX0_backAt 21 = .ok (.imul, 1) := by decide +kernel
theorem dX0_backAt_22 : decode cX0_backAt 22 = .ok (.iadd, 1) := by decide +kernel
theorem dX0_backAt_23 : decode cX0_backAt 23 = .ok (.istore_n 2, 1) := by decide +kernel
theorem dX0_backAt_24 : decode cX0_backAt 24 = .ok (.iinc 3 1, 3) := by decide +kernel
theorem dX0_backAt_27 : decode cX0_backAt 27 = .ok (.goto (-23), 3) := by decide +kernel
theorem dX0_backAt_30 : decode cX0_backAt 30 = .ok (.iload_n 2, 1) := by decide +kernel
theorem dX0_backAt_31 : decode cX0_backAt 31 = .ok (.bipush 8, 2) := by decide +kernel
theorem dX0_backAt_33 : decode cX0_backAt 33 = .ok (.idiv, 1) := by decide +kernel
theorem dX0_backAt_34 : decode cX0_backAt 34 = .ok (.ireturn, 1) := by decide +kernel
theorem dX0_howManyOrders_0 : decode cX0_howManyOrders 0 = .ok (.aload_n 0, 1) := by decide +kernel
theorem dX0_howManyOrders_1 : decode cX0_howManyOrders 1 = .ok (.getfield 137, 3) := by decide +kernel
theorem dX0_howManyOrders_4 : decode cX0_howManyOrders 4 = .ok (.lookupswitch 32 #[(1, 28), (2, 30)], 28) := by decide +kernel
theorem dX0_howManyOrders_32 : decode cX0_howManyOrders 32 = .ok (.iconst 1, 1) := by decide +kernel
theorem dX0_howManyOrders_33 : decode cX0_howManyOrders 33 = .ok (.ireturn, 1) := by decide +kernel
theorem dX0_howManyOrders_34 : decode cX0_howManyOrders 34 = .ok (.iconst 2, 1) := by decide +kernel
theorem dX0_howManyOrders_35 : decode cX0_howManyOrders 35 = .ok (.ireturn, 1) := by decide +kernel
theorem dX0_howManyOrders_36 : decode cX0_howManyOrders 36 = .ok (.bipush 6, 2) := by decide +kernel
theorem dX0_howManyOrders_38 : decode cX0_howManyOrders 38 = .ok (.ireturn, 1) := by decide +kernel
theorem dX0_voiceInOrder_0 : decode cX0_voiceInOrder 0 = .ok (.aload_n 0, 1) := by decide +kernel
theorem dX0_voiceInOrder_1 : decode cX0_voiceInOrder 1 = .ok (.getfield 137, 3) := by decide +kernel
theorem dX0_voiceInOrder_4 : decode cX0_voiceInOrder 4 = .ok (.lookupswitch 46 #[(1, 28), (2, 36)], 28) := by decide +kernel
theorem dX0_voiceInOrder_32 : decode cX0_voiceInOrder 32 = .ok (.getstatic 183, 3) := by decide +kernel
theorem dX0_voiceInOrder_35 : decode cX0_voiceInOrder 35 = .ok (.iload_n 1, 1) := by decide +kernel
theorem dX0_voiceInOrder_36 : decode cX0_voiceInOrder 36 = .ok (.iload_n 2, 1) := by decide +kernel
theorem dX0_voiceInOrder_37 : decode cX0_voiceInOrder 37 = .ok (.iadd, 1) := by decide +kernel
theorem dX0_voiceInOrder_38 : decode cX0_voiceInOrder 38 = .ok (.iaload, 1) := by decide +kernel
theorem dX0_voiceInOrder_39 : decode cX0_voiceInOrder 39 = .ok (.ireturn, 1) := by decide +kernel
theorem dX0_voiceInOrder_40 : decode cX0_voiceInOrder 40 = .ok (.getstatic 186, 3) := by decide +kernel
theorem dX0_voiceInOrder_43 : decode cX0_voiceInOrder 43 = .ok (.iload_n 1, 1) := by decide +kernel
theorem dX0_voiceInOrder_44 : decode cX0_voiceInOrder 44 = .ok (.iconst 2, 1) := by decide +kernel
theorem dX0_voiceInOrder_45 : decode cX0_voiceInOrder 45 = .ok (.imul, 1) := by decide +kernel
theorem dX0_voiceInOrder_46 : decode cX0_voiceInOrder 46 = .ok (.iload_n 2, 1) := by decide +kernel
theorem dX0_voiceInOrder_47 : decode cX0_voiceInOrder 47 = .ok (.iadd, 1) := by decide +kernel
theorem dX0_voiceInOrder_48 : decode cX0_voiceInOrder 48 = .ok (.iaload, 1) := by decide +kernel
theorem dX0_voiceInOrder_49 : decode cX0_voiceInOrder 49 = .ok (.ireturn, 1) := by decide +kernel
theorem dX0_voiceInOrder_50 : decode cX0_voiceInOrder 50 = .ok (.getstatic 189, 3) := by decide +kernel
theorem dX0_voiceInOrder_53 : decode cX0_voiceInOrder 53 = .ok (.iload_n 1, 1) := by decide +kernel
theorem dX0_voiceInOrder_54 : decode cX0_voiceInOrder 54 = .ok (.iconst 3, 1) := by decide +kernel
theorem dX0_voiceInOrder_55 : decode cX0_voiceInOrder 55 = .ok (.imul, 1) := by decide +kernel
theorem dX0_voiceInOrder_56 : decode cX0_voiceInOrder 56 = .ok (.iload_n 2, 1) := by decide +kernel
theorem dX0_voiceInOrder_57 : decode cX0_voiceInOrder 57 = .ok (.iadd, 1) := by decide +kernel
theorem dX0_voiceInOrder_58 : decode cX0_voiceInOrder 58 = .ok (.iaload, 1) := by decide +kernel
theorem dX0_voiceInOrder_59 : decode cX0_voiceInOrder 59 = .ok (.ireturn, 1) := by decide +kernel
set_option maxRecDepth 20000 in
theorem ggX0_apartBy_X0_voiceInOrder : GoodIn wsX0_apartBy wsX0_voiceInOrder := goodIn_r _ [6, 1, 7, 8, 9, 45, 46, 47, 48, 49, 50, 51, 52, 53, 54, 55, 56] (by decide +kernel) (by decide +kernel)
set_option maxRecDepth 20000 in
theorem gX0_apartBy_X0_voiceInOrder : GoodIn wsX0_apartBy (wsV RX0 192 RX0 yX0_voiceInOrder wsX0_voiceInOrder) := goodIn_app (goodIn_of _ (by decide +kernel)) ggX0_apartBy_X0_voiceInOrder
set_option maxRecDepth 20000 in
theorem ggX0_apartBy_X0_apartOfVoice : GoodIn wsX0_apartBy wsX0_apartOfVoice := goodIn_r _ [13, 14, 15, 16, 17, 18, 19, 20, 21, 22, 5, 23, 24, 25, 26, 27, 28, 29, 30, 1, 31, 32, 33, 34, 35, 36, 37, 38, 39, 40, 41, 42, 43, 44, 45, 46, 47, 48, 49, 50, 51, 52, 53, 54, 55, 56] (by decide +kernel) (by decide +kernel)
set_option maxRecDepth 20000 in
theorem gX0_apartBy_X0_apartOfVoice : GoodIn wsX0_apartBy (wsV RX0 195 RX0 yX0_apartOfVoice wsX0_apartOfVoice) := goodIn_app (goodIn_of _ (by decide +kernel)) ggX0_apartBy_X0_apartOfVoice
theorem dX0_apartBy_0 : decode cX0_apartBy 0 = .ok (.iconst 0, 1) := by decide +kernel
theorem dX0_apartBy_1 : decode cX0_apartBy 1 = .ok (.istore_n 2, 1) := by decide +kernel
theorem dX0_apartBy_2 : decode cX0_apartBy 2 = .ok (.iconst 0, 1) := by decide +kernel
theorem dX0_apartBy_3 : decode cX0_apartBy 3 = .ok (.istore_n 3, 1) := by decide +kernel
theorem dX0_apartBy_4 : decode cX0_apartBy 4 = .ok (.iload_n 3, 1) := by decide +kernel
theorem dX0_apartBy_5 : decode cX0_apartBy 5 = .ok (.aload_n 0, 1) := by decide +kernel
theorem dX0_apartBy_6 : decode cX0_apartBy 6 = .ok (.getfield 137, 3) := by decide +kernel
theorem dX0_apartBy_9 : decode cX0_apartBy 9 = .ok (.if_icmp .ge 23, 3) := by decide +kernel
theorem dX0_apartBy_12 : decode cX0_apartBy 12 = .ok (.iload_n 2, 1) := by decide +kernel
theorem dX0_apartBy_13 : decode cX0_apartBy 13 = .ok (.aload_n 0, 1) := by decide +kernel
theorem dX0_apartBy_14 : decode cX0_apartBy 14 = .ok (.iload_n 3, 1) := by decide +kernel
theorem dX0_apartBy_15 : decode cX0_apartBy 15 = .ok (.aload_n 0, 1) := by decide +kernel
theorem dX0_apartBy_16 : decode cX0_apartBy 16 = .ok (.iload_n 1, 1) := by decide +kernel
theorem dX0_apartBy_17 : decode cX0_apartBy 17 = .ok (.iload_n 3, 1) := by decide +kernel
theorem dX0_apartBy_18 : decode cX0_apartBy 18 = .ok (.invokevirtual 192, 3) := by decide +kernel
theorem dX0_apartBy_21 : decode cX0_apartBy 21 = .ok (.invokevirtual 195, 3) := by decide +kernel
theorem dX0_apartBy_24 : decode cX0_apartBy 24 = .ok (.iadd, 1) := by decide +kernel
theorem dX0_apartBy_25 : decode cX0_apartBy 25 = .ok (.istore_n 2, 1) := by decide +kernel
theorem dX0_apartBy_26 : decode cX0_apartBy 26 = .ok (.iinc 3 1, 3) := by decide +kernel
theorem dX0_apartBy_29 : decode cX0_apartBy 29 = .ok (.goto (-25), 3) := by decide +kernel
theorem dX0_apartBy_32 : decode cX0_apartBy 32 = .ok (.iload_n 2, 1) := by decide +kernel
theorem dX0_apartBy_33 : decode cX0_apartBy 33 = .ok (.ireturn, 1) := by decide +kernel
set_option maxRecDepth 20000 in
theorem ggX0_apartOfVoice_X0_truthPlace : GoodIn wsX0_apartOfVoice wsX0_truthPlace := goodIn_r _ [11, 12, 13, 10, 14] (by decide +kernel) (by decide +kernel)
set_option maxRecDepth 20000 in
theorem gX0_apartOfVoice_X0_truthPlace : GoodIn wsX0_apartOfVoice (va_wsS RX0 128 yX0_truthPlace wsX0_truthPlace) := goodIn_app (goodIn_of _ (by decide +kernel)) ggX0_apartOfVoice_X0_truthPlace
set_option maxRecDepth 20000 in
theorem ggX0_apartOfVoice_X0_shareAt : GoodIn wsX0_apartOfVoice wsX0_shareAt := goodIn_r _ [18, 19, 20, 21, 22, 10, 23, 24, 12, 13, 14, 25, 26, 27, 28, 29, 30, 31, 32, 33, 34, 35, 36, 37, 38, 39, 40, 41, 42, 43, 44, 45] (by decide +kernel) (by decide +kernel)
set_option maxRecDepth 20000 in
theorem gX0_apartOfVoice_X0_shareAt : GoodIn wsX0_apartOfVoice (wsV RX0 104 RX0 yX0_shareAt wsX0_shareAt) := goodIn_app (goodIn_of _ (by decide +kernel)) ggX0_apartOfVoice_X0_shareAt
theorem dX0_apartOfVoice_0 : decode cX0_apartOfVoice 0 = .ok (.iconst 0, 1) := by decide +kernel
theorem dX0_apartOfVoice_1 : decode cX0_apartOfVoice 1 = .ok (.istore_n 3, 1) := by decide +kernel
theorem dX0_apartOfVoice_2 : decode cX0_apartOfVoice 2 = .ok (.iconst 0, 1) := by decide +kernel
theorem dX0_apartOfVoice_3 : decode cX0_apartOfVoice 3 = .ok (.istore 4, 2) := by decide +kernel
theorem dX0_apartOfVoice_5 : decode cX0_apartOfVoice 5 = .ok (.iload 4, 2) := by decide +kernel
theorem dX0_apartOfVoice_7 : decode cX0_apartOfVoice 7 = .ok (.aload_n 0, 1) := by decide +kernel
theorem dX0_apartOfVoice_8 : decode cX0_apartOfVoice 8 = .ok (.getfield 86, 3) := by decide +kernel
theorem dX0_apartOfVoice_11 : decode cX0_apartOfVoice 11 = .ok (.if_icmp .ge 60, 3) := by decide +kernel
theorem dX0_apartOfVoice_14 : decode cX0_apartOfVoice 14 = .ok (.iconst 0, 1) := by decide +kernel
theorem dX0_apartOfVoice_15 : decode cX0_apartOfVoice 15 = .ok (.istore 5, 2) := by decide +kernel
theorem dX0_apartOfVoice_17 : decode cX0_apartOfVoice 17 = .ok (.iload 5, 2) := by decide +kernel
theorem dX0_apartOfVoice_19 : decode cX0_apartOfVoice 19 = .ok (.aload_n 0, 1) := by decide +kernel
theorem dX0_apartOfVoice_20 : decode cX0_apartOfVoice 20 = .ok (.getfield 107, 3) := by decide +kernel
theorem dX0_apartOfVoice_23 : decode cX0_apartOfVoice 23 = .ok (.if_icmp .ge 42, 3) := by decide +kernel
theorem dX0_apartOfVoice_26 : decode cX0_apartOfVoice 26 = .ok (.aload_n 0, 1) := by decide +kernel
theorem dX0_apartOfVoice_27 : decode cX0_apartOfVoice 27 = .ok (.getfield 16, 3) := by decide +kernel
theorem dX0_apartOfVoice_30 : decode cX0_apartOfVoice 30 = .ok (.iload_n 2, 1) := by decide +kernel
theorem dX0_apartOfVoice_31 : decode cX0_apartOfVoice 31 = .ok (.iload 4, 2) := by decide +kernel
theorem dX0_apartOfVoice_33 : decode cX0_apartOfVoice 33 = .ok (.iload 5, 2) := by decide +kernel
theorem dX0_apartOfVoice_35 : decode cX0_apartOfVoice 35 = .ok (.invokestatic 128, 3) := by decide +kernel
theorem dX0_apartOfVoice_38 : decode cX0_apartOfVoice 38 = .ok (.iaload, 1) := by decide +kernel
theorem dX0_apartOfVoice_39 : decode cX0_apartOfVoice 39 = .ok (.istore 6, 2) := by decide +kernel
theorem dX0_apartOfVoice_41 : decode cX0_apartOfVoice 41 = .ok (.iload_n 3, 1) := by decide +kernel
theorem dX0_apartOfVoice_42 : decode cX0_apartOfVoice 42 = .ok (.aload_n 0, 1) := by decide +kernel
theorem dX0_apartOfVoice_43 : decode cX0_apartOfVoice 43 = .ok (.iload_n 1, 1) := by decide +kernel
theorem dX0_apartOfVoice_44 : decode cX0_apartOfVoice 44 = .ok (.iload 4, 2) := by decide +kernel
theorem dX0_apartOfVoice_46 : decode cX0_apartOfVoice 46 = .ok (.iload 5, 2) := by decide +kernel
theorem dX0_apartOfVoice_48 : decode cX0_apartOfVoice 48 = .ok (.invokevirtual 104, 3) := by decide +kernel
theorem dX0_apartOfVoice_51 : decode cX0_apartOfVoice 51 = .ok (.iload 6, 2) := by decide +kernel
theorem dX0_apartOfVoice_53 : decode cX0_apartOfVoice 53 = .ok (.isub, 1) := by decide +kernel
theorem dX0_apartOfVoice_54 : decode cX0_apartOfVoice 54 = .ok (.invokestatic 116, 3) := by decide +kernel
theorem dX0_apartOfVoice_57 : decode cX0_apartOfVoice 57 = .ok (.iadd, 1) := by decide +kernel
theorem dX0_apartOfVoice_58 : decode cX0_apartOfVoice 58 = .ok (.istore_n 3, 1) := by decide +kernel
theorem dX0_apartOfVoice_59 : decode cX0_apartOfVoice 59 = .ok (.iinc 5 1, 3) := by decide +kernel
theorem dX0_apartOfVoice_62 : decode cX0_apartOfVoice 62 = .ok (.goto (-45), 3) := by decide +kernel
theorem dX0_apartOfVoice_65 : decode cX0_apartOfVoice 65 = .ok (.iinc 4 1, 3) := by decide +kernel
theorem dX0_apartOfVoice_68 : decode cX0_apartOfVoice 68 = .ok (.goto (-63), 3) := by decide +kernel
theorem dX0_apartOfVoice_71 : decode cX0_apartOfVoice 71 = .ok (.iload_n 3, 1) := by decide +kernel
theorem dX0_apartOfVoice_72 : decode cX0_apartOfVoice 72 = .ok (.ireturn, 1) := by decide +kernel
