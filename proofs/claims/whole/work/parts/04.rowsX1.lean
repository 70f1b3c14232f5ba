set_option maxRecDepth 20000 in
theorem ggX1_init_X1_begins : GoodIn wsX1_init wsX1_begins := goodIn_r _ [17, 18, 19, 20, 5, 6, 8, 9, 21, 22, 23, 24, 25, 26, 27, 28, 29, 30, 31, 32, 33] (by decide +kernel) (by decide +kernel)
set_option maxRecDepth 20000 in
theorem gX1_init_X1_begins : GoodIn wsX1_init (wsV RX1 32 RX1 yX1_begins wsX1_begins) := goodIn_app (goodIn_of _ (by decide +kernel)) ggX1_init_X1_begins
theorem dX1_init_0 : decode cX1_init 0 = .ok (.aload_n 0, 1) := by decide +kernel
theorem dX1_init_1 : decode cX1_init 1 = .ok (.invokespecial 1, 3) := by decide +kernel
theorem dX1_init_4 : decode cX1_init 4 = .ok (.aload_n 0, 1) := by decide +kernel
theorem dX1_init_5 : decode cX1_init 5 = .ok (.bipush 48, 2) := by decide +kernel
theorem dX1_init_7 : decode cX1_init 7 = .ok (.newarray .int, 2) := by decide +kernel
theorem dX1_init_9 : decode cX1_init 9 = .ok (.putfield 7, 3) := by decide +kernel
theorem dX1_init_12 : decode cX1_init 12 = .ok (.aload_n 0, 1) := by decide +kernel
theorem dX1_init_13 : decode cX1_init 13 = .ok (.bipush 48, 2) := by decide +kernel
theorem dX1_init_15 : decode cX1_init 15 = .ok (.newarray .int, 2) := by decide +kernel
theorem dX1_init_17 : decode cX1_init 17 = .ok (.putfield 13, 3) := by decide +kernel
theorem dX1_init_20 : decode cX1_init 20 = .ok (.aload_n 0, 1) := by decide +kernel
theorem dX1_init_21 : decode cX1_init 21 = .ok (.bipush 48, 2) := by decide +kernel
theorem dX1_init_23 : decode cX1_init 23 = .ok (.newarray .boolean, 2) := by decide +kernel
theorem dX1_init_25 : decode cX1_init 25 = .ok (.putfield 16, 3) := by decide +kernel
theorem dX1_init_28 : decode cX1_init 28 = .ok (.aload_n 0, 1) := by decide +kernel
theorem dX1_init_29 : decode cX1_init 29 = .ok (.sipush 144, 3) := by decide +kernel
theorem dX1_init_32 : decode cX1_init 32 = .ok (.newarray .int, 2) := by decide +kernel
theorem dX1_init_34 : decode cX1_init 34 = .ok (.putfield 20, 3) := by decide +kernel
theorem dX1_init_37 : decode cX1_init 37 = .ok (.aload_n 0, 1) := by decide +kernel
theorem dX1_init_38 : decode cX1_init 38 = .ok (.iconst 2, 1) := by decide +kernel
theorem dX1_init_39 : decode cX1_init 39 = .ok (.newarray .int, 2) := by decide +kernel
theorem dX1_init_41 : decode cX1_init 41 = .ok (.putfield 23, 3) := by decide +kernel
theorem dX1_init_44 : decode cX1_init 44 = .ok (.aload_n 0, 1) := by decide +kernel
theorem dX1_init_45 : decode cX1_init 45 = .ok (.bipush 16, 2) := by decide +kernel
theorem dX1_init_47 : decode cX1_init 47 = .ok (.newarray .int, 2) := by decide +kernel
theorem dX1_init_49 : decode cX1_init 49 = .ok (.putfield 26, 3) := by decide +kernel
theorem dX1_init_52 : decode cX1_init 52 = .ok (.aload_n 0, 1) := by decide +kernel
theorem dX1_init_53 : decode cX1_init 53 = .ok (.bipush 8, 2) := by decide +kernel
theorem dX1_init_55 : decode cX1_init 55 = .ok (.newarray .int, 2) := by decide +kernel
theorem dX1_init_57 : decode cX1_init 57 = .ok (.putfield 29, 3) := by decide +kernel
theorem dX1_init_60 : decode cX1_init 60 = .ok (.aload_n 0, 1) := by decide +kernel
theorem dX1_init_61 : decode cX1_init 61 = .ok (.iconst 4, 1) := by decide +kernel
theorem dX1_init_62 : decode cX1_init 62 = .ok (.iconst 4, 1) := by decide +kernel
theorem dX1_init_63 : decode cX1_init 63 = .ok (.iconst 2, 1) := by decide +kernel
theorem dX1_init_64 : decode cX1_init 64 = .ok (.invokevirtual 32, 3) := by decide +kernel
theorem dX1_init_67 : decode cX1_init 67 = .ok (.return_, 1) := by decide +kernel
theorem dX1_in_0 : decode cX1_in 0 = .ok (.iload_n 0, 1) := by decide +kernel
theorem dX1_in_1 : decode cX1_in 1 = .ok (.iload_n 1, 1) := by decide +kernel
theorem dX1_in_2 : decode cX1_in 2 = .ok (.if_icmp .lt 12, 3) := by decide +kernel
theorem dX1_in_5 : decode cX1_in 5 = .ok (.iload_n 0, 1) := by decide +kernel
theorem dX1_in_6 : decode cX1_in 6 = .ok (.iload_n 2, 1) := by decide +kernel
theorem dX1_in_7 : decode cX1_in 7 = .ok (.if_icmp .gt 7, 3) := by decide +kernel
theorem dX1_in_10 : decode cX1_in 10 = .ok (.iconst 1, 1) := by decide +kernel
theorem dX1_in_11 : decode cX1_in 11 = .ok (.goto 4, 3) := by decide +kernel
theorem dX1_in_14 : decode cX1_in 14 = .ok (.iconst 0, 1) := by decide +kernel
theorem dX1_in_15 : decode cX1_in 15 = .ok (.ireturn, 1) := by decide +kernel
theorem dX1_begins_0 : decode cX1_begins 0 = .ok (.aload_n 0, 1) := by decide +kernel
theorem dX1_begins_1 : decode cX1_begins 1 = .ok (.iload_n 1, 1) := by decide +kernel
theorem dX1_begins_2 : decode cX1_begins 2 = .ok (.putfield 36, 3) := by decide +kernel
theorem dX1_begins_5 : decode cX1_begins 5 = .ok (.aload_n 0, 1) := by decide +kernel
theorem dX1_begins_6 : decode cX1_begins 6 = .ok (.iload_n 2, 1) := by decide +kernel
theorem dX1_begins_7 : decode cX1_begins 7 = .ok (.putfield 40, 3) := by decide +kernel
theorem dX1_begins_10 : decode cX1_begins 10 = .ok (.aload_n 0, 1) := by decide +kernel
theorem dX1_begins_11 : decode cX1_begins 11 = .ok (.iload_n 3, 1) := by decide +kernel
theorem dX1_begins_12 : decode cX1_begins 12 = .ok (.putfield 43, 3) := by decide +kernel
theorem dX1_begins_15 : decode cX1_begins 15 = .ok (.iconst 0, 1) := by decide +kernel
theorem dX1_begins_16 : decode cX1_begins 16 = .ok (.istore 4, 2) := by decide +kernel
theorem dX1_begins_18 : decode cX1_begins 18 = .ok (.iload 4, 2) := by decide +kernel
theorem dX1_begins_20 : decode cX1_begins 20 = .ok (.bipush 48, 2) := by decide +kernel
theorem dX1_begins_22 : decode cX1_begins 22 = .ok (.if_icmp .ge 33, 3) := by decide +kernel
theorem dX1_begins_25 : decode cX1_begins 25 = .ok (.aload_n 0, 1) := by decide +kernel
theorem dX1_begins_26 : decode cX1_begins 26 = .ok (.getfield 7, 3) := by decide +kernel
theorem dX1_begins_29 : decode cX1_begins 29 = .ok (.iload 4, 2) := by decide +kernel
theorem dX1_begins_31 : decode cX1_begins 31 = .ok (.iconst 0, 1) := by decide +kernel
theorem dX1_begins_32 : decode cX1_begins 32 = .ok (.iastore, 1) := by decide +kernel
theorem dX1_begins_33 : decode cX1_begins 33 = .ok (.aload_n 0, 1) := by decide +kernel
theorem dX1_begins_34 : decode cX1_begins 34 = .ok (.getfield 13, 3) := by decide +kernel
theorem dX1_begins_37 : decode cX1_begins 37 = .ok (.iload 4, 2) := by decide +kernel
theorem dX1_begins_39 : decode cX1_begins 39 = .ok (.iconst 1, 1) := by decide +kernel
theorem dX1_begins_40 : decode cX1_begins 40 = .ok (.iastore, 1) := by decide +kernel
theorem dX1_begins_41 : decode cX1_begins 41 = .ok (.aload_n 0, 1) := by decide +kernel
theorem dX1_begins_42 : decode cX1_begins 42 = .ok (.getfield 16, 3) := by decide +kernel
theorem dX1_begins_45 : decode cX1_begins 45 = .ok (.iload 4, 2) := by decide +kernel
theorem dX1_begins_47 : decode cX1_begins 47 = .ok (.iconst 0, 1) := by decide +kernel
theorem dX1_begins_48 : decode cX1_begins 48 = .ok (.bastore, 1) := by decide +kernel
theorem dX1_begins_49 : decode cX1_begins 49 = .ok (.iinc 4 1, 3) := by decide +kernel
theorem dX1_begins_52 : decode cX1_begins 52 = .ok (.goto (-34), 3) := by decide +kernel
theorem dX1_begins_55 : decode cX1_begins 55 = .ok (.iconst 0, 1) := by decide +kernel
theorem dX1_begins_56 : decode cX1_begins 56 = .ok (.istore 4, 2) := by decide +kernel
theorem dX1_begins_58 : decode cX1_begins 58 = .ok (.iload 4, 2) := by decide +kernel
theorem dX1_begins_60 : decode cX1_begins 60 = .ok (.sipush 144, 3) := by decide +kernel
theorem dX1_begins_63 : decode cX1_begins 63 = .ok (.if_icmp .ge 17, 3) := by decide +kernel
theorem dX1_begins_66 : decode cX1_begins 66 = .ok (.aload_n 0, 1) := by decide +kernel
theorem dX1_begins_67 : decode cX1_begins 67 = .ok (.getfield 20, 3) := by decide +kernel
theorem dX1_begins_70 : decode cX1_begins 70 = .ok (.iload 4, 2) := by decide +kernel
theorem dX1_begins_72 : decode cX1_begins 72 = .ok (.iconst 0, 1) := by decide +kernel
theorem dX1_begins_73 : decode cX1_begins 73 = .ok (.iastore, 1) := by decide +kernel
theorem dX1_begins_74 : decode cX1_begins 74 = .ok (.iinc 4 1, 3) := by decide +kernel
theorem dX1_begins_77 : decode cX1_begins 77 = .ok (.goto (-19), 3) := by decide +kernel
theorem dX1_begins_80 : decode cX1_begins 80 = .ok (.return_, 1) := by decide +kernel
set_option maxRecDepth 20000 in
theorem ggX1_isPlace_X1_in : GoodIn wsX1_isPlace wsX1_in := goodIn_r _ [6] (by decide +kernel) (by decide +kernel)
set_option maxRecDepth 20000 in
theorem gX1_isPlace_X1_in : GoodIn wsX1_isPlace (va_wsS RX1 46 yX1_in wsX1_in) := goodIn_app (goodIn_of _ (by decide +kernel)) ggX1_isPlace_X1_in
theorem dX1_isPlace_0 : decode cX1_isPlace 0 = .ok (.iload_n 1, 1) := by decide +kernel
theorem dX1_isPlace_1 : decode cX1_isPlace 1 = .ok (.iconst 0, 1) := by decide +kernel
theorem dX1_isPlace_2 : decode cX1_isPlace 2 = .ok (.aload_n 0, 1) := by decide +kernel
theorem dX1_isPlace_3 : decode cX1_isPlace 3 = .ok (.getfield 36, 3) := by decide +kernel
theorem dX1_isPlace_6 : decode cX1_isPlace 6 = .ok (.iconst 1, 1) := by decide +kernel
theorem dX1_isPlace_7 : decode cX1_isPlace 7 = .ok (.isub, 1) := by decide +kernel
theorem dX1_isPlace_8 : decode cX1_isPlace 8 = .ok (.invokestatic 46, 3) := by decide +kernel
theorem dX1_isPlace_11 : decode cX1_isPlace 11 = .ok (.ifCond .eq 21, 3) := by decide +kernel
theorem dX1_isPlace_14 : decode cX1_isPlace 14 = .ok (.iload_n 2, 1) := by decide +kernel
theorem dX1_isPlace_15 : decode cX1_isPlace 15 = .ok (.iconst 0, 1) := by decide +kernel
theorem dX1_isPlace_16 : decode cX1_isPlace 16 = .ok (.aload_n 0, 1) := by decide +kernel
theorem dX1_isPlace_17 : decode cX1_isPlace 17 = .ok (.getfield 40, 3) := by decide +kernel
theorem dX1_isPlace_20 : decode cX1_isPlace 20 = .ok (.iconst 1, 1) := by decide +kernel
theorem dX1_isPlace_21 : decode cX1_isPlace 21 = .ok (.isub, 1) := by decide +kernel
theorem dX1_isPlace_22 : decode cX1_isPlace 22 = .ok (.invokestatic 46, 3) := by decide +kernel
theorem dX1_isPlace_25 : decode cX1_isPlace 25 = .ok (.ifCond .eq 7, 3) := by decide +kernel
theorem dX1_isPlace_28 : decode cX1_isPlace 28 = .ok (.iconst 1, 1) := by decide +kernel
theorem dX1_isPlace_29 : decode cX1_isPlace 29 = .ok (.goto 4, 3) := by decide +kernel
theorem dX1_isPlace_32 : decode cX1_isPlace 32 = .ok (.iconst 0, 1) := by decide +kernel
theorem dX1_isPlace_33 : decode cX1_isPlace 33 = .ok (.ireturn, 1) := by decide +kernel
set_option maxRecDepth 20000 in
theorem ggX1_isVoice_X1_in : GoodIn wsX1_isVoice wsX1_in := goodIn_r _ [5] (by decide +kernel) (by decide +kernel)
set_option maxRecDepth 20000 in
theorem gX1_isVoice_X1_in : GoodIn wsX1_isVoice (va_wsS RX1 46 yX1_in wsX1_in) := goodIn_app (goodIn_of _ (by decide +kernel)) ggX1_isVoice_X1_in
theorem dX1_isVoice_0 : decode cX1_isVoice 0 = .ok (.iload_n 1, 1) := by decide +kernel
theorem dX1_isVoice_1 : decode cX1_isVoice 1 = .ok (.iconst 0, 1) := by decide +kernel
theorem dX1_isVoice_2 : decode cX1_isVoice 2 = .ok (.aload_n 0, 1) := by decide +kernel
theorem dX1_isVoice_3 : decode cX1_isVoice 3 = .ok (.getfield 43, 3) := by decide +kernel
theorem dX1_isVoice_6 : decode cX1_isVoice 6 = .ok (.iconst 1, 1) := by decide +kernel
theorem dX1_isVoice_7 : decode cX1_isVoice 7 = .ok (.isub, 1) := by decide +kernel
theorem dX1_isVoice_8 : decode cX1_isVoice 8 = .ok (.invokestatic 46, 3) := by decide +kernel
theorem dX1_isVoice_11 : decode cX1_isVoice 11 = .ok (.ireturn, 1) := by decide +kernel
set_option maxRecDepth 20000 in
theorem ggX1_board_X1_in : GoodIn wsX1_board wsX1_in := goodIn_r _ [4] (by decide +kernel) (by decide +kernel)
set_option maxRecDepth 20000 in
theorem gX1_board_X1_in : GoodIn wsX1_board (va_wsS RX1 46 yX1_in wsX1_in) := goodIn_app (goodIn_of _ (by decide +kernel)) ggX1_board_X1_in
set_option maxRecDepth 20000 in
theorem ggX1_board_X1_begins : GoodIn wsX1_board wsX1_begins := goodIn_r _ [8, 9, 10, 11, 12, 13, 14, 15, 16, 17, 18, 19, 20, 21, 22, 23, 24, 25, 26, 27, 28] (by decide +kernel) (by decide +kernel)
set_option maxRecDepth 20000 in
theorem gX1_board_X1_begins : GoodIn wsX1_board (wsV RX1 32 RX1 yX1_begins wsX1_begins) := goodIn_app (goodIn_of _ (by decide +kernel)) ggX1_board_X1_begins
theorem dX1_board_0 : decode cX1_board 0 = .ok (.iload_n 1, 1) := by decide +kernel
theorem dX1_board_1 : decode cX1_board 1 = .ok (.iconst 1, 1) := by decide +kernel
theorem dX1_board_2 : decode cX1_board 2 = .ok (.bipush 6, 2) := by decide +kernel
theorem dX1_board_4 : decode cX1_board 4 = .ok (.invokestatic 46, 3) := by decide +kernel
theorem dX1_board_7 : decode cX1_board 7 = .ok (.ifCond .eq 22, 3) := by decide +kernel
theorem dX1_board_10 : decode cX1_board 10 = .ok (.iload_n 2, 1) := by decide +kernel
theorem dX1_board_11 : decode cX1_board 11 = .ok (.iconst 1, 1) := by decide +kernel
theorem dX1_board_12 : decode cX1_board 12 = .ok (.bipush 8, 2) := by decide +kernel
theorem dX1_board_14 : decode cX1_board 14 = .ok (.invokestatic 46, 3) := by decide +kernel
theorem dX1_board_17 : decode cX1_board 17 = .ok (.ifCond .eq 12, 3) := by decide +kernel
theorem dX1_board_20 : decode cX1_board 20 = .ok (.iload_n 3, 1) := by decide +kernel
theorem dX1_board_21 : decode cX1_board 21 = .ok (.iconst 1, 1) := by decide +kernel
theorem dX1_board_22 : decode cX1_board 22 = .ok (.iconst 3, 1) := by decide +kernel
theorem dX1_board_23 : decode cX1_board 23 = .ok (.invokestatic 46, 3) := by decide +kernel
theorem dX1_board_26 : decode cX1_board 26 = .ok (.ifCond .ne 5, 3) := by decide +kernel
theorem dX1_board_29 : decode cX1_board 29 = .ok (.iconst (-1), 1) := by decide +kernel
theorem dX1_board_30 : decode cX1_board 30 = .ok (.ireturn, 1) := by decide +kernel
theorem dX1_board_31 : decode cX1_board 31 = .ok (.aload_n 0, 1) := by decide +kernel
theorem dX1_board_32 : decode cX1_board 32 = .ok (.iload_n 1, 1) := by decide +kernel
theorem dX1_board_33 : decode cX1_board 33 = .ok (.iload_n 2, 1) := by decide +kernel
theorem dX1_board_34 : decode cX1_board 34 = .ok (.iload_n 3, 1) := by decide +kernel
theorem dX1_board_35 : decode cX1_board 35 = .ok (.invokevirtual 32, 3) := by decide +kernel
theorem dX1_board_38 : decode cX1_board 38 = .ok (.iload_n 1, 1) := by decide +kernel
theorem dX1_board_39 : decode cX1_board 39 = .ok (.iload_n 2, 1) := by decide +kernel
theorem dX1_board_40 : decode cX1_board 40 = .ok (.imul, 1) := by decide +kernel
theorem dX1_board_41 : decode cX1_board 41 = .ok (.ireturn, 1) := by decide +kernel
set_option maxRecDepth 20000 in
theorem ggX1_set_X1_isPlace : GoodIn wsX1_set wsX1_isPlace := goodIn_r _ [6, 7, 8, 9, 10, 5, 11, 12, 13, 14, 15, 16, 17, 18, 19, 20, 21, 22, 23, 24] (by decide +kernel) (by decide +kernel)
set_option maxRecDepth 20000 in
theorem gX1_set_X1_isPlace : GoodIn wsX1_set (wsV RX1 50 RX1 yX1_isPlace wsX1_isPlace) := goodIn_app (goodIn_of _ (by decide +kernel)) ggX1_set_X1_isPlace
set_option maxRecDepth 20000 in
theorem ggX1_set_X1_in : GoodIn wsX1_set wsX1_in := goodIn_r _ [11] (by decide +kernel) (by decide +kernel)
set_option maxRecDepth 20000 in
theorem gX1_set_X1_in : GoodIn wsX1_set (va_wsS RX1 46 yX1_in wsX1_in) := goodIn_app (goodIn_of _ (by decide +kernel)) ggX1_set_X1_in
theorem dX1_set_0 : decode cX1_set 0 = .ok (.aload_n 0, 1) := by decide +kernel
theorem dX1_set_1 : decode cX1_set 1 = .ok (.iload_n 1, 1) := by decide +kernel
theorem dX1_set_2 : decode cX1_set 2 = .ok (.iload_n 2, 1) := by decide +kernel
theorem dX1_set_3 : decode cX1_set 3 = .ok (.invokevirtual 50, 3) := by decide +kernel
theorem dX1_set_6 : decode cX1_set 6 = .ok (.ifCond .eq 13, 3) := by decide +kernel
theorem dX1_set_9 : decode cX1_set 9 = .ok (.iload_n 3, 1) := by decide +kernel
theorem dX1_set_10 : decode cX1_set 10 = .ok (.iconst 0, 1) := by decide +kernel
theorem dX1_set_11 : decode cX1_set 11 = .ok (.bipush 99, 2) := by decide +kernel
theorem dX1_set_13 : decode cX1_set 13 = .ok (.invokestatic 46, 3) := by decide +kernel
theorem dX1_set_16 : decode cX1_set 16 = .ok (.ifCond .ne 5, 3) := by decide +kernel
theorem dX1_set_19 : decode cX1_set 19 = .ok (.iconst (-1), 1) := by decide +kernel
theorem dX1_set_20 : decode cX1_set 20 = .ok (.ireturn, 1) := by decide +kernel
theorem dX1_set_21 : decode cX1_set 21 = .ok (.aload_n 0, 1) := by decide +kernel
theorem dX1_set_22 : decode cX1_set 22 = .ok (.getfield 7, 3) := by decide +kernel
theorem dX1_set_25 : decode cX1_set 25 = .ok (.bipush 8, 2) := by decide +kernel
theorem dX1_set_27 : decode cX1_set 27 = .ok (.iload_n 1, 1) := by decide +kernel
theorem dX1_set_28 : decode cX1_set 28 = .ok (.imul, 1) := by decide +kernel
theorem dX1_set_29 : decode cX1_set 29 = .ok (.iload_n 2, 1) := by decide +kernel
theorem dX1_set_30 : decode cX1_set 30 = .ok (.iadd, 1) := by decide +kernel
theorem dX1_set_31 : decode cX1_set 31 = .ok (.iaload, 1) := by decide +kernel
theorem dX1_set_32 : decode cX1_set 32 = .ok (.istore 4, 2) := by decide +kernel
theorem dX1_set_34 : decode cX1_set 34 = .ok (.aload_n 0, 1) := by decide +kernel
theorem dX1_set_35 : decode cX1_set 35 = .ok (.getfield 7, 3) := by decide +kernel
theorem dX1_set_38 : decode cX1_set 38 = .ok (.bipush 8, 2) := by decide +kernel
theorem dX1_set_40 : decode cX1_set 40 = .ok (.iload_n 1, 1) := by decide +kernel
theorem dX1_set_41 : decode cX1_set 41 = .ok (.imul, 1) := by decide +kernel
theorem dX1_set_42 : decode cX1_set 42 = .ok (.iload_n 2, 1) := by decide +kernel
theorem dX1_set_43 : decode cX1_set 43 = .ok (.iadd, 1) := by decide +kernel
theorem dX1_set_44 : decode cX1_set 44 = .ok (.iload_n 3, 1) := by decide +kernel
theorem dX1_set_45 : decode cX1_set 45 = .ok (.iastore, 1) := by decide +kernel
theorem dX1_set_46 : decode cX1_set 46 = .ok (.iload 4, 2) := by decide +kernel
theorem dX1_set_48 : decode cX1_set 48 = .ok (.ireturn, 1) := by decide +kernel
theorem dX1_part_0 : decode cX1_part 0 = .ok (.aload_n 0, 1) := by decide +kernel
theorem dX1_part_1 : decode cX1_part 1 = .ok (.getfield 13, 3) := by decide +kernel
theorem dX1_part_4 : decode cX1_part 4 = .ok (.bipush 16, 2) := by decide +kernel
theorem dX1_part_6 : decode cX1_part 6 = .ok (.iload_n 1, 1) := by decide +kernel
theorem dX1_part_7 : decode cX1_part 7 = .ok (.imul, 1) := by decide +kernel
theorem dX1_part_8 : decode cX1_part 8 = .ok (.iload_n 2, 1) := by decide +kernel
theorem dX1_part_9 : decode cX1_part 9 = .ok (.iadd, 1) := by decide +kernel
theorem dX1_part_10 : decode cX1_part 10 = .ok (.iaload, 1) := by decide +kernel
theorem dX1_part_11 : decode cX1_part 11 = .ok (.aload_n 0, 1) := by decide +kernel
theorem dX1_part_12 : decode cX1_part 12 = .ok (.getfield 13, 3) := by decide +kernel
theorem dX1_part_15 : decode cX1_part 15 = .ok (.bipush 16, 2) := by decide +kernel
theorem dX1_part_17 : decode cX1_part 17 = .ok (.iload_n 1, 1) := by decide +kernel
theorem dX1_part_18 : decode cX1_part 18 = .ok (.imul, 1) := by decide +kernel
theorem dX1_part_19 : decode cX1_part 19 = .ok (.bipush 6, 2) := by decide +kernel
theorem dX1_part_21 : decode cX1_part 21 = .ok (.iadd, 1) := by decide +kernel
theorem dX1_part_22 : decode cX1_part 22 = .ok (.iload_n 3, 1) := by decide +kernel
theorem dX1_part_23 : decode cX1_part 23 = .ok (.iadd, 1) := by decide +kernel
theorem dX1_part_24 : decode cX1_part 24 = .ok (.iaload, 1) := by decide +kernel
theorem dX1_part_25 : decode cX1_part 25 = .ok (.imul, 1) := by decide +kernel
theorem dX1_part_26 : decode cX1_part 26 = .ok (.ireturn, 1) := by decide +kernel
set_option maxRecDepth 20000 in
theorem ggX1_sumAt_X1_part : GoodIn wsX1_sumAt wsX1_part := goodIn_r _ [6, 7, 8, 9, 10, 11, 12, 13, 14, 15, 16, 17, 18, 19, 20] (by decide +kernel) (by decide +kernel)
set_option maxRecDepth 20000 in
theorem gX1_sumAt_X1_part : GoodIn wsX1_sumAt (wsV RX1 54 RX1 yX1_part wsX1_part) := goodIn_app (goodIn_of _ (by decide +kernel)) ggX1_sumAt_X1_part
theorem dX1_sumAt_0 : decode cX1_sumAt 0 = .ok (.iconst 0, 1) := by decide +kernel
theorem dX1_sumAt_1 : decode cX1_sumAt 1 = .ok (.istore_n 3, 1) := by decide +kernel
theorem dX1_sumAt_2 : decode cX1_sumAt 2 = .ok (.iconst 0, 1) := by decide +kernel
theorem dX1_sumAt_3 : decode cX1_sumAt 3 = .ok (.istore 4, 2) := by decide +kernel
theorem dX1_sumAt_5 : decode cX1_sumAt 5 = .ok (.iload 4, 2) := by decide +kernel
theorem dX1_sumAt_7 : decode cX1_sumAt 7 = .ok (.aload_n 0, 1) := by decide +kernel
theorem dX1_sumAt_8 : decode cX1_sumAt 8 = .ok (.getfield 43, 3) := by decide +kernel
theorem dX1_sumAt_11 : decode cX1_sumAt 11 = .ok (.if_icmp .ge 20, 3) := by decide +kernel
theorem dX1_sumAt_14 : decode cX1_sumAt 14 = .ok (.iload_n 3, 1) := by decide +kernel
theorem dX1_sumAt_15 : decode cX1_sumAt 15 = .ok (.aload_n 0, 1) := by decide +kernel
theorem dX1_sumAt_16 : decode cX1_sumAt 16 = .ok (.iload 4, 2) := by decide +kernel
theorem dX1_sumAt_18 : decode cX1_sumAt 18 = .ok (.iload_n 1, 1) := by decide +kernel
theorem dX1_sumAt_19 : decode cX1_sumAt 19 = .ok (.iload_n 2, 1) := by decide +kernel
theorem dX1_sumAt_20 : decode cX1_sumAt 20 = .ok (.invokevirtual 54, 3) := by decide +kernel
theorem dX1_sumAt_23 : decode cX1_sumAt 23 = .ok (.iadd, 1) := by decide +kernel
theorem dX1_sumAt_24 : decode cX1_sumAt 24 = .ok (.istore_n 3, 1) := by decide +kernel
theorem dX1_sumAt_25 : decode cX1_sumAt 25 = .ok (.iinc 4 1, 3) := by decide +kernel
theorem dX1_sumAt_28 : decode cX1_sumAt 28 = .ok (.goto (-23), 3) := by decide +kernel
theorem dX1_sumAt_31 : decode cX1_sumAt 31 = .ok (.iload_n 3, 1) := by decide +kernel
theorem dX1_sumAt_32 : decode cX1_sumAt 32 = .ok (.ireturn, 1) := by decide +kernel
set_option maxRecDepth 20000 in
theorem ggX1_at_X1_isPlace : GoodIn wsX1_at wsX1_isPlace := goodIn_r _ [6, 7, 8, 9, 10, 5, 11, 34, 35, 36, 37, 38, 39, 40, 41, 42, 43, 44, 45, 46] (by decide +kernel) (by decide +kernel)
set_option maxRecDepth 20000 in
theorem gX1_at_X1_isPlace : GoodIn wsX1_at (wsV RX1 50 RX1 yX1_isPlace wsX1_isPlace) := goodIn_app (goodIn_of _ (by decide +kernel)) ggX1_at_X1_isPlace
set_option maxRecDepth 20000 in
theorem ggX1_at_X1_in : GoodIn wsX1_at wsX1_in := goodIn_r _ [11] (by decide +kernel) (by decide +kernel)
set_option maxRecDepth 20000 in
theorem gX1_at_X1_in : GoodIn wsX1_at (va_wsS RX1 46 yX1_in wsX1_in) := goodIn_app (goodIn_of _ (by decide +kernel)) ggX1_at_X1_in
set_option maxRecDepth 20000 in
theorem ggX1_at_X1_sumAt : GoodIn wsX1_at wsX1_sumAt := goodIn_r _ [15, 16, 17, 18, 19, 5, 20, 21, 34, 35, 36, 37, 38, 39, 40, 41, 42, 43, 44, 45, 46] (by decide +kernel) (by decide +kernel)
set_option maxRecDepth 20000 in
theorem gX1_at_X1_sumAt : GoodIn wsX1_at (wsV RX1 58 RX1 yX1_sumAt wsX1_sumAt) := goodIn_app (goodIn_of _ (by decide +kernel)) ggX1_at_X1_sumAt
set_option maxRecDepth 20000 in
theorem ggX1_at_X1_bestPeriod : GoodIn wsX1_at wsX1_bestPeriod := goodIn_r _ [25, 8, 7, 1, 26, 27, 28, 5, 29, 30, 31, 32, 33, 34, 35, 36, 37, 38, 39, 40, 41, 42, 43, 44, 45, 46] (by decide +kernel) (by decide +kernel)
set_option maxRecDepth 20000 in
theorem gX1_at_X1_bestPeriod : GoodIn wsX1_at (wsV RX1 62 RX1 yX1_bestPeriod wsX1_bestPeriod) := goodIn_app (goodIn_of _ (by decide +kernel)) ggX1_at_X1_bestPeriod
set_option maxRecDepth 20000 in
theorem ggX1_at_X1_backgroundOf : GoodIn wsX1_at wsX1_backgroundOf := goodIn_r _ [29, 8, 1, 30, 34, 35, 36, 37, 38, 39, 40, 41, 42, 43, 44, 45, 46] (by decide +kernel) (by decide +kernel)
set_option maxRecDepth 20000 in
theorem gX1_at_X1_backgroundOf : GoodIn wsX1_at (wsV RX1 66 RX1 yX1_backgroundOf wsX1_backgroundOf) := goodIn_app (goodIn_of _ (by decide +kernel)) ggX1_at_X1_backgroundOf
theorem dX1_at_0 : decode cX1_at 0 = .ok (.aload_n 0, 1) := by decide +kernel
theorem dX1_at_1 : decode cX1_at 1 = .ok (.iload_n 1, 1) := by decide +kernel
theorem dX1_at_2 : decode cX1_at 2 = .ok (.iload_n 2, 1) := by decide +kernel
theorem dX1_at_3 : decode cX1_at 3 = .ok (.invokevirtual 50, 3) := by decide +kernel
theorem dX1_at_6 : decode cX1_at 6 = .ok (.ifCond .eq 12, 3) := by decide +kernel
theorem dX1_at_9 : decode cX1_at 9 = .ok (.iload_n 3, 1) := by decide +kernel
theorem dX1_at_10 : decode cX1_at 10 = .ok (.iconst 0, 1) := by decide +kernel
theorem dX1_at_11 : decode cX1_at 11 = .ok (.iconst 2, 1) := by decide +kernel
theorem dX1_at_12 : decode cX1_at 12 = .ok (.invokestatic 46, 3) := by decide +kernel
theorem dX1_at_15 : decode cX1_at 15 = .ok (.ifCond .ne 5, 3) := by decide +kernel
theorem dX1_at_18 : decode cX1_at 18 = .ok (.iconst (-1), 1) := by decide +kernel
theorem dX1_at_19 : decode cX1_at 19 = .ok (.ireturn, 1) := by decide +kernel
theorem dX1_at_20 : decode cX1_at 20 = .ok (.iload_n 3, 1) := by decide +kernel
theorem dX1_at_21 : decode cX1_at 21 = .ok (.ifCond .ne 17, 3) := by decide +kernel
theorem dX1_at_24 : decode cX1_at 24 = .ok (.aload_n 0, 1) := by decide +kernel
theorem dX1_at_25 : decode cX1_at 25 = .ok (.getfield 7, 3) := by decide +kernel
theorem dX1_at_28 : decode cX1_at 28 = .ok (.bipush 8, 2) := by decide +kernel
theorem dX1_at_30 : decode cX1_at 30 = .ok (.iload_n 1, 1) := by decide +kernel
theorem dX1_at_31 : decode cX1_at 31 = .ok (.imul, 1) := by decide +kernel
theorem dX1_at_32 : decode cX1_at 32 = .ok (.iload_n 2, 1) := by decide +kernel
theorem dX1_at_33 : decode cX1_at 33 = .ok (.iadd, 1) := by decide +kernel
theorem dX1_at_34 : decode cX1_at 34 = .ok (.iaload, 1) := by decide +kernel
theorem dX1_at_35 : decode cX1_at 35 = .ok (.goto 27, 3) := by decide +kernel
theorem dX1_at_38 : decode cX1_at 38 = .ok (.iload_n 3, 1) := by decide +kernel
theorem dX1_at_39 : decode cX1_at 39 = .ok (.iconst 1, 1) := by decide +kernel
theorem dX1_at_40 : decode cX1_at 40 = .ok (.if_icmp .ne 12, 3) := by decide +kernel
theorem dX1_at_43 : decode cX1_at 43 = .ok (.aload_n 0, 1) := by decide +kernel
theorem dX1_at_44 : decode cX1_at 44 = .ok (.iload_n 1, 1) := by decide +kernel
theorem dX1_at_45 : decode cX1_at 45 = .ok (.iload_n 2, 1) := by decide +kernel
theorem dX1_at_46 : decode cX1_at 46 = .ok (.invokevirtual 58, 3) := by decide +kernel
theorem dX1_at_49 : decode cX1_at 49 = .ok (.goto 13, 3) := by decide +kernel
theorem dX1_at_52 : decode cX1_at 52 = .ok (.aload_n 0, 1) := by decide +kernel
theorem dX1_at_53 : decode cX1_at 53 = .ok (.aload_n 0, 1) := by decide +kernel
theorem dX1_at_54 : decode cX1_at 54 = .ok (.invokevirtual 62, 3) := by decide +kernel
theorem dX1_at_57 : decode cX1_at 57 = .ok (.iload_n 1, 1) := by decide +kernel
theorem dX1_at_58 : decode cX1_at 58 = .ok (.iload_n 2, 1) := by decide +kernel
theorem dX1_at_59 : decode cX1_at 59 = .ok (.invokevirtual 66, 3) := by decide +kernel
theorem dX1_at_62 : decode cX1_at 62 = .ok (.ireturn, 1) := by decide +kernel
set_option maxRecDepth 20000 in
theorem ggX1_placeOf_X1_isVoice : GoodIn wsX1_placeOf wsX1_isVoice := goodIn_r _ [7, 8, 9, 10, 6, 11, 12, 13, 14, 15, 16, 17, 18, 19, 20, 21, 22, 23, 24] (by decide +kernel) (by decide +kernel)
set_option maxRecDepth 20000 in
theorem gX1_placeOf_X1_isVoice : GoodIn wsX1_placeOf (wsV RX1 69 RX1 yX1_isVoice wsX1_isVoice) := goodIn_app (goodIn_of _ (by decide +kernel)) ggX1_placeOf_X1_isVoice
set_option maxRecDepth 20000 in
theorem ggX1_placeOf_X1_in : GoodIn wsX1_placeOf wsX1_in := goodIn_r _ [11] (by decide +kernel) (by decide +kernel)
set_option maxRecDepth 20000 in
theorem gX1_placeOf_X1_in : GoodIn wsX1_placeOf (va_wsS RX1 46 yX1_in wsX1_in) := goodIn_app (goodIn_of _ (by decide +kernel)) ggX1_placeOf_X1_in
theorem dX1_placeOf_0 : decode cX1_placeOf 0 = .ok (.aload_n 0, 1) := by decide +kernel
theorem dX1_placeOf_1 : decode cX1_placeOf 1 = .ok (.iload_n 1, 1) := by decide +kernel
theorem dX1_placeOf_2 : decode cX1_placeOf 2 = .ok (.invokevirtual 69, 3) := by decide +kernel
theorem dX1_placeOf_5 : decode cX1_placeOf 5 = .ok (.ifCond .eq 44, 3) := by decide +kernel
theorem dX1_placeOf_8 : decode cX1_placeOf 8 = .ok (.iload_n 2, 1) := by decide +kernel
theorem dX1_placeOf_9 : decode cX1_placeOf 9 = .ok (.ifCond .ne 17, 3) := by decide +kernel
theorem dX1_placeOf_12 : decode cX1_placeOf 12 = .ok (.iload_n 3, 1) := by decide +kernel
theorem dX1_placeOf_13 : decode cX1_placeOf 13 = .ok (.iconst 0, 1) := by decide +kernel
theorem dX1_placeOf_14 : decode cX1_placeOf 14 = .ok (.aload_n 0, 1) := by decide +kernel
theorem dX1_placeOf_15 : decode cX1_placeOf 15 = .ok (.getfield 36, 3) := by decide +kernel
theorem dX1_placeOf_18 : decode cX1_placeOf 18 = .ok (.iconst 1, 1) := by decide +kernel
theorem dX1_placeOf_19 : decode cX1_placeOf 19 = .ok (.isub, 1) := by decide +kernel
theorem dX1_placeOf_20 : decode cX1_placeOf 20 = .ok (.invokestatic 46, 3) := by decide +kernel
theorem dX1_placeOf_23 : decode cX1_placeOf 23 = .ok (.ifCond .ne 22, 3) := by decide +kernel
theorem dX1_placeOf_26 : decode cX1_placeOf 26 = .ok (.iload_n 2, 1) := by decide +kernel
theorem dX1_placeOf_27 : decode cX1_placeOf 27 = .ok (.iconst 1, 1) := by decide +kernel
theorem dX1_placeOf_28 : decode cX1_placeOf 28 = .ok (.if_icmp .ne 21, 3) := by decide +kernel
theorem dX1_placeOf_31 : decode cX1_placeOf 31 = .ok (.iload_n 3, 1) := by decide +kernel
theorem dX1_placeOf_32 : decode cX1_placeOf 32 = .ok (.iconst 0, 1) := by decide +kernel
theorem dX1_placeOf_33 : decode cX1_placeOf 33 = .ok (.aload_n 0, 1) := by decide +kernel
theorem dX1_placeOf_34 : decode cX1_placeOf 34 = .ok (.getfield 40, 3) := by decide +kernel
theorem dX1_placeOf_37 : decode cX1_placeOf 37 = .ok (.iconst 1, 1) := by decide +kernel
theorem dX1_placeOf_38 : decode cX1_placeOf 38 = .ok (.isub, 1) := by decide +kernel
theorem dX1_placeOf_39 : decode cX1_placeOf 39 = .ok (.invokestatic 46, 3) := by decide +kernel
theorem dX1_placeOf_42 : decode cX1_placeOf 42 = .ok (.ifCond .eq 7, 3) := by decide +kernel
theorem dX1_placeOf_45 : decode cX1_placeOf 45 = .ok (.iconst 1, 1) := by decide +kernel
theorem dX1_placeOf_46 : decode cX1_placeOf 46 = .ok (.goto 4, 3) := by decide +kernel
theorem dX1_placeOf_49 : decode cX1_placeOf 49 = .ok (.iconst 0, 1) := by decide +kernel
theorem dX1_placeOf_50 : decode cX1_placeOf 50 = .ok (.istore 4, 2) := by decide +kernel
theorem dX1_placeOf_52 : decode cX1_placeOf 52 = .ok (.iload 4, 2) := by decide +kernel
theorem dX1_placeOf_54 : decode cX1_placeOf 54 = .ok (.ifCond .eq 17, 3) := by decide +kernel
theorem dX1_placeOf_57 : decode cX1_placeOf 57 = .ok (.bipush 16, 2) := by decide +kernel
theorem dX1_placeOf_59 : decode cX1_placeOf 59 = .ok (.iload_n 1, 1) := by decide +kernel
theorem dX1_placeOf_60 : decode cX1_placeOf 60 = .ok (.imul, 1) := by decide +kernel
theorem dX1_placeOf_61 : decode cX1_placeOf 61 = .ok (.bipush 6, 2) := by decide +kernel
theorem dX1_placeOf_63 : decode cX1_placeOf 63 = .ok (.iload_n 2, 1) := by decide +kernel
theorem dX1_placeOf_64 : decode cX1_placeOf 64 = .ok (.imul, 1) := by decide +kernel
theorem dX1_placeOf_65 : decode cX1_placeOf 65 = .ok (.iadd, 1) := by decide +kernel
theorem dX1_placeOf_66 : decode cX1_placeOf 66 = .ok (.iload_n 3, 1) := by decide +kernel
theorem dX1_placeOf_67 : decode cX1_placeOf 67 = .ok (.iadd, 1) := by decide +kernel
theorem dX1_placeOf_68 : decode cX1_placeOf 68 = .ok (.goto 4, 3) := by decide +kernel
theorem dX1_placeOf_71 : decode cX1_placeOf 71 = .ok (.iconst (-1), 1) := by decide +kernel
theorem dX1_placeOf_72 : decode cX1_placeOf 72 = .ok (.ireturn, 1) := by decide +kernel
set_option maxRecDepth 20000 in
theorem ggX1_number_X1_placeOf : GoodIn wsX1_number wsX1_placeOf := goodIn_r _ [6, 7, 8, 9, 10, 11, 5, 12, 13, 14, 15, 16, 17, 18, 19, 20, 21, 22, 23, 24, 25, 26, 27, 28, 29] (by decide +kernel) (by decide +kernel)
set_option maxRecDepth 20000 in
theorem gX1_number_X1_placeOf : GoodIn wsX1_number (wsV RX1 73 RX1 yX1_placeOf wsX1_placeOf) := goodIn_app (goodIn_of _ (by decide +kernel)) ggX1_number_X1_placeOf
theorem dX1_number_0 : decode cX1_number 0 = .ok (.aload_n 0, 1) := by decide +kernel
theorem dX1_number_1 : decode cX1_number 1 = .ok (.iload_n 1, 1) := by decide +kernel
theorem dX1_number_2 : decode cX1_number 2 = .ok (.iload_n 2, 1) := by decide +kernel
theorem dX1_number_3 : decode cX1_number 3 = .ok (.iload_n 3, 1) := by decide +kernel
theorem dX1_number_4 : decode cX1_number 4 = .ok (.invokevirtual 73, 3) := by decide +kernel
theorem dX1_number_7 : decode cX1_number 7 = .ok (.istore 4, 2) := by decide +kernel
theorem dX1_number_9 : decode cX1_number 9 = .ok (.iload 4, 2) := by decide +kernel
theorem dX1_number_11 : decode cX1_number 11 = .ok (.ifCond .ge 7, 3) := by decide +kernel
theorem dX1_number_14 : decode cX1_number 14 = .ok (.iconst (-1), 1) := by decide +kernel
theorem dX1_number_15 : decode cX1_number 15 = .ok (.goto 10, 3) := by decide +kernel
theorem dX1_number_18 : decode cX1_number 18 = .ok (.aload_n 0, 1) := by decide +kernel
theorem dX1_number_19 : decode cX1_number 19 = .ok (.getfield 13, 3) := by decide +kernel
theorem dX1_number_22 : decode cX1_number 22 = .ok (.iload 4, 2) := by decide +kernel
theorem dX1_number_24 : decode cX1_number 24 = .ok (.iaload, 1) := by decide +kernel
theorem dX1_number_25 : decode cX1_number 25 = .ok (.ireturn, 1) := by decide +kernel
set_option maxRecDepth 20000 in
theorem ggX1_begin_X1_placeOf : GoodIn wsX1_begin wsX1_placeOf := goodIn_r _ [7, 8, 9, 10, 11, 12, 6, 13, 14, 15, 16, 17, 18, 19, 20, 21, 22, 23, 24, 25, 26, 27, 28, 29, 30] (by decide +kernel) (by decide +kernel)
set_option maxRecDepth 20000 in
theorem gX1_begin_X1_placeOf : GoodIn wsX1_begin (wsV RX1 73 RX1 yX1_placeOf wsX1_placeOf) := goodIn_app (goodIn_of _ (by decide +kernel)) ggX1_begin_X1_placeOf
set_option maxRecDepth 20000 in
theorem ggX1_begin_X1_in : GoodIn wsX1_begin wsX1_in := goodIn_r _ [17] (by decide +kernel) (by decide +kernel)
set_option maxRecDepth 20000 in
theorem gX1_begin_X1_in : GoodIn wsX1_begin (va_wsS RX1 46 yX1_in wsX1_in) := goodIn_app (goodIn_of _ (by decide +kernel)) ggX1_begin_X1_in
theorem dX1_begin_0 : decode cX1_begin 0 = .ok (.aload_n 0, 1) := by decide +kernel
theorem dX1_begin_1 : decode cX1_begin 1 = .ok (.iload_n 1, 1) := by decide +kernel
theorem dX1_begin_2 : decode cX1_begin 2 = .ok (.iload_n 2, 1) := by decide +kernel
theorem dX1_begin_3 : decode cX1_begin 3 = .ok (.iload_n 3, 1) := by decide +kernel
theorem dX1_begin_4 : decode cX1_begin 4 = .ok (.invokevirtual 73, 3) := by decide +kernel
theorem dX1_begin_7 : decode cX1_begin 7 = .ok (.istore 5, 2) := by decide +kernel
theorem dX1_begin_9 : decode cX1_begin 9 = .ok (.iload 5, 2) := by decide +kernel
theorem dX1_begin_11 : decode cX1_begin 11 = .ok (.ifCond .lt 14, 3) := by decide +kernel
theorem dX1_begin_14 : decode cX1_begin 14 = .ok (.iload 4, 2) := by decide +kernel
theorem dX1_begin_16 : decode cX1_begin 16 = .ok (.iconst 0, 1) := by decide +kernel
theorem dX1_begin_17 : decode cX1_begin 17 = .ok (.bipush 20, 2) := by decide +kernel
theorem dX1_begin_19 : decode cX1_begin 19 = .ok (.invokestatic 46, 3) := by decide +kernel
theorem dX1_begin_22 : decode cX1_begin 22 = .ok (.ifCond .ne 5, 3) := by decide +kernel
theorem dX1_begin_25 : decode cX1_begin 25 = .ok (.iconst (-1), 1) := by decide +kernel
theorem dX1_begin_26 : decode cX1_begin 26 = .ok (.ireturn, 1) := by decide +kernel
theorem dX1_begin_27 : decode cX1_begin 27 = .ok (.aload_n 0, 1) := by decide +kernel
theorem dX1_begin_28 : decode cX1_begin 28 = .ok (.getfield 16, 3) := by decide +kernel
theorem dX1_begin_31 : decode cX1_begin 31 = .ok (.iload 5, 2) := by decide +kernel
theorem dX1_begin_33 : decode cX1_begin 33 = .ok (.baload, 1) := by decide +kernel
theorem dX1_begin_34 : decode cX1_begin 34 = .ok (.ifCond .eq 6, 3) := by decide +kernel
theorem dX1_begin_37 : decode cX1_begin 37 = .ok (.bipush (-2), 2) := by decide +kernel
theorem dX1_begin_39 : decode cX1_begin 39 = .ok (.ireturn, 1) := by decide +kernel
theorem dX1_begin_40 : decode cX1_begin 40 = .ok (.aload_n 0, 1) := by decide +kernel
theorem dX1_begin_41 : decode cX1_begin 41 = .ok (.getfield 13, 3) := by decide +kernel
theorem dX1_begin_44 : decode cX1_begin 44 = .ok (.iload 5, 2) := by decide +kernel
theorem dX1_begin_46 : decode cX1_begin 46 = .ok (.iaload, 1) := by decide +kernel
theorem dX1_begin_47 : decode cX1_begin 47 = .ok (.istore 6, 2) := by decide +kernel
theorem dX1_begin_49 : decode cX1_begin 49 = .ok (.aload_n 0, 1) := by decide +kernel
theorem dX1_begin_50 : decode cX1_begin 50 = .ok (.getfield 13, 3) := by decide +kernel
theorem dX1_begin_53 : decode cX1_begin 53 = .ok (.iload 5, 2) := by decide +kernel
theorem dX1_begin_55 : decode cX1_begin 55 = .ok (.iload 4, 2) := by decide +kernel
theorem dX1_begin_57 : decode cX1_begin 57 = .ok (.iastore, 1) := by decide +kernel
theorem dX1_begin_58 : decode cX1_begin 58 = .ok (.iload 6, 2) := by decide +kernel
theorem dX1_begin_60 : decode cX1_begin 60 = .ok (.ireturn, 1) := by decide +kernel
set_option maxRecDepth 20000 in
theorem ggX1_bar_X1_placeOf : GoodIn wsX1_bar wsX1_placeOf := goodIn_r _ [7, 8, 9, 10, 11, 12, 6, 13, 14, 15, 16, 17, 18, 19, 20, 21, 22, 23, 24, 25, 26, 27, 28, 29, 30] (by decide +kernel) (by decide +kernel)
set_option maxRecDepth 20000 in
theorem gX1_bar_X1_placeOf : GoodIn wsX1_bar (wsV RX1 73 RX1 yX1_placeOf wsX1_placeOf) := goodIn_app (goodIn_of _ (by decide +kernel)) ggX1_bar_X1_placeOf
theorem dX1_bar_0 : decode cX1_bar 0 = .ok (.aload_n 0, 1) := by decide +kernel
theorem dX1_bar_1 : decode cX1_bar 1 = .ok (.iload_n 1, 1) := by decide +kernel
theorem dX1_bar_2 : decode cX1_bar 2 = .ok (.iload_n 2, 1) := by decide +kernel
theorem dX1_bar_3 : decode cX1_bar 3 = .ok (.iload_n 3, 1) := by decide +kernel
theorem dX1_bar_4 : decode cX1_bar 4 = .ok (.invokevirtual 73, 3) := by decide +kernel
theorem dX1_bar_7 : decode cX1_bar 7 = .ok (.istore 4, 2) := by decide +kernel
theorem dX1_bar_9 : decode cX1_bar 9 = .ok (.iload 4, 2) := by decide +kernel
theorem dX1_bar_11 : decode cX1_bar 11 = .ok (.ifCond .ge 5, 3) := by decide +kernel
theorem dX1_bar_14 : decode cX1_bar 14 = .ok (.iconst (-1), 1) := by decide +kernel
theorem dX1_bar_15 : decode cX1_bar 15 = .ok (.ireturn, 1) := by decide +kernel
theorem dX1_bar_16 : decode cX1_bar 16 = .ok (.aload_n 0, 1) := by decide +kernel
theorem dX1_bar_17 : decode cX1_bar 17 = .ok (.getfield 16, 3) := by decide +kernel
theorem dX1_bar_20 : decode cX1_bar 20 = .ok (.iload 4, 2) := by decide +kernel
theorem dX1_bar_22 : decode cX1_bar 22 = .ok (.baload, 1) := by decide +kernel
theorem dX1_bar_23 : decode cX1_bar 23 = .ok (.ifCond .eq 6, 3) := by decide +kernel
theorem dX1_bar_26 : decode cX1_bar 26 = .ok (.bipush (-2), 2) := by decide +kernel
theorem dX1_bar_28 : decode cX1_bar 28 = .ok (.ireturn, 1) := by decide +kernel
theorem dX1_bar_29 : decode cX1_bar 29 = .ok (.aload_n 0, 1) := by decide +kernel
theorem dX1_bar_30 : decode cX1_bar 30 = .ok (.getfield 13, 3) := by decide +kernel
theorem dX1_bar_33 : decode cX1_bar 33 = .ok (.iload 4, 2) := by decide +kernel
theorem dX1_bar_35 : decode cX1_bar 35 = .ok (.iaload, 1) := by decide +kernel
theorem dX1_bar_36 : decode cX1_bar 36 = .ok (.istore 5, 2) := by decide +kernel
theorem dX1_bar_38 : decode cX1_bar 38 = .ok (.aload_n 0, 1) := by decide +kernel
theorem dX1_bar_39 : decode cX1_bar 39 = .ok (.getfield 13, 3) := by decide +kernel
theorem dX1_bar_42 : decode cX1_bar 42 = .ok (.iload 4, 2) := by decide +kernel
theorem dX1_bar_44 : decode cX1_bar 44 = .ok (.iconst 0, 1) := by decide +kernel
theorem dX1_bar_45 : decode cX1_bar 45 = .ok (.iastore, 1) := by decide +kernel
theorem dX1_bar_46 : decode cX1_bar 46 = .ok (.aload_n 0, 1) := by decide +kernel
theorem dX1_bar_47 : decode cX1_bar 47 = .ok (.getfield 16, 3) := by decide +kernel
theorem dX1_bar_50 : decode cX1_bar 50 = .ok (.iload 4, 2) := by decide +kernel
theorem dX1_bar_52 : decode cX1_bar 52 = .ok (.iconst 1, 1) := by decide +kernel
theorem dX1_bar_53 : decode cX1_bar 53 = .ok (.bastore, 1) := by decide +kernel
theorem dX1_bar_54 : decode cX1_bar 54 = .ok (.iload 5, 2) := by decide +kernel
theorem dX1_bar_56 : decode cX1_bar 56 = .ok (.ireturn, 1) := by decide +kernel
set_option maxRecDepth 20000 in
theorem ggX1_judge_X1_in : GoodIn wsX1_judge wsX1_in := goodIn_r _ [5] (by decide +kernel) (by decide +kernel)
set_option maxRecDepth 20000 in
theorem gX1_judge_X1_in : GoodIn wsX1_judge (va_wsS RX1 46 yX1_in wsX1_in) := goodIn_app (goodIn_of _ (by decide +kernel)) ggX1_judge_X1_in
theorem dX1_judge_0 : decode cX1_judge 0 = .ok (.iload_n 1, 1) := by decide +kernel
theorem dX1_judge_1 : decode cX1_judge 1 = .ok (.iconst 0, 1) := by decide +kernel
theorem dX1_judge_2 : decode cX1_judge 2 = .ok (.iconst 2, 1) := by decide +kernel
theorem dX1_judge_3 : decode cX1_judge 3 = .ok (.invokestatic 46, 3) := by decide +kernel
theorem dX1_judge_6 : decode cX1_judge 6 = .ok (.ifCond .ne 5, 3) := by decide +kernel
theorem dX1_judge_9 : decode cX1_judge 9 = .ok (.iconst (-1), 1) := by decide +kernel
theorem dX1_judge_10 : decode cX1_judge 10 = .ok (.ireturn, 1) := by decide +kernel
theorem dX1_judge_11 : decode cX1_judge 11 = .ok (.aload_n 0, 1) := by decide +kernel
theorem dX1_judge_12 : decode cX1_judge 12 = .ok (.getfield 76, 3) := by decide +kernel
theorem dX1_judge_15 : decode cX1_judge 15 = .ok (.istore_n 2, 1) := by decide +kernel
theorem dX1_judge_16 : decode cX1_judge 16 = .ok (.aload_n 0, 1) := by decide +kernel
theorem dX1_judge_17 : decode cX1_judge 17 = .ok (.iload_n 1, 1) := by decide +kernel
theorem dX1_judge_18 : decode cX1_judge 18 = .ok (.putfield 76, 3) := by decide +kernel
theorem dX1_judge_21 : decode cX1_judge 21 = .ok (.iload_n 2, 1) := by decide +kernel
theorem dX1_judge_22 : decode cX1_judge 22 = .ok (.ireturn, 1) := by decide +kernel
theorem dX1_costOf_0 : decode cX1_costOf 0 = .ok (.iload_n 1, 1) := by decide +kernel
theorem dX1_costOf_1 : decode cX1_costOf 1 = .ok (.iload_n 1, 1) := by decide +kernel
theorem dX1_costOf_2 : decode cX1_costOf 2 = .ok (.imul, 1) := by decide +kernel
theorem dX1_costOf_3 : decode cX1_costOf 3 = .ok (.istore_n 2, 1) := by decide +kernel
theorem dX1_costOf_4 : decode cX1_costOf 4 = .ok (.iload_n 0, 1) := by decide +kernel
theorem dX1_costOf_5 : decode cX1_costOf 5 = .ok (.ifCond .ne 7, 3) := by decide +kernel
theorem dX1_costOf_8 : decode cX1_costOf 8 = .ok (.iload_n 1, 1) := by decide +kernel
theorem dX1_costOf_9 : decode cX1_costOf 9 = .ok (.goto 25, 3) := by decide +kernel
theorem dX1_costOf_12 : decode cX1_costOf 12 = .ok (.iload_n 0, 1) := by decide +kernel
theorem dX1_costOf_13 : decode cX1_costOf 13 = .ok (.iconst 1, 1) := by decide +kernel
theorem dX1_costOf_14 : decode cX1_costOf 14 = .ok (.if_icmp .eq 9, 3) := by decide +kernel
theorem dX1_costOf_17 : decode cX1_costOf 17 = .ok (.iload_n 2, 1) := by decide +kernel
theorem dX1_costOf_18 : decode cX1_costOf 18 = .ok (.bipush 100, 2) := by decide +kernel
theorem dX1_costOf_20 : decode cX1_costOf 20 = .ok (.if_icmp .gt 7, 3) := by decide +kernel
theorem dX1_costOf_23 : decode cX1_costOf 23 = .ok (.iload_n 2, 1) := by decide +kernel
theorem dX1_costOf_24 : decode cX1_costOf 24 = .ok (.goto 10, 3) := by decide +kernel
theorem dX1_costOf_27 : decode cX1_costOf 27 = .ok (.bipush 90, 2) := by decide +kernel
theorem dX1_costOf_29 : decode cX1_costOf 29 = .ok (.iload_n 2, 1) := by decide +kernel
theorem dX1_costOf_30 : decode cX1_costOf 30 = .ok (.bipush 10, 2) := by decide +kernel
theorem dX1_costOf_32 : decode cX1_costOf 32 = .ok (.idiv, 1) := by decide +kernel
theorem dX1_costOf_33 : decode cX1_costOf 33 = .ok (.iadd, 1) := by decide +kernel
theorem dX1_costOf_34 : decode cX1_costOf 34 = .ok (.ireturn, 1) := by decide +kernel
set_option maxRecDepth 20000 in
theorem ggX1_cost_X1_in : GoodIn wsX1_cost wsX1_in := goodIn_r _ [7] (by decide +kernel) (by decide +kernel)
set_option maxRecDepth 20000 in
theorem gX1_cost_X1_in : GoodIn wsX1_cost (va_wsS RX1 46 yX1_in wsX1_in) := goodIn_app (goodIn_of _ (by decide +kernel)) ggX1_cost_X1_in
set_option maxRecDepth 20000 in
theorem ggX1_cost_X1_costOf : GoodIn wsX1_cost wsX1_costOf := goodIn_r _ [10] (by decide +kernel) (by decide +kernel)
set_option maxRecDepth 20000 in
theorem gX1_cost_X1_costOf : GoodIn wsX1_cost (va_wsS RX1 87 yX1_costOf wsX1_costOf) := goodIn_app (goodIn_of _ (by decide +kernel)) ggX1_cost_X1_costOf
theorem dX1_cost_0 : decode cX1_cost 0 = .ok (.iload_n 1, 1) := by decide +kernel
theorem dX1_cost_1 : decode cX1_cost 1 = .ok (.iconst 0, 1) := by decide +kernel
theorem dX1_cost_2 : decode cX1_cost 2 = .ok (.iconst 2, 1) := by decide +kernel
theorem dX1_cost_3 : decode cX1_cost 3 = .ok (.invokestatic 46, 3) := by decide +kernel
theorem dX1_cost_6 : decode cX1_cost 6 = .ok (.ifCond .eq 14, 3) := by decide +kernel
theorem dX1_cost_9 : decode cX1_cost 9 = .ok (.iload_n 2, 1) := by decide +kernel
theorem dX1_cost_10 : decode cX1_cost 10 = .ok (.iconst 0, 1) := by decide +kernel
theorem dX1_cost_11 : decode cX1_cost 11 = .ok (.sipush 2000, 3) := by decide +kernel
theorem dX1_cost_14 : decode cX1_cost 14 = .ok (.invokestatic 46, 3) := by decide +kernel
theorem dX1_cost_17 : decode cX1_cost 17 = .ok (.ifCond .ne 5, 3) := by decide +kernel
theorem dX1_cost_20 : decode cX1_cost 20 = .ok (.iconst (-1), 1) := by decide +kernel
theorem dX1_cost_21 : decode cX1_cost 21 = .ok (.ireturn, 1) := by decide +kernel
theorem dX1_cost_22 : decode cX1_cost 22 = .ok (.aload_n 0, 1) := by decide +kernel
theorem dX1_cost_23 : decode cX1_cost 23 = .ok (.dup, 1) := by decide +kernel
theorem dX1_cost_24 : decode cX1_cost 24 = .ok (.getfield 79, 3) := by decide +kernel
theorem dX1_cost_27 : decode cX1_cost 27 = .ok (.iload_n 1, 1) := by decide +kernel
theorem dX1_cost_28 : decode cX1_cost 28 = .ok (.ifCond .ne 7, 3) := by decide +kernel
theorem dX1_cost_31 : decode cX1_cost 31 = .ok (.lconst 1, 1) := by decide +kernel
theorem dX1_cost_32 : decode cX1_cost 32 = .ok (.goto 17, 3) := by decide +kernel
theorem dX1_cost_35 : decode cX1_cost 35 = .ok (.iload_n 1, 1) := by decide +kernel
theorem dX1_cost_36 : decode cX1_cost 36 = .ok (.iconst 1, 1) := by decide +kernel
theorem dX1_cost_37 : decode cX1_cost 37 = .ok (.if_icmp .ne 9, 3) := by decide +kernel
theorem dX1_cost_40 : decode cX1_cost 40 = .ok (.ldc2_w 83, 3) := by decide +kernel
theorem dX1_cost_43 : decode cX1_cost 43 = .ok (.goto 6, 3) := by decide +kernel
theorem dX1_cost_46 : decode cX1_cost 46 = .ok (.ldc2_w 85, 3) := by decide +kernel
theorem dX1_cost_49 : decode cX1_cost 49 = .ok (.ladd, 1) := by decide +kernel
theorem dX1_cost_50 : decode cX1_cost 50 = .ok (.putfield 79, 3) := by decide +kernel
theorem dX1_cost_53 : decode cX1_cost 53 = .ok (.iload_n 1, 1) := by decide +kernel
theorem dX1_cost_54 : decode cX1_cost 54 = .ok (.iload_n 2, 1) := by decide +kernel
theorem dX1_cost_55 : decode cX1_cost 55 = .ok (.invokestatic 87, 3) := by decide +kernel
theorem dX1_cost_58 : decode cX1_cost 58 = .ok (.ireturn, 1) := by decide +kernel
theorem dX1_size_0 : decode cX1_size 0 = .ok (.iload_n 0, 1) := by decide +kernel
theorem dX1_size_1 : decode cX1_size 1 = .ok (.ifCond .ge 8, 3) := by decide +kernel
theorem dX1_size_4 : decode cX1_size 4 = .ok (.iload_n 0, 1) := by decide +kernel
theorem dX1_size_5 : decode cX1_size 5 = .ok (.ineg, 1) := by decide +kernel
theorem dX1_size_6 : decode cX1_size 6 = .ok (.goto 4, 3) := by decide +kernel
theorem dX1_size_9 : decode cX1_size 9 = .ok (.iload_n 0, 1) := by decide +kernel
theorem dX1_size_10 : decode cX1_size 10 = .ok (.ireturn, 1) := by decide +kernel
set_option maxRecDepth 20000 in
theorem ggX1_missNow_X1_sumAt : GoodIn wsX1_missNow wsX1_sumAt := goodIn_r _ [9, 10, 11, 12, 13, 8, 14, 15, 22, 23, 24, 25, 26, 27, 28, 29, 30, 31, 32, 33, 34] (by decide +kernel) (by decide +kernel)
set_option maxRecDepth 20000 in
theorem gX1_missNow_X1_sumAt : GoodIn wsX1_missNow (wsV RX1 58 RX1 yX1_sumAt wsX1_sumAt) := goodIn_app (goodIn_of _ (by decide +kernel)) ggX1_missNow_X1_sumAt
set_option maxRecDepth 20000 in
theorem ggX1_missNow_X1_size : GoodIn wsX1_missNow wsX1_size := goodIn_r _ [18] (by decide +kernel) (by decide +kernel)
set_option maxRecDepth 20000 in
theorem gX1_missNow_X1_size : GoodIn wsX1_missNow (va_wsS RX1 90 yX1_size wsX1_size) := goodIn_app (goodIn_of _ (by decide +kernel)) ggX1_missNow_X1_size
set_option maxRecDepth 20000 in
theorem ggX1_missNow_X1_costOf : GoodIn wsX1_missNow wsX1_costOf := goodIn_r _ [21] (by decide +kernel) (by decide +kernel)
set_option maxRecDepth 20000 in
theorem gX1_missNow_X1_costOf : GoodIn wsX1_missNow (va_wsS RX1 87 yX1_costOf wsX1_costOf) := goodIn_app (goodIn_of _ (by decide +kernel)) ggX1_missNow_X1_costOf
theorem dX1_missNow_0 : decode cX1_missNow 0 = .ok (.iconst 0, 1) := by decide +kernel
theorem dX1_missNow_1 : decode cX1_missNow 1 = .ok (.istore_n 1, 1) := by decide +kernel
theorem dX1_missNow_2 : decode cX1_missNow 2 = .ok (.iconst 0, 1) := by decide +kernel
theorem dX1_missNow_3 : decode cX1_missNow 3 = .ok (.istore_n 2, 1) := by decide +kernel
theorem dX1_missNow_4 : decode cX1_missNow 4 = .ok (.iload_n 2, 1) := by decide +kernel
theorem dX1_missNow_5 : decode cX1_missNow 5 = .ok (.aload_n 0, 1) := by decide +kernel
theorem dX1_missNow_6 : decode cX1_missNow 6 = .ok (.getfield 36, 3) := by decide +kernel
theorem dX1_missNow_9 : decode cX1_missNow 9 = .ok (.if_icmp .ge 56, 3) := by decide +kernel
theorem dX1_missNow_12 : decode cX1_missNow 12 = .ok (.iconst 0, 1) := by decide +kernel
theorem dX1_missNow_13 : decode cX1_missNow 13 = .ok (.istore_n 3, 1) := by decide +kernel
theorem dX1_missNow_14 : decode cX1_missNow 14 = .ok (.iload_n 3, 1) := by decide +kernel
theorem dX1_missNow_15 : decode cX1_missNow 15 = .ok (.aload_n 0, 1) := by decide +kernel
theorem dX1_missNow_16 : decode cX1_missNow 16 = .ok (.getfield 40, 3) := by decide +kernel
theorem dX1_missNow_19 : decode cX1_missNow 19 = .ok (.if_icmp .ge 40, 3) := by decide +kernel
theorem dX1_missNow_22 : decode cX1_missNow 22 = .ok (.iload_n 1, 1) := by decide +kernel
theorem dX1_missNow_23 : decode cX1_missNow 23 = .ok (.aload_n 0, 1) := by decide +kernel
theorem dX1_missNow_24 : decode cX1_missNow 24 = .ok (.getfield 76, 3) := by decide +kernel
theorem dX1_missNow_27 : decode cX1_missNow 27 = .ok (.aload_n 0, 1) := by decide +kernel
theorem dX1_missNow_28 : decode cX1_missNow 28 = .ok (.getfield 7, 3) := by decide +kernel
theorem dX1_missNow_31 : decode cX1_missNow 31 = .ok (.bipush 8, 2) := by decide +kernel
theorem dX1_missNow_33 : decode cX1_missNow 33 = .ok (.iload_n 2, 1) := by decide +kernel
theorem dX1_missNow_34 : decode cX1_missNow 34 = .ok (.imul, 1) := by decide +kernel
theorem dX1_missNow_35 : decode cX1_missNow 35 = .ok (.iload_n 3, 1) := by decide +kernel
theorem dX1_missNow_36 : decode cX1_missNow 36 = .ok (.iadd, 1) := by decide +kernel
theorem dX1_missNow_37 : decode cX1_missNow 37 = .ok (.iaload, 1) := by decide +kernel
theorem dX1_missNow_38 : decode cX1_missNow 38 = .ok (.aload_n 0, 1) := by decide +kernel
theorem dX1_missNow_39 : decode cX1_missNow 39 = .ok (.iload_n 2, 1) := by decide +kernel
theorem dX1_missNow_40 : decode cX1_missNow 40 = .ok (.iload_n 3, 1) := by decide +kernel
theorem dX1_missNow_41 : decode cX1_missNow 41 = .ok (.invokevirtual 58, 3) := by decide +kernel
theorem dX1_missNow_44 : decode cX1_missNow 44 = .ok (.isub, 1) := by decide +kernel
theorem dX1_missNow_45 : decode cX1_missNow 45 = .ok (.invokestatic 90, 3) := by decide +kernel
theorem dX1_missNow_48 : decode cX1_missNow 48 = .ok (.invokestatic 87, 3) := by decide +kernel
theorem dX1_missNow_51 : decode cX1_missNow 51 = .ok (.iadd, 1) := by decide +kernel
theorem dX1_missNow_52 : decode cX1_missNow 52 = .ok (.istore_n 1, 1) := by decide +kernel
theorem dX1_missNow_53 : decode cX1_missNow 53 = .ok (.iinc 3 1, 3) := by decide +kernel
theorem dX1_missNow_56 : decode cX1_missNow 56 = .ok (.goto (-42), 3) := by decide +kernel
theorem dX1_missNow_59 : decode cX1_missNow 59 = .ok (.iinc 2 1, 3) := by decide +kernel
theorem dX1_missNow_62 : decode cX1_missNow 62 = .ok (.goto (-58), 3) := by decide +kernel
theorem dX1_missNow_65 : decode cX1_missNow 65 = .ok (.iload_n 1, 1) := by decide +kernel
theorem dX1_missNow_66 : decode cX1_missNow 66 = .ok (.ireturn, 1) := by decide +kernel
set_option maxRecDepth 20000 in
theorem ggX1_miss_X1_missNow : GoodIn wsX1_miss wsX1_missNow := goodIn_r _ [5, 6, 7, 8, 9, 10, 11, 12, 4, 13, 14, 15, 16, 17, 18, 19, 20, 21, 22, 23, 24, 25, 26, 27, 28, 29, 30, 31, 32, 33, 34, 35, 36, 37, 38] (by decide +kernel) (by decide +kernel)
set_option maxRecDepth 20000 in
theorem gX1_miss_X1_missNow : GoodIn wsX1_miss (wsV RX1 94 RX1 yX1_missNow wsX1_missNow) := goodIn_app (goodIn_of _ (by decide +kernel)) ggX1_miss_X1_missNow
theorem dX1_miss_0 : decode cX1_miss 0 = .ok (.aload_n 0, 1) := by decide +kernel
theorem dX1_miss_1 : decode cX1_miss 1 = .ok (.invokevirtual 94, 3) := by decide +kernel
theorem dX1_miss_4 : decode cX1_miss 4 = .ok (.ireturn, 1) := by decide +kernel
set_option maxRecDepth 20000 in
theorem ggX1_better_X1_missNow : GoodIn wsX1_better wsX1_missNow := goodIn_r _ [7, 8, 9, 10, 11, 12, 13, 14, 6, 15, 16, 17, 18, 19, 20, 2, 21, 22, 23, 24, 25, 26, 30, 31, 32, 33, 34, 35, 36, 37, 38, 39, 40, 41, 42] (by decide +kernel) (by decide +kernel)
set_option maxRecDepth 20000 in
theorem gX1_better_X1_missNow : GoodIn wsX1_better (wsV RX1 94 RX1 yX1_missNow wsX1_missNow) := goodIn_app (goodIn_of _ (by decide +kernel)) ggX1_better_X1_missNow
set_option maxRecDepth 20000 in
theorem ggX1_better_X1_in : GoodIn wsX1_better wsX1_in := goodIn_r _ [29] (by decide +kernel) (by decide +kernel)
set_option maxRecDepth 20000 in
theorem gX1_better_X1_in : GoodIn wsX1_better (va_wsS RX1 46 yX1_in wsX1_in) := goodIn_app (goodIn_of _ (by decide +kernel)) ggX1_better_X1_in
theorem dX1_better_0 : decode cX1_better 0 = .ok (.aload_n 0, 1) := by decide +kernel
theorem dX1_better_1 : decode cX1_better 1 = .ok (.getfield 16, 3) := by decide +kernel
theorem dX1_better_4 : decode cX1_better 4 = .ok (.iload_n 1, 1) := by decide +kernel
theorem dX1_better_5 : decode cX1_better 5 = .ok (.baload, 1) := by decide +kernel
theorem dX1_better_6 : decode cX1_better 6 = .ok (.ifCond .eq 4, 3) := by decide +kernel
theorem dX1_better_9 : decode cX1_better 9 = .ok (.return_, 1) := by decide +kernel
theorem dX1_better_10 : decode cX1_better 10 = .ok (.aload_n 0, 1) := by decide +kernel
theorem dX1_better_11 : decode cX1_better 11 = .ok (.getfield 13, 3) := by decide +kernel
theorem dX1_better_14 : decode cX1_better 14 = .ok (.iload_n 1, 1) := by decide +kernel
theorem dX1_better_15 : decode cX1_better 15 = .ok (.iaload, 1) := by decide +kernel
theorem dX1_better_16 : decode cX1_better 16 = .ok (.istore_n 2, 1) := by decide +kernel
theorem dX1_better_17 : decode cX1_better 17 = .ok (.iload_n 2, 1) := by decide +kernel
theorem dX1_better_18 : decode cX1_better 18 = .ok (.istore_n 3, 1) := by decide +kernel
theorem dX1_better_19 : decode cX1_better 19 = .ok (.aload_n 0, 1) := by decide +kernel
theorem dX1_better_20 : decode cX1_better 20 = .ok (.invokevirtual 94, 3) := by decide +kernel
theorem dX1_better_23 : decode cX1_better 23 = .ok (.istore 4, 2) := by decide +kernel
theorem dX1_better_25 : decode cX1_better 25 = .ok (.iload_n 2, 1) := by decide +kernel
theorem dX1_better_26 : decode cX1_better 26 = .ok (.iconst 1, 1) := by decide +kernel
theorem dX1_better_27 : decode cX1_better 27 = .ok (.isub, 1) := by decide +kernel
theorem dX1_better_28 : decode cX1_better 28 = .ok (.istore 5, 2) := by decide +kernel
theorem dX1_better_30 : decode cX1_better 30 = .ok (.iload 5, 2) := by decide +kernel
theorem dX1_better_32 : decode cX1_better 32 = .ok (.iload_n 2, 1) := by decide +kernel
theorem dX1_better_33 : decode cX1_better 33 = .ok (.iconst 1, 1) := by decide +kernel
theorem dX1_better_34 : decode cX1_better 34 = .ok (.iadd, 1) := by decide +kernel
theorem dX1_better_35 : decode cX1_better 35 = .ok (.if_icmp .gt 64, 3) := by decide +kernel
theorem dX1_better_38 : decode cX1_better 38 = .ok (.iload 5, 2) := by decide +kernel
theorem dX1_better_40 : decode cX1_better 40 = .ok (.iconst 0, 1) := by decide +kernel
theorem dX1_better_41 : decode cX1_better 41 = .ok (.bipush 20, 2) := by decide +kernel
theorem dX1_better_43 : decode cX1_better 43 = .ok (.invokestatic 46, 3) := by decide +kernel
theorem dX1_better_46 : decode cX1_better 46 = .ok (.ifCond .eq 47, 3) := by decide +kernel
theorem dX1_better_49 : decode cX1_better 49 = .ok (.aload_n 0, 1) := by decide +kernel
theorem dX1_better_50 : decode cX1_better 50 = .ok (.getfield 13, 3) := by decide +kernel
theorem dX1_better_53 : decode cX1_better 53 = .ok (.iload_n 1, 1) := by decide +kernel
theorem dX1_better_54 : decode cX1_better 54 = .ok (.iload 5, 2) := by decide +kernel
theorem dX1_better_56 : decode cX1_better 56 = .ok (.iastore, 1) := by decide +kernel
theorem dX1_better_57 : decode cX1_better 57 = .ok (.aload_n 0, 1) := by decide +kernel
theorem dX1_better_58 : decode cX1_better 58 = .ok (.invokevirtual 94, 3) := by decide +kernel
theorem dX1_better_61 : decode cX1_better 61 = .ok (.istore 6, 2) := by decide +kernel
theorem dX1_better_63 : decode cX1_better 63 = .ok (.iload 6, 2) := by decide +kernel
theorem dX1_better_65 : decode cX1_better 65 = .ok (.iload 4, 2) := by decide +kernel
theorem dX1_better_67 : decode cX1_better 67 = .ok (.if_icmp .ge 8, 3) := by decide +kernel
theorem dX1_better_70 : decode cX1_better 70 = .ok (.iload 5, 2) := by decide +kernel
theorem dX1_better_72 : decode cX1_better 72 = .ok (.goto 4, 3) := by decide +kernel
theorem dX1_better_75 : decode cX1_better 75 = .ok (.iload_n 3, 1) := by decide +kernel
theorem dX1_better_76 : decode cX1_better 76 = .ok (.istore_n 3, 1) := by decide +kernel
theorem dX1_better_77 : decode cX1_better 77 = .ok (.iload 6, 2) := by decide +kernel
theorem dX1_better_79 : decode cX1_better 79 = .ok (.iload 4, 2) := by decide +kernel
theorem dX1_better_81 : decode cX1_better 81 = .ok (.if_icmp .ge 8, 3) := by decide +kernel
theorem dX1_better_84 : decode cX1_better 84 = .ok (.iload 6, 2) := by decide +kernel
theorem dX1_better_86 : decode cX1_better 86 = .ok (.goto 5, 3) := by decide +kernel
theorem dX1_better_89 : decode cX1_better 89 = .ok (.iload 4, 2) := by decide +kernel
theorem dX1_better_91 : decode cX1_better 91 = .ok (.istore 4, 2) := by decide +kernel
theorem dX1_better_93 : decode cX1_better 93 = .ok (.iinc 5 2, 3) := by decide +kernel
theorem dX1_better_96 : decode cX1_better 96 = .ok (.goto (-66), 3) := by decide +kernel
theorem dX1_better_99 : decode cX1_better 99 = .ok (.aload_n 0, 1) := by decide +kernel
theorem dX1_better_100 : decode cX1_better 100 = .ok (.getfield 13, 3) := by decide +kernel
theorem dX1_better_103 : decode cX1_better 103 = .ok (.iload_n 1, 1) := by decide +kernel
theorem dX1_better_104 : decode cX1_better 104 = .ok (.iload_n 3, 1) := by decide +kernel
theorem dX1_better_105 : decode cX1_better 105 = .ok (.iastore, 1) := by decide +kernel
theorem dX1_better_106 : decode cX1_better 106 = .ok (.return_, 1) := by decide +kernel
set_option maxRecDepth 20000 in
theorem ggX1_rounds_X1_in : GoodIn wsX1_rounds wsX1_in := goodIn_r _ [8] (by decide +kernel) (by decide +kernel)
set_option maxRecDepth 20000 in
theorem gX1_rounds_X1_in : GoodIn wsX1_rounds (va_wsS RX1 46 yX1_in wsX1_in) := goodIn_app (goodIn_of _ (by decide +kernel)) ggX1_rounds_X1_in
set_option maxRecDepth 20000 in
theorem ggX1_rounds_X1_better : GoodIn wsX1_rounds wsX1_better := goodIn_r _ [12, 13, 14, 15, 16, 17, 7, 18, 2, 3, 19, 20, 21, 22, 23, 24, 1, 25, 26, 27, 28, 29, 30, 31, 32, 33, 34, 5, 6, 8, 35, 36, 37, 38, 39, 40, 41, 42, 43, 44, 45, 46, 47] (by decide +kernel) (by decide +kernel)
set_option maxRecDepth 20000 in
theorem gX1_rounds_X1_better : GoodIn wsX1_rounds (wsV RX1 97 RX1 yX1_better wsX1_better) := goodIn_app (goodIn_of _ (by decide +kernel)) ggX1_rounds_X1_better
set_option maxRecDepth 20000 in
theorem ggX1_rounds_X1_missNow : GoodIn wsX1_rounds wsX1_missNow := goodIn_r _ [18, 2, 3, 19, 20, 21, 22, 23, 7, 24, 1, 25, 26, 27, 28, 14, 29, 30, 31, 32, 33, 34, 35, 36, 37, 38, 39, 40, 41, 42, 43, 44, 45, 46, 47] (by decide +kernel) (by decide +kernel)
set_option maxRecDepth 20000 in
theorem gX1_rounds_X1_missNow : GoodIn wsX1_rounds (wsV RX1 94 RX1 yX1_missNow wsX1_missNow) := goodIn_app (goodIn_of _ (by decide +kernel)) ggX1_rounds_X1_missNow
theorem dX1_rounds_0 : decode cX1_rounds 0 = .ok (.iload_n 1, 1) := by decide +kernel
theorem dX1_rounds_1 : decode cX1_rounds 1 = .ok (.iconst 1, 1) := by decide +kernel
theorem dX1_rounds_2 : decode cX1_rounds 2 = .ok (.bipush 10, 2) := by decide +kernel
theorem dX1_rounds_4 : decode cX1_rounds 4 = .ok (.invokestatic 46, 3) := by decide +kernel
theorem dX1_rounds_7 : decode cX1_rounds 7 = .ok (.ifCond .ne 5, 3) := by decide +kernel
theorem dX1_rounds_10 : decode cX1_rounds 10 = .ok (.iconst (-1), 1) := by decide +kernel
theorem dX1_rounds_11 : decode cX1_rounds 11 = .ok (.ireturn, 1) := by decide +kernel
theorem dX1_rounds_12 : decode cX1_rounds 12 = .ok (.iconst 0, 1) := by decide +kernel
theorem dX1_rounds_13 : decode cX1_rounds 13 = .ok (.istore_n 2, 1) := by decide +kernel
theorem dX1_rounds_14 : decode cX1_rounds 14 = .ok (.iload_n 2, 1) := by decide +kernel
theorem dX1_rounds_15 : decode cX1_rounds 15 = .ok (.iload_n 1, 1) := by decide +kernel
theorem dX1_rounds_16 : decode cX1_rounds 16 = .ok (.if_icmp .ge 96, 3) := by decide +kernel
theorem dX1_rounds_19 : decode cX1_rounds 19 = .ok (.iconst 0, 1) := by decide +kernel
theorem dX1_rounds_20 : decode cX1_rounds 20 = .ok (.istore_n 3, 1) := by decide +kernel
theorem dX1_rounds_21 : decode cX1_rounds 21 = .ok (.iload_n 3, 1) := by decide +kernel
theorem dX1_rounds_22 : decode cX1_rounds 22 = .ok (.aload_n 0, 1) := by decide +kernel
theorem dX1_rounds_23 : decode cX1_rounds 23 = .ok (.getfield 43, 3) := by decide +kernel
theorem dX1_rounds_26 : decode cX1_rounds 26 = .ok (.if_icmp .ge 70, 3) := by decide +kernel
theorem dX1_rounds_29 : decode cX1_rounds 29 = .ok (.iconst 0, 1) := by decide +kernel
theorem dX1_rounds_30 : decode cX1_rounds 30 = .ok (.istore 4, 2) := by decide +kernel
theorem dX1_rounds_32 : decode cX1_rounds 32 = .ok (.iload 4, 2) := by decide +kernel
theorem dX1_rounds_34 : decode cX1_rounds 34 = .ok (.aload_n 0, 1) := by decide +kernel
theorem dX1_rounds_35 : decode cX1_rounds 35 = .ok (.getfield 36, 3) := by decide +kernel
theorem dX1_rounds_38 : decode cX1_rounds 38 = .ok (.if_icmp .ge 20, 3) := by decide +kernel
theorem dX1_rounds_41 : decode cX1_rounds 41 = .ok (.aload_n 0, 1) := by decide +kernel
theorem dX1_rounds_42 : decode cX1_rounds 42 = .ok (.bipush 16, 2) := by decide +kernel
theorem dX1_rounds_44 : decode cX1_rounds 44 = .ok (.iload_n 3, 1) := by decide +kernel
theorem dX1_rounds_45 : decode cX1_rounds 45 = .ok (.imul, 1) := by decide +kernel
theorem dX1_rounds_46 : decode cX1_rounds 46 = .ok (.iload 4, 2) := by decide +kernel
theorem dX1_rounds_48 : decode cX1_rounds 48 = .ok (.iadd, 1) := by decide +kernel
theorem dX1_rounds_49 : decode cX1_rounds 49 = .ok (.invokevirtual 97, 3) := by decide +kernel
theorem dX1_rounds_52 : decode cX1_rounds 52 = .ok (.iinc 4 1, 3) := by decide +kernel
theorem dX1_rounds_55 : decode cX1_rounds 55 = .ok (.goto (-23), 3) := by decide +kernel
theorem dX1_rounds_58 : decode cX1_rounds 58 = .ok (.iconst 0, 1) := by decide +kernel
theorem dX1_rounds_59 : decode cX1_rounds 59 = .ok (.istore 4, 2) := by decide +kernel
theorem dX1_rounds_61 : decode cX1_rounds 61 = .ok (.iload 4, 2) := by decide +kernel
theorem dX1_rounds_63 : decode cX1_rounds 63 = .ok (.aload_n 0, 1) := by decide +kernel
theorem dX1_rounds_64 : decode cX1_rounds 64 = .ok (.getfield 40, 3) := by decide +kernel
theorem dX1_rounds_67 : decode cX1_rounds 67 = .ok (.if_icmp .ge 23, 3) := by decide +kernel
theorem dX1_rounds_70 : decode cX1_rounds 70 = .ok (.aload_n 0, 1) := by decide +kernel
theorem dX1_rounds_71 : decode cX1_rounds 71 = .ok (.bipush 16, 2) := by decide +kernel
theorem dX1_rounds_73 : decode cX1_rounds 73 = .ok (.iload_n 3, 1) := by decide +kernel
theorem dX1_rounds_74 : decode cX1_rounds 74 = .ok (.imul, 1) := by decide +kernel
theorem dX1_rounds_75 : decode cX1_rounds 75 = .ok (.bipush 6, 2) := by decide +kernel
theorem dX1_rounds_77 : decode cX1_rounds 77 = .ok (.iadd, 1) := by decide +kernel
theorem dX1_rounds_78 : decode cX1_rounds 78 = .ok (.iload 4, 2) := by decide +kernel
theorem dX1_rounds_80 : decode cX1_rounds 80 = .ok (.iadd, 1) := by decide +kernel
theorem dX1_rounds_81 : decode cX1_rounds 81 = .ok (.invokevirtual 97, 3) := by decide +kernel
theorem dX1_rounds_84 : decode cX1_rounds 84 = .ok (.iinc 4 1, 3) := by decide +kernel
theorem dX1_rounds_87 : decode cX1_rounds 87 = .ok (.goto (-26), 3) := by decide +kernel
theorem dX1_rounds_90 : decode cX1_rounds 90 = .ok (.iinc 3 1, 3) := by decide +kernel
theorem dX1_rounds_93 : decode cX1_rounds 93 = .ok (.goto (-72), 3) := by decide +kernel
theorem dX1_rounds_96 : decode cX1_rounds 96 = .ok (.aload_n 0, 1) := by decide +kernel
theorem dX1_rounds_97 : decode cX1_rounds 97 = .ok (.dup, 1) := by decide +kernel
theorem dX1_rounds_98 : decode cX1_rounds 98 = .ok (.getfield 101, 3) := by decide +kernel
theorem dX1_rounds_101 : decode cX1_rounds 101 = .ok (.iconst 1, 1) := by decide +kernel
theorem dX1_rounds_102 : decode cX1_rounds 102 = .ok (.iadd, 1) := by decide +kernel
theorem dX1_rounds_103 : decode cX1_rounds 103 = .ok (.putfield 101, 3) := by decide +kernel
theorem dX1_rounds_106 : decode cX1_rounds 106 = .ok (.iinc 2 1, 3) := by decide +kernel
theorem dX1_rounds_109 : decode cX1_rounds 109 = .ok (.goto (-95), 3) := by decide +kernel
theorem dX1_rounds_112 : decode cX1_rounds 112 = .ok (.aload_n 0, 1) := by decide +kernel
theorem dX1_rounds_113 : decode cX1_rounds 113 = .ok (.invokevirtual 94, 3) := by decide +kernel
theorem dX1_rounds_116 : decode cX1_rounds 116 = .ok (.ireturn, 1) := by decide +kernel
set_option maxRecDepth 20000 in
theorem ggX1_shareOf_X1_sumAt : GoodIn wsX1_shareOf wsX1_sumAt := goodIn_r _ [7, 2, 8, 9, 10, 6, 11, 12, 13, 14, 15, 16, 17, 18, 19, 20, 21, 22, 23, 24, 25] (by decide +kernel) (by decide +kernel)
set_option maxRecDepth 20000 in
theorem gX1_shareOf_X1_sumAt : GoodIn wsX1_shareOf (wsV RX1 58 RX1 yX1_sumAt wsX1_sumAt) := goodIn_app (goodIn_of _ (by decide +kernel)) ggX1_shareOf_X1_sumAt
set_option maxRecDepth 20000 in
theorem ggX1_shareOf_X1_part : GoodIn wsX1_shareOf wsX1_part := goodIn_r _ [11, 12, 13, 14, 15, 16, 17, 18, 19, 20, 21, 22, 23, 24, 25] (by decide +kernel) (by decide +kernel)
set_option maxRecDepth 20000 in
theorem gX1_shareOf_X1_part : GoodIn wsX1_shareOf (wsV RX1 54 RX1 yX1_part wsX1_part) := goodIn_app (goodIn_of _ (by decide +kernel)) ggX1_shareOf_X1_part
theorem dX1_shareOf_0 : decode cX1_shareOf 0 = .ok (.aload_n 0, 1) := by decide +kernel
theorem dX1_shareOf_1 : decode cX1_shareOf 1 = .ok (.getfield 7, 3) := by decide +kernel
theorem dX1_shareOf_4 : decode cX1_shareOf 4 = .ok (.bipush 8, 2) := by decide +kernel
theorem dX1_shareOf_6 : decode cX1_shareOf 6 = .ok (.iload_n 2, 1) := by decide +kernel
theorem dX1_shareOf_7 : decode cX1_shareOf 7 = .ok (.imul, 1) := by decide +kernel
theorem dX1_shareOf_8 : decode cX1_shareOf 8 = .ok (.iload_n 3, 1) := by decide +kernel
theorem dX1_shareOf_9 : decode cX1_shareOf 9 = .ok (.iadd, 1) := by decide +kernel
theorem dX1_shareOf_10 : decode cX1_shareOf 10 = .ok (.iaload, 1) := by decide +kernel
theorem dX1_shareOf_11 : decode cX1_shareOf 11 = .ok (.istore 4, 2) := by decide +kernel
theorem dX1_shareOf_13 : decode cX1_shareOf 13 = .ok (.aload_n 0, 1) := by decide +kernel
theorem dX1_shareOf_14 : decode cX1_shareOf 14 = .ok (.iload_n 2, 1) := by decide +kernel
theorem dX1_shareOf_15 : decode cX1_shareOf 15 = .ok (.iload_n 3, 1) := by decide +kernel
theorem dX1_shareOf_16 : decode cX1_shareOf 16 = .ok (.invokevirtual 58, 3) := by decide +kernel
theorem dX1_shareOf_19 : decode cX1_shareOf 19 = .ok (.istore 5, 2) := by decide +kernel
theorem dX1_shareOf_21 : decode cX1_shareOf 21 = .ok (.iload 5, 2) := by decide +kernel
theorem dX1_shareOf_23 : decode cX1_shareOf 23 = .ok (.ifCond .ne 14, 3) := by decide +kernel
theorem dX1_shareOf_26 : decode cX1_shareOf 26 = .ok (.iload_n 1, 1) := by decide +kernel
theorem dX1_shareOf_27 : decode cX1_shareOf 27 = .ok (.ifCond .ne 8, 3) := by decide +kernel
theorem dX1_shareOf_30 : decode cX1_shareOf 30 = .ok (.iload 4, 2) := by decide +kernel
theorem dX1_shareOf_32 : decode cX1_shareOf 32 = .ok (.goto 4, 3) := by decide +kernel
theorem dX1_shareOf_35 : decode cX1_shareOf 35 = .ok (.iconst 0, 1) := by decide +kernel
theorem dX1_shareOf_36 : decode cX1_shareOf 36 = .ok (.ireturn, 1) := by decide +kernel
theorem dX1_shareOf_37 : decode cX1_shareOf 37 = .ok (.iload 4, 2) := by decide +kernel
theorem dX1_shareOf_39 : decode cX1_shareOf 39 = .ok (.istore 6, 2) := by decide +kernel
theorem dX1_shareOf_41 : decode cX1_shareOf 41 = .ok (.iconst 0, 1) := by decide +kernel
theorem dX1_shareOf_42 : decode cX1_shareOf 42 = .ok (.istore 7, 2) := by decide +kernel
theorem dX1_shareOf_44 : decode cX1_shareOf 44 = .ok (.iload 7, 2) := by decide +kernel
theorem dX1_shareOf_46 : decode cX1_shareOf 46 = .ok (.aload_n 0, 1) := by decide +kernel
theorem dX1_shareOf_47 : decode cX1_shareOf 47 = .ok (.getfield 43, 3) := by decide +kernel
theorem dX1_shareOf_50 : decode cX1_shareOf 50 = .ok (.if_icmp .ge 28, 3) := by decide +kernel
theorem dX1_shareOf_53 : decode cX1_shareOf 53 = .ok (.iload 6, 2) := by decide +kernel
theorem dX1_shareOf_55 : decode cX1_shareOf 55 = .ok (.iload 4, 2) := by decide +kernel
theorem dX1_shareOf_57 : decode cX1_shareOf 57 = .ok (.aload_n 0, 1) := by decide +kernel
theorem dX1_shareOf_58 : decode cX1_shareOf 58 = .ok (.iload 7, 2) := by decide +kernel
theorem dX1_shareOf_60 : decode cX1_shareOf 60 = .ok (.iload_n 2, 1) := by decide +kernel
theorem dX1_shareOf_61 : decode cX1_shareOf 61 = .ok (.iload_n 3, 1) := by decide +kernel
theorem dX1_shareOf_62 : decode cX1_shareOf 62 = .ok (.invokevirtual 54, 3) := by decide +kernel
theorem dX1_shareOf_65 : decode cX1_shareOf 65 = .ok (.imul, 1) := by decide +kernel
theorem dX1_shareOf_66 : decode cX1_shareOf 66 = .ok (.iload 5, 2) := by decide +kernel
theorem dX1_shareOf_68 : decode cX1_shareOf 68 = .ok (.idiv, 1) := by decide +kernel
theorem dX1_shareOf_69 : decode cX1_shareOf 69 = .ok (.isub, 1) := by decide +kernel
theorem dX1_shareOf_70 : decode cX1_shareOf 70 = .ok (.istore 6, 2) := by decide +kernel
theorem dX1_shareOf_72 : decode cX1_shareOf 72 = .ok (.iinc 7 1, 3) := by decide +kernel
theorem dX1_shareOf_75 : decode cX1_shareOf 75 = .ok (.goto (-31), 3) := by decide +kernel
theorem dX1_shareOf_78 : decode cX1_shareOf 78 = .ok (.iload 4, 2) := by decide +kernel
theorem dX1_shareOf_80 : decode cX1_shareOf 80 = .ok (.aload_n 0, 1) := by decide +kernel
theorem dX1_shareOf_81 : decode cX1_shareOf 81 = .ok (.iload_n 1, 1) := by decide +kernel
theorem dX1_shareOf_82 : decode cX1_shareOf 82 = .ok (.iload_n 2, 1) := by decide +kernel
theorem dX1_shareOf_83 : decode cX1_shareOf 83 = .ok (.iload_n 3, 1) := by decide +kernel
theorem dX1_shareOf_84 : decode cX1_shareOf 84 = .ok (.invokevirtual 54, 3) := by decide +kernel
theorem dX1_shareOf_87 : decode cX1_shareOf 87 = .ok (.imul, 1) := by decide +kernel
theorem dX1_shareOf_88 : decode cX1_shareOf 88 = .ok (.iload 5, 2) := by decide +kernel
theorem dX1_shareOf_90 : decode cX1_shareOf 90 = .ok (.irem, 1) := by decide +kernel
theorem dX1_shareOf_91 : decode cX1_shareOf 91 = .ok (.istore 7, 2) := by decide +kernel
theorem dX1_shareOf_93 : decode cX1_shareOf 93 = .ok (.iconst 0, 1) := by decide +kernel
theorem dX1_shareOf_94 : decode cX1_shareOf 94 = .ok (.istore 8, 2) := by decide +kernel
theorem dX1_shareOf_96 : decode cX1_shareOf 96 = .ok (.iconst 0, 1) := by decide +kernel
theorem dX1_shareOf_97 : decode cX1_shareOf 97 = .ok (.istore 9, 2) := by decide +kernel
theorem dX1_shareOf_99 : decode cX1_shareOf 99 = .ok (.iload 9, 2) := by decide +kernel
theorem dX1_shareOf_101 : decode cX1_shareOf 101 = .ok (.aload_n 0, 1) := by decide +kernel
theorem dX1_shareOf_102 : decode cX1_shareOf 102 = .ok (.getfield 43, 3) := by decide +kernel
theorem dX1_shareOf_105 : decode cX1_shareOf 105 = .ok (.if_icmp .ge 55, 3) := by decide +kernel
theorem dX1_shareOf_108 : decode cX1_shareOf 108 = .ok (.iload 4, 2) := by decide +kernel
theorem dX1_shareOf_110 : decode cX1_shareOf 110 = .ok (.aload_n 0, 1) := by decide +kernel
theorem dX1_shareOf_111 : decode cX1_shareOf 111 = .ok (.iload 9, 2) := by decide +kernel
theorem dX1_shareOf_113 : decode cX1_shareOf 113 = .ok (.iload_n 2, 1) := by decide +kernel
theorem dX1_shareOf_114 : decode cX1_shareOf 114 = .ok (.iload_n 3, 1) := by decide +kernel
theorem dX1_shareOf_115 : decode cX1_shareOf 115 = .ok (.invokevirtual 54, 3) := by decide +kernel
theorem dX1_shareOf_118 : decode cX1_shareOf 118 = .ok (.imul, 1) := by decide +kernel
theorem dX1_shareOf_119 : decode cX1_shareOf 119 = .ok (.iload 5, 2) := by decide +kernel
theorem dX1_shareOf_121 : decode cX1_shareOf 121 = .ok (.irem, 1) := by decide +kernel
theorem dX1_shareOf_122 : decode cX1_shareOf 122 = .ok (.istore 10, 2) := by decide +kernel
theorem dX1_shareOf_124 : decode cX1_shareOf 124 = .ok (.iload 8, 2) := by decide +kernel
theorem dX1_shareOf_126 : decode cX1_shareOf 126 = .ok (.iload 10, 2) := by decide +kernel
theorem dX1_shareOf_128 : decode cX1_shareOf 128 = .ok (.iload 7, 2) := by decide +kernel
theorem dX1_shareOf_130 : decode cX1_shareOf 130 = .ok (.if_icmp .gt 16, 3) := by decide +kernel
theorem dX1_shareOf_133 : decode cX1_shareOf 133 = .ok (.iload 10, 2) := by decide +kernel
theorem dX1_shareOf_135 : decode cX1_shareOf 135 = .ok (.iload 7, 2) := by decide +kernel
theorem dX1_shareOf_137 : decode cX1_shareOf 137 = .ok (.if_icmp .ne 13, 3) := by decide +kernel
theorem dX1_shareOf_140 : decode cX1_shareOf 140 = .ok (.iload 9, 2) := by decide +kernel
theorem dX1_shareOf_142 : decode cX1_shareOf 142 = .ok (.iload_n 1, 1) := by decide +kernel
theorem dX1_shareOf_143 : decode cX1_shareOf 143 = .ok (.if_icmp .ge 7, 3) := by decide +kernel
theorem dX1_shareOf_146 : decode cX1_shareOf 146 = .ok (.iconst 1, 1) := by decide +kernel
theorem dX1_shareOf_147 : decode cX1_shareOf 147 = .ok (.goto 4, 3) := by decide +kernel
theorem dX1_shareOf_150 : decode cX1_shareOf 150 = .ok (.iconst 0, 1) := by decide +kernel
theorem dX1_shareOf_151 : decode cX1_shareOf 151 = .ok (.iadd, 1) := by decide +kernel
theorem dX1_shareOf_152 : decode cX1_shareOf 152 = .ok (.istore 8, 2) := by decide +kernel
theorem dX1_shareOf_154 : decode cX1_shareOf 154 = .ok (.iinc 9 1, 3) := by decide +kernel
theorem dX1_shareOf_157 : decode cX1_shareOf 157 = .ok (.goto (-58), 3) := by decide +kernel
theorem dX1_shareOf_160 : decode cX1_shareOf 160 = .ok (.iload 4, 2) := by decide +kernel
theorem dX1_shareOf_162 : decode cX1_shareOf 162 = .ok (.aload_n 0, 1) := by decide +kernel
theorem dX1_shareOf_163 : decode cX1_shareOf 163 = .ok (.iload_n 1, 1) := by decide +kernel
theorem dX1_shareOf_164 : decode cX1_shareOf 164 = .ok (.iload_n 2, 1) := by decide +kernel
theorem dX1_shareOf_165 : decode cX1_shareOf 165 = .ok (.iload_n 3, 1) := by decide +kernel
theorem dX1_shareOf_166 : decode cX1_shareOf 166 = .ok (.invokevirtual 54, 3) := by decide +kernel
theorem dX1_shareOf_169 : decode cX1_shareOf 169 = .ok (.imul, 1) := by decide +kernel
theorem dX1_shareOf_170 : decode cX1_shareOf 170 = .ok (.iload 5, 2) := by decide +kernel
theorem dX1_shareOf_172 : decode cX1_shareOf 172 = .ok (.idiv, 1) := by decide +kernel
theorem dX1_shareOf_173 : decode cX1_shareOf 173 = .ok (.iload 8, 2) := by decide +kernel
theorem dX1_shareOf_175 : decode cX1_shareOf 175 = .ok (.iload 6, 2) := by decide +kernel
theorem dX1_shareOf_177 : decode cX1_shareOf 177 = .ok (.if_icmp .ge 7, 3) := by decide +kernel
theorem dX1_shareOf_180 : decode cX1_shareOf 180 = .ok (.iconst 1, 1) := by decide +kernel
theorem dX1_shareOf_181 : decode cX1_shareOf 181 = .ok (.goto 4, 3) := by decide +kernel
theorem dX1_shareOf_184 : decode cX1_shareOf 184 = .ok (.iconst 0, 1) := by decide +kernel
theorem dX1_shareOf_185 : decode cX1_shareOf 185 = .ok (.iadd, 1) := by decide +kernel
theorem dX1_shareOf_186 : decode cX1_shareOf 186 = .ok (.ireturn, 1) := by decide +kernel
set_option maxRecDepth 20000 in
theorem ggX1_share_X1_isVoice : GoodIn wsX1_share wsX1_isVoice := goodIn_r _ [5, 6, 7, 8, 4, 9, 30, 31, 32, 33, 34, 35, 36, 37, 38, 39, 40, 41, 42] (by decide +kernel) (by decide +kernel)
set_option maxRecDepth 20000 in
theorem gX1_share_X1_isVoice : GoodIn wsX1_share (wsV RX1 69 RX1 yX1_isVoice wsX1_isVoice) := goodIn_app (goodIn_of _ (by decide +kernel)) ggX1_share_X1_isVoice
set_option maxRecDepth 20000 in
theorem ggX1_share_X1_isPlace : GoodIn wsX1_share wsX1_isPlace := goodIn_r _ [13, 14, 15, 7, 8, 4, 9, 30, 31, 32, 33, 34, 35, 36, 37, 38, 39, 40, 41, 42] (by decide +kernel) (by decide +kernel)
set_option maxRecDepth 20000 in
theorem gX1_share_X1_isPlace : GoodIn wsX1_share (wsV RX1 50 RX1 yX1_isPlace wsX1_isPlace) := goodIn_app (goodIn_of _ (by decide +kernel)) ggX1_share_X1_isPlace
set_option maxRecDepth 20000 in
theorem ggX1_share_X1_shareOf : GoodIn wsX1_share wsX1_shareOf := goodIn_r _ [19, 20, 6, 21, 22, 23, 4, 24, 25, 26, 27, 28, 29, 30, 31, 32, 33, 34, 35, 36, 37, 38, 39, 40, 41, 42] (by decide +kernel) (by decide +kernel)
set_option maxRecDepth 20000 in
theorem gX1_share_X1_shareOf : GoodIn wsX1_share (wsV RX1 104 RX1 yX1_shareOf wsX1_shareOf) := goodIn_app (goodIn_of _ (by decide +kernel)) ggX1_share_X1_shareOf
theorem dX1_share_0 : decode cX1_share 0 = .ok (.aload_n 0, 1) := by decide +kernel
theorem dX1_share_1 : decode cX1_share 1 = .ok (.iload_n 1, 1) := by decide +kernel
theorem dX1_share_2 : decode cX1_share 2 = .ok (.invokevirtual 69, 3) := by decide +kernel
theorem dX1_share_5 : decode cX1_share 5 = .ok (.ifCond .eq 22, 3) := by decide +kernel
theorem dX1_share_8 : decode cX1_share 8 = .ok (.aload_n 0, 1) := by decide +kernel
theorem dX1_share_9 : decode cX1_share 9 = .ok (.iload_n 2, 1) := by decide +kernel
theorem dX1_share_10 : decode cX1_share 10 = .ok (.iload_n 3, 1) := by decide +kernel
theorem dX1_share_11 : decode cX1_share 11 = .ok (.invokevirtual 50, 3) := by decide +kernel
theorem dX1_share_14 : decode cX1_share 14 = .ok (.ifCond .eq 13, 3) := by decide +kernel
theorem dX1_share_17 : decode cX1_share 17 = .ok (.aload_n 0, 1) := by decide +kernel
theorem dX1_share_18 : decode cX1_share 18 = .ok (.iload_n 1, 1) := by decide +kernel
theorem dX1_share_19 : decode cX1_share 19 = .ok (.iload_n 2, 1) := by decide +kernel
theorem dX1_share_20 : decode cX1_share 20 = .ok (.iload_n 3, 1) := by decide +kernel
theorem dX1_share_21 : decode cX1_share 21 = .ok (.invokevirtual 104, 3) := by decide +kernel
theorem dX1_share_24 : decode cX1_share 24 = .ok (.goto 4, 3) := by decide +kernel
theorem dX1_share_27 : decode cX1_share 27 = .ok (.iconst (-1), 1) := by decide +kernel
theorem dX1_share_28 : decode cX1_share 28 = .ok (.ireturn, 1) := by decide +kernel
theorem dX1_backgroundOf_0 : decode cX1_backgroundOf 0 = .ok (.iconst 0, 1) := by decide +kernel
theorem dX1_backgroundOf_1 : decode cX1_backgroundOf 1 = .ok (.istore 4, 2) := by decide +kernel
theorem dX1_backgroundOf_3 : decode cX1_backgroundOf 3 = .ok (.iload_n 3, 1) := by decide +kernel
theorem dX1_backgroundOf_4 : decode cX1_backgroundOf 4 = .ok (.iload_n 1, 1) := by decide +kernel
theorem dX1_backgroundOf_5 : decode cX1_backgroundOf 5 = .ok (.irem, 1) := by decide +kernel
theorem dX1_backgroundOf_6 : decode cX1_backgroundOf 6 = .ok (.istore 5, 2) := by decide +kernel
theorem dX1_backgroundOf_8 : decode cX1_backgroundOf 8 = .ok (.iload 5, 2) := by decide +kernel
theorem dX1_backgroundOf_10 : decode cX1_backgroundOf 10 = .ok (.aload_n 0, 1) := by decide +kernel
theorem dX1_backgroundOf_11 : decode cX1_backgroundOf 11 = .ok (.getfield 40, 3) := by decide +kernel
theorem dX1_backgroundOf_14 : decode cX1_backgroundOf 14 = .ok (.if_icmp .ge 83, 3) := by decide +kernel
theorem dX1_backgroundOf_17 : decode cX1_backgroundOf 17 = .ok (.aload_n 0, 1) := by decide +kernel
theorem dX1_backgroundOf_18 : decode cX1_backgroundOf 18 = .ok (.getfield 7, 3) := by decide +kernel
theorem dX1_backgroundOf_21 : decode cX1_backgroundOf 21 = .ok (.bipush 8, 2) := by decide +kernel
theorem dX1_backgroundOf_23 : decode cX1_backgroundOf 23 = .ok (.iload_n 2, 1) := by decide +kernel
theorem dX1_backgroundOf_24 : decode cX1_backgroundOf 24 = .ok (.imul, 1) := by decide +kernel
theorem dX1_backgroundOf_25 : decode cX1_backgroundOf 25 = .ok (.iload 5, 2) := by decide +kernel
theorem dX1_backgroundOf_27 : decode cX1_backgroundOf 27 = .ok (.iadd, 1) := by decide +kernel
theorem dX1_backgroundOf_28 : decode cX1_backgroundOf 28 = .ok (.iaload, 1) := by decide +kernel
theorem dX1_backgroundOf_29 : decode cX1_backgroundOf 29 = .ok (.istore 6, 2) := by decide +kernel
theorem dX1_backgroundOf_31 : decode cX1_backgroundOf 31 = .ok (.iload 4, 2) := by decide +kernel
theorem dX1_backgroundOf_33 : decode cX1_backgroundOf 33 = .ok (.istore 7, 2) := by decide +kernel
theorem dX1_backgroundOf_35 : decode cX1_backgroundOf 35 = .ok (.iload 7, 2) := by decide +kernel
theorem dX1_backgroundOf_37 : decode cX1_backgroundOf 37 = .ok (.ifCond .le 39, 3) := by decide +kernel
theorem dX1_backgroundOf_40 : decode cX1_backgroundOf 40 = .ok (.aload_n 0, 1) := by decide +kernel
theorem dX1_backgroundOf_41 : decode cX1_backgroundOf 41 = .ok (.getfield 29, 3) := by decide +kernel
theorem dX1_backgroundOf_44 : decode cX1_backgroundOf 44 = .ok (.iload 7, 2) := by decide +kernel
theorem dX1_backgroundOf_46 : decode cX1_backgroundOf 46 = .ok (.iconst 1, 1) := by decide +kernel
theorem dX1_backgroundOf_47 : decode cX1_backgroundOf 47 = .ok (.isub, 1) := by decide +kernel
theorem dX1_backgroundOf_48 : decode cX1_backgroundOf 48 = .ok (.iaload, 1) := by decide +kernel
theorem dX1_backgroundOf_49 : decode cX1_backgroundOf 49 = .ok (.iload 6, 2) := by decide +kernel
theorem dX1_backgroundOf_51 : decode cX1_backgroundOf 51 = .ok (.if_icmp .le 25, 3) := by decide +kernel
theorem dX1_backgroundOf_54 : decode cX1_backgroundOf 54 = .ok (.aload_n 0, 1) := by decide +kernel
theorem dX1_backgroundOf_55 : decode cX1_backgroundOf 55 = .ok (.getfield 29, 3) := by decide +kernel
theorem dX1_backgroundOf_58 : decode cX1_backgroundOf 58 = .ok (.iload 7, 2) := by decide +kernel
theorem dX1_backgroundOf_60 : decode cX1_backgroundOf 60 = .ok (.aload_n 0, 1) := by decide +kernel
theorem dX1_backgroundOf_61 : decode cX1_backgroundOf 61 = .ok (.getfield 29, 3) := by decide +kernel
theorem dX1_backgroundOf_64 : decode cX1_backgroundOf 64 = .ok (.iload 7, 2) := by decide +kernel
theorem dX1_backgroundOf_66 : decode cX1_backgroundOf 66 = .ok (.iconst 1, 1) := by decide +kernel
theorem dX1_backgroundOf_67 : decode cX1_backgroundOf 67 = .ok (.isub, 1) := by decide +kernel
theorem dX1_backgroundOf_68 : decode cX1_backgroundOf 68 = .ok (.iaload, 1) := by decide +kernel
theorem dX1_backgroundOf_69 : decode cX1_backgroundOf 69 = .ok (.iastore, 1) := by decide +kernel
theorem dX1_backgroundOf_70 : decode cX1_backgroundOf 70 = .ok (.iinc 7 (-1), 3) := by decide +kernel
theorem dX1_backgroundOf_73 : decode cX1_backgroundOf 73 = .ok (.goto (-38), 3) := by decide +kernel
theorem dX1_backgroundOf_76 : decode cX1_backgroundOf 76 = .ok (.aload_n 0, 1) := by decide +kernel
theorem dX1_backgroundOf_77 : decode cX1_backgroundOf 77 = .ok (.getfield 29, 3) := by decide +kernel
theorem dX1_backgroundOf_80 : decode cX1_backgroundOf 80 = .ok (.iload 7, 2) := by decide +kernel
theorem dX1_backgroundOf_82 : decode cX1_backgroundOf 82 = .ok (.iload 6, 2) := by decide +kernel
theorem dX1_backgroundOf_84 : decode cX1_backgroundOf 84 = .ok (.iastore, 1) := by decide +kernel
theorem dX1_backgroundOf_85 : decode cX1_backgroundOf 85 = .ok (.iinc 4 1, 3) := by decide +kernel
theorem dX1_backgroundOf_88 : decode cX1_backgroundOf 88 = .ok (.iload 5, 2) := by decide +kernel
theorem dX1_backgroundOf_90 : decode cX1_backgroundOf 90 = .ok (.iload_n 1, 1) := by decide +kernel
theorem dX1_backgroundOf_91 : decode cX1_backgroundOf 91 = .ok (.iadd, 1) := by decide +kernel
theorem dX1_backgroundOf_92 : decode cX1_backgroundOf 92 = .ok (.istore 5, 2) := by decide +kernel
theorem dX1_backgroundOf_94 : decode cX1_backgroundOf 94 = .ok (.goto (-86), 3) := by decide +kernel
theorem dX1_backgroundOf_97 : decode cX1_backgroundOf 97 = .ok (.aload_n 0, 1) := by decide +kernel
theorem dX1_backgroundOf_98 : decode cX1_backgroundOf 98 = .ok (.getfield 29, 3) := by decide +kernel
theorem dX1_backgroundOf_101 : decode cX1_backgroundOf 101 = .ok (.iload 4, 2) := by decide +kernel
theorem dX1_backgroundOf_103 : decode cX1_backgroundOf 103 = .ok (.iconst 1, 1) := by decide +kernel
theorem dX1_backgroundOf_104 : decode cX1_backgroundOf 104 = .ok (.isub, 1) := by decide +kernel
theorem dX1_backgroundOf_105 : decode cX1_backgroundOf 105 = .ok (.iconst 2, 1) := by decide +kernel
theorem dX1_backgroundOf_106 : decode cX1_backgroundOf 106 = .ok (.idiv, 1) := by decide +kernel
theorem dX1_backgroundOf_107 : decode cX1_backgroundOf 107 = .ok (.iaload, 1) := by decide +kernel
theorem dX1_backgroundOf_108 : decode cX1_backgroundOf 108 = .ok (.ireturn, 1) := by decide +kernel
set_option maxRecDepth 20000 in
theorem ggX1_background_X1_in : GoodIn wsX1_background wsX1_in := goodIn_r _ [5] (by decide +kernel) (by decide +kernel)
set_option maxRecDepth 20000 in
theorem gX1_background_X1_in : GoodIn wsX1_background (va_wsS RX1 46 yX1_in wsX1_in) := goodIn_app (goodIn_of _ (by decide +kernel)) ggX1_background_X1_in
set_option maxRecDepth 20000 in
theorem ggX1_background_X1_isPlace : GoodIn wsX1_background wsX1_isPlace := goodIn_r _ [9, 10, 1, 2, 3, 4, 5, 17, 18, 19, 20, 21, 22, 23, 24, 25, 26, 27, 28, 29] (by decide +kernel) (by decide +kernel)
set_option maxRecDepth 20000 in
theorem gX1_background_X1_isPlace : GoodIn wsX1_background (wsV RX1 50 RX1 yX1_isPlace wsX1_isPlace) := goodIn_app (goodIn_of _ (by decide +kernel)) ggX1_background_X1_isPlace
set_option maxRecDepth 20000 in
theorem ggX1_background_X1_backgroundOf : GoodIn wsX1_background wsX1_backgroundOf := goodIn_r _ [14, 1, 15, 16, 17, 18, 19, 20, 21, 22, 23, 24, 25, 26, 27, 28, 29] (by decide +kernel) (by decide +kernel)
set_option maxRecDepth 20000 in
theorem gX1_background_X1_backgroundOf : GoodIn wsX1_background (wsV RX1 66 RX1 yX1_backgroundOf wsX1_backgroundOf) := goodIn_app (goodIn_of _ (by decide +kernel)) ggX1_background_X1_backgroundOf
theorem dX1_background_0 : decode cX1_background 0 = .ok (.iload_n 1, 1) := by decide +kernel
theorem dX1_background_1 : decode cX1_background 1 = .ok (.iconst 1, 1) := by decide +kernel
theorem dX1_background_2 : decode cX1_background 2 = .ok (.aload_n 0, 1) := by decide +kernel
theorem dX1_background_3 : decode cX1_background 3 = .ok (.getfield 40, 3) := by decide +kernel
theorem dX1_background_6 : decode cX1_background 6 = .ok (.invokestatic 46, 3) := by decide +kernel
theorem dX1_background_9 : decode cX1_background 9 = .ok (.ifCond .eq 22, 3) := by decide +kernel
theorem dX1_background_12 : decode cX1_background 12 = .ok (.aload_n 0, 1) := by decide +kernel
theorem dX1_background_13 : decode cX1_background 13 = .ok (.iload_n 2, 1) := by decide +kernel
theorem dX1_background_14 : decode cX1_background 14 = .ok (.iload_n 3, 1) := by decide +kernel
theorem dX1_background_15 : decode cX1_background 15 = .ok (.invokevirtual 50, 3) := by decide +kernel
theorem dX1_background_18 : decode cX1_background 18 = .ok (.ifCond .eq 13, 3) := by decide +kernel
theorem dX1_background_21 : decode cX1_background 21 = .ok (.aload_n 0, 1) := by decide +kernel
theorem dX1_background_22 : decode cX1_background 22 = .ok (.iload_n 1, 1) := by decide +kernel
theorem dX1_background_23 : decode cX1_background 23 = .ok (.iload_n 2, 1) := by decide +kernel
theorem dX1_background_24 : decode cX1_background 24 = .ok (.iload_n 3, 1) := by decide +kernel
theorem dX1_background_25 : decode cX1_background 25 = .ok (.invokevirtual 66, 3) := by decide +kernel
theorem dX1_background_28 : decode cX1_background 28 = .ok (.goto 4, 3) := by decide +kernel
theorem dX1_background_31 : decode cX1_background 31 = .ok (.iconst (-1), 1) := by decide +kernel
theorem dX1_background_32 : decode cX1_background 32 = .ok (.ireturn, 1) := by decide +kernel
set_option maxRecDepth 20000 in
theorem ggX1_bestPeriod_X1_backgroundOf : GoodIn wsX1_bestPeriod wsX1_backgroundOf := goodIn_r _ [8, 1, 3, 9, 13, 14, 15, 16, 17, 18, 19, 20, 21, 22, 23, 24, 25] (by decide +kernel) (by decide +kernel)
set_option maxRecDepth 20000 in
theorem gX1_bestPeriod_X1_backgroundOf : GoodIn wsX1_bestPeriod (wsV RX1 66 RX1 yX1_backgroundOf wsX1_backgroundOf) := goodIn_app (goodIn_of _ (by decide +kernel)) ggX1_bestPeriod_X1_backgroundOf
set_option maxRecDepth 20000 in
theorem ggX1_bestPeriod_X1_size : GoodIn wsX1_bestPeriod wsX1_size := goodIn_r _ [12] (by decide +kernel) (by decide +kernel)
set_option maxRecDepth 20000 in
theorem gX1_bestPeriod_X1_size : GoodIn wsX1_bestPeriod (va_wsS RX1 90 yX1_size wsX1_size) := goodIn_app (goodIn_of _ (by decide +kernel)) ggX1_bestPeriod_X1_size
theorem dX1_bestPeriod_0 : decode cX1_bestPeriod 0 = .ok (.iconst 1, 1) := by decide +kernel
theorem dX1_bestPeriod_1 : decode cX1_bestPeriod 1 = .ok (.istore_n 1, 1) := by decide +kernel
theorem dX1_bestPeriod_2 : decode cX1_bestPeriod 2 = .ok (.iconst (-1), 1) := by decide +kernel
theorem dX1_bestPeriod_3 : decode cX1_bestPeriod 3 = .ok (.istore_n 2, 1) := by decide +kernel
theorem dX1_bestPeriod_4 : decode cX1_bestPeriod 4 = .ok (.iconst 1, 1) := by decide +kernel
theorem dX1_bestPeriod_5 : decode cX1_bestPeriod 5 = .ok (.istore_n 3, 1) := by decide +kernel
theorem dX1_bestPeriod_6 : decode cX1_bestPeriod 6 = .ok (.iload_n 3, 1) := by decide +kernel
theorem dX1_bestPeriod_7 : decode cX1_bestPeriod 7 = .ok (.aload_n 0, 1) := by decide +kernel
theorem dX1_bestPeriod_8 : decode cX1_bestPeriod 8 = .ok (.getfield 40, 3) := by decide +kernel
theorem dX1_bestPeriod_11 : decode cX1_bestPeriod 11 = .ok (.if_icmp .gt 117, 3) := by decide +kernel
theorem dX1_bestPeriod_14 : decode cX1_bestPeriod 14 = .ok (.iload_n 3, 1) := by decide +kernel
theorem dX1_bestPeriod_15 : decode cX1_bestPeriod 15 = .ok (.aload_n 0, 1) := by decide +kernel
theorem dX1_bestPeriod_16 : decode cX1_bestPeriod 16 = .ok (.getfield 36, 3) := by decide +kernel
theorem dX1_bestPeriod_19 : decode cX1_bestPeriod 19 = .ok (.imul, 1) := by decide +kernel
theorem dX1_bestPeriod_20 : decode cX1_bestPeriod 20 = .ok (.istore 4, 2) := by decide +kernel
theorem dX1_bestPeriod_22 : decode cX1_bestPeriod 22 = .ok (.iconst 0, 1) := by decide +kernel
theorem dX1_bestPeriod_23 : decode cX1_bestPeriod 23 = .ok (.istore 5, 2) := by decide +kernel
theorem dX1_bestPeriod_25 : decode cX1_bestPeriod 25 = .ok (.iload 5, 2) := by decide +kernel
theorem dX1_bestPeriod_27 : decode cX1_bestPeriod 27 = .ok (.aload_n 0, 1) := by decide +kernel
theorem dX1_bestPeriod_28 : decode cX1_bestPeriod 28 = .ok (.getfield 36, 3) := by decide +kernel
theorem dX1_bestPeriod_31 : decode cX1_bestPeriod 31 = .ok (.if_icmp .ge 58, 3) := by decide +kernel
theorem dX1_bestPeriod_34 : decode cX1_bestPeriod 34 = .ok (.iconst 0, 1) := by decide +kernel
theorem dX1_bestPeriod_35 : decode cX1_bestPeriod 35 = .ok (.istore 6, 2) := by decide +kernel
theorem dX1_bestPeriod_37 : decode cX1_bestPeriod 37 = .ok (.iload 6, 2) := by decide +kernel
theorem dX1_bestPeriod_39 : decode cX1_bestPeriod 39 = .ok (.aload_n 0, 1) := by decide +kernel
theorem dX1_bestPeriod_40 : decode cX1_bestPeriod 40 = .ok (.getfield 40, 3) := by decide +kernel
theorem dX1_bestPeriod_43 : decode cX1_bestPeriod 43 = .ok (.if_icmp .ge 40, 3) := by decide +kernel
theorem dX1_bestPeriod_46 : decode cX1_bestPeriod 46 = .ok (.iload 4, 2) := by decide +kernel
theorem dX1_bestPeriod_48 : decode cX1_bestPeriod 48 = .ok (.aload_n 0, 1) := by decide +kernel
theorem dX1_bestPeriod_49 : decode cX1_bestPeriod 49 = .ok (.getfield 7, 3) := by decide +kernel
theorem dX1_bestPeriod_52 : decode cX1_bestPeriod 52 = .ok (.bipush 8, 2) := by decide +kernel
theorem dX1_bestPeriod_54 : decode cX1_bestPeriod 54 = .ok (.iload 5, 2) := by decide +kernel
theorem dX1_bestPeriod_56 : decode cX1_bestPeriod 56 = .ok (.imul, 1) := by decide +kernel
theorem dX1_bestPeriod_57 : decode cX1_bestPeriod 57 = .ok (.iload 6, 2) := by decide +kernel
theorem dX1_bestPeriod_59 : decode cX1_bestPeriod 59 = .ok (.iadd, 1) := by decide +kernel
theorem dX1_bestPeriod_60 : decode cX1_bestPeriod 60 = .ok (.iaload, 1) := by decide +kernel
theorem dX1_bestPeriod_61 : decode cX1_bestPeriod 61 = .ok (.aload_n 0, 1) := by decide +kernel
theorem dX1_bestPeriod_62 : decode cX1_bestPeriod 62 = .ok (.iload_n 3, 1) := by decide +kernel
theorem dX1_bestPeriod_63 : decode cX1_bestPeriod 63 = .ok (.iload 5, 2) := by decide +kernel
theorem dX1_bestPeriod_65 : decode cX1_bestPeriod 65 = .ok (.iload 6, 2) := by decide +kernel
theorem dX1_bestPeriod_67 : decode cX1_bestPeriod 67 = .ok (.invokevirtual 66, 3) := by decide +kernel
theorem dX1_bestPeriod_70 : decode cX1_bestPeriod 70 = .ok (.isub, 1) := by decide +kernel
theorem dX1_bestPeriod_71 : decode cX1_bestPeriod 71 = .ok (.invokestatic 90, 3) := by decide +kernel
theorem dX1_bestPeriod_74 : decode cX1_bestPeriod 74 = .ok (.iadd, 1) := by decide +kernel
theorem dX1_bestPeriod_75 : decode cX1_bestPeriod 75 = .ok (.istore 4, 2) := by decide +kernel
theorem dX1_bestPeriod_77 : decode cX1_bestPeriod 77 = .ok (.iinc 6 1, 3) := by decide +kernel
theorem dX1_bestPeriod_80 : decode cX1_bestPeriod 80 = .ok (.goto (-43), 3) := by decide +kernel
theorem dX1_bestPeriod_83 : decode cX1_bestPeriod 83 = .ok (.iinc 5 1, 3) := by decide +kernel
theorem dX1_bestPeriod_86 : decode cX1_bestPeriod 86 = .ok (.goto (-61), 3) := by decide +kernel
theorem dX1_bestPeriod_89 : decode cX1_bestPeriod 89 = .ok (.iload_n 2, 1) := by decide +kernel
theorem dX1_bestPeriod_90 : decode cX1_bestPeriod 90 = .ok (.ifCond .lt 9, 3) := by decide +kernel
theorem dX1_bestPeriod_93 : decode cX1_bestPeriod 93 = .ok (.iload 4, 2) := by decide +kernel
theorem dX1_bestPeriod_95 : decode cX1_bestPeriod 95 = .ok (.iload_n 2, 1) := by decide +kernel
theorem dX1_bestPeriod_96 : decode cX1_bestPeriod 96 = .ok (.if_icmp .ge 7, 3) := by decide +kernel
theorem dX1_bestPeriod_99 : decode cX1_bestPeriod 99 = .ok (.iload_n 3, 1) := by decide +kernel
theorem dX1_bestPeriod_100 : decode cX1_bestPeriod 100 = .ok (.goto 4, 3) := by decide +kernel
theorem dX1_bestPeriod_103 : decode cX1_bestPeriod 103 = .ok (.iload_n 1, 1) := by decide +kernel
theorem dX1_bestPeriod_104 : decode cX1_bestPeriod 104 = .ok (.istore_n 1, 1) := by decide +kernel
theorem dX1_bestPeriod_105 : decode cX1_bestPeriod 105 = .ok (.iload_n 2, 1) := by decide +kernel
theorem dX1_bestPeriod_106 : decode cX1_bestPeriod 106 = .ok (.ifCond .lt 9, 3) := by decide +kernel
theorem dX1_bestPeriod_109 : decode cX1_bestPeriod 109 = .ok (.iload 4, 2) := by decide +kernel
theorem dX1_bestPeriod_111 : decode cX1_bestPeriod 111 = .ok (.iload_n 2, 1) := by decide +kernel
theorem dX1_bestPeriod_112 : decode cX1_bestPeriod 112 = .ok (.if_icmp .ge 8, 3) := by decide +kernel
theorem dX1_bestPeriod_115 : decode cX1_bestPeriod 115 = .ok (.iload 4, 2) := by decide +kernel
theorem dX1_bestPeriod_117 : decode cX1_bestPeriod 117 = .ok (.goto 4, 3) := by decide +kernel
theorem dX1_bestPeriod_120 : decode cX1_bestPeriod 120 = .ok (.iload_n 2, 1) := by decide +kernel
theorem dX1_bestPeriod_121 : decode cX1_bestPeriod 121 = .ok (.istore_n 2, 1) := by decide +kernel
theorem dX1_bestPeriod_122 : decode cX1_bestPeriod 122 = .ok (.iinc 3 1, 3) := by decide +kernel
theorem dX1_bestPeriod_125 : decode cX1_bestPeriod 125 = .ok (.goto (-119), 3) := by decide +kernel
theorem dX1_bestPeriod_128 : decode cX1_bestPeriod 128 = .ok (.iload_n 1, 1) := by decide +kernel
theorem dX1_bestPeriod_129 : decode cX1_bestPeriod 129 = .ok (.ireturn, 1) := by decide +kernel
set_option maxRecDepth 20000 in
theorem ggX1_period_X1_bestPeriod : GoodIn wsX1_period wsX1_bestPeriod := goodIn_r _ [5, 6, 7, 8, 9, 10, 11, 4, 12, 13, 14, 15, 16, 17, 18, 19, 20, 21, 22, 23, 24, 25, 26, 27, 28, 29] (by decide +kernel) (by decide +kernel)
set_option maxRecDepth 20000 in
theorem gX1_period_X1_bestPeriod : GoodIn wsX1_period (wsV RX1 62 RX1 yX1_bestPeriod wsX1_bestPeriod) := goodIn_app (goodIn_of _ (by decide +kernel)) ggX1_period_X1_bestPeriod
theorem dX1_period_0 : decode cX1_period 0 = .ok (.aload_n 0, 1) := by decide +kernel
theorem dX1_period_1 : decode cX1_period 1 = .ok (.invokevirtual 62, 3) := by decide +kernel
theorem dX1_period_4 : decode cX1_period 4 = .ok (.ireturn, 1) := by decide +kernel
set_option maxRecDepth 20000 in
theorem ggX1_hear_X1_in : GoodIn wsX1_hear wsX1_in := goodIn_r _ [6] (by decide +kernel) (by decide +kernel)
set_option maxRecDepth 20000 in
theorem gX1_hear_X1_in : GoodIn wsX1_hear (va_wsS RX1 46 yX1_in wsX1_in) := goodIn_app (goodIn_of _ (by decide +kernel)) ggX1_hear_X1_in
theorem dX1_hear_0 : decode cX1_hear 0 = .ok (.iload_n 1, 1) := by decide +kernel
theorem dX1_hear_1 : decode cX1_hear 1 = .ok (.iconst 0, 1) := by decide +kernel
theorem dX1_hear_2 : decode cX1_hear 2 = .ok (.iconst 1, 1) := by decide +kernel
theorem dX1_hear_3 : decode cX1_hear 3 = .ok (.invokestatic 46, 3) := by decide +kernel
theorem dX1_hear_6 : decode cX1_hear 6 = .ok (.ifCond .eq 16, 3) := by decide +kernel
theorem dX1_hear_9 : decode cX1_hear 9 = .ok (.iload_n 2, 1) := by decide +kernel
theorem dX1_hear_10 : decode cX1_hear 10 = .ok (.sipush (-1000), 3) := by decide +kernel
theorem dX1_hear_13 : decode cX1_hear 13 = .ok (.sipush 1000, 3) := by decide +kernel
theorem dX1_hear_16 : decode cX1_hear 16 = .ok (.invokestatic 46, 3) := by decide +kernel
theorem dX1_hear_19 : decode cX1_hear 19 = .ok (.ifCond .ne 5, 3) := by decide +kernel
theorem dX1_hear_22 : decode cX1_hear 22 = .ok (.iconst (-1), 1) := by decide +kernel
theorem dX1_hear_23 : decode cX1_hear 23 = .ok (.ireturn, 1) := by decide +kernel
theorem dX1_hear_24 : decode cX1_hear 24 = .ok (.aload_n 0, 1) := by decide +kernel
theorem dX1_hear_25 : decode cX1_hear 25 = .ok (.getfield 23, 3) := by decide +kernel
theorem dX1_hear_28 : decode cX1_hear 28 = .ok (.iload_n 1, 1) := by decide +kernel
theorem dX1_hear_29 : decode cX1_hear 29 = .ok (.iaload, 1) := by decide +kernel
theorem dX1_hear_30 : decode cX1_hear 30 = .ok (.bipush 8, 2) := by decide +kernel
theorem dX1_hear_32 : decode cX1_hear 32 = .ok (.if_icmp .ne 6, 3) := by decide +kernel
theorem dX1_hear_35 : decode cX1_hear 35 = .ok (.bipush (-3), 2) := by decide +kernel
theorem dX1_hear_37 : decode cX1_hear 37 = .ok (.ireturn, 1) := by decide +kernel
theorem dX1_hear_38 : decode cX1_hear 38 = .ok (.aload_n 0, 1) := by decide +kernel
theorem dX1_hear_39 : decode cX1_hear 39 = .ok (.getfield 26, 3) := by decide +kernel
theorem dX1_hear_42 : decode cX1_hear 42 = .ok (.bipush 8, 2) := by decide +kernel
theorem dX1_hear_44 : decode cX1_hear 44 = .ok (.iload_n 1, 1) := by decide +kernel
theorem dX1_hear_45 : decode cX1_hear 45 = .ok (.imul, 1) := by decide +kernel
theorem dX1_hear_46 : decode cX1_hear 46 = .ok (.aload_n 0, 1) := by decide +kernel
theorem dX1_hear_47 : decode cX1_hear 47 = .ok (.getfield 23, 3) := by decide +kernel
theorem dX1_hear_50 : decode cX1_hear 50 = .ok (.iload_n 1, 1) := by decide +kernel
theorem dX1_hear_51 : decode cX1_hear 51 = .ok (.iaload, 1) := by decide +kernel
theorem dX1_hear_52 : decode cX1_hear 52 = .ok (.iadd, 1) := by decide +kernel
theorem dX1_hear_53 : decode cX1_hear 53 = .ok (.iload_n 2, 1) := by decide +kernel
theorem dX1_hear_54 : decode cX1_hear 54 = .ok (.iastore, 1) := by decide +kernel
theorem dX1_hear_55 : decode cX1_hear 55 = .ok (.aload_n 0, 1) := by decide +kernel
theorem dX1_hear_56 : decode cX1_hear 56 = .ok (.getfield 23, 3) := by decide +kernel
theorem dX1_hear_59 : decode cX1_hear 59 = .ok (.iload_n 1, 1) := by decide +kernel
theorem dX1_hear_60 : decode cX1_hear 60 = .ok (.dup2, 1) := by decide +kernel
theorem dX1_hear_61 : decode cX1_hear 61 = .ok (.iaload, 1) := by decide +kernel
theorem dX1_hear_62 : decode cX1_hear 62 = .ok (.iconst 1, 1) := by decide +kernel
theorem dX1_hear_63 : decode cX1_hear 63 = .ok (.iadd, 1) := by decide +kernel
theorem dX1_hear_64 : decode cX1_hear 64 = .ok (.iastore, 1) := by decide +kernel
theorem dX1_hear_65 : decode cX1_hear 65 = .ok (.aload_n 0, 1) := by decide +kernel
theorem dX1_hear_66 : decode cX1_hear 66 = .ok (.getfield 23, 3) := by decide +kernel
theorem dX1_hear_69 : decode cX1_hear 69 = .ok (.iload_n 1, 1) := by decide +kernel
theorem dX1_hear_70 : decode cX1_hear 70 = .ok (.iaload, 1) := by decide +kernel
theorem dX1_hear_71 : decode cX1_hear 71 = .ok (.ireturn, 1) := by decide +kernel
set_option maxRecDepth 20000 in
theorem ggX1_clear_X1_in : GoodIn wsX1_clear wsX1_in := goodIn_r _ [5] (by decide +kernel) (by decide +kernel)
set_option maxRecDepth 20000 in
theorem gX1_clear_X1_in : GoodIn wsX1_clear (va_wsS RX1 46 yX1_in wsX1_in) := goodIn_app (goodIn_of _ (by decide +kernel)) ggX1_clear_X1_in
theorem dX1_clear_0 : decode cX1_clear 0 = .ok (.iload_n 1, 1) := by decide +kernel
theorem dX1_clear_1 : decode cX1_clear 1 = .ok (.iconst 0, 1) := by decide +kernel
theorem dX1_clear_2 : decode cX1_clear 2 = .ok (.iconst 1, 1) := by decide +kernel
theorem dX1_clear_3 : decode cX1_clear 3 = .ok (.invokestatic 46, 3) := by decide +kernel
theorem dX1_clear_6 : decode cX1_clear 6 = .ok (.ifCond .ne 5, 3) := by decide +kernel
theorem dX1_clear_9 : decode cX1_clear 9 = .ok (.iconst (-1), 1) := by decide +kernel
theorem dX1_clear_10 : decode cX1_clear 10 = .ok (.ireturn, 1) := by decide +kernel
theorem dX1_clear_11 : decode cX1_clear 11 = .ok (.aload_n 0, 1) := by decide +kernel
theorem dX1_clear_12 : decode cX1_clear 12 = .ok (.getfield 23, 3) := by decide +kernel
theorem dX1_clear_15 : decode cX1_clear 15 = .ok (.iload_n 1, 1) := by decide +kernel
theorem dX1_clear_16 : decode cX1_clear 16 = .ok (.iaload, 1) := by decide +kernel
theorem dX1_clear_17 : decode cX1_clear 17 = .ok (.istore_n 2, 1) := by decide +kernel
theorem dX1_clear_18 : decode cX1_clear 18 = .ok (.aload_n 0, 1) := by decide +kernel
theorem dX1_clear_19 : decode cX1_clear 19 = .ok (.getfield 23, 3) := by decide +kernel
theorem dX1_clear_22 : decode cX1_clear 22 = .ok (.iload_n 1, 1) := by decide +kernel
theorem dX1_clear_23 : decode cX1_clear 23 = .ok (.iconst 0, 1) := by decide +kernel
theorem dX1_clear_24 : decode cX1_clear 24 = .ok (.iastore, 1) := by decide +kernel
theorem dX1_clear_25 : decode cX1_clear 25 = .ok (.iload_n 2, 1) := by decide +kernel
theorem dX1_clear_26 : decode cX1_clear 26 = .ok (.ireturn, 1) := by decide +kernel
set_option maxRecDepth 20000 in
theorem ggX1_productBy_X1_in : GoodIn wsX1_productBy wsX1_in := goodIn_r _ [6] (by decide +kernel) (by decide +kernel)
set_option maxRecDepth 20000 in
theorem gX1_productBy_X1_in : GoodIn wsX1_productBy (va_wsS RX1 46 yX1_in wsX1_in) := goodIn_app (goodIn_of _ (by decide +kernel)) ggX1_productBy_X1_in
theorem dX1_productBy_0 : decode cX1_productBy 0 = .ok (.iconst 0, 1) := by decide +kernel
theorem dX1_productBy_1 : decode cX1_productBy 1 = .ok (.istore_n 2, 1) := by decide +kernel
theorem dX1_productBy_2 : decode cX1_productBy 2 = .ok (.iconst 0, 1) := by decide +kernel
theorem dX1_productBy_3 : decode cX1_productBy 3 = .ok (.istore_n 3, 1) := by decide +kernel
theorem dX1_productBy_4 : decode cX1_productBy 4 = .ok (.iload_n 3, 1) := by decide +kernel
theorem dX1_productBy_5 : decode cX1_productBy 5 = .ok (.aload_n 0, 1) := by decide +kernel
theorem dX1_productBy_6 : decode cX1_productBy 6 = .ok (.getfield 23, 3) := by decide +kernel
theorem dX1_productBy_9 : decode cX1_productBy 9 = .ok (.iconst 0, 1) := by decide +kernel
theorem dX1_productBy_10 : decode cX1_productBy 10 = .ok (.iaload, 1) := by decide +kernel
theorem dX1_productBy_11 : decode cX1_productBy 11 = .ok (.if_icmp .ge 52, 3) := by decide +kernel
theorem dX1_productBy_14 : decode cX1_productBy 14 = .ok (.iload_n 2, 1) := by decide +kernel
theorem dX1_productBy_15 : decode cX1_productBy 15 = .ok (.iload_n 3, 1) := by decide +kernel
theorem dX1_productBy_16 : decode cX1_productBy 16 = .ok (.iload_n 1, 1) := by decide +kernel
theorem dX1_productBy_17 : decode cX1_productBy 17 = .ok (.iadd, 1) := by decide +kernel
theorem dX1_productBy_18 : decode cX1_productBy 18 = .ok (.iconst 0, 1) := by decide +kernel
theorem dX1_productBy_19 : decode cX1_productBy 19 = .ok (.aload_n 0, 1) := by decide +kernel
theorem dX1_productBy_20 : decode cX1_productBy 20 = .ok (.getfield 23, 3) := by decide +kernel
theorem dX1_productBy_23 : decode cX1_productBy 23 = .ok (.iconst 1, 1) := by decide +kernel
theorem dX1_productBy_24 : decode cX1_productBy 24 = .ok (.iaload, 1) := by decide +kernel
theorem dX1_productBy_25 : decode cX1_productBy 25 = .ok (.iconst 1, 1) := by decide +kernel
theorem dX1_productBy_26 : decode cX1_productBy 26 = .ok (.isub, 1) := by decide +kernel
theorem dX1_productBy_27 : decode cX1_productBy 27 = .ok (.invokestatic 46, 3) := by decide +kernel
theorem dX1_productBy_30 : decode cX1_productBy 30 = .ok (.ifCond .eq 24, 3) := by decide +kernel
theorem dX1_productBy_33 : decode cX1_productBy 33 = .ok (.aload_n 0, 1) := by decide +kernel
theorem dX1_productBy_34 : decode cX1_productBy 34 = .ok (.getfield 26, 3) := by decide +kernel
theorem dX1_productBy_37 : decode cX1_productBy 37 = .ok (.iload_n 3, 1) := by decide +kernel
theorem dX1_productBy_38 : decode cX1_productBy 38 = .ok (.iaload, 1) := by decide +kernel
theorem dX1_productBy_39 : decode cX1_productBy 39 = .ok (.aload_n 0, 1) := by decide +kernel
theorem dX1_productBy_40 : decode cX1_productBy 40 = .ok (.getfield 26, 3) := by decide +kernel
theorem dX1_productBy_43 : decode cX1_productBy 43 = .ok (.bipush 8, 2) := by decide +kernel
theorem dX1_productBy_45 : decode cX1_productBy 45 = .ok (.iload_n 3, 1) := by decide +kernel
theorem dX1_productBy_46 : decode cX1_productBy 46 = .ok (.iadd, 1) := by decide +kernel
theorem dX1_productBy_47 : decode cX1_productBy 47 = .ok (.iload_n 1, 1) := by decide +kernel
theorem dX1_productBy_48 : decode cX1_productBy 48 = .ok (.iadd, 1) := by decide +kernel
theorem dX1_productBy_49 : decode cX1_productBy 49 = .ok (.iaload, 1) := by decide +kernel
theorem dX1_productBy_50 : decode cX1_productBy 50 = .ok (.imul, 1) := by decide +kernel
theorem dX1_productBy_51 : decode cX1_productBy 51 = .ok (.goto 4, 3) := by decide +kernel
theorem dX1_productBy_54 : decode cX1_productBy 54 = .ok (.iconst 0, 1) := by decide +kernel
theorem dX1_productBy_55 : decode cX1_productBy 55 = .ok (.iadd, 1) := by decide +kernel
theorem dX1_productBy_56 : decode cX1_productBy 56 = .ok (.istore_n 2, 1) := by decide +kernel
theorem dX1_productBy_57 : decode cX1_productBy 57 = .ok (.iinc 3 1, 3) := by decide +kernel
theorem dX1_productBy_60 : decode cX1_productBy 60 = .ok (.goto (-56), 3) := by decide +kernel
theorem dX1_productBy_63 : decode cX1_productBy 63 = .ok (.iload_n 2, 1) := by decide +kernel
theorem dX1_productBy_64 : decode cX1_productBy 64 = .ok (.ireturn, 1) := by decide +kernel
set_option maxRecDepth 20000 in
theorem ggX1_later_X1_productBy : GoodIn wsX1_later wsX1_productBy := goodIn_r _ [6, 1, 7, 8, 9, 5, 10, 11, 12, 13, 14, 15, 16, 17, 18, 19, 20, 21, 22, 23] (by decide +kernel) (by decide +kernel)
set_option maxRecDepth 20000 in
theorem gX1_later_X1_productBy : GoodIn wsX1_later (wsV RX1 107 RX1 yX1_productBy wsX1_productBy) := goodIn_app (goodIn_of _ (by decide +kernel)) ggX1_later_X1_productBy
theorem dX1_later_0 : decode cX1_later 0 = .ok (.aload_n 0, 1) := by decide +kernel
theorem dX1_later_1 : decode cX1_later 1 = .ok (.getfield 23, 3) := by decide +kernel
theorem dX1_later_4 : decode cX1_later 4 = .ok (.iconst 0, 1) := by decide +kernel
theorem dX1_later_5 : decode cX1_later 5 = .ok (.iaload, 1) := by decide +kernel
theorem dX1_later_6 : decode cX1_later 6 = .ok (.ifCond .eq 12, 3) := by decide +kernel
theorem dX1_later_9 : decode cX1_later 9 = .ok (.aload_n 0, 1) := by decide +kernel
theorem dX1_later_10 : decode cX1_later 10 = .ok (.getfield 23, 3) := by decide +kernel
theorem dX1_later_13 : decode cX1_later 13 = .ok (.iconst 1, 1) := by decide +kernel
theorem dX1_later_14 : decode cX1_later 14 = .ok (.iaload, 1) := by decide +kernel
theorem dX1_later_15 : decode cX1_later 15 = .ok (.ifCond .ne 6, 3) := by decide +kernel
theorem dX1_later_18 : decode cX1_later 18 = .ok (.bipush (-9), 2) := by decide +kernel
theorem dX1_later_20 : decode cX1_later 20 = .ok (.ireturn, 1) := by decide +kernel
theorem dX1_later_21 : decode cX1_later 21 = .ok (.iconst 0, 1) := by decide +kernel
theorem dX1_later_22 : decode cX1_later 22 = .ok (.istore_n 1, 1) := by decide +kernel
theorem dX1_later_23 : decode cX1_later 23 = .ok (.iconst 1, 1) := by decide +kernel
theorem dX1_later_24 : decode cX1_later 24 = .ok (.istore_n 2, 1) := by decide +kernel
theorem dX1_later_25 : decode cX1_later 25 = .ok (.iload_n 2, 1) := by decide +kernel
theorem dX1_later_26 : decode cX1_later 26 = .ok (.bipush 8, 2) := by decide +kernel
theorem dX1_later_28 : decode cX1_later 28 = .ok (.if_icmp .ge 49, 3) := by decide +kernel
theorem dX1_later_31 : decode cX1_later 31 = .ok (.aload_n 0, 1) := by decide +kernel
theorem dX1_later_32 : decode cX1_later 32 = .ok (.iload_n 2, 1) := by decide +kernel
theorem dX1_later_33 : decode cX1_later 33 = .ok (.ineg, 1) := by decide +kernel
theorem dX1_later_34 : decode cX1_later 34 = .ok (.invokevirtual 107, 3) := by decide +kernel
theorem dX1_later_37 : decode cX1_later 37 = .ok (.aload_n 0, 1) := by decide +kernel
theorem dX1_later_38 : decode cX1_later 38 = .ok (.iload_n 1, 1) := by decide +kernel
theorem dX1_later_39 : decode cX1_later 39 = .ok (.invokevirtual 107, 3) := by decide +kernel
theorem dX1_later_42 : decode cX1_later 42 = .ok (.if_icmp .le 8, 3) := by decide +kernel
theorem dX1_later_45 : decode cX1_later 45 = .ok (.iload_n 2, 1) := by decide +kernel
theorem dX1_later_46 : decode cX1_later 46 = .ok (.ineg, 1) := by decide +kernel
theorem dX1_later_47 : decode cX1_later 47 = .ok (.goto 4, 3) := by decide +kernel
theorem dX1_later_50 : decode cX1_later 50 = .ok (.iload_n 1, 1) := by decide +kernel
theorem dX1_later_51 : decode cX1_later 51 = .ok (.istore_n 1, 1) := by decide +kernel
theorem dX1_later_52 : decode cX1_later 52 = .ok (.aload_n 0, 1) := by decide +kernel
theorem dX1_later_53 : decode cX1_later 53 = .ok (.iload_n 2, 1) := by decide +kernel
theorem dX1_later_54 : decode cX1_later 54 = .ok (.invokevirtual 107, 3) := by decide +kernel
theorem dX1_later_57 : decode cX1_later 57 = .ok (.aload_n 0, 1) := by decide +kernel
theorem dX1_later_58 : decode cX1_later 58 = .ok (.iload_n 1, 1) := by decide +kernel
theorem dX1_later_59 : decode cX1_later 59 = .ok (.invokevirtual 107, 3) := by decide +kernel
theorem dX1_later_62 : decode cX1_later 62 = .ok (.if_icmp .le 7, 3) := by decide +kernel
theorem dX1_later_65 : decode cX1_later 65 = .ok (.iload_n 2, 1) := by decide +kernel
theorem dX1_later_66 : decode cX1_later 66 = .ok (.goto 4, 3) := by decide +kernel
theorem dX1_later_69 : decode cX1_later 69 = .ok (.iload_n 1, 1) := by decide +kernel
theorem dX1_later_70 : decode cX1_later 70 = .ok (.istore_n 1, 1) := by decide +kernel
theorem dX1_later_71 : decode cX1_later 71 = .ok (.iinc 2 1, 3) := by decide +kernel
theorem dX1_later_74 : decode cX1_later 74 = .ok (.goto (-49), 3) := by decide +kernel
theorem dX1_later_77 : decode cX1_later 77 = .ok (.iload_n 1, 1) := by decide +kernel
theorem dX1_later_78 : decode cX1_later 78 = .ok (.ireturn, 1) := by decide +kernel
theorem dX1_numberAt_0 : decode cX1_numberAt 0 = .ok (.iload_n 1, 1) := by decide +kernel
theorem dX1_numberAt_1 : decode cX1_numberAt 1 = .ok (.aload_n 0, 1) := by decide +kernel
theorem dX1_numberAt_2 : decode cX1_numberAt 2 = .ok (.getfield 23, 3) := by decide +kernel
theorem dX1_numberAt_5 : decode cX1_numberAt 5 = .ok (.iconst 0, 1) := by decide +kernel
theorem dX1_numberAt_6 : decode cX1_numberAt 6 = .ok (.iaload, 1) := by decide +kernel
theorem dX1_numberAt_7 : decode cX1_numberAt 7 = .ok (.if_icmp .ge 12, 3) := by decide +kernel
theorem dX1_numberAt_10 : decode cX1_numberAt 10 = .ok (.aload_n 0, 1) := by decide +kernel
theorem dX1_numberAt_11 : decode cX1_numberAt 11 = .ok (.getfield 26, 3) := by decide +kernel
theorem dX1_numberAt_14 : decode cX1_numberAt 14 = .ok (.iload_n 1, 1) := by decide +kernel
theorem dX1_numberAt_15 : decode cX1_numberAt 15 = .ok (.iaload, 1) := by decide +kernel
theorem dX1_numberAt_16 : decode cX1_numberAt 16 = .ok (.goto 4, 3) := by decide +kernel
theorem dX1_numberAt_19 : decode cX1_numberAt 19 = .ok (.iconst 0, 1) := by decide +kernel
theorem dX1_numberAt_20 : decode cX1_numberAt 20 = .ok (.ireturn, 1) := by decide +kernel
set_option maxRecDepth 20000 in
theorem ggX1_turned_X1_in : GoodIn wsX1_turned wsX1_in := goodIn_r _ [5] (by decide +kernel) (by decide +kernel)
set_option maxRecDepth 20000 in
theorem gX1_turned_X1_in : GoodIn wsX1_turned (va_wsS RX1 46 yX1_in wsX1_in) := goodIn_app (goodIn_of _ (by decide +kernel)) ggX1_turned_X1_in
set_option maxRecDepth 20000 in
theorem ggX1_turned_X1_numberAt : GoodIn wsX1_turned wsX1_numberAt := goodIn_r _ [9, 10, 11, 12, 13, 14, 15, 16, 17, 18, 19, 20, 21, 22, 23, 24] (by decide +kernel) (by decide +kernel)
set_option maxRecDepth 20000 in
theorem gX1_turned_X1_numberAt : GoodIn wsX1_turned (wsV RX1 111 RX1 yX1_numberAt wsX1_numberAt) := goodIn_app (goodIn_of _ (by decide +kernel)) ggX1_turned_X1_numberAt
theorem dX1_turned_0 : decode cX1_turned 0 = .ok (.iload_n 1, 1) := by decide +kernel
theorem dX1_turned_1 : decode cX1_turned 1 = .ok (.iconst 0, 1) := by decide +kernel
theorem dX1_turned_2 : decode cX1_turned 2 = .ok (.bipush 7, 2) := by decide +kernel
theorem dX1_turned_4 : decode cX1_turned 4 = .ok (.invokestatic 46, 3) := by decide +kernel
theorem dX1_turned_7 : decode cX1_turned 7 = .ok (.ifCond .eq 12, 3) := by decide +kernel
theorem dX1_turned_10 : decode cX1_turned 10 = .ok (.iload_n 2, 1) := by decide +kernel
theorem dX1_turned_11 : decode cX1_turned 11 = .ok (.iconst 0, 1) := by decide +kernel
theorem dX1_turned_12 : decode cX1_turned 12 = .ok (.iconst 1, 1) := by decide +kernel
theorem dX1_turned_13 : decode cX1_turned 13 = .ok (.invokestatic 46, 3) := by decide +kernel
theorem dX1_turned_16 : decode cX1_turned 16 = .ok (.ifCond .ne 6, 3) := by decide +kernel
theorem dX1_turned_19 : decode cX1_turned 19 = .ok (.ldc 110, 2) := by decide +kernel
theorem dX1_turned_21 : decode cX1_turned 21 = .ok (.ireturn, 1) := by decide +kernel
theorem dX1_turned_22 : decode cX1_turned 22 = .ok (.iload_n 2, 1) := by decide +kernel
theorem dX1_turned_23 : decode cX1_turned 23 = .ok (.iconst 1, 1) := by decide +kernel
theorem dX1_turned_24 : decode cX1_turned 24 = .ok (.if_icmp .ne 9, 3) := by decide +kernel
theorem dX1_turned_27 : decode cX1_turned 27 = .ok (.aload_n 0, 1) := by decide +kernel
theorem dX1_turned_28 : decode cX1_turned 28 = .ok (.iload_n 1, 1) := by decide +kernel
theorem dX1_turned_29 : decode cX1_turned 29 = .ok (.invokevirtual 111, 3) := by decide +kernel
theorem dX1_turned_32 : decode cX1_turned 32 = .ok (.ireturn, 1) := by decide +kernel
theorem dX1_turned_33 : decode cX1_turned 33 = .ok (.iconst 0, 1) := by decide +kernel
theorem dX1_turned_34 : decode cX1_turned 34 = .ok (.istore_n 3, 1) := by decide +kernel
theorem dX1_turned_35 : decode cX1_turned 35 = .ok (.iconst 0, 1) := by decide +kernel
theorem dX1_turned_36 : decode cX1_turned 36 = .ok (.istore 4, 2) := by decide +kernel
theorem dX1_turned_38 : decode cX1_turned 38 = .ok (.iload 4, 2) := by decide +kernel
theorem dX1_turned_40 : decode cX1_turned 40 = .ok (.bipush 8, 2) := by decide +kernel
theorem dX1_turned_42 : decode cX1_turned 42 = .ok (.if_icmp .ge 64, 3) := by decide +kernel
theorem dX1_turned_45 : decode cX1_turned 45 = .ok (.iload_n 1, 1) := by decide +kernel
theorem dX1_turned_46 : decode cX1_turned 46 = .ok (.iload 4, 2) := by decide +kernel
theorem dX1_turned_48 : decode cX1_turned 48 = .ok (.iand, 1) := by decide +kernel
theorem dX1_turned_49 : decode cX1_turned 49 = .ok (.istore 5, 2) := by decide +kernel
theorem dX1_turned_51 : decode cX1_turned 51 = .ok (.iload 5, 2) := by decide +kernel
theorem dX1_turned_53 : decode cX1_turned 53 = .ok (.iload 5, 2) := by decide +kernel
theorem dX1_turned_55 : decode cX1_turned 55 = .ok (.iconst 1, 1) := by decide +kernel
theorem dX1_turned_56 : decode cX1_turned 56 = .ok (.ishr, 1) := by decide +kernel
theorem dX1_turned_57 : decode cX1_turned 57 = .ok (.ixor, 1) := by decide +kernel
theorem dX1_turned_58 : decode cX1_turned 58 = .ok (.iload 5, 2) := by decide +kernel
theorem dX1_turned_60 : decode cX1_turned 60 = .ok (.iconst 2, 1) := by decide +kernel
theorem dX1_turned_61 : decode cX1_turned 61 = .ok (.ishr, 1) := by decide +kernel
theorem dX1_turned_62 : decode cX1_turned 62 = .ok (.ixor, 1) := by decide +kernel
theorem dX1_turned_63 : decode cX1_turned 63 = .ok (.iconst 1, 1) := by decide +kernel
theorem dX1_turned_64 : decode cX1_turned 64 = .ok (.iand, 1) := by decide +kernel
theorem dX1_turned_65 : decode cX1_turned 65 = .ok (.iconst 1, 1) := by decide +kernel
theorem dX1_turned_66 : decode cX1_turned 66 = .ok (.if_icmp .ne 7, 3) := by decide +kernel
theorem dX1_turned_69 : decode cX1_turned 69 = .ok (.iconst 1, 1) := by decide +kernel
theorem dX1_turned_70 : decode cX1_turned 70 = .ok (.goto 4, 3) := by decide +kernel
theorem dX1_turned_73 : decode cX1_turned 73 = .ok (.iconst 0, 1) := by decide +kernel
theorem dX1_turned_74 : decode cX1_turned 74 = .ok (.istore 6, 2) := by decide +kernel
theorem dX1_turned_76 : decode cX1_turned 76 = .ok (.iload_n 3, 1) := by decide +kernel
theorem dX1_turned_77 : decode cX1_turned 77 = .ok (.iload 6, 2) := by decide +kernel
theorem dX1_turned_79 : decode cX1_turned 79 = .ok (.ifCond .eq 13, 3) := by decide +kernel
theorem dX1_turned_82 : decode cX1_turned 82 = .ok (.aload_n 0, 1) := by decide +kernel
theorem dX1_turned_83 : decode cX1_turned 83 = .ok (.iload 4, 2) := by decide +kernel
theorem dX1_turned_85 : decode cX1_turned 85 = .ok (.invokevirtual 111, 3) := by decide +kernel
theorem dX1_turned_88 : decode cX1_turned 88 = .ok (.ineg, 1) := by decide +kernel
theorem dX1_turned_89 : decode cX1_turned 89 = .ok (.goto 9, 3) := by decide +kernel
theorem dX1_turned_92 : decode cX1_turned 92 = .ok (.aload_n 0, 1) := by decide +kernel
theorem dX1_turned_93 : decode cX1_turned 93 = .ok (.iload 4, 2) := by decide +kernel
theorem dX1_turned_95 : decode cX1_turned 95 = .ok (.invokevirtual 111, 3) := by decide +kernel
theorem dX1_turned_98 : decode cX1_turned 98 = .ok (.iadd, 1) := by decide +kernel
theorem dX1_turned_99 : decode cX1_turned 99 = .ok (.istore_n 3, 1) := by decide +kernel
theorem dX1_turned_100 : decode cX1_turned 100 = .ok (.iinc 4 1, 3) := by decide +kernel
theorem dX1_turned_103 : decode cX1_turned 103 = .ok (.goto (-65), 3) := by decide +kernel
theorem dX1_turned_106 : decode cX1_turned 106 = .ok (.iload_n 3, 1) := by decide +kernel
theorem dX1_turned_107 : decode cX1_turned 107 = .ok (.ireturn, 1) := by decide +kernel
set_option maxRecDepth 20000 in
theorem ggX1_truth_X1_isVoice : GoodIn wsX1_truth wsX1_isVoice := goodIn_r _ [6, 7, 8, 9, 5, 10, 17, 18, 19, 20, 21, 22, 23, 24, 25, 26, 27, 28, 29] (by decide +kernel) (by decide +kernel)
set_option maxRecDepth 20000 in
theorem gX1_truth_X1_isVoice : GoodIn wsX1_truth (wsV RX1 69 RX1 yX1_isVoice wsX1_isVoice) := goodIn_app (goodIn_of _ (by decide +kernel)) ggX1_truth_X1_isVoice
set_option maxRecDepth 20000 in
theorem ggX1_truth_X1_isPlace : GoodIn wsX1_truth wsX1_isPlace := goodIn_r _ [14, 15, 16, 8, 9, 5, 10, 17, 18, 19, 20, 21, 22, 23, 24, 25, 26, 27, 28, 29] (by decide +kernel) (by decide +kernel)
set_option maxRecDepth 20000 in
theorem gX1_truth_X1_isPlace : GoodIn wsX1_truth (wsV RX1 50 RX1 yX1_isPlace wsX1_isPlace) := goodIn_app (goodIn_of _ (by decide +kernel)) ggX1_truth_X1_isPlace
set_option maxRecDepth 20000 in
theorem ggX1_truth_X1_in : GoodIn wsX1_truth wsX1_in := goodIn_r _ [10] (by decide +kernel) (by decide +kernel)
set_option maxRecDepth 20000 in
theorem gX1_truth_X1_in : GoodIn wsX1_truth (va_wsS RX1 46 yX1_in wsX1_in) := goodIn_app (goodIn_of _ (by decide +kernel)) ggX1_truth_X1_in
theorem dX1_truth_0 : decode cX1_truth 0 = .ok (.aload_n 0, 1) := by decide +kernel
theorem dX1_truth_1 : decode cX1_truth 1 = .ok (.iload_n 1, 1) := by decide +kernel
theorem dX1_truth_2 : decode cX1_truth 2 = .ok (.invokevirtual 69, 3) := by decide +kernel
theorem dX1_truth_5 : decode cX1_truth 5 = .ok (.ifCond .eq 23, 3) := by decide +kernel
theorem dX1_truth_8 : decode cX1_truth 8 = .ok (.aload_n 0, 1) := by decide +kernel
theorem dX1_truth_9 : decode cX1_truth 9 = .ok (.iload_n 2, 1) := by decide +kernel
theorem dX1_truth_10 : decode cX1_truth 10 = .ok (.iload_n 3, 1) := by decide +kernel
theorem dX1_truth_11 : decode cX1_truth 11 = .ok (.invokevirtual 50, 3) := by decide +kernel
theorem dX1_truth_14 : decode cX1_truth 14 = .ok (.ifCond .eq 14, 3) := by decide +kernel
theorem dX1_truth_17 : decode cX1_truth 17 = .ok (.iload 4, 2) := by decide +kernel
theorem dX1_truth_19 : decode cX1_truth 19 = .ok (.iconst 0, 1) := by decide +kernel
theorem dX1_truth_20 : decode cX1_truth 20 = .ok (.bipush 99, 2) := by decide +kernel
theorem dX1_truth_22 : decode cX1_truth 22 = .ok (.invokestatic 46, 3) := by decide +kernel
theorem dX1_truth_25 : decode cX1_truth 25 = .ok (.ifCond .ne 5, 3) := by decide +kernel
theorem dX1_truth_28 : decode cX1_truth 28 = .ok (.iconst (-1), 1) := by decide +kernel
theorem dX1_truth_29 : decode cX1_truth 29 = .ok (.ireturn, 1) := by decide +kernel
theorem dX1_truth_30 : decode cX1_truth 30 = .ok (.bipush 48, 2) := by decide +kernel
theorem dX1_truth_32 : decode cX1_truth 32 = .ok (.iload_n 1, 1) := by decide +kernel
theorem dX1_truth_33 : decode cX1_truth 33 = .ok (.imul, 1) := by decide +kernel
theorem dX1_truth_34 : decode cX1_truth 34 = .ok (.bipush 8, 2) := by decide +kernel
theorem dX1_truth_36 : decode cX1_truth 36 = .ok (.iload_n 2, 1) := by decide +kernel
theorem dX1_truth_37 : decode cX1_truth 37 = .ok (.imul, 1) := by decide +kernel
theorem dX1_truth_38 : decode cX1_truth 38 = .ok (.iadd, 1) := by decide +kernel
theorem dX1_truth_39 : decode cX1_truth 39 = .ok (.iload_n 3, 1) := by decide +kernel
theorem dX1_truth_40 : decode cX1_truth 40 = .ok (.iadd, 1) := by decide +kernel
theorem dX1_truth_41 : decode cX1_truth 41 = .ok (.istore 5, 2) := by decide +kernel
theorem dX1_truth_43 : decode cX1_truth 43 = .ok (.aload_n 0, 1) := by decide +kernel
theorem dX1_truth_44 : decode cX1_truth 44 = .ok (.getfield 20, 3) := by decide +kernel
theorem dX1_truth_47 : decode cX1_truth 47 = .ok (.iload 5, 2) := by decide +kernel
theorem dX1_truth_49 : decode cX1_truth 49 = .ok (.iaload, 1) := by decide +kernel
theorem dX1_truth_50 : decode cX1_truth 50 = .ok (.istore 6, 2) := by decide +kernel
theorem dX1_truth_52 : decode cX1_truth 52 = .ok (.aload_n 0, 1) := by decide +kernel
theorem dX1_truth_53 : decode cX1_truth 53 = .ok (.getfield 20, 3) := by decide +kernel
theorem dX1_truth_56 : decode cX1_truth 56 = .ok (.iload 5, 2) := by decide +kernel
theorem dX1_truth_58 : decode cX1_truth 58 = .ok (.iload 4, 2) := by decide +kernel
theorem dX1_truth_60 : decode cX1_truth 60 = .ok (.iastore, 1) := by decide +kernel
theorem dX1_truth_61 : decode cX1_truth 61 = .ok (.iload 6, 2) := by decide +kernel
theorem dX1_truth_63 : decode cX1_truth 63 = .ok (.ireturn, 1) := by decide +kernel
theorem dX1_orders_0 : decode cX1_orders 0 = .ok (.aload_n 0, 1) := by decide +kernel
theorem dX1_orders_1 : decode cX1_orders 1 = .ok (.getfield 43, 3) := by decide +kernel
theorem dX1_orders_4 : decode cX1_orders 4 = .ok (.iconst 3, 1) := by decide +kernel
theorem dX1_orders_5 : decode cX1_orders 5 = .ok (.if_icmp .ne 8, 3) := by decide +kernel
theorem dX1_orders_8 : decode cX1_orders 8 = .ok (.bipush 6, 2) := by decide +kernel
theorem dX1_orders_10 : decode cX1_orders 10 = .ok (.goto 7, 3) := by decide +kernel
theorem dX1_orders_13 : decode cX1_orders 13 = .ok (.aload_n 0, 1) := by decide +kernel
theorem dX1_orders_14 : decode cX1_orders 14 = .ok (.getfield 43, 3) := by decide +kernel
theorem dX1_orders_17 : decode cX1_orders 17 = .ok (.ireturn, 1) := by decide +kernel
theorem dX1_ofOrder_0 : decode cX1_ofOrder 0 = .ok (.aload_n 0, 1) := by decide +kernel
theorem dX1_ofOrder_1 : decode cX1_ofOrder 1 = .ok (.getfield 43, 3) := by decide +kernel
theorem dX1_ofOrder_4 : decode cX1_ofOrder 4 = .ok (.iconst 3, 1) := by decide +kernel
theorem dX1_ofOrder_5 : decode cX1_ofOrder 5 = .ok (.if_icmp .ge 21, 3) := by decide +kernel
theorem dX1_ofOrder_8 : decode cX1_ofOrder 8 = .ok (.aload_n 0, 1) := by decide +kernel
theorem dX1_ofOrder_9 : decode cX1_ofOrder 9 = .ok (.getfield 43, 3) := by decide +kernel
theorem dX1_ofOrder_12 : decode cX1_ofOrder 12 = .ok (.iconst 1, 1) := by decide +kernel
theorem dX1_ofOrder_13 : decode cX1_ofOrder 13 = .ok (.if_icmp .ne 7, 3) := by decide +kernel
theorem dX1_ofOrder_16 : decode cX1_ofOrder 16 = .ok (.iconst 0, 1) := by decide +kernel
theorem dX1_ofOrder_17 : decode cX1_ofOrder 17 = .ok (.goto 8, 3) := by decide +kernel
theorem dX1_ofOrder_20 : decode cX1_ofOrder 20 = .ok (.iload_n 1, 1) := by decide +kernel
theorem dX1_ofOrder_21 : decode cX1_ofOrder 21 = .ok (.iload_n 2, 1) := by decide +kernel
theorem dX1_ofOrder_22 : decode cX1_ofOrder 22 = .ok (.iadd, 1) := by decide +kernel
theorem dX1_ofOrder_23 : decode cX1_ofOrder 23 = .ok (.iconst 2, 1) := by decide +kernel
theorem dX1_ofOrder_24 : decode cX1_ofOrder 24 = .ok (.irem, 1) := by decide +kernel
theorem dX1_ofOrder_25 : decode cX1_ofOrder 25 = .ok (.ireturn, 1) := by decide +kernel
theorem dX1_ofOrder_26 : decode cX1_ofOrder 26 = .ok (.iload_n 1, 1) := by decide +kernel
theorem dX1_ofOrder_27 : decode cX1_ofOrder 27 = .ok (.iconst 2, 1) := by decide +kernel
theorem dX1_ofOrder_28 : decode cX1_ofOrder 28 = .ok (.idiv, 1) := by decide +kernel
theorem dX1_ofOrder_29 : decode cX1_ofOrder 29 = .ok (.istore_n 3, 1) := by decide +kernel
theorem dX1_ofOrder_30 : decode cX1_ofOrder 30 = .ok (.iload_n 3, 1) := by decide +kernel
theorem dX1_ofOrder_31 : decode cX1_ofOrder 31 = .ok (.ifCond .ne 7, 3) := by decide +kernel
theorem dX1_ofOrder_34 : decode cX1_ofOrder 34 = .ok (.iconst 1, 1) := by decide +kernel
theorem dX1_ofOrder_35 : decode cX1_ofOrder 35 = .ok (.goto 4, 3) := by decide +kernel
theorem dX1_ofOrder_38 : decode cX1_ofOrder 38 = .ok (.iconst 0, 1) := by decide +kernel
theorem dX1_ofOrder_39 : decode cX1_ofOrder 39 = .ok (.istore 4, 2) := by decide +kernel
theorem dX1_ofOrder_41 : decode cX1_ofOrder 41 = .ok (.iload_n 3, 1) := by decide +kernel
theorem dX1_ofOrder_42 : decode cX1_ofOrder 42 = .ok (.iconst 2, 1) := by decide +kernel
theorem dX1_ofOrder_43 : decode cX1_ofOrder 43 = .ok (.if_icmp .ne 7, 3) := by decide +kernel
theorem dX1_ofOrder_46 : decode cX1_ofOrder 46 = .ok (.iconst 1, 1) := by decide +kernel
theorem dX1_ofOrder_47 : decode cX1_ofOrder 47 = .ok (.goto 4, 3) := by decide +kernel
theorem dX1_ofOrder_50 : decode cX1_ofOrder 50 = .ok (.iconst 2, 1) := by decide +kernel
theorem dX1_ofOrder_51 : decode cX1_ofOrder 51 = .ok (.istore 5, 2) := by decide +kernel
theorem dX1_ofOrder_53 : decode cX1_ofOrder 53 = .ok (.iload_n 2, 1) := by decide +kernel
theorem dX1_ofOrder_54 : decode cX1_ofOrder 54 = .ok (.ifCond .ne 7, 3) := by decide +kernel
theorem dX1_ofOrder_57 : decode cX1_ofOrder 57 = .ok (.iload_n 3, 1) := by decide +kernel
theorem dX1_ofOrder_58 : decode cX1_ofOrder 58 = .ok (.goto 34, 3) := by decide +kernel
theorem dX1_ofOrder_61 : decode cX1_ofOrder 61 = .ok (.iload_n 2, 1) := by decide +kernel
theorem dX1_ofOrder_62 : decode cX1_ofOrder 62 = .ok (.iconst 1, 1) := by decide +kernel
theorem dX1_ofOrder_63 : decode cX1_ofOrder 63 = .ok (.if_icmp .ne 7, 3) := by decide +kernel
theorem dX1_ofOrder_66 : decode cX1_ofOrder 66 = .ok (.iconst 1, 1) := by decide +kernel
theorem dX1_ofOrder_67 : decode cX1_ofOrder 67 = .ok (.goto 4, 3) := by decide +kernel
theorem dX1_ofOrder_70 : decode cX1_ofOrder 70 = .ok (.iconst 0, 1) := by decide +kernel
theorem dX1_ofOrder_71 : decode cX1_ofOrder 71 = .ok (.iload_n 1, 1) := by decide +kernel
theorem dX1_ofOrder_72 : decode cX1_ofOrder 72 = .ok (.iconst 2, 1) := by decide +kernel
theorem dX1_ofOrder_73 : decode cX1_ofOrder 73 = .ok (.irem, 1) := by decide +kernel
theorem dX1_ofOrder_74 : decode cX1_ofOrder 74 = .ok (.ifCond .ne 7, 3) := by decide +kernel
theorem dX1_ofOrder_77 : decode cX1_ofOrder 77 = .ok (.iconst 1, 1) := by decide +kernel
theorem dX1_ofOrder_78 : decode cX1_ofOrder 78 = .ok (.goto 4, 3) := by decide +kernel
theorem dX1_ofOrder_81 : decode cX1_ofOrder 81 = .ok (.iconst 0, 1) := by decide +kernel
theorem dX1_ofOrder_82 : decode cX1_ofOrder 82 = .ok (.if_icmp .ne 8, 3) := by decide +kernel
theorem dX1_ofOrder_85 : decode cX1_ofOrder 85 = .ok (.iload 4, 2) := by decide +kernel
theorem dX1_ofOrder_87 : decode cX1_ofOrder 87 = .ok (.goto 5, 3) := by decide +kernel
theorem dX1_ofOrder_90 : decode cX1_ofOrder 90 = .ok (.iload 5, 2) := by decide +kernel
theorem dX1_ofOrder_92 : decode cX1_ofOrder 92 = .ok (.ireturn, 1) := by decide +kernel
set_option maxRecDepth 20000 in
theorem ggX1_apartBy_X1_shareOf : GoodIn wsX1_apartBy wsX1_shareOf := goodIn_r _ [9, 10, 1, 11, 12, 13, 8, 14, 15, 16, 17, 18, 19, 27, 28, 29, 30, 31, 32, 33, 34, 35, 36, 37, 38, 39] (by decide +kernel) (by decide +kernel)
set_option maxRecDepth 20000 in
theorem gX1_apartBy_X1_shareOf : GoodIn wsX1_apartBy (wsV RX1 104 RX1 yX1_shareOf wsX1_shareOf) := goodIn_app (goodIn_of _ (by decide +kernel)) ggX1_apartBy_X1_shareOf
set_option maxRecDepth 20000 in
theorem ggX1_apartBy_X1_ofOrder : GoodIn wsX1_apartBy wsX1_ofOrder := goodIn_r _ [23, 1, 27, 28, 29, 30, 31, 32, 33, 34, 35, 36, 37, 38, 39] (by decide +kernel) (by decide +kernel)
set_option maxRecDepth 20000 in
theorem gX1_apartBy_X1_ofOrder : GoodIn wsX1_apartBy (wsV RX1 114 RX1 yX1_ofOrder wsX1_ofOrder) := goodIn_app (goodIn_of _ (by decide +kernel)) ggX1_apartBy_X1_ofOrder
set_option maxRecDepth 20000 in
theorem ggX1_apartBy_X1_size : GoodIn wsX1_apartBy wsX1_size := goodIn_r _ [26] (by decide +kernel) (by decide +kernel)
set_option maxRecDepth 20000 in
theorem gX1_apartBy_X1_size : GoodIn wsX1_apartBy (va_wsS RX1 90 yX1_size wsX1_size) := goodIn_app (goodIn_of _ (by decide +kernel)) ggX1_apartBy_X1_size
theorem dX1_apartBy_0 : decode cX1_apartBy 0 = .ok (.iconst 0, 1) := by decide +kernel
theorem dX1_apartBy_1 : decode cX1_apartBy 1 = .ok (.istore_n 2, 1) := by decide +kernel
theorem dX1_apartBy_2 : decode cX1_apartBy 2 = .ok (.iconst 0, 1) := by decide +kernel
theorem dX1_apartBy_3 : decode cX1_apartBy 3 = .ok (.istore_n 3, 1) := by decide +kernel
theorem dX1_apartBy_4 : decode cX1_apartBy 4 = .ok (.iload_n 3, 1) := by decide +kernel
theorem dX1_apartBy_5 : decode cX1_apartBy 5 = .ok (.aload_n 0, 1) := by decide +kernel
theorem dX1_apartBy_6 : decode cX1_apartBy 6 = .ok (.getfield 43, 3) := by decide +kernel
theorem dX1_apartBy_9 : decode cX1_apartBy 9 = .ok (.if_icmp .ge 84, 3) := by decide +kernel
theorem dX1_apartBy_12 : decode cX1_apartBy 12 = .ok (.iconst 0, 1) := by decide +kernel
theorem dX1_apartBy_13 : decode cX1_apartBy 13 = .ok (.istore 4, 2) := by decide +kernel
theorem dX1_apartBy_15 : decode cX1_apartBy 15 = .ok (.iload 4, 2) := by decide +kernel
theorem dX1_apartBy_17 : decode cX1_apartBy 17 = .ok (.aload_n 0, 1) := by decide +kernel
theorem dX1_apartBy_18 : decode cX1_apartBy 18 = .ok (.getfield 36, 3) := by decide +kernel
theorem dX1_apartBy_21 : decode cX1_apartBy 21 = .ok (.if_icmp .ge 66, 3) := by decide +kernel
theorem dX1_apartBy_24 : decode cX1_apartBy 24 = .ok (.iconst 0, 1) := by decide +kernel
theorem dX1_apartBy_25 : decode cX1_apartBy 25 = .ok (.istore 5, 2) := by decide +kernel
theorem dX1_apartBy_27 : decode cX1_apartBy 27 = .ok (.iload 5, 2) := by decide +kernel
theorem dX1_apartBy_29 : decode cX1_apartBy 29 = .ok (.aload_n 0, 1) := by decide +kernel
theorem dX1_apartBy_30 : decode cX1_apartBy 30 = .ok (.getfield 40, 3) := by decide +kernel
theorem dX1_apartBy_33 : decode cX1_apartBy 33 = .ok (.if_icmp .ge 48, 3) := by decide +kernel
theorem dX1_apartBy_36 : decode cX1_apartBy 36 = .ok (.iload_n 2, 1) := by decide +kernel
theorem dX1_apartBy_37 : decode cX1_apartBy 37 = .ok (.aload_n 0, 1) := by decide +kernel
theorem dX1_apartBy_38 : decode cX1_apartBy 38 = .ok (.iload_n 3, 1) := by decide +kernel
theorem dX1_apartBy_39 : decode cX1_apartBy 39 = .ok (.iload 4, 2) := by decide +kernel
theorem dX1_apartBy_41 : decode cX1_apartBy 41 = .ok (.iload 5, 2) := by decide +kernel
theorem dX1_apartBy_43 : decode cX1_apartBy 43 = .ok (.invokevirtual 104, 3) := by decide +kernel
theorem dX1_apartBy_46 : decode cX1_apartBy 46 = .ok (.aload_n 0, 1) := by decide +kernel
theorem dX1_apartBy_47 : decode cX1_apartBy 47 = .ok (.getfield 20, 3) := by decide +kernel
theorem dX1_apartBy_50 : decode cX1_apartBy 50 = .ok (.bipush 48, 2) := by decide +kernel
theorem dX1_apartBy_52 : decode cX1_apartBy 52 = .ok (.aload_n 0, 1) := by decide +kernel
theorem dX1_apartBy_53 : decode cX1_apartBy 53 = .ok (.iload_n 1, 1) := by decide +kernel
theorem dX1_apartBy_54 : decode cX1_apartBy 54 = .ok (.iload_n 3, 1) := by decide +kernel
theorem dX1_apartBy_55 : decode cX1_apartBy 55 = .ok (.invokevirtual 114, 3) := by decide +kernel
theorem dX1_apartBy_58 : decode cX1_apartBy 58 = .ok (.imul, 1) := by decide +kernel
theorem dX1_apartBy_59 : decode cX1_apartBy 59 = .ok (.bipush 8, 2) := by decide +kernel
theorem dX1_apartBy_61 : decode cX1_apartBy 61 = .ok (.iload 4, 2) := by decide +kernel
theorem dX1_apartBy_63 : decode cX1_apartBy 63 = .ok (.imul, 1) := by decide +kernel
theorem dX1_apartBy_64 : decode cX1_apartBy 64 = .ok (.iadd, 1) := by decide +kernel
theorem dX1_apartBy_65 : decode cX1_apartBy 65 = .ok (.iload 5, 2) := by decide +kernel
theorem dX1_apartBy_67 : decode cX1_apartBy 67 = .ok (.iadd, 1) := by decide +kernel
theorem dX1_apartBy_68 : decode cX1_apartBy 68 = .ok (.iaload, 1) := by decide +kernel
theorem dX1_apartBy_69 : decode cX1_apartBy 69 = .ok (.isub, 1) := by decide +kernel
theorem dX1_apartBy_70 : decode cX1_apartBy 70 = .ok (.invokestatic 90, 3) := by decide +kernel
theorem dX1_apartBy_73 : decode cX1_apartBy 73 = .ok (.iadd, 1) := by decide +kernel
theorem dX1_apartBy_74 : decode cX1_apartBy 74 = .ok (.istore_n 2, 1) := by decide +kernel
theorem dX1_apartBy_75 : decode cX1_apartBy 75 = .ok (.iinc 5 1, 3) := by decide +kernel
theorem dX1_apartBy_78 : decode cX1_apartBy 78 = .ok (.goto (-51), 3) := by decide +kernel
theorem dX1_apartBy_81 : decode cX1_apartBy 81 = .ok (.iinc 4 1, 3) := by decide +kernel
theorem dX1_apartBy_84 : decode cX1_apartBy 84 = .ok (.goto (-69), 3) := by decide +kernel
theorem dX1_apartBy_87 : decode cX1_apartBy 87 = .ok (.iinc 3 1, 3) := by decide +kernel
theorem dX1_apartBy_90 : decode cX1_apartBy 90 = .ok (.goto (-86), 3) := by decide +kernel
theorem dX1_apartBy_93 : decode cX1_apartBy 93 = .ok (.iload_n 2, 1) := by decide +kernel
theorem dX1_apartBy_94 : decode cX1_apartBy 94 = .ok (.ireturn, 1) := by decide +kernel
set_option maxRecDepth 20000 in
theorem ggX1_apart_X1_orders : GoodIn wsX1_apart wsX1_orders := goodIn_r _ [5, 6, 38, 39, 40, 41, 42, 43, 44, 45, 46, 47, 48, 49, 50] (by decide +kernel) (by decide +kernel)
set_option maxRecDepth 20000 in
theorem gX1_apart_X1_orders : GoodIn wsX1_apart (wsV RX1 117 RX1 yX1_orders wsX1_orders) := goodIn_app (goodIn_of _ (by decide +kernel)) ggX1_apart_X1_orders
set_option maxRecDepth 20000 in
theorem ggX1_apart_X1_in : GoodIn wsX1_apart wsX1_in := goodIn_r _ [9] (by decide +kernel) (by decide +kernel)
set_option maxRecDepth 20000 in
theorem gX1_apart_X1_in : GoodIn wsX1_apart (va_wsS RX1 46 yX1_in wsX1_in) := goodIn_app (goodIn_of _ (by decide +kernel)) ggX1_apart_X1_in
set_option maxRecDepth 20000 in
theorem ggX1_apart_X1_apartBy : GoodIn wsX1_apart wsX1_apartBy := goodIn_r _ [13, 6, 14, 15, 16, 17, 18, 19, 4, 20, 21, 22, 23, 24, 25, 26, 27, 28, 29, 30, 31, 32, 33, 34, 35, 36, 37, 38, 39, 40, 41, 42, 43, 44, 45, 46, 47, 48, 49, 50] (by decide +kernel) (by decide +kernel)
set_option maxRecDepth 20000 in
theorem gX1_apart_X1_apartBy : GoodIn wsX1_apart (wsV RX1 120 RX1 yX1_apartBy wsX1_apartBy) := goodIn_app (goodIn_of _ (by decide +kernel)) ggX1_apart_X1_apartBy
theorem dX1_apart_0 : decode cX1_apart 0 = .ok (.iload_n 1, 1) := by decide +kernel
theorem dX1_apart_1 : decode cX1_apart 1 = .ok (.iconst 0, 1) := by decide +kernel
theorem dX1_apart_2 : decode cX1_apart 2 = .ok (.aload_n 0, 1) := by decide +kernel
theorem dX1_apart_3 : decode cX1_apart 3 = .ok (.invokevirtual 117, 3) := by decide +kernel
theorem dX1_apart_6 : decode cX1_apart 6 = .ok (.iconst 1, 1) := by decide +kernel
theorem dX1_apart_7 : decode cX1_apart 7 = .ok (.isub, 1) := by decide +kernel
theorem dX1_apart_8 : decode cX1_apart 8 = .ok (.invokestatic 46, 3) := by decide +kernel
theorem dX1_apart_11 : decode cX1_apart 11 = .ok (.ifCond .eq 11, 3) := by decide +kernel
theorem dX1_apart_14 : decode cX1_apart 14 = .ok (.aload_n 0, 1) := by decide +kernel
theorem dX1_apart_15 : decode cX1_apart 15 = .ok (.iload_n 1, 1) := by decide +kernel
theorem dX1_apart_16 : decode cX1_apart 16 = .ok (.invokevirtual 120, 3) := by decide +kernel
theorem dX1_apart_19 : decode cX1_apart 19 = .ok (.goto 4, 3) := by decide +kernel
theorem dX1_apart_22 : decode cX1_apart 22 = .ok (.iconst (-1), 1) := by decide +kernel
theorem dX1_apart_23 : decode cX1_apart 23 = .ok (.ireturn, 1) := by decide +kernel
set_option maxRecDepth 20000 in
theorem ggX1_order_X1_orders : GoodIn wsX1_order wsX1_orders := goodIn_r _ [5, 6, 35, 36, 37, 38, 39, 40, 41, 42, 43, 44, 45, 46, 47] (by decide +kernel) (by decide +kernel)
set_option maxRecDepth 20000 in
theorem gX1_order_X1_orders : GoodIn wsX1_order (wsV RX1 117 RX1 yX1_orders wsX1_orders) := goodIn_app (goodIn_of _ (by decide +kernel)) ggX1_order_X1_orders
set_option maxRecDepth 20000 in
theorem ggX1_order_X1_apartBy : GoodIn wsX1_order wsX1_apartBy := goodIn_r _ [10, 6, 11, 12, 13, 14, 15, 16, 4, 17, 18, 19, 20, 21, 22, 23, 24, 25, 26, 27, 28, 29, 30, 31, 32, 33, 34, 35, 36, 37, 38, 39, 40, 41, 42, 43, 44, 45, 46, 47] (by decide +kernel) (by decide +kernel)
set_option maxRecDepth 20000 in
theorem gX1_order_X1_apartBy : GoodIn wsX1_order (wsV RX1 120 RX1 yX1_apartBy wsX1_apartBy) := goodIn_app (goodIn_of _ (by decide +kernel)) ggX1_order_X1_apartBy
theorem dX1_order_0 : decode cX1_order 0 = .ok (.iconst 0, 1) := by decide +kernel
theorem dX1_order_1 : decode cX1_order 1 = .ok (.istore_n 1, 1) := by decide +kernel
theorem dX1_order_2 : decode cX1_order 2 = .ok (.iconst 1, 1) := by decide +kernel
theorem dX1_order_3 : decode cX1_order 3 = .ok (.istore_n 2, 1) := by decide +kernel
theorem dX1_order_4 : decode cX1_order 4 = .ok (.iload_n 2, 1) := by decide +kernel
theorem dX1_order_5 : decode cX1_order 5 = .ok (.aload_n 0, 1) := by decide +kernel
theorem dX1_order_6 : decode cX1_order 6 = .ok (.invokevirtual 117, 3) := by decide +kernel
theorem dX1_order_9 : decode cX1_order 9 = .ok (.if_icmp .ge 28, 3) := by decide +kernel
theorem dX1_order_12 : decode cX1_order 12 = .ok (.aload_n 0, 1) := by decide +kernel
theorem dX1_order_13 : decode cX1_order 13 = .ok (.iload_n 2, 1) := by decide +kernel
theorem dX1_order_14 : decode cX1_order 14 = .ok (.invokevirtual 120, 3) := by decide +kernel
theorem dX1_order_17 : decode cX1_order 17 = .ok (.aload_n 0, 1) := by decide +kernel
theorem dX1_order_18 : decode cX1_order 18 = .ok (.iload_n 1, 1) := by decide +kernel
theorem dX1_order_19 : decode cX1_order 19 = .ok (.invokevirtual 120, 3) := by decide +kernel
theorem dX1_order_22 : decode cX1_order 22 = .ok (.if_icmp .ge 7, 3) := by decide +kernel
theorem dX1_order_25 : decode cX1_order 25 = .ok (.iload_n 2, 1) := by decide +kernel
theorem dX1_order_26 : decode cX1_order 26 = .ok (.goto 4, 3) := by decide +kernel
theorem dX1_order_29 : decode cX1_order 29 = .ok (.iload_n 1, 1) := by decide +kernel
theorem dX1_order_30 : decode cX1_order 30 = .ok (.istore_n 1, 1) := by decide +kernel
theorem dX1_order_31 : decode cX1_order 31 = .ok (.iinc 2 1, 3) := by decide +kernel
theorem dX1_order_34 : decode cX1_order 34 = .ok (.goto (-30), 3) := by decide +kernel
theorem dX1_order_37 : decode cX1_order 37 = .ok (.iload_n 1, 1) := by decide +kernel
theorem dX1_order_38 : decode cX1_order 38 = .ok (.ireturn, 1) := by decide +kernel
theorem dX1_count_0 : decode cX1_count 0 = .ok (.iconst 0, 1) := by decide +kernel
theorem dX1_count_1 : decode cX1_count 1 = .ok (.istore_n 2, 1) := by decide +kernel
theorem dX1_count_2 : decode cX1_count 2 = .ok (.iload_n 1, 1) := by decide +kernel
theorem dX1_count_3 : decode cX1_count 3 = .ok (.tableswitch 117 0 7 #[45, 50, 55, 60, 65, 98, 105, 112], 45) := by decide +kernel
theorem dX1_count_48 : decode cX1_count 48 = .ok (.aload_n 0, 1) := by decide +kernel
theorem dX1_count_49 : decode cX1_count 49 = .ok (.getfield 36, 3) := by decide +kernel
theorem dX1_count_52 : decode cX1_count 52 = .ok (.ireturn, 1) := by decide +kernel
theorem dX1_count_53 : decode cX1_count 53 = .ok (.aload_n 0, 1) := by decide +kernel
theorem dX1_count_54 : decode cX1_count 54 = .ok (.getfield 40, 3) := by decide +kernel
theorem dX1_count_57 : decode cX1_count 57 = .ok (.ireturn, 1) := by decide +kernel
theorem dX1_count_58 : decode cX1_count 58 = .ok (.aload_n 0, 1) := by decide +kernel
theorem dX1_count_59 : decode cX1_count 59 = .ok (.getfield 43, 3) := by decide +kernel
theorem dX1_count_62 : decode cX1_count 62 = .ok (.ireturn, 1) := by decide +kernel
theorem dX1_count_63 : decode cX1_count 63 = .ok (.aload_n 0, 1) := by decide +kernel
theorem dX1_count_64 : decode cX1_count 64 = .ok (.getfield 76, 3) := by decide +kernel
theorem dX1_count_67 : decode cX1_count 67 = .ok (.ireturn, 1) := by decide +kernel
theorem dX1_count_68 : decode cX1_count 68 = .ok (.iconst 0, 1) := by decide +kernel
theorem dX1_count_69 : decode cX1_count 69 = .ok (.istore_n 3, 1) := by decide +kernel
theorem dX1_count_70 : decode cX1_count 70 = .ok (.iload_n 3, 1) := by decide +kernel
theorem dX1_count_71 : decode cX1_count 71 = .ok (.bipush 48, 2) := by decide +kernel
theorem dX1_count_73 : decode cX1_count 73 = .ok (.if_icmp .ge 26, 3) := by decide +kernel
theorem dX1_count_76 : decode cX1_count 76 = .ok (.iload_n 2, 1) := by decide +kernel
theorem dX1_count_77 : decode cX1_count 77 = .ok (.aload_n 0, 1) := by decide +kernel
theorem dX1_count_78 : decode cX1_count 78 = .ok (.getfield 16, 3) := by decide +kernel
theorem dX1_count_81 : decode cX1_count 81 = .ok (.iload_n 3, 1) := by decide +kernel
theorem dX1_count_82 : decode cX1_count 82 = .ok (.baload, 1) := by decide +kernel
theorem dX1_count_83 : decode cX1_count 83 = .ok (.ifCond .eq 7, 3) := by decide +kernel
theorem dX1_count_86 : decode cX1_count 86 = .ok (.iconst 1, 1) := by decide +kernel
theorem dX1_count_87 : decode cX1_count 87 = .ok (.goto 4, 3) := by decide +kernel
theorem dX1_count_90 : decode cX1_count 90 = .ok (.iconst 0, 1) := by decide +kernel
theorem dX1_count_91 : decode cX1_count 91 = .ok (.iadd, 1) := by decide +kernel
theorem dX1_count_92 : decode cX1_count 92 = .ok (.istore_n 2, 1) := by decide +kernel
theorem dX1_count_93 : decode cX1_count 93 = .ok (.iinc 3 1, 3) := by decide +kernel
theorem dX1_count_96 : decode cX1_count 96 = .ok (.goto (-26), 3) := by decide +kernel
theorem dX1_count_99 : decode cX1_count 99 = .ok (.iload_n 2, 1) := by decide +kernel
theorem dX1_count_100 : decode cX1_count 100 = .ok (.ireturn, 1) := by decide +kernel
theorem dX1_count_101 : decode cX1_count 101 = .ok (.aload_n 0, 1) := by decide +kernel
theorem dX1_count_102 : decode cX1_count 102 = .ok (.getfield 23, 3) := by decide +kernel
theorem dX1_count_105 : decode cX1_count 105 = .ok (.iconst 0, 1) := by decide +kernel
theorem dX1_count_106 : decode cX1_count 106 = .ok (.iaload, 1) := by decide +kernel
theorem dX1_count_107 : decode cX1_count 107 = .ok (.ireturn, 1) := by decide +kernel
theorem dX1_count_108 : decode cX1_count 108 = .ok (.aload_n 0, 1) := by decide +kernel
theorem dX1_count_109 : decode cX1_count 109 = .ok (.getfield 23, 3) := by decide +kernel
theorem dX1_count_112 : decode cX1_count 112 = .ok (.iconst 1, 1) := by decide +kernel
theorem dX1_count_113 : decode cX1_count 113 = .ok (.iaload, 1) := by decide +kernel
theorem dX1_count_114 : decode cX1_count 114 = .ok (.ireturn, 1) := by decide +kernel
theorem dX1_count_115 : decode cX1_count 115 = .ok (.aload_n 0, 1) := by decide +kernel
theorem dX1_count_116 : decode cX1_count 116 = .ok (.getfield 101, 3) := by decide +kernel
theorem dX1_count_119 : decode cX1_count 119 = .ok (.ireturn, 1) := by decide +kernel
theorem dX1_count_120 : decode cX1_count 120 = .ok (.iconst (-1), 1) := by decide +kernel
theorem dX1_count_121 : decode cX1_count 121 = .ok (.ireturn, 1) := by decide +kernel
theorem dX1_trace_0 : decode cX1_trace 0 = .ok (.aload_n 0, 1) := by decide +kernel
theorem dX1_trace_1 : decode cX1_trace 1 = .ok (.getfield 79, 3) := by decide +kernel
theorem dX1_trace_4 : decode cX1_trace 4 = .ok (.lreturn, 1) := by decide +kernel
