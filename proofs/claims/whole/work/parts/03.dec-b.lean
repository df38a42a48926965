theorem dX4_init_0 : decode cX4_init 0 = .ok (.aload_n 0, 1) := by decide +kernel
theorem dX4_init_1 : decode cX4_init 1 = .ok (.invokespecial 3, 3) := by decide +kernel
theorem dX4_init_4 : decode cX4_init 4 = .ok (.aload_n 0, 1) := by decide +kernel
theorem dX4_init_5 : decode cX4_init 5 = .ok (.iload_n 1, 1) := by decide +kernel
theorem dX4_init_6 : decode cX4_init 6 = .ok (.iconst 0, 1) := by decide +kernel
theorem dX4_init_7 : decode cX4_init 7 = .ok (.invokestatic 9, 3) := by decide +kernel
theorem dX4_init_10 : decode cX4_init 10 = .ok (.newarray .int, 2) := by decide +kernel
theorem dX4_init_12 : decode cX4_init 12 = .ok (.putfield 15, 3) := by decide +kernel
theorem dX4_init_15 : decode cX4_init 15 = .ok (.return_, 1) := by decide +kernel
theorem dX4_makeEmpty_0 : decode cX4_makeEmpty 0 = .ok (.aload_n 0, 1) := by decide +kernel
theorem dX4_makeEmpty_1 : decode cX4_makeEmpty 1 = .ok (.iconst 0, 1) := by decide +kernel
theorem dX4_makeEmpty_2 : decode cX4_makeEmpty 2 = .ok (.putfield 21, 3) := by decide +kernel
theorem dX4_makeEmpty_5 : decode cX4_makeEmpty 5 = .ok (.aload_n 0, 1) := by decide +kernel
theorem dX4_makeEmpty_6 : decode cX4_makeEmpty 6 = .ok (.iconst 0, 1) := by decide +kernel
theorem dX4_makeEmpty_7 : decode cX4_makeEmpty 7 = .ok (.putfield 25, 3) := by decide +kernel
theorem dX4_makeEmpty_10 : decode cX4_makeEmpty 10 = .ok (.return_, 1) := by decide +kernel
theorem dX4_room_0 : decode cX4_room 0 = .ok (.aload_n 0, 1) := by decide +kernel
theorem dX4_room_1 : decode cX4_room 1 = .ok (.getfield 15, 3) := by decide +kernel
theorem dX4_room_4 : decode cX4_room 4 = .ok (.arraylength, 1) := by decide +kernel
theorem dX4_room_5 : decode cX4_room 5 = .ok (.aload_n 0, 1) := by decide +kernel
theorem dX4_room_6 : decode cX4_room 6 = .ok (.getfield 21, 3) := by decide +kernel
theorem dX4_room_9 : decode cX4_room 9 = .ok (.isub, 1) := by decide +kernel
theorem dX4_room_10 : decode cX4_room 10 = .ok (.ireturn, 1) := by decide +kernel
theorem dX4_has_0 : decode cX4_has 0 = .ok (.iload_n 1, 1) := by decide +kernel
theorem dX4_has_1 : decode cX4_has 1 = .ok (.ifCond .lt 15, 3) := by decide +kernel
theorem dX4_has_4 : decode cX4_has 4 = .ok (.iload_n 1, 1) := by decide +kernel
theorem dX4_has_5 : decode cX4_has 5 = .ok (.aload_n 0, 1) := by decide +kernel
theorem dX4_has_6 : decode cX4_has 6 = .ok (.getfield 21, 3) := by decide +kernel
theorem dX4_has_9 : decode cX4_has 9 = .ok (.if_icmp .ge 7, 3) := by decide +kernel
theorem dX4_has_12 : decode cX4_has 12 = .ok (.iconst 1, 1) := by decide +kernel
theorem dX4_has_13 : decode cX4_has 13 = .ok (.goto 4, 3) := by decide +kernel
theorem dX4_has_16 : decode cX4_has 16 = .ok (.iconst 0, 1) := by decide +kernel
theorem dX4_has_17 : decode cX4_has 17 = .ok (.ireturn, 1) := by decide +kernel
theorem dX4_at_0 : decode cX4_at 0 = .ok (.iload_n 1, 1) := by decide +kernel
theorem dX4_at_1 : decode cX4_at 1 = .ok (.ifCond .lt 20, 3) := by decide +kernel
theorem dX4_at_4 : decode cX4_at 4 = .ok (.iload_n 1, 1) := by decide +kernel
theorem dX4_at_5 : decode cX4_at 5 = .ok (.aload_n 0, 1) := by decide +kernel
theorem dX4_at_6 : decode cX4_at 6 = .ok (.getfield 21, 3) := by decide +kernel
theorem dX4_at_9 : decode cX4_at 9 = .ok (.if_icmp .ge 12, 3) := by decide +kernel
theorem dX4_at_12 : decode cX4_at 12 = .ok (.aload_n 0, 1) := by decide +kernel
theorem dX4_at_13 : decode cX4_at 13 = .ok (.getfield 15, 3) := by decide +kernel
theorem dX4_at_16 : decode cX4_at 16 = .ok (.iload_n 1, 1) := by decide +kernel
theorem dX4_at_17 : decode cX4_at 17 = .ok (.iaload, 1) := by decide +kernel
theorem dX4_at_18 : decode cX4_at 18 = .ok (.goto 4, 3) := by decide +kernel
theorem dX4_at_21 : decode cX4_at 21 = .ok (.iconst 0, 1) := by decide +kernel
theorem dX4_at_22 : decode cX4_at 22 = .ok (.ireturn, 1) := by decide +kernel
set_option maxRecDepth 20000 in
theorem ggX4_replace_X4_has : GoodIn wsX4_replace wsX4_has := goodIn_r _ [6, 7, 8, 9, 10] (by decide +kernel) (by decide +kernel)
set_option maxRecDepth 20000 in
theorem gX4_replace_X4_has : GoodIn wsX4_replace (wsV RX4 29 RX4 yX4_has wsX4_has) := goodIn_app (goodIn_of _ (by decide +kernel)) ggX4_replace_X4_has
theorem dX4_replace_0 : decode cX4_replace 0 = .ok (.aload_n 0, 1) := by decide +kernel
theorem dX4_replace_1 : decode cX4_replace 1 = .ok (.iload_n 1, 1) := by decide +kernel
theorem dX4_replace_2 : decode cX4_replace 2 = .ok (.invokevirtual 29, 3) := by decide +kernel
theorem dX4_replace_5 : decode cX4_replace 5 = .ok (.ifCond .ne 5, 3) := by decide +kernel
theorem dX4_replace_8 : decode cX4_replace 8 = .ok (.iconst (-1), 1) := by decide +kernel
theorem dX4_replace_9 : decode cX4_replace 9 = .ok (.ireturn, 1) := by decide +kernel
theorem dX4_replace_10 : decode cX4_replace 10 = .ok (.iload_n 2, 1) := by decide +kernel
theorem dX4_replace_11 : decode cX4_replace 11 = .ok (.ifCond .lt 10, 3) := by decide +kernel
theorem dX4_replace_14 : decode cX4_replace 14 = .ok (.iload_n 2, 1) := by decide +kernel
theorem dX4_replace_15 : decode cX4_replace 15 = .ok (.sipush 255, 3) := by decide +kernel
theorem dX4_replace_18 : decode cX4_replace 18 = .ok (.if_icmp .le 6, 3) := by decide +kernel
theorem dX4_replace_21 : decode cX4_replace 21 = .ok (.bipush (-2), 2) := by decide +kernel
theorem dX4_replace_23 : decode cX4_replace 23 = .ok (.ireturn, 1) := by decide +kernel
theorem dX4_replace_24 : decode cX4_replace 24 = .ok (.aload_n 0, 1) := by decide +kernel
theorem dX4_replace_25 : decode cX4_replace 25 = .ok (.getfield 15, 3) := by decide +kernel
theorem dX4_replace_28 : decode cX4_replace 28 = .ok (.iload_n 1, 1) := by decide +kernel
theorem dX4_replace_29 : decode cX4_replace 29 = .ok (.iaload, 1) := by decide +kernel
theorem dX4_replace_30 : decode cX4_replace 30 = .ok (.istore_n 3, 1) := by decide +kernel
theorem dX4_replace_31 : decode cX4_replace 31 = .ok (.aload_n 0, 1) := by decide +kernel
theorem dX4_replace_32 : decode cX4_replace 32 = .ok (.getfield 15, 3) := by decide +kernel
theorem dX4_replace_35 : decode cX4_replace 35 = .ok (.iload_n 1, 1) := by decide +kernel
theorem dX4_replace_36 : decode cX4_replace 36 = .ok (.iload_n 2, 1) := by decide +kernel
theorem dX4_replace_37 : decode cX4_replace 37 = .ok (.iastore, 1) := by decide +kernel
theorem dX4_replace_38 : decode cX4_replace 38 = .ok (.iload_n 3, 1) := by decide +kernel
theorem dX4_replace_39 : decode cX4_replace 39 = .ok (.ireturn, 1) := by decide +kernel
theorem dX4_put_0 : decode cX4_put 0 = .ok (.aload_n 0, 1) := by decide +kernel
theorem dX4_put_1 : decode cX4_put 1 = .ok (.getfield 21, 3) := by decide +kernel
theorem dX4_put_4 : decode cX4_put 4 = .ok (.aload_n 0, 1) := by decide +kernel
theorem dX4_put_5 : decode cX4_put 5 = .ok (.getfield 15, 3) := by decide +kernel
theorem dX4_put_8 : decode cX4_put 8 = .ok (.arraylength, 1) := by decide +kernel
theorem dX4_put_9 : decode cX4_put 9 = .ok (.if_icmp .ge 26, 3) := by decide +kernel
theorem dX4_put_12 : decode cX4_put 12 = .ok (.aload_n 0, 1) := by decide +kernel
theorem dX4_put_13 : decode cX4_put 13 = .ok (.getfield 15, 3) := by decide +kernel
theorem dX4_put_16 : decode cX4_put 16 = .ok (.aload_n 0, 1) := by decide +kernel
theorem dX4_put_17 : decode cX4_put 17 = .ok (.getfield 21, 3) := by decide +kernel
theorem dX4_put_20 : decode cX4_put 20 = .ok (.iload_n 1, 1) := by decide +kernel
theorem dX4_put_21 : decode cX4_put 21 = .ok (.iastore, 1) := by decide +kernel
theorem dX4_put_22 : decode cX4_put 22 = .ok (.aload_n 0, 1) := by decide +kernel
theorem dX4_put_23 : decode cX4_put 23 = .ok (.dup, 1) := by decide +kernel
theorem dX4_put_24 : decode cX4_put 24 = .ok (.getfield 21, 3) := by decide +kernel
theorem dX4_put_27 : decode cX4_put 27 = .ok (.iconst 1, 1) := by decide +kernel
theorem dX4_put_28 : decode cX4_put 28 = .ok (.iadd, 1) := by decide +kernel
theorem dX4_put_29 : decode cX4_put 29 = .ok (.putfield 21, 3) := by decide +kernel
theorem dX4_put_32 : decode cX4_put 32 = .ok (.goto 8, 3) := by decide +kernel
theorem dX4_put_35 : decode cX4_put 35 = .ok (.aload_n 0, 1) := by decide +kernel
theorem dX4_put_36 : decode cX4_put 36 = .ok (.iconst 1, 1) := by decide +kernel
theorem dX4_put_37 : decode cX4_put 37 = .ok (.putfield 25, 3) := by decide +kernel
theorem dX4_put_40 : decode cX4_put 40 = .ok (.return_, 1) := by decide +kernel
set_option maxRecDepth 20000 in
theorem ggX4_putNumber_X8_numberSize : GoodIn wsX4_putNumber wsX8_numberSize := goodIn_r _ [3] (by decide +kernel) (by decide +kernel)
set_option maxRecDepth 20000 in
theorem gX4_putNumber_X8_numberSize_n33 : GoodIn wsX4_putNumber (wsX8_numberSize) := ggX4_putNumber_X8_numberSize
set_option maxRecDepth 20000 in
theorem ggX4_putNumber_X4_put : GoodIn wsX4_putNumber wsX4_put := goodIn_r _ [8, 9, 10, 11, 12, 13, 14] (by decide +kernel) (by decide +kernel)
set_option maxRecDepth 20000 in
theorem gX4_putNumber_X4_put : GoodIn wsX4_putNumber (wsV RX4 37 RX4 yX4_put wsX4_put) := goodIn_app (goodIn_of _ (by decide +kernel)) ggX4_putNumber_X4_put
theorem dX4_putNumber_0 : decode cX4_putNumber 0 = .ok (.bipush 7, 2) := by decide +kernel
theorem dX4_putNumber_2 : decode cX4_putNumber 2 = .ok (.iload_n 1, 1) := by decide +kernel
theorem dX4_putNumber_3 : decode cX4_putNumber 3 = .ok (.invokestatic 33, 3) := by decide +kernel
theorem dX4_putNumber_6 : decode cX4_putNumber 6 = .ok (.iconst 1, 1) := by decide +kernel
theorem dX4_putNumber_7 : decode cX4_putNumber 7 = .ok (.isub, 1) := by decide +kernel
theorem dX4_putNumber_8 : decode cX4_putNumber 8 = .ok (.imul, 1) := by decide +kernel
theorem dX4_putNumber_9 : decode cX4_putNumber 9 = .ok (.istore_n 2, 1) := by decide +kernel
theorem dX4_putNumber_10 : decode cX4_putNumber 10 = .ok (.iload_n 2, 1) := by decide +kernel
theorem dX4_putNumber_11 : decode cX4_putNumber 11 = .ok (.ifCond .le 23, 3) := by decide +kernel
theorem dX4_putNumber_14 : decode cX4_putNumber 14 = .ok (.aload_n 0, 1) := by decide +kernel
theorem dX4_putNumber_15 : decode cX4_putNumber 15 = .ok (.sipush 128, 3) := by decide +kernel
theorem dX4_putNumber_18 : decode cX4_putNumber 18 = .ok (.iload_n 1, 1) := by decide +kernel
theorem dX4_putNumber_19 : decode cX4_putNumber 19 = .ok (.iload_n 2, 1) := by decide +kernel
theorem dX4_putNumber_20 : decode cX4_putNumber 20 = .ok (.iushr, 1) := by decide +kernel
theorem dX4_putNumber_21 : decode cX4_putNumber 21 = .ok (.bipush 127, 2) := by decide +kernel
theorem dX4_putNumber_23 : decode cX4_putNumber 23 = .ok (.iand, 1) := by decide +kernel
theorem dX4_putNumber_24 : decode cX4_putNumber 24 = .ok (.ior, 1) := by decide +kernel
theorem dX4_putNumber_25 : decode cX4_putNumber 25 = .ok (.invokevirtual 37, 3) := by decide +kernel
theorem dX4_putNumber_28 : decode cX4_putNumber 28 = .ok (.iinc 2 (-7), 3) := by decide +kernel
theorem dX4_putNumber_31 : decode cX4_putNumber 31 = .ok (.goto (-21), 3) := by decide +kernel
theorem dX4_putNumber_34 : decode cX4_putNumber 34 = .ok (.aload_n 0, 1) := by decide +kernel
theorem dX4_putNumber_35 : decode cX4_putNumber 35 = .ok (.iload_n 1, 1) := by decide +kernel
theorem dX4_putNumber_36 : decode cX4_putNumber 36 = .ok (.bipush 127, 2) := by decide +kernel
theorem dX4_putNumber_38 : decode cX4_putNumber 38 = .ok (.iand, 1) := by decide +kernel
theorem dX4_putNumber_39 : decode cX4_putNumber 39 = .ok (.invokevirtual 37, 3) := by decide +kernel
theorem dX4_putNumber_42 : decode cX4_putNumber 42 = .ok (.return_, 1) := by decide +kernel
set_option maxRecDepth 20000 in
theorem ggX4_putMark_X4_put : GoodIn wsX4_putMark wsX4_put := goodIn_r _ [5, 6, 7, 8, 9, 10, 11] (by decide +kernel) (by decide +kernel)
set_option maxRecDepth 20000 in
theorem gX4_putMark_X4_put : GoodIn wsX4_putMark (wsV RX4 37 RX4 yX4_put wsX4_put) := goodIn_app (goodIn_of _ (by decide +kernel)) ggX4_putMark_X4_put
theorem dX4_putMark_0 : decode cX4_putMark 0 = .ok (.iconst 0, 1) := by decide +kernel
theorem dX4_putMark_1 : decode cX4_putMark 1 = .ok (.istore_n 2, 1) := by decide +kernel
theorem dX4_putMark_2 : decode cX4_putMark 2 = .ok (.iload_n 2, 1) := by decide +kernel
theorem dX4_putMark_3 : decode cX4_putMark 3 = .ok (.getstatic 41, 3) := by decide +kernel
theorem dX4_putMark_6 : decode cX4_putMark 6 = .ok (.arraylength, 1) := by decide +kernel
theorem dX4_putMark_7 : decode cX4_putMark 7 = .ok (.if_icmp .ge 18, 3) := by decide +kernel
theorem dX4_putMark_10 : decode cX4_putMark 10 = .ok (.aload_n 0, 1) := by decide +kernel
theorem dX4_putMark_11 : decode cX4_putMark 11 = .ok (.getstatic 41, 3) := by decide +kernel
theorem dX4_putMark_14 : decode cX4_putMark 14 = .ok (.iload_n 2, 1) := by decide +kernel
theorem dX4_putMark_15 : decode cX4_putMark 15 = .ok (.iaload, 1) := by decide +kernel
theorem dX4_putMark_16 : decode cX4_putMark 16 = .ok (.invokevirtual 37, 3) := by decide +kernel
theorem dX4_putMark_19 : decode cX4_putMark 19 = .ok (.iinc 2 1, 3) := by decide +kernel
theorem dX4_putMark_22 : decode cX4_putMark 22 = .ok (.goto (-20), 3) := by decide +kernel
theorem dX4_putMark_25 : decode cX4_putMark 25 = .ok (.aload_n 0, 1) := by decide +kernel
theorem dX4_putMark_26 : decode cX4_putMark 26 = .ok (.iload_n 1, 1) := by decide +kernel
theorem dX4_putMark_27 : decode cX4_putMark 27 = .ok (.invokevirtual 37, 3) := by decide +kernel
theorem dX4_putMark_30 : decode cX4_putMark 30 = .ok (.return_, 1) := by decide +kernel
set_option maxRecDepth 20000 in
theorem ggX4_putAll_X4_room : GoodIn wsX4_putAll wsX4_room := goodIn_r _ [16, 6, 1, 17, 18, 19] (by decide +kernel) (by decide +kernel)
set_option maxRecDepth 20000 in
theorem gX4_putAll_X4_room : GoodIn wsX4_putAll (wsV RX4 44 RX4 yX4_room wsX4_room) := goodIn_app (goodIn_of _ (by decide +kernel)) ggX4_putAll_X4_room
theorem dX4_putAll_0 : decode cX4_putAll 0 = .ok (.aload_n 1, 1) := by decide +kernel
theorem dX4_putAll_1 : decode cX4_putAll 1 = .ok (.getfield 21, 3) := by decide +kernel
theorem dX4_putAll_4 : decode cX4_putAll 4 = .ok (.aload_n 0, 1) := by decide +kernel
theorem dX4_putAll_5 : decode cX4_putAll 5 = .ok (.invokevirtual 44, 3) := by decide +kernel
theorem dX4_putAll_8 : decode cX4_putAll 8 = .ok (.invokestatic 48, 3) := by decide +kernel
theorem dX4_putAll_11 : decode cX4_putAll 11 = .ok (.istore_n 2, 1) := by decide +kernel
theorem dX4_putAll_12 : decode cX4_putAll 12 = .ok (.aload_n 1, 1) := by decide +kernel
theorem dX4_putAll_13 : decode cX4_putAll 13 = .ok (.getfield 15, 3) := by decide +kernel
theorem dX4_putAll_16 : decode cX4_putAll 16 = .ok (.iconst 0, 1) := by decide +kernel
theorem dX4_putAll_17 : decode cX4_putAll 17 = .ok (.aload_n 0, 1) := by decide +kernel
theorem dX4_putAll_18 : decode cX4_putAll 18 = .ok (.getfield 15, 3) := by decide +kernel
theorem dX4_putAll_21 : decode cX4_putAll 21 = .ok (.aload_n 0, 1) := by decide +kernel
theorem dX4_putAll_22 : decode cX4_putAll 22 = .ok (.getfield 21, 3) := by decide +kernel
theorem dX4_putAll_25 : decode cX4_putAll 25 = .ok (.iload_n 2, 1) := by decide +kernel
theorem dX4_putAll_26 : decode cX4_putAll 26 = .ok (.invokestatic 51, 3) := by decide +kernel
theorem dX4_putAll_29 : decode cX4_putAll 29 = .ok (.aload_n 0, 1) := by decide +kernel
theorem dX4_putAll_30 : decode cX4_putAll 30 = .ok (.dup, 1) := by decide +kernel
theorem dX4_putAll_31 : decode cX4_putAll 31 = .ok (.getfield 21, 3) := by decide +kernel
theorem dX4_putAll_34 : decode cX4_putAll 34 = .ok (.iload_n 2, 1) := by decide +kernel
theorem dX4_putAll_35 : decode cX4_putAll 35 = .ok (.iadd, 1) := by decide +kernel
theorem dX4_putAll_36 : decode cX4_putAll 36 = .ok (.putfield 21, 3) := by decide +kernel
theorem dX4_putAll_39 : decode cX4_putAll 39 = .ok (.aload_n 0, 1) := by decide +kernel
theorem dX4_putAll_40 : decode cX4_putAll 40 = .ok (.aload_n 0, 1) := by decide +kernel
theorem dX4_putAll_41 : decode cX4_putAll 41 = .ok (.getfield 25, 3) := by decide +kernel
theorem dX4_putAll_44 : decode cX4_putAll 44 = .ok (.ifCond .ne 18, 3) := by decide +kernel
theorem dX4_putAll_47 : decode cX4_putAll 47 = .ok (.iload_n 2, 1) := by decide +kernel
theorem dX4_putAll_48 : decode cX4_putAll 48 = .ok (.aload_n 1, 1) := by decide +kernel
theorem dX4_putAll_49 : decode cX4_putAll 49 = .ok (.getfield 21, 3) := by decide +kernel
theorem dX4_putAll_52 : decode cX4_putAll 52 = .ok (.if_icmp .lt 10, 3) := by decide +kernel
theorem dX4_putAll_55 : decode cX4_putAll 55 = .ok (.aload_n 1, 1) := by decide +kernel
theorem dX4_putAll_56 : decode cX4_putAll 56 = .ok (.getfield 25, 3) := by decide +kernel
theorem dX4_putAll_59 : decode cX4_putAll 59 = .ok (.ifCond .eq 7, 3) := by decide +kernel
theorem dX4_putAll_62 : decode cX4_putAll 62 = .ok (.iconst 1, 1) := by decide +kernel
theorem dX4_putAll_63 : decode cX4_putAll 63 = .ok (.goto 4, 3) := by decide +kernel
theorem dX4_putAll_66 : decode cX4_putAll 66 = .ok (.iconst 0, 1) := by decide +kernel
theorem dX4_putAll_67 : decode cX4_putAll 67 = .ok (.putfield 25, 3) := by decide +kernel
theorem dX4_putAll_70 : decode cX4_putAll 70 = .ok (.return_, 1) := by decide +kernel
theorem dX5_init_0 : decode cX5_init 0 = .ok (.aload_n 0, 1) := by decide +kernel
theorem dX5_init_1 : decode cX5_init 1 = .ok (.invokespecial 1, 3) := by decide +kernel
theorem dX5_init_4 : decode cX5_init 4 = .ok (.aload_n 0, 1) := by decide +kernel
theorem dX5_init_5 : decode cX5_init 5 = .ok (.iload_n 1, 1) := by decide +kernel
theorem dX5_init_6 : decode cX5_init 6 = .ok (.iconst 0, 1) := by decide +kernel
theorem dX5_init_7 : decode cX5_init 7 = .ok (.invokestatic 7, 3) := by decide +kernel
theorem dX5_init_10 : decode cX5_init 10 = .ok (.putfield 13, 3) := by decide +kernel
theorem dX5_init_13 : decode cX5_init 13 = .ok (.aload_n 0, 1) := by decide +kernel
theorem dX5_init_14 : decode cX5_init 14 = .ok (.aload_n 0, 1) := by decide +kernel
theorem dX5_init_15 : decode cX5_init 15 = .ok (.getfield 13, 3) := by decide +kernel
theorem dX5_init_18 : decode cX5_init 18 = .ok (.bipush 6, 2) := by decide +kernel
theorem dX5_init_20 : decode cX5_init 20 = .ok (.imul, 1) := by decide +kernel
theorem dX5_init_21 : decode cX5_init 21 = .ok (.newarray .int, 2) := by decide +kernel
theorem dX5_init_23 : decode cX5_init 23 = .ok (.putfield 19, 3) := by decide +kernel
theorem dX5_init_26 : decode cX5_init 26 = .ok (.return_, 1) := by decide +kernel
theorem dX5_makeEmpty_0 : decode cX5_makeEmpty 0 = .ok (.aload_n 0, 1) := by decide +kernel
theorem dX5_makeEmpty_1 : decode cX5_makeEmpty 1 = .ok (.iconst 0, 1) := by decide +kernel
theorem dX5_makeEmpty_2 : decode cX5_makeEmpty 2 = .ok (.putfield 23, 3) := by decide +kernel
theorem dX5_makeEmpty_5 : decode cX5_makeEmpty 5 = .ok (.return_, 1) := by decide +kernel
theorem dX5_has_0 : decode cX5_has 0 = .ok (.iload_n 1, 1) := by decide +kernel
theorem dX5_has_1 : decode cX5_has 1 = .ok (.ifCond .lt 23, 3) := by decide +kernel
theorem dX5_has_4 : decode cX5_has 4 = .ok (.iload_n 1, 1) := by decide +kernel
theorem dX5_has_5 : decode cX5_has 5 = .ok (.aload_n 0, 1) := by decide +kernel
theorem dX5_has_6 : decode cX5_has 6 = .ok (.getfield 23, 3) := by decide +kernel
theorem dX5_has_9 : decode cX5_has 9 = .ok (.if_icmp .ge 15, 3) := by decide +kernel
theorem dX5_has_12 : decode cX5_has 12 = .ok (.iload_n 1, 1) := by decide +kernel
theorem dX5_has_13 : decode cX5_has 13 = .ok (.aload_n 0, 1) := by decide +kernel
theorem dX5_has_14 : decode cX5_has 14 = .ok (.getfield 13, 3) := by decide +kernel
theorem dX5_has_17 : decode cX5_has 17 = .ok (.if_icmp .ge 7, 3) := by decide +kernel
theorem dX5_has_20 : decode cX5_has 20 = .ok (.iconst 1, 1) := by decide +kernel
theorem dX5_has_21 : decode cX5_has 21 = .ok (.goto 4, 3) := by decide +kernel
theorem dX5_has_24 : decode cX5_has 24 = .ok (.iconst 0, 1) := by decide +kernel
theorem dX5_has_25 : decode cX5_has 25 = .ok (.ireturn, 1) := by decide +kernel
set_option maxRecDepth 20000 in
theorem ggX5_at_X5_has : GoodIn wsX5_at wsX5_has := goodIn_r _ [6, 7, 8, 9, 10, 11] (by decide +kernel) (by decide +kernel)
set_option maxRecDepth 20000 in
theorem gX5_at_X5_has : GoodIn wsX5_at (wsV RX5 26 RX5 yX5_has wsX5_has) := goodIn_app (goodIn_of _ (by decide +kernel)) ggX5_at_X5_has
theorem dX5_at_0 : decode cX5_at 0 = .ok (.aload_n 0, 1) := by decide +kernel
theorem dX5_at_1 : decode cX5_at 1 = .ok (.iload_n 1, 1) := by decide +kernel
theorem dX5_at_2 : decode cX5_at 2 = .ok (.invokevirtual 26, 3) := by decide +kernel
theorem dX5_at_5 : decode cX5_at 5 = .ok (.ifCond .eq 27, 3) := by decide +kernel
theorem dX5_at_8 : decode cX5_at 8 = .ok (.iload_n 2, 1) := by decide +kernel
theorem dX5_at_9 : decode cX5_at 9 = .ok (.ifCond .lt 23, 3) := by decide +kernel
theorem dX5_at_12 : decode cX5_at 12 = .ok (.iload_n 2, 1) := by decide +kernel
theorem dX5_at_13 : decode cX5_at 13 = .ok (.bipush 6, 2) := by decide +kernel
theorem dX5_at_15 : decode cX5_at 15 = .ok (.if_icmp .ge 17, 3) := by decide +kernel
theorem dX5_at_18 : decode cX5_at 18 = .ok (.aload_n 0, 1) := by decide +kernel
theorem dX5_at_19 : decode cX5_at 19 = .ok (.getfield 19, 3) := by decide +kernel
theorem dX5_at_22 : decode cX5_at 22 = .ok (.iload_n 1, 1) := by decide +kernel
theorem dX5_at_23 : decode cX5_at 23 = .ok (.bipush 6, 2) := by decide +kernel
theorem dX5_at_25 : decode cX5_at 25 = .ok (.imul, 1) := by decide +kernel
theorem dX5_at_26 : decode cX5_at 26 = .ok (.iload_n 2, 1) := by decide +kernel
theorem dX5_at_27 : decode cX5_at 27 = .ok (.iadd, 1) := by decide +kernel
theorem dX5_at_28 : decode cX5_at 28 = .ok (.iaload, 1) := by decide +kernel
theorem dX5_at_29 : decode cX5_at 29 = .ok (.goto 4, 3) := by decide +kernel
theorem dX5_at_32 : decode cX5_at 32 = .ok (.iconst 0, 1) := by decide +kernel
theorem dX5_at_33 : decode cX5_at 33 = .ok (.ireturn, 1) := by decide +kernel
theorem dX5_put_0 : decode cX5_put 0 = .ok (.aload_n 0, 1) := by decide +kernel
theorem dX5_put_1 : decode cX5_put 1 = .ok (.getfield 23, 3) := by decide +kernel
theorem dX5_put_4 : decode cX5_put 4 = .ok (.aload_n 0, 1) := by decide +kernel
theorem dX5_put_5 : decode cX5_put 5 = .ok (.getfield 13, 3) := by decide +kernel
theorem dX5_put_8 : decode cX5_put 8 = .ok (.if_icmp .ge 75, 3) := by decide +kernel
theorem dX5_put_11 : decode cX5_put 11 = .ok (.aload_n 0, 1) := by decide +kernel
theorem dX5_put_12 : decode cX5_put 12 = .ok (.getfield 23, 3) := by decide +kernel
theorem dX5_put_15 : decode cX5_put 15 = .ok (.bipush 6, 2) := by decide +kernel
theorem dX5_put_17 : decode cX5_put 17 = .ok (.imul, 1) := by decide +kernel
theorem dX5_put_18 : decode cX5_put 18 = .ok (.istore 7, 2) := by decide +kernel
theorem dX5_put_20 : decode cX5_put 20 = .ok (.aload_n 0, 1) := by decide +kernel
theorem dX5_put_21 : decode cX5_put 21 = .ok (.getfield 19, 3) := by decide +kernel
theorem dX5_put_24 : decode cX5_put 24 = .ok (.iload 7, 2) := by decide +kernel
theorem dX5_put_26 : decode cX5_put 26 = .ok (.iconst 0, 1) := by decide +kernel
theorem dX5_put_27 : decode cX5_put 27 = .ok (.iadd, 1) := by decide +kernel
theorem dX5_put_28 : decode cX5_put 28 = .ok (.iload_n 1, 1) := by decide +kernel
theorem dX5_put_29 : decode cX5_put 29 = .ok (.iastore, 1) := by decide +kernel
theorem dX5_put_30 : decode cX5_put 30 = .ok (.aload_n 0, 1) := by decide +kernel
theorem dX5_put_31 : decode cX5_put 31 = .ok (.getfield 19, 3) := by decide +kernel
theorem dX5_put_34 : decode cX5_put 34 = .ok (.iload 7, 2) := by decide +kernel
theorem dX5_put_36 : decode cX5_put 36 = .ok (.iconst 1, 1) := by decide +kernel
theorem dX5_put_37 : decode cX5_put 37 = .ok (.iadd, 1) := by decide +kernel
theorem dX5_put_38 : decode cX5_put 38 = .ok (.iload_n 2, 1) := by decide +kernel
theorem dX5_put_39 : decode cX5_put 39 = .ok (.iastore, 1) := by decide +kernel
theorem dX5_put_40 : decode cX5_put 40 = .ok (.aload_n 0, 1) := by decide +kernel
theorem dX5_put_41 : decode cX5_put 41 = .ok (.getfield 19, 3) := by decide +kernel
theorem dX5_put_44 : decode cX5_put 44 = .ok (.iload 7, 2) := by decide +kernel
theorem dX5_put_46 : decode cX5_put 46 = .ok (.iconst 2, 1) := by decide +kernel
theorem dX5_put_47 : decode cX5_put 47 = .ok (.iadd, 1) := by decide +kernel
theorem dX5_put_48 : decode cX5_put 48 = .ok (.iload_n 3, 1) := by decide +kernel
theorem dX5_put_49 : decode cX5_put 49 = .ok (.iastore, 1) := by decide +kernel
theorem dX5_put_50 : decode cX5_put 50 = .ok (.aload_n 0, 1) := by decide +kernel
theorem dX5_put_51 : decode cX5_put 51 = .ok (.getfield 19, 3) := by decide +kernel
theorem dX5_put_54 : decode cX5_put 54 = .ok (.iload 7, 2) := by decide +kernel
theorem dX5_put_56 : decode cX5_put 56 = .ok (.iconst 3, 1) := by decide +kernel
theorem dX5_put_57 : decode cX5_put 57 = .ok (.iadd, 1) := by decide +kernel
theorem dX5_put_58 : decode cX5_put 58 = .ok (.iload 4, 2) := by decide +kernel
theorem dX5_put_60 : decode cX5_put 60 = .ok (.iastore, 1) := by decide +kernel
theorem dX5_put_61 : decode cX5_put 61 = .ok (.aload_n 0, 1) := by decide +kernel
theorem dX5_put_62 : decode cX5_put 62 = .ok (.getfield 19, 3) := by decide +kernel
theorem dX5_put_65 : decode cX5_put 65 = .ok (.iload 7, 2) := by decide +kernel
theorem dX5_put_67 : decode cX5_put 67 = .ok (.iconst 4, 1) := by decide +kernel
theorem dX5_put_68 : decode cX5_put 68 = .ok (.iadd, 1) := by decide +kernel
theorem dX5_put_69 : decode cX5_put 69 = .ok (.iload 5, 2) := by decide +kernel
theorem dX5_put_71 : decode cX5_put 71 = .ok (.iastore, 1) := by decide +kernel
theorem dX5_put_72 : decode cX5_put 72 = .ok (.aload_n 0, 1) := by decide +kernel
theorem dX5_put_73 : decode cX5_put 73 = .ok (.getfield 19, 3) := by decide +kernel
theorem dX5_put_76 : decode cX5_put 76 = .ok (.iload 7, 2) := by decide +kernel
theorem dX5_put_78 : decode cX5_put 78 = .ok (.iconst 5, 1) := by decide +kernel
theorem dX5_put_79 : decode cX5_put 79 = .ok (.iadd, 1) := by decide +kernel
theorem dX5_put_80 : decode cX5_put 80 = .ok (.iload 6, 2) := by decide +kernel
theorem dX5_put_82 : decode cX5_put 82 = .ok (.iastore, 1) := by decide +kernel
theorem dX5_put_83 : decode cX5_put 83 = .ok (.aload_n 0, 1) := by decide +kernel
theorem dX5_put_84 : decode cX5_put 84 = .ok (.dup, 1) := by decide +kernel
theorem dX5_put_85 : decode cX5_put 85 = .ok (.getfield 23, 3) := by decide +kernel
theorem dX5_put_88 : decode cX5_put 88 = .ok (.iconst 1, 1) := by decide +kernel
theorem dX5_put_89 : decode cX5_put 89 = .ok (.iadd, 1) := by decide +kernel
theorem dX5_put_90 : decode cX5_put 90 = .ok (.putfield 23, 3) := by decide +kernel
theorem dX5_put_93 : decode cX5_put 93 = .ok (.return_, 1) := by decide +kernel
set_option maxRecDepth 20000 in
theorem ggX5_setCode_X5_has : GoodIn wsX5_setCode wsX5_has := goodIn_r _ [6, 7, 8, 9, 10, 11] (by decide +kernel) (by decide +kernel)
set_option maxRecDepth 20000 in
theorem gX5_setCode_X5_has : GoodIn wsX5_setCode (wsV RX5 26 RX5 yX5_has wsX5_has) := goodIn_app (goodIn_of _ (by decide +kernel)) ggX5_setCode_X5_has
theorem dX5_setCode_0 : decode cX5_setCode 0 = .ok (.aload_n 0, 1) := by decide +kernel
theorem dX5_setCode_1 : decode cX5_setCode 1 = .ok (.iload_n 1, 1) := by decide +kernel
theorem dX5_setCode_2 : decode cX5_setCode 2 = .ok (.invokevirtual 26, 3) := by decide +kernel
theorem dX5_setCode_5 : decode cX5_setCode 5 = .ok (.ifCond .eq 15, 3) := by decide +kernel
theorem dX5_setCode_8 : decode cX5_setCode 8 = .ok (.aload_n 0, 1) := by decide +kernel
theorem dX5_setCode_9 : decode cX5_setCode 9 = .ok (.getfield 19, 3) := by decide +kernel
theorem dX5_setCode_12 : decode cX5_setCode 12 = .ok (.iload_n 1, 1) := by decide +kernel
theorem dX5_setCode_13 : decode cX5_setCode 13 = .ok (.bipush 6, 2) := by decide +kernel
theorem dX5_setCode_15 : decode cX5_setCode 15 = .ok (.imul, 1) := by decide +kernel
theorem dX5_setCode_16 : decode cX5_setCode 16 = .ok (.iconst 4, 1) := by decide +kernel
theorem dX5_setCode_17 : decode cX5_setCode 17 = .ok (.iadd, 1) := by decide +kernel
theorem dX5_setCode_18 : decode cX5_setCode 18 = .ok (.iload_n 2, 1) := by decide +kernel
theorem dX5_setCode_19 : decode cX5_setCode 19 = .ok (.iastore, 1) := by decide +kernel
theorem dX5_setCode_20 : decode cX5_setCode 20 = .ok (.return_, 1) := by decide +kernel
set_option maxRecDepth 20000 in
theorem ggX6_init_X4_init : GoodIn wsX6_init wsX4_init := goodIn_r _ [13, 14, 2, 3, 15, 16, 17, 18, 8, 19, 20, 21, 22] (by decide +kernel) (by decide +kernel)
set_option maxRecDepth 20000 in
theorem gX6_init_X4_init : GoodIn wsX6_init (wsX4_init) := ggX6_init_X4_init
theorem dX6_init_0 : decode cX6_init 0 = .ok (.aload_n 0, 1) := by decide +kernel
theorem dX6_init_1 : decode cX6_init 1 = .ok (.invokespecial 3, 3) := by decide +kernel
theorem dX6_init_4 : decode cX6_init 4 = .ok (.aload_n 0, 1) := by decide +kernel
theorem dX6_init_5 : decode cX6_init 5 = .ok (.new 9, 3) := by decide +kernel
theorem dX6_init_8 : decode cX6_init 8 = .ok (.dup, 1) := by decide +kernel
theorem dX6_init_9 : decode cX6_init 9 = .ok (.sipush 1536, 3) := by decide +kernel
theorem dX6_init_12 : decode cX6_init 12 = .ok (.invokespecial 11, 3) := by decide +kernel
theorem dX6_init_15 : decode cX6_init 15 = .ok (.putfield 14, 3) := by decide +kernel
theorem dX6_init_18 : decode cX6_init 18 = .ok (.aload_n 0, 1) := by decide +kernel
theorem dX6_init_19 : decode cX6_init 19 = .ok (.sipush 256, 3) := by decide +kernel
theorem dX6_init_22 : decode cX6_init 22 = .ok (.newarray .int, 2) := by decide +kernel
theorem dX6_init_24 : decode cX6_init 24 = .ok (.putfield 20, 3) := by decide +kernel
theorem dX6_init_27 : decode cX6_init 27 = .ok (.aload_n 0, 1) := by decide +kernel
theorem dX6_init_28 : decode cX6_init 28 = .ok (.sipush 256, 3) := by decide +kernel
theorem dX6_init_31 : decode cX6_init 31 = .ok (.newarray .int, 2) := by decide +kernel
theorem dX6_init_33 : decode cX6_init 33 = .ok (.putfield 24, 3) := by decide +kernel
theorem dX6_init_36 : decode cX6_init 36 = .ok (.return_, 1) := by decide +kernel
set_option maxRecDepth 20000 in
theorem ggX6_kindOf_X4_at : GoodIn wsX6_kindOf wsX4_at := goodIn_r _ [6, 7, 8, 14, 15, 16] (by decide +kernel) (by decide +kernel)
set_option maxRecDepth 20000 in
theorem gX6_kindOf_X4_at : GoodIn wsX6_kindOf (wsV RX6 27 RX4 yX4_at wsX4_at) := goodIn_app (goodIn_of _ (by decide +kernel)) ggX6_kindOf_X4_at
theorem dX6_kindOf_0 : decode cX6_kindOf 0 = .ok (.aload_n 0, 1) := by decide +kernel
theorem dX6_kindOf_1 : decode cX6_kindOf 1 = .ok (.getfield 14, 3) := by decide +kernel
theorem dX6_kindOf_4 : decode cX6_kindOf 4 = .ok (.iload_n 2, 1) := by decide +kernel
theorem dX6_kindOf_5 : decode cX6_kindOf 5 = .ok (.sipush 256, 3) := by decide +kernel
theorem dX6_kindOf_8 : decode cX6_kindOf 8 = .ok (.imul, 1) := by decide +kernel
theorem dX6_kindOf_9 : decode cX6_kindOf 9 = .ok (.iload_n 1, 1) := by decide +kernel
theorem dX6_kindOf_10 : decode cX6_kindOf 10 = .ok (.iadd, 1) := by decide +kernel
theorem dX6_kindOf_11 : decode cX6_kindOf 11 = .ok (.invokevirtual 27, 3) := by decide +kernel
theorem dX6_kindOf_14 : decode cX6_kindOf 14 = .ok (.ireturn, 1) := by decide +kernel
set_option maxRecDepth 20000 in
theorem ggX6_sizeOf_X4_at : GoodIn wsX6_sizeOf wsX4_at := goodIn_r _ [6, 7, 8, 14, 15, 16] (by decide +kernel) (by decide +kernel)
set_option maxRecDepth 20000 in
theorem gX6_sizeOf_X4_at : GoodIn wsX6_sizeOf (wsV RX6 27 RX4 yX4_at wsX4_at) := goodIn_app (goodIn_of _ (by decide +kernel)) ggX6_sizeOf_X4_at
theorem dX6_sizeOf_0 : decode cX6_sizeOf 0 = .ok (.aload_n 0, 1) := by decide +kernel
theorem dX6_sizeOf_1 : decode cX6_sizeOf 1 = .ok (.getfield 14, 3) := by decide +kernel
theorem dX6_sizeOf_4 : decode cX6_sizeOf 4 = .ok (.sipush 512, 3) := by decide +kernel
theorem dX6_sizeOf_7 : decode cX6_sizeOf 7 = .ok (.iload_n 2, 1) := by decide +kernel
theorem dX6_sizeOf_8 : decode cX6_sizeOf 8 = .ok (.sipush 256, 3) := by decide +kernel
theorem dX6_sizeOf_11 : decode cX6_sizeOf 11 = .ok (.imul, 1) := by decide +kernel
theorem dX6_sizeOf_12 : decode cX6_sizeOf 12 = .ok (.iadd, 1) := by decide +kernel
theorem dX6_sizeOf_13 : decode cX6_sizeOf 13 = .ok (.iload_n 1, 1) := by decide +kernel
theorem dX6_sizeOf_14 : decode cX6_sizeOf 14 = .ok (.iadd, 1) := by decide +kernel
theorem dX6_sizeOf_15 : decode cX6_sizeOf 15 = .ok (.invokevirtual 27, 3) := by decide +kernel
theorem dX6_sizeOf_18 : decode cX6_sizeOf 18 = .ok (.ireturn, 1) := by decide +kernel
set_option maxRecDepth 20000 in
theorem ggX6_modeOf_X4_at : GoodIn wsX6_modeOf wsX4_at := goodIn_r _ [6, 7, 8, 14, 15, 16] (by decide +kernel) (by decide +kernel)
set_option maxRecDepth 20000 in
theorem gX6_modeOf_X4_at : GoodIn wsX6_modeOf (wsV RX6 27 RX4 yX4_at wsX4_at) := goodIn_app (goodIn_of _ (by decide +kernel)) ggX6_modeOf_X4_at
theorem dX6_modeOf_0 : decode cX6_modeOf 0 = .ok (.aload_n 0, 1) := by decide +kernel
theorem dX6_modeOf_1 : decode cX6_modeOf 1 = .ok (.getfield 14, 3) := by decide +kernel
theorem dX6_modeOf_4 : decode cX6_modeOf 4 = .ok (.sipush 1024, 3) := by decide +kernel
theorem dX6_modeOf_7 : decode cX6_modeOf 7 = .ok (.iload_n 2, 1) := by decide +kernel
theorem dX6_modeOf_8 : decode cX6_modeOf 8 = .ok (.sipush 256, 3) := by decide +kernel
theorem dX6_modeOf_11 : decode cX6_modeOf 11 = .ok (.imul, 1) := by decide +kernel
theorem dX6_modeOf_12 : decode cX6_modeOf 12 = .ok (.iadd, 1) := by decide +kernel
theorem dX6_modeOf_13 : decode cX6_modeOf 13 = .ok (.iload_n 1, 1) := by decide +kernel
theorem dX6_modeOf_14 : decode cX6_modeOf 14 = .ok (.iadd, 1) := by decide +kernel
theorem dX6_modeOf_15 : decode cX6_modeOf 15 = .ok (.invokevirtual 27, 3) := by decide +kernel
theorem dX6_modeOf_18 : decode cX6_modeOf 18 = .ok (.ireturn, 1) := by decide +kernel
set_option maxRecDepth 20000 in
theorem ggX6_isRight_X4_at : GoodIn wsX6_isRight wsX4_at := goodIn_r _ [8, 9, 10, 16, 17, 18] (by decide +kernel) (by decide +kernel)
set_option maxRecDepth 20000 in
theorem gX6_isRight_X4_at : GoodIn wsX6_isRight (wsV RX6 27 RX4 yX4_at wsX4_at) := goodIn_app (goodIn_of _ (by decide +kernel)) ggX6_isRight_X4_at
theorem dX6_isRight_0 : decode cX6_isRight 0 = .ok (.iconst 0, 1) := by decide +kernel
theorem dX6_isRight_1 : decode cX6_isRight 1 = .ok (.istore_n 1, 1) := by decide +kernel
theorem dX6_isRight_2 : decode cX6_isRight 2 = .ok (.iload_n 1, 1) := by decide +kernel
theorem dX6_isRight_3 : decode cX6_isRight 3 = .ok (.sipush 512, 3) := by decide +kernel
theorem dX6_isRight_6 : decode cX6_isRight 6 = .ok (.if_icmp .ge 56, 3) := by decide +kernel
theorem dX6_isRight_9 : decode cX6_isRight 9 = .ok (.aload_n 0, 1) := by decide +kernel
theorem dX6_isRight_10 : decode cX6_isRight 10 = .ok (.getfield 14, 3) := by decide +kernel
theorem dX6_isRight_13 : decode cX6_isRight 13 = .ok (.iload_n 1, 1) := by decide +kernel
theorem dX6_isRight_14 : decode cX6_isRight 14 = .ok (.invokevirtual 27, 3) := by decide +kernel
theorem dX6_isRight_17 : decode cX6_isRight 17 = .ok (.istore_n 2, 1) := by decide +kernel
theorem dX6_isRight_18 : decode cX6_isRight 18 = .ok (.iload_n 2, 1) := by decide +kernel
theorem dX6_isRight_19 : decode cX6_isRight 19 = .ok (.iconst 3, 1) := by decide +kernel
theorem dX6_isRight_20 : decode cX6_isRight 20 = .ok (.if_icmp .gt 34, 3) := by decide +kernel
theorem dX6_isRight_23 : decode cX6_isRight 23 = .ok (.iload_n 2, 1) := by decide +kernel
theorem dX6_isRight_24 : decode cX6_isRight 24 = .ok (.iconst 3, 1) := by decide +kernel
theorem dX6_isRight_25 : decode cX6_isRight 25 = .ok (.if_icmp .ne 31, 3) := by decide +kernel
theorem dX6_isRight_28 : decode cX6_isRight 28 = .ok (.aload_n 0, 1) := by decide +kernel
theorem dX6_isRight_29 : decode cX6_isRight 29 = .ok (.getfield 14, 3) := by decide +kernel
theorem dX6_isRight_32 : decode cX6_isRight 32 = .ok (.sipush 1024, 3) := by decide +kernel
theorem dX6_isRight_35 : decode cX6_isRight 35 = .ok (.iload_n 1, 1) := by decide +kernel
theorem dX6_isRight_36 : decode cX6_isRight 36 = .ok (.iadd, 1) := by decide +kernel
theorem dX6_isRight_37 : decode cX6_isRight 37 = .ok (.invokevirtual 27, 3) := by decide +kernel
theorem dX6_isRight_40 : decode cX6_isRight 40 = .ok (.aload_n 0, 1) := by decide +kernel
theorem dX6_isRight_41 : decode cX6_isRight 41 = .ok (.getfield 31, 3) := by decide +kernel
theorem dX6_isRight_44 : decode cX6_isRight 44 = .ok (.aload_n 0, 1) := by decide +kernel
theorem dX6_isRight_45 : decode cX6_isRight 45 = .ok (.getfield 35, 3) := by decide +kernel
theorem dX6_isRight_48 : decode cX6_isRight 48 = .ok (.iadd, 1) := by decide +kernel
theorem dX6_isRight_49 : decode cX6_isRight 49 = .ok (.iconst 2, 1) := by decide +kernel
theorem dX6_isRight_50 : decode cX6_isRight 50 = .ok (.iadd, 1) := by decide +kernel
theorem dX6_isRight_51 : decode cX6_isRight 51 = .ok (.if_icmp .lt 5, 3) := by decide +kernel
theorem dX6_isRight_54 : decode cX6_isRight 54 = .ok (.iconst 0, 1) := by decide +kernel
theorem dX6_isRight_55 : decode cX6_isRight 55 = .ok (.ireturn, 1) := by decide +kernel
theorem dX6_isRight_56 : decode cX6_isRight 56 = .ok (.iinc 1 1, 3) := by decide +kernel
theorem dX6_isRight_59 : decode cX6_isRight 59 = .ok (.goto (-57), 3) := by decide +kernel
theorem dX6_isRight_62 : decode cX6_isRight 62 = .ok (.iconst 1, 1) := by decide +kernel
theorem dX6_isRight_63 : decode cX6_isRight 63 = .ok (.ireturn, 1) := by decide +kernel
set_option maxRecDepth 20000 in
theorem ggX6_becomeFirst_J7_fill_53178 : GoodIn wsX6_becomeFirst wsJ7_fill_53178 := goodIn_r _ [9] (by decide +kernel) (by decide +kernel)
set_option maxRecDepth 20000 in
theorem gX6_becomeFirst_J7_fill_53178 : GoodIn wsX6_becomeFirst (va_wsS RX6 44 yJ7_fill_53178 wsJ7_fill_53178) := goodIn_app (goodIn_of _ (by decide +kernel)) ggX6_becomeFirst_J7_fill_53178
set_option maxRecDepth 20000 in
theorem ggX6_becomeFirst_X6_setPart : GoodIn wsX6_becomeFirst wsX6_setPart := goodIn_r _ [14, 3, 15, 16, 17, 18, 19, 20, 21, 22, 23, 24, 25, 30, 31, 32, 33, 34, 35, 36, 37] (by decide +kernel) (by decide +kernel)
set_option maxRecDepth 20000 in
theorem gX6_becomeFirst_X6_setPart : GoodIn wsX6_becomeFirst (wsV RX6 50 RX6 yX6_setPart wsX6_setPart) := goodIn_app (goodIn_of _ (by decide +kernel)) ggX6_becomeFirst_X6_setPart
set_option maxRecDepth 20000 in
theorem ggX6_becomeFirst_X6_setFirstPairs : GoodIn wsX6_becomeFirst wsX6_setFirstPairs := goodIn_r _ [29, 10, 11, 12, 13, 14, 3, 15, 16, 17, 18, 19, 20, 21, 22, 23, 24, 25, 30, 31, 32, 33, 34, 35, 36, 37] (by decide +kernel) (by decide +kernel)
set_option maxRecDepth 20000 in
theorem gX6_becomeFirst_X6_setFirstPairs : GoodIn wsX6_becomeFirst (wsV RX6 54 RX6 yX6_setFirstPairs wsX6_setFirstPairs) := goodIn_app (goodIn_of _ (by decide +kernel)) ggX6_becomeFirst_X6_setFirstPairs
theorem dX6_becomeFirst_0 : decode cX6_becomeFirst 0 = .ok (.aload_n 0, 1) := by decide +kernel
theorem dX6_becomeFirst_1 : decode cX6_becomeFirst 1 = .ok (.iconst 4, 1) := by decide +kernel
theorem dX6_becomeFirst_2 : decode cX6_becomeFirst 2 = .ok (.putfield 31, 3) := by decide +kernel
theorem dX6_becomeFirst_5 : decode cX6_becomeFirst 5 = .ok (.aload_n 0, 1) := by decide +kernel
theorem dX6_becomeFirst_6 : decode cX6_becomeFirst 6 = .ok (.iconst 3, 1) := by decide +kernel
theorem dX6_becomeFirst_7 : decode cX6_becomeFirst 7 = .ok (.putfield 35, 3) := by decide +kernel
theorem dX6_becomeFirst_10 : decode cX6_becomeFirst 10 = .ok (.aload_n 0, 1) := by decide +kernel
theorem dX6_becomeFirst_11 : decode cX6_becomeFirst 11 = .ok (.getfield 14, 3) := by decide +kernel
theorem dX6_becomeFirst_14 : decode cX6_becomeFirst 14 = .ok (.sipush 1536, 3) := by decide +kernel
theorem dX6_becomeFirst_17 : decode cX6_becomeFirst 17 = .ok (.putfield 38, 3) := by decide +kernel
theorem dX6_becomeFirst_20 : decode cX6_becomeFirst 20 = .ok (.aload_n 0, 1) := by decide +kernel
theorem dX6_becomeFirst_21 : decode cX6_becomeFirst 21 = .ok (.getfield 14, 3) := by decide +kernel
theorem dX6_becomeFirst_24 : decode cX6_becomeFirst 24 = .ok (.getfield 41, 3) := by decide +kernel
theorem dX6_becomeFirst_27 : decode cX6_becomeFirst 27 = .ok (.iconst 0, 1) := by decide +kernel
theorem dX6_becomeFirst_28 : decode cX6_becomeFirst 28 = .ok (.invokestatic 44, 3) := by decide +kernel
theorem dX6_becomeFirst_31 : decode cX6_becomeFirst 31 = .ok (.aload_n 0, 1) := by decide +kernel
theorem dX6_becomeFirst_32 : decode cX6_becomeFirst 32 = .ok (.iconst 0, 1) := by decide +kernel
theorem dX6_becomeFirst_33 : decode cX6_becomeFirst 33 = .ok (.iconst 0, 1) := by decide +kernel
theorem dX6_becomeFirst_34 : decode cX6_becomeFirst 34 = .ok (.iconst 2, 1) := by decide +kernel
theorem dX6_becomeFirst_35 : decode cX6_becomeFirst 35 = .ok (.iconst 0, 1) := by decide +kernel
theorem dX6_becomeFirst_36 : decode cX6_becomeFirst 36 = .ok (.iconst 0, 1) := by decide +kernel
theorem dX6_becomeFirst_37 : decode cX6_becomeFirst 37 = .ok (.invokevirtual 50, 3) := by decide +kernel
theorem dX6_becomeFirst_40 : decode cX6_becomeFirst 40 = .ok (.iconst 0, 1) := by decide +kernel
theorem dX6_becomeFirst_41 : decode cX6_becomeFirst 41 = .ok (.istore_n 1, 1) := by decide +kernel
theorem dX6_becomeFirst_42 : decode cX6_becomeFirst 42 = .ok (.iload_n 1, 1) := by decide +kernel
theorem dX6_becomeFirst_43 : decode cX6_becomeFirst 43 = .ok (.bipush 17, 2) := by decide +kernel
theorem dX6_becomeFirst_45 : decode cX6_becomeFirst 45 = .ok (.if_icmp .gt 20, 3) := by decide +kernel
theorem dX6_becomeFirst_48 : decode cX6_becomeFirst 48 = .ok (.aload_n 0, 1) := by decide +kernel
theorem dX6_becomeFirst_49 : decode cX6_becomeFirst 49 = .ok (.iconst 1, 1) := by decide +kernel
theorem dX6_becomeFirst_50 : decode cX6_becomeFirst 50 = .ok (.iload_n 1, 1) := by decide +kernel
theorem dX6_becomeFirst_51 : decode cX6_becomeFirst 51 = .ok (.iadd, 1) := by decide +kernel
theorem dX6_becomeFirst_52 : decode cX6_becomeFirst 52 = .ok (.iconst 0, 1) := by decide +kernel
theorem dX6_becomeFirst_53 : decode cX6_becomeFirst 53 = .ok (.iconst 1, 1) := by decide +kernel
theorem dX6_becomeFirst_54 : decode cX6_becomeFirst 54 = .ok (.iload_n 1, 1) := by decide +kernel
theorem dX6_becomeFirst_55 : decode cX6_becomeFirst 55 = .ok (.iconst 0, 1) := by decide +kernel
theorem dX6_becomeFirst_56 : decode cX6_becomeFirst 56 = .ok (.invokevirtual 50, 3) := by decide +kernel
theorem dX6_becomeFirst_59 : decode cX6_becomeFirst 59 = .ok (.iinc 1 1, 3) := by decide +kernel
theorem dX6_becomeFirst_62 : decode cX6_becomeFirst 62 = .ok (.goto (-20), 3) := by decide +kernel
theorem dX6_becomeFirst_65 : decode cX6_becomeFirst 65 = .ok (.bipush 19, 2) := by decide +kernel
theorem dX6_becomeFirst_67 : decode cX6_becomeFirst 67 = .ok (.istore_n 1, 1) := by decide +kernel
theorem dX6_becomeFirst_68 : decode cX6_becomeFirst 68 = .ok (.iconst 0, 1) := by decide +kernel
theorem dX6_becomeFirst_69 : decode cX6_becomeFirst 69 = .ok (.istore_n 2, 1) := by decide +kernel
theorem dX6_becomeFirst_70 : decode cX6_becomeFirst 70 = .ok (.iload_n 2, 1) := by decide +kernel
theorem dX6_becomeFirst_71 : decode cX6_becomeFirst 71 = .ok (.bipush 8, 2) := by decide +kernel
theorem dX6_becomeFirst_73 : decode cX6_becomeFirst 73 = .ok (.if_icmp .gt 48, 3) := by decide +kernel
theorem dX6_becomeFirst_76 : decode cX6_becomeFirst 76 = .ok (.aload_n 0, 1) := by decide +kernel
theorem dX6_becomeFirst_77 : decode cX6_becomeFirst 77 = .ok (.iload_n 1, 1) := by decide +kernel
theorem dX6_becomeFirst_78 : decode cX6_becomeFirst 78 = .ok (.iconst 0, 1) := by decide +kernel
theorem dX6_becomeFirst_79 : decode cX6_becomeFirst 79 = .ok (.iconst 3, 1) := by decide +kernel
theorem dX6_becomeFirst_80 : decode cX6_becomeFirst 80 = .ok (.iconst 0, 1) := by decide +kernel
theorem dX6_becomeFirst_81 : decode cX6_becomeFirst 81 = .ok (.iload_n 2, 1) := by decide +kernel
theorem dX6_becomeFirst_82 : decode cX6_becomeFirst 82 = .ok (.invokevirtual 50, 3) := by decide +kernel
theorem dX6_becomeFirst_85 : decode cX6_becomeFirst 85 = .ok (.iconst 4, 1) := by decide +kernel
theorem dX6_becomeFirst_86 : decode cX6_becomeFirst 86 = .ok (.istore_n 3, 1) := by decide +kernel
theorem dX6_becomeFirst_87 : decode cX6_becomeFirst 87 = .ok (.iload_n 3, 1) := by decide +kernel
theorem dX6_becomeFirst_88 : decode cX6_becomeFirst 88 = .ok (.bipush 18, 2) := by decide +kernel
theorem dX6_becomeFirst_90 : decode cX6_becomeFirst 90 = .ok (.if_icmp .gt 22, 3) := by decide +kernel
theorem dX6_becomeFirst_93 : decode cX6_becomeFirst 93 = .ok (.aload_n 0, 1) := by decide +kernel
theorem dX6_becomeFirst_94 : decode cX6_becomeFirst 94 = .ok (.iload_n 1, 1) := by decide +kernel
theorem dX6_becomeFirst_95 : decode cX6_becomeFirst 95 = .ok (.iload_n 3, 1) := by decide +kernel
theorem dX6_becomeFirst_96 : decode cX6_becomeFirst 96 = .ok (.iadd, 1) := by decide +kernel
theorem dX6_becomeFirst_97 : decode cX6_becomeFirst 97 = .ok (.iconst 3, 1) := by decide +kernel
theorem dX6_becomeFirst_98 : decode cX6_becomeFirst 98 = .ok (.isub, 1) := by decide +kernel
theorem dX6_becomeFirst_99 : decode cX6_becomeFirst 99 = .ok (.iconst 0, 1) := by decide +kernel
theorem dX6_becomeFirst_100 : decode cX6_becomeFirst 100 = .ok (.iconst 3, 1) := by decide +kernel
theorem dX6_becomeFirst_101 : decode cX6_becomeFirst 101 = .ok (.iload_n 3, 1) := by decide +kernel
theorem dX6_becomeFirst_102 : decode cX6_becomeFirst 102 = .ok (.iload_n 2, 1) := by decide +kernel
theorem dX6_becomeFirst_103 : decode cX6_becomeFirst 103 = .ok (.invokevirtual 50, 3) := by decide +kernel
theorem dX6_becomeFirst_106 : decode cX6_becomeFirst 106 = .ok (.iinc 3 1, 3) := by decide +kernel
theorem dX6_becomeFirst_109 : decode cX6_becomeFirst 109 = .ok (.goto (-22), 3) := by decide +kernel
theorem dX6_becomeFirst_112 : decode cX6_becomeFirst 112 = .ok (.iinc 1 16, 3) := by decide +kernel
theorem dX6_becomeFirst_115 : decode cX6_becomeFirst 115 = .ok (.iinc 2 1, 3) := by decide +kernel
theorem dX6_becomeFirst_118 : decode cX6_becomeFirst 118 = .ok (.goto (-48), 3) := by decide +kernel
theorem dX6_becomeFirst_121 : decode cX6_becomeFirst 121 = .ok (.aload_n 0, 1) := by decide +kernel
theorem dX6_becomeFirst_122 : decode cX6_becomeFirst 122 = .ok (.iload_n 1, 1) := by decide +kernel
theorem dX6_becomeFirst_123 : decode cX6_becomeFirst 123 = .ok (.invokevirtual 54, 3) := by decide +kernel
theorem dX6_becomeFirst_126 : decode cX6_becomeFirst 126 = .ok (.return_, 1) := by decide +kernel
set_option maxRecDepth 20000 in
theorem ggX6_setFirstPairs_X6_setPart : GoodIn wsX6_setFirstPairs wsX6_setPart := goodIn_r _ [5, 6, 7, 8, 9, 10, 11, 12, 13, 14, 15, 16, 17, 18, 19, 20, 21, 22, 23, 24, 25] (by decide +kernel) (by decide +kernel)
set_option maxRecDepth 20000 in
theorem gX6_setFirstPairs_X6_setPart : GoodIn wsX6_setFirstPairs (wsV RX6 50 RX6 yX6_setPart wsX6_setPart) := goodIn_app (goodIn_of _ (by decide +kernel)) ggX6_setFirstPairs_X6_setPart
theorem dX6_setFirstPairs_0 : decode cX6_setFirstPairs 0 = .ok (.iload_n 1, 1) := by decide +kernel
theorem dX6_setFirstPairs_1 : decode cX6_setFirstPairs 1 = .ok (.istore_n 2, 1) := by decide +kernel
theorem dX6_setFirstPairs_2 : decode cX6_setFirstPairs 2 = .ok (.iconst 0, 1) := by decide +kernel
theorem dX6_setFirstPairs_3 : decode cX6_setFirstPairs 3 = .ok (.istore_n 3, 1) := by decide +kernel
theorem dX6_setFirstPairs_4 : decode cX6_setFirstPairs 4 = .ok (.iload_n 3, 1) := by decide +kernel
theorem dX6_setFirstPairs_5 : decode cX6_setFirstPairs 5 = .ok (.bipush 8, 2) := by decide +kernel
theorem dX6_setFirstPairs_7 : decode cX6_setFirstPairs 7 = .ok (.if_icmp .gt 76, 3) := by decide +kernel
theorem dX6_setFirstPairs_10 : decode cX6_setFirstPairs 10 = .ok (.iload_n 3, 1) := by decide +kernel
theorem dX6_setFirstPairs_11 : decode cX6_setFirstPairs 11 = .ok (.iconst 5, 1) := by decide +kernel
theorem dX6_setFirstPairs_12 : decode cX6_setFirstPairs 12 = .ok (.if_icmp .gt 8, 3) := by decide +kernel
theorem dX6_setFirstPairs_15 : decode cX6_setFirstPairs 15 = .ok (.bipush 6, 2) := by decide +kernel
theorem dX6_setFirstPairs_17 : decode cX6_setFirstPairs 17 = .ok (.goto 4, 3) := by decide +kernel
theorem dX6_setFirstPairs_20 : decode cX6_setFirstPairs 20 = .ok (.iconst 4, 1) := by decide +kernel
theorem dX6_setFirstPairs_21 : decode cX6_setFirstPairs 21 = .ok (.istore 4, 2) := by decide +kernel
theorem dX6_setFirstPairs_23 : decode cX6_setFirstPairs 23 = .ok (.iconst 1, 1) := by decide +kernel
theorem dX6_setFirstPairs_24 : decode cX6_setFirstPairs 24 = .ok (.istore 5, 2) := by decide +kernel
theorem dX6_setFirstPairs_26 : decode cX6_setFirstPairs 26 = .ok (.iload 5, 2) := by decide +kernel
theorem dX6_setFirstPairs_28 : decode cX6_setFirstPairs 28 = .ok (.iconst 4, 1) := by decide +kernel
theorem dX6_setFirstPairs_29 : decode cX6_setFirstPairs 29 = .ok (.if_icmp .gt 48, 3) := by decide +kernel
theorem dX6_setFirstPairs_32 : decode cX6_setFirstPairs 32 = .ok (.iconst 4, 1) := by decide +kernel
theorem dX6_setFirstPairs_33 : decode cX6_setFirstPairs 33 = .ok (.istore 6, 2) := by decide +kernel
theorem dX6_setFirstPairs_35 : decode cX6_setFirstPairs 35 = .ok (.iload 6, 2) := by decide +kernel
theorem dX6_setFirstPairs_37 : decode cX6_setFirstPairs 37 = .ok (.iload 4, 2) := by decide +kernel
theorem dX6_setFirstPairs_39 : decode cX6_setFirstPairs 39 = .ok (.if_icmp .gt 32, 3) := by decide +kernel
theorem dX6_setFirstPairs_42 : decode cX6_setFirstPairs 42 = .ok (.aload_n 0, 1) := by decide +kernel
theorem dX6_setFirstPairs_43 : decode cX6_setFirstPairs 43 = .ok (.iload_n 2, 1) := by decide +kernel
theorem dX6_setFirstPairs_44 : decode cX6_setFirstPairs 44 = .ok (.iconst 0, 1) := by decide +kernel
theorem dX6_setFirstPairs_45 : decode cX6_setFirstPairs 45 = .ok (.iconst 1, 1) := by decide +kernel
theorem dX6_setFirstPairs_46 : decode cX6_setFirstPairs 46 = .ok (.iload 5, 2) := by decide +kernel
theorem dX6_setFirstPairs_48 : decode cX6_setFirstPairs 48 = .ok (.iconst 0, 1) := by decide +kernel
theorem dX6_setFirstPairs_49 : decode cX6_setFirstPairs 49 = .ok (.invokevirtual 50, 3) := by decide +kernel
theorem dX6_setFirstPairs_52 : decode cX6_setFirstPairs 52 = .ok (.aload_n 0, 1) := by decide +kernel
theorem dX6_setFirstPairs_53 : decode cX6_setFirstPairs 53 = .ok (.iload_n 2, 1) := by decide +kernel
theorem dX6_setFirstPairs_54 : decode cX6_setFirstPairs 54 = .ok (.iconst 1, 1) := by decide +kernel
theorem dX6_setFirstPairs_55 : decode cX6_setFirstPairs 55 = .ok (.iconst 3, 1) := by decide +kernel
theorem dX6_setFirstPairs_56 : decode cX6_setFirstPairs 56 = .ok (.iload 6, 2) := by decide +kernel
theorem dX6_setFirstPairs_58 : decode cX6_setFirstPairs 58 = .ok (.iload_n 3, 1) := by decide +kernel
theorem dX6_setFirstPairs_59 : decode cX6_setFirstPairs 59 = .ok (.invokevirtual 50, 3) := by decide +kernel
theorem dX6_setFirstPairs_62 : decode cX6_setFirstPairs 62 = .ok (.iinc 2 1, 3) := by decide +kernel
theorem dX6_setFirstPairs_65 : decode cX6_setFirstPairs 65 = .ok (.iinc 6 1, 3) := by decide +kernel
theorem dX6_setFirstPairs_68 : decode cX6_setFirstPairs 68 = .ok (.goto (-33), 3) := by decide +kernel
theorem dX6_setFirstPairs_71 : decode cX6_setFirstPairs 71 = .ok (.iinc 5 1, 3) := by decide +kernel
theorem dX6_setFirstPairs_74 : decode cX6_setFirstPairs 74 = .ok (.goto (-48), 3) := by decide +kernel
theorem dX6_setFirstPairs_77 : decode cX6_setFirstPairs 77 = .ok (.iinc 3 1, 3) := by decide +kernel
theorem dX6_setFirstPairs_80 : decode cX6_setFirstPairs 80 = .ok (.goto (-76), 3) := by decide +kernel
theorem dX6_setFirstPairs_83 : decode cX6_setFirstPairs 83 = .ok (.iconst 0, 1) := by decide +kernel
theorem dX6_setFirstPairs_84 : decode cX6_setFirstPairs 84 = .ok (.istore_n 3, 1) := by decide +kernel
theorem dX6_setFirstPairs_85 : decode cX6_setFirstPairs 85 = .ok (.iload_n 3, 1) := by decide +kernel
theorem dX6_setFirstPairs_86 : decode cX6_setFirstPairs 86 = .ok (.bipush 8, 2) := by decide +kernel
theorem dX6_setFirstPairs_88 : decode cX6_setFirstPairs 88 = .ok (.if_icmp .gt 30, 3) := by decide +kernel
theorem dX6_setFirstPairs_91 : decode cX6_setFirstPairs 91 = .ok (.aload_n 0, 1) := by decide +kernel
theorem dX6_setFirstPairs_92 : decode cX6_setFirstPairs 92 = .ok (.iload_n 2, 1) := by decide +kernel
theorem dX6_setFirstPairs_93 : decode cX6_setFirstPairs 93 = .ok (.iconst 0, 1) := by decide +kernel
theorem dX6_setFirstPairs_94 : decode cX6_setFirstPairs 94 = .ok (.iconst 3, 1) := by decide +kernel
theorem dX6_setFirstPairs_95 : decode cX6_setFirstPairs 95 = .ok (.iconst 4, 1) := by decide +kernel
theorem dX6_setFirstPairs_96 : decode cX6_setFirstPairs 96 = .ok (.iload_n 3, 1) := by decide +kernel
theorem dX6_setFirstPairs_97 : decode cX6_setFirstPairs 97 = .ok (.invokevirtual 50, 3) := by decide +kernel
theorem dX6_setFirstPairs_100 : decode cX6_setFirstPairs 100 = .ok (.aload_n 0, 1) := by decide +kernel
theorem dX6_setFirstPairs_101 : decode cX6_setFirstPairs 101 = .ok (.iload_n 2, 1) := by decide +kernel
theorem dX6_setFirstPairs_102 : decode cX6_setFirstPairs 102 = .ok (.iconst 1, 1) := by decide +kernel
theorem dX6_setFirstPairs_103 : decode cX6_setFirstPairs 103 = .ok (.iconst 1, 1) := by decide +kernel
theorem dX6_setFirstPairs_104 : decode cX6_setFirstPairs 104 = .ok (.iconst 1, 1) := by decide +kernel
theorem dX6_setFirstPairs_105 : decode cX6_setFirstPairs 105 = .ok (.iconst 0, 1) := by decide +kernel
theorem dX6_setFirstPairs_106 : decode cX6_setFirstPairs 106 = .ok (.invokevirtual 50, 3) := by decide +kernel
theorem dX6_setFirstPairs_109 : decode cX6_setFirstPairs 109 = .ok (.iinc 2 1, 3) := by decide +kernel
theorem dX6_setFirstPairs_112 : decode cX6_setFirstPairs 112 = .ok (.iinc 3 1, 3) := by decide +kernel
theorem dX6_setFirstPairs_115 : decode cX6_setFirstPairs 115 = .ok (.goto (-30), 3) := by decide +kernel
theorem dX6_setFirstPairs_118 : decode cX6_setFirstPairs 118 = .ok (.return_, 1) := by decide +kernel
set_option maxRecDepth 20000 in
theorem ggX6_setPart_X4_replace : GoodIn wsX6_setPart wsX4_replace := goodIn_r _ [6, 7, 8, 9, 10, 5, 11, 12, 18, 19, 20] (by decide +kernel) (by decide +kernel)
set_option maxRecDepth 20000 in
theorem gX6_setPart_X4_replace : GoodIn wsX6_setPart (wsV RX6 57 RX4 yX4_replace wsX4_replace) := goodIn_app (goodIn_of _ (by decide +kernel)) ggX6_setPart_X4_replace
theorem dX6_setPart_0 : decode cX6_setPart 0 = .ok (.aload_n 0, 1) := by decide +kernel
theorem dX6_setPart_1 : decode cX6_setPart 1 = .ok (.getfield 14, 3) := by decide +kernel
theorem dX6_setPart_4 : decode cX6_setPart 4 = .ok (.iload_n 2, 1) := by decide +kernel
theorem dX6_setPart_5 : decode cX6_setPart 5 = .ok (.sipush 256, 3) := by decide +kernel
theorem dX6_setPart_8 : decode cX6_setPart 8 = .ok (.imul, 1) := by decide +kernel
theorem dX6_setPart_9 : decode cX6_setPart 9 = .ok (.iload_n 1, 1) := by decide +kernel
theorem dX6_setPart_10 : decode cX6_setPart 10 = .ok (.iadd, 1) := by decide +kernel
theorem dX6_setPart_11 : decode cX6_setPart 11 = .ok (.iload_n 3, 1) := by decide +kernel
theorem dX6_setPart_12 : decode cX6_setPart 12 = .ok (.invokevirtual 57, 3) := by decide +kernel
theorem dX6_setPart_15 : decode cX6_setPart 15 = .ok (.pop, 1) := by decide +kernel
theorem dX6_setPart_16 : decode cX6_setPart 16 = .ok (.aload_n 0, 1) := by decide +kernel
theorem dX6_setPart_17 : decode cX6_setPart 17 = .ok (.getfield 14, 3) := by decide +kernel
theorem dX6_setPart_20 : decode cX6_setPart 20 = .ok (.sipush 512, 3) := by decide +kernel
theorem dX6_setPart_23 : decode cX6_setPart 23 = .ok (.iload_n 2, 1) := by decide +kernel
theorem dX6_setPart_24 : decode cX6_setPart 24 = .ok (.sipush 256, 3) := by decide +kernel
theorem dX6_setPart_27 : decode cX6_setPart 27 = .ok (.imul, 1) := by decide +kernel
theorem dX6_setPart_28 : decode cX6_setPart 28 = .ok (.iadd, 1) := by decide +kernel
theorem dX6_setPart_29 : decode cX6_setPart 29 = .ok (.iload_n 1, 1) := by decide +kernel
theorem dX6_setPart_30 : decode cX6_setPart 30 = .ok (.iadd, 1) := by decide +kernel
theorem dX6_setPart_31 : decode cX6_setPart 31 = .ok (.iload 4, 2) := by decide +kernel
theorem dX6_setPart_33 : decode cX6_setPart 33 = .ok (.invokevirtual 57, 3) := by decide +kernel
theorem dX6_setPart_36 : decode cX6_setPart 36 = .ok (.pop, 1) := by decide +kernel
theorem dX6_setPart_37 : decode cX6_setPart 37 = .ok (.aload_n 0, 1) := by decide +kernel
theorem dX6_setPart_38 : decode cX6_setPart 38 = .ok (.getfield 14, 3) := by decide +kernel
theorem dX6_setPart_41 : decode cX6_setPart 41 = .ok (.sipush 1024, 3) := by decide +kernel
theorem dX6_setPart_44 : decode cX6_setPart 44 = .ok (.iload_n 2, 1) := by decide +kernel
theorem dX6_setPart_45 : decode cX6_setPart 45 = .ok (.sipush 256, 3) := by decide +kernel
theorem dX6_setPart_48 : decode cX6_setPart 48 = .ok (.imul, 1) := by decide +kernel
theorem dX6_setPart_49 : decode cX6_setPart 49 = .ok (.iadd, 1) := by decide +kernel
theorem dX6_setPart_50 : decode cX6_setPart 50 = .ok (.iload_n 1, 1) := by decide +kernel
theorem dX6_setPart_51 : decode cX6_setPart 51 = .ok (.iadd, 1) := by decide +kernel
theorem dX6_setPart_52 : decode cX6_setPart 52 = .ok (.iload 5, 2) := by decide +kernel
theorem dX6_setPart_54 : decode cX6_setPart 54 = .ok (.invokevirtual 57, 3) := by decide +kernel
theorem dX6_setPart_57 : decode cX6_setPart 57 = .ok (.pop, 1) := by decide +kernel
theorem dX6_setPart_58 : decode cX6_setPart 58 = .ok (.return_, 1) := by decide +kernel
set_option maxRecDepth 20000 in
theorem ggX6_sortCodes_J7_fill_53178 : GoodIn wsX6_sortCodes wsJ7_fill_53178 := goodIn_r _ [6] (by decide +kernel) (by decide +kernel)
set_option maxRecDepth 20000 in
theorem gX6_sortCodes_J7_fill_53178 : GoodIn wsX6_sortCodes (va_wsS RX6 44 yJ7_fill_53178 wsJ7_fill_53178) := goodIn_app (goodIn_of _ (by decide +kernel)) ggX6_sortCodes_J7_fill_53178
set_option maxRecDepth 20000 in
theorem ggX6_sortCodes_X6_kindOf : GoodIn wsX6_sortCodes wsX6_kindOf := goodIn_r _ [11, 12, 13, 14, 15, 16, 17, 18, 19, 31, 32, 33, 34, 35, 36, 37, 38] (by decide +kernel) (by decide +kernel)
set_option maxRecDepth 20000 in
theorem gX6_sortCodes_X6_kindOf : GoodIn wsX6_sortCodes (wsV RX6 61 RX6 yX6_kindOf wsX6_kindOf) := goodIn_app (goodIn_of _ (by decide +kernel)) ggX6_sortCodes_X6_kindOf
set_option maxRecDepth 20000 in
theorem ggX6_sortCodes_X6_sizeOf : GoodIn wsX6_sortCodes wsX6_sizeOf := goodIn_r _ [23, 12, 13, 14, 15, 16, 17, 18, 19, 31, 32, 33, 34, 35, 36, 37, 38] (by decide +kernel) (by decide +kernel)
set_option maxRecDepth 20000 in
theorem gX6_sortCodes_X6_sizeOf : GoodIn wsX6_sortCodes (wsV RX6 64 RX6 yX6_sizeOf wsX6_sizeOf) := goodIn_app (goodIn_of _ (by decide +kernel)) ggX6_sortCodes_X6_sizeOf
set_option maxRecDepth 20000 in
theorem ggX6_sortCodes_X6_modeOf : GoodIn wsX6_sortCodes wsX6_modeOf := goodIn_r _ [27, 12, 13, 14, 15, 16, 17, 18, 19, 31, 32, 33, 34, 35, 36, 37, 38] (by decide +kernel) (by decide +kernel)
set_option maxRecDepth 20000 in
theorem gX6_sortCodes_X6_modeOf : GoodIn wsX6_sortCodes (wsV RX6 67 RX6 yX6_modeOf wsX6_modeOf) := goodIn_app (goodIn_of _ (by decide +kernel)) ggX6_sortCodes_X6_modeOf
set_option maxRecDepth 20000 in
theorem ggX6_sortCodes_X6_chainOf : GoodIn wsX6_sortCodes wsX6_chainOf := goodIn_r _ [30] (by decide +kernel) (by decide +kernel)
set_option maxRecDepth 20000 in
theorem gX6_sortCodes_X6_chainOf : GoodIn wsX6_sortCodes (va_wsS RX6 70 yX6_chainOf wsX6_chainOf) := goodIn_app (goodIn_of _ (by decide +kernel)) ggX6_sortCodes_X6_chainOf
theorem dX6_sortCodes_0 : decode cX6_sortCodes 0 = .ok (.aload_n 0, 1) := by decide +kernel
theorem dX6_sortCodes_1 : decode cX6_sortCodes 1 = .ok (.getfield 20, 3) := by decide +kernel
theorem dX6_sortCodes_4 : decode cX6_sortCodes 4 = .ok (.iconst (-1), 1) := by decide +kernel
theorem dX6_sortCodes_5 : decode cX6_sortCodes 5 = .ok (.invokestatic 44, 3) := by decide +kernel
theorem dX6_sortCodes_8 : decode cX6_sortCodes 8 = .ok (.sipush 255, 3) := by decide +kernel
theorem dX6_sortCodes_11 : decode cX6_sortCodes 11 = .ok (.istore_n 1, 1) := by decide +kernel
theorem dX6_sortCodes_12 : decode cX6_sortCodes 12 = .ok (.iload_n 1, 1) := by decide +kernel
theorem dX6_sortCodes_13 : decode cX6_sortCodes 13 = .ok (.ifCond .lt 50, 3) := by decide +kernel
theorem dX6_sortCodes_16 : decode cX6_sortCodes 16 = .ok (.aload_n 0, 1) := by decide +kernel
theorem dX6_sortCodes_17 : decode cX6_sortCodes 17 = .ok (.iload_n 1, 1) := by decide +kernel
theorem dX6_sortCodes_18 : decode cX6_sortCodes 18 = .ok (.iconst 0, 1) := by decide +kernel
theorem dX6_sortCodes_19 : decode cX6_sortCodes 19 = .ok (.invokevirtual 61, 3) := by decide +kernel
theorem dX6_sortCodes_22 : decode cX6_sortCodes 22 = .ok (.aload_n 0, 1) := by decide +kernel
theorem dX6_sortCodes_23 : decode cX6_sortCodes 23 = .ok (.iload_n 1, 1) := by decide +kernel
theorem dX6_sortCodes_24 : decode cX6_sortCodes 24 = .ok (.iconst 0, 1) := by decide +kernel
theorem dX6_sortCodes_25 : decode cX6_sortCodes 25 = .ok (.invokevirtual 64, 3) := by decide +kernel
theorem dX6_sortCodes_28 : decode cX6_sortCodes 28 = .ok (.aload_n 0, 1) := by decide +kernel
theorem dX6_sortCodes_29 : decode cX6_sortCodes 29 = .ok (.iload_n 1, 1) := by decide +kernel
theorem dX6_sortCodes_30 : decode cX6_sortCodes 30 = .ok (.iconst 0, 1) := by decide +kernel
theorem dX6_sortCodes_31 : decode cX6_sortCodes 31 = .ok (.invokevirtual 67, 3) := by decide +kernel
theorem dX6_sortCodes_34 : decode cX6_sortCodes 34 = .ok (.invokestatic 70, 3) := by decide +kernel
theorem dX6_sortCodes_37 : decode cX6_sortCodes 37 = .ok (.istore_n 2, 1) := by decide +kernel
theorem dX6_sortCodes_38 : decode cX6_sortCodes 38 = .ok (.aload_n 0, 1) := by decide +kernel
theorem dX6_sortCodes_39 : decode cX6_sortCodes 39 = .ok (.getfield 24, 3) := by decide +kernel
theorem dX6_sortCodes_42 : decode cX6_sortCodes 42 = .ok (.iload_n 1, 1) := by decide +kernel
theorem dX6_sortCodes_43 : decode cX6_sortCodes 43 = .ok (.aload_n 0, 1) := by decide +kernel
theorem dX6_sortCodes_44 : decode cX6_sortCodes 44 = .ok (.getfield 20, 3) := by decide +kernel
theorem dX6_sortCodes_47 : decode cX6_sortCodes 47 = .ok (.iload_n 2, 1) := by decide +kernel
theorem dX6_sortCodes_48 : decode cX6_sortCodes 48 = .ok (.iaload, 1) := by decide +kernel
theorem dX6_sortCodes_49 : decode cX6_sortCodes 49 = .ok (.iastore, 1) := by decide +kernel
theorem dX6_sortCodes_50 : decode cX6_sortCodes 50 = .ok (.aload_n 0, 1) := by decide +kernel
theorem dX6_sortCodes_51 : decode cX6_sortCodes 51 = .ok (.getfield 20, 3) := by decide +kernel
theorem dX6_sortCodes_54 : decode cX6_sortCodes 54 = .ok (.iload_n 2, 1) := by decide +kernel
theorem dX6_sortCodes_55 : decode cX6_sortCodes 55 = .ok (.iload_n 1, 1) := by decide +kernel
theorem dX6_sortCodes_56 : decode cX6_sortCodes 56 = .ok (.iastore, 1) := by decide +kernel
theorem dX6_sortCodes_57 : decode cX6_sortCodes 57 = .ok (.iinc 1 (-1), 3) := by decide +kernel
theorem dX6_sortCodes_60 : decode cX6_sortCodes 60 = .ok (.goto (-48), 3) := by decide +kernel
theorem dX6_sortCodes_63 : decode cX6_sortCodes 63 = .ok (.return_, 1) := by decide +kernel
theorem dX6_chainOf_0 : decode cX6_chainOf 0 = .ok (.iload_n 0, 1) := by decide +kernel
theorem dX6_chainOf_1 : decode cX6_chainOf 1 = .ok (.iconst 3, 1) := by decide +kernel
theorem dX6_chainOf_2 : decode cX6_chainOf 2 = .ok (.if_icmp .ne 15, 3) := by decide +kernel
theorem dX6_chainOf_5 : decode cX6_chainOf 5 = .ok (.bipush 64, 2) := by decide +kernel
theorem dX6_chainOf_7 : decode cX6_chainOf 7 = .ok (.iload_n 1, 1) := by decide +kernel
theorem dX6_chainOf_8 : decode cX6_chainOf 8 = .ok (.iadd, 1) := by decide +kernel
theorem dX6_chainOf_9 : decode cX6_chainOf 9 = .ok (.bipush 19, 2) := by decide +kernel
theorem dX6_chainOf_11 : decode cX6_chainOf 11 = .ok (.iload_n 2, 1) := by decide +kernel
theorem dX6_chainOf_12 : decode cX6_chainOf 12 = .ok (.imul, 1) := by decide +kernel
theorem dX6_chainOf_13 : decode cX6_chainOf 13 = .ok (.iadd, 1) := by decide +kernel
theorem dX6_chainOf_14 : decode cX6_chainOf 14 = .ok (.goto 10, 3) := by decide +kernel
theorem dX6_chainOf_17 : decode cX6_chainOf 17 = .ok (.sipush 128, 3) := by decide +kernel
theorem dX6_chainOf_20 : decode cX6_chainOf 20 = .ok (.iload_n 0, 1) := by decide +kernel
theorem dX6_chainOf_21 : decode cX6_chainOf 21 = .ok (.imul, 1) := by decide +kernel
theorem dX6_chainOf_22 : decode cX6_chainOf 22 = .ok (.iload_n 1, 1) := by decide +kernel
theorem dX6_chainOf_23 : decode cX6_chainOf 23 = .ok (.iadd, 1) := by decide +kernel
theorem dX6_chainOf_24 : decode cX6_chainOf 24 = .ok (.sipush 255, 3) := by decide +kernel
theorem dX6_chainOf_27 : decode cX6_chainOf 27 = .ok (.iand, 1) := by decide +kernel
theorem dX6_chainOf_28 : decode cX6_chainOf 28 = .ok (.ireturn, 1) := by decide +kernel
set_option maxRecDepth 20000 in
theorem ggX6_pairFor_X5_at : GoodIn wsX6_pairFor wsX5_at := goodIn_r _ [7, 8, 9, 10, 11, 6, 12, 13, 14, 48, 49, 50] (by decide +kernel) (by decide +kernel)
set_option maxRecDepth 20000 in
theorem gX6_pairFor_X5_at : GoodIn wsX6_pairFor (wsV RX6 76 RX5 yX5_at wsX5_at) := goodIn_app (goodIn_of _ (by decide +kernel)) ggX6_pairFor_X5_at
set_option maxRecDepth 20000 in
theorem ggX6_pairFor_X6_chainOf : GoodIn wsX6_pairFor wsX6_chainOf := goodIn_r _ [18] (by decide +kernel) (by decide +kernel)
set_option maxRecDepth 20000 in
theorem gX6_pairFor_X6_chainOf : GoodIn wsX6_pairFor (va_wsS RX6 70 yX6_chainOf wsX6_chainOf) := goodIn_app (goodIn_of _ (by decide +kernel)) ggX6_pairFor_X6_chainOf
set_option maxRecDepth 20000 in
theorem ggX6_pairFor_X6_fits : GoodIn wsX6_pairFor wsX6_fits := goodIn_r _ [22, 23, 24, 25, 17, 26, 27, 28, 29, 30, 31, 32, 33, 34, 35, 36, 37, 38, 39, 40, 41, 42, 43, 44, 45, 46, 47, 51, 52, 53] (by decide +kernel) (by decide +kernel)
set_option maxRecDepth 20000 in
theorem gX6_pairFor_X6_fits : GoodIn wsX6_pairFor (wsV RX6 78 RX6 yX6_fits wsX6_fits) := goodIn_app (goodIn_of _ (by decide +kernel)) ggX6_pairFor_X6_fits
theorem dX6_pairFor_0 : decode cX6_pairFor 0 = .ok (.aload_n 1, 1) := by decide +kernel
theorem dX6_pairFor_1 : decode cX6_pairFor 1 = .ok (.iload_n 2, 1) := by decide +kernel
theorem dX6_pairFor_2 : decode cX6_pairFor 2 = .ok (.iconst 0, 1) := by decide +kernel
theorem dX6_pairFor_3 : decode cX6_pairFor 3 = .ok (.invokevirtual 76, 3) := by decide +kernel
theorem dX6_pairFor_6 : decode cX6_pairFor 6 = .ok (.istore_n 3, 1) := by decide +kernel
theorem dX6_pairFor_7 : decode cX6_pairFor 7 = .ok (.aload_n 1, 1) := by decide +kernel
theorem dX6_pairFor_8 : decode cX6_pairFor 8 = .ok (.iload_n 2, 1) := by decide +kernel
theorem dX6_pairFor_9 : decode cX6_pairFor 9 = .ok (.iconst 1, 1) := by decide +kernel
theorem dX6_pairFor_10 : decode cX6_pairFor 10 = .ok (.invokevirtual 76, 3) := by decide +kernel
theorem dX6_pairFor_13 : decode cX6_pairFor 13 = .ok (.istore 4, 2) := by decide +kernel
theorem dX6_pairFor_15 : decode cX6_pairFor 15 = .ok (.aload_n 1, 1) := by decide +kernel
theorem dX6_pairFor_16 : decode cX6_pairFor 16 = .ok (.iload_n 2, 1) := by decide +kernel
theorem dX6_pairFor_17 : decode cX6_pairFor 17 = .ok (.iconst 3, 1) := by decide +kernel
theorem dX6_pairFor_18 : decode cX6_pairFor 18 = .ok (.invokevirtual 76, 3) := by decide +kernel
theorem dX6_pairFor_21 : decode cX6_pairFor 21 = .ok (.istore 5, 2) := by decide +kernel
theorem dX6_pairFor_23 : decode cX6_pairFor 23 = .ok (.aload_n 1, 1) := by decide +kernel
theorem dX6_pairFor_24 : decode cX6_pairFor 24 = .ok (.iload_n 2, 1) := by decide +kernel
theorem dX6_pairFor_25 : decode cX6_pairFor 25 = .ok (.iconst 1, 1) := by decide +kernel
theorem dX6_pairFor_26 : decode cX6_pairFor 26 = .ok (.iadd, 1) := by decide +kernel
theorem dX6_pairFor_27 : decode cX6_pairFor 27 = .ok (.iconst 0, 1) := by decide +kernel
theorem dX6_pairFor_28 : decode cX6_pairFor 28 = .ok (.invokevirtual 76, 3) := by decide +kernel
theorem dX6_pairFor_31 : decode cX6_pairFor 31 = .ok (.istore 6, 2) := by decide +kernel
theorem dX6_pairFor_33 : decode cX6_pairFor 33 = .ok (.aload_n 1, 1) := by decide +kernel
theorem dX6_pairFor_34 : decode cX6_pairFor 34 = .ok (.iload_n 2, 1) := by decide +kernel
theorem dX6_pairFor_35 : decode cX6_pairFor 35 = .ok (.iconst 1, 1) := by decide +kernel
theorem dX6_pairFor_36 : decode cX6_pairFor 36 = .ok (.iadd, 1) := by decide +kernel
theorem dX6_pairFor_37 : decode cX6_pairFor 37 = .ok (.iconst 1, 1) := by decide +kernel
theorem dX6_pairFor_38 : decode cX6_pairFor 38 = .ok (.invokevirtual 76, 3) := by decide +kernel
theorem dX6_pairFor_41 : decode cX6_pairFor 41 = .ok (.istore 7, 2) := by decide +kernel
theorem dX6_pairFor_43 : decode cX6_pairFor 43 = .ok (.aload_n 1, 1) := by decide +kernel
theorem dX6_pairFor_44 : decode cX6_pairFor 44 = .ok (.iload_n 2, 1) := by decide +kernel
theorem dX6_pairFor_45 : decode cX6_pairFor 45 = .ok (.iconst 1, 1) := by decide +kernel
theorem dX6_pairFor_46 : decode cX6_pairFor 46 = .ok (.iadd, 1) := by decide +kernel
theorem dX6_pairFor_47 : decode cX6_pairFor 47 = .ok (.iconst 3, 1) := by decide +kernel
theorem dX6_pairFor_48 : decode cX6_pairFor 48 = .ok (.invokevirtual 76, 3) := by decide +kernel
theorem dX6_pairFor_51 : decode cX6_pairFor 51 = .ok (.istore 8, 2) := by decide +kernel
theorem dX6_pairFor_53 : decode cX6_pairFor 53 = .ok (.aload_n 0, 1) := by decide +kernel
theorem dX6_pairFor_54 : decode cX6_pairFor 54 = .ok (.getfield 20, 3) := by decide +kernel
theorem dX6_pairFor_57 : decode cX6_pairFor 57 = .ok (.iload_n 3, 1) := by decide +kernel
theorem dX6_pairFor_58 : decode cX6_pairFor 58 = .ok (.iload 4, 2) := by decide +kernel
theorem dX6_pairFor_60 : decode cX6_pairFor 60 = .ok (.iload 5, 2) := by decide +kernel
theorem dX6_pairFor_62 : decode cX6_pairFor 62 = .ok (.invokestatic 70, 3) := by decide +kernel
theorem dX6_pairFor_65 : decode cX6_pairFor 65 = .ok (.iaload, 1) := by decide +kernel
theorem dX6_pairFor_66 : decode cX6_pairFor 66 = .ok (.istore 9, 2) := by decide +kernel
theorem dX6_pairFor_68 : decode cX6_pairFor 68 = .ok (.iconst 0, 1) := by decide +kernel
theorem dX6_pairFor_69 : decode cX6_pairFor 69 = .ok (.istore 10, 2) := by decide +kernel
theorem dX6_pairFor_71 : decode cX6_pairFor 71 = .ok (.iload 10, 2) := by decide +kernel
theorem dX6_pairFor_73 : decode cX6_pairFor 73 = .ok (.sipush 256, 3) := by decide +kernel
theorem dX6_pairFor_76 : decode cX6_pairFor 76 = .ok (.if_icmp .ge 57, 3) := by decide +kernel
theorem dX6_pairFor_79 : decode cX6_pairFor 79 = .ok (.iload 9, 2) := by decide +kernel
theorem dX6_pairFor_81 : decode cX6_pairFor 81 = .ok (.ifCond .lt 52, 3) := by decide +kernel
theorem dX6_pairFor_84 : decode cX6_pairFor 84 = .ok (.aload_n 0, 1) := by decide +kernel
theorem dX6_pairFor_85 : decode cX6_pairFor 85 = .ok (.iload 9, 2) := by decide +kernel
theorem dX6_pairFor_87 : decode cX6_pairFor 87 = .ok (.iconst 1, 1) := by decide +kernel
theorem dX6_pairFor_88 : decode cX6_pairFor 88 = .ok (.iload 6, 2) := by decide +kernel
theorem dX6_pairFor_90 : decode cX6_pairFor 90 = .ok (.iload 7, 2) := by decide +kernel
theorem dX6_pairFor_92 : decode cX6_pairFor 92 = .ok (.iload 8, 2) := by decide +kernel
theorem dX6_pairFor_94 : decode cX6_pairFor 94 = .ok (.invokevirtual 78, 3) := by decide +kernel
theorem dX6_pairFor_97 : decode cX6_pairFor 97 = .ok (.ifCond .eq 21, 3) := by decide +kernel
theorem dX6_pairFor_100 : decode cX6_pairFor 100 = .ok (.aload_n 0, 1) := by decide +kernel
theorem dX6_pairFor_101 : decode cX6_pairFor 101 = .ok (.iload 9, 2) := by decide +kernel
theorem dX6_pairFor_103 : decode cX6_pairFor 103 = .ok (.iconst 0, 1) := by decide +kernel
theorem dX6_pairFor_104 : decode cX6_pairFor 104 = .ok (.iload_n 3, 1) := by decide +kernel
theorem dX6_pairFor_105 : decode cX6_pairFor 105 = .ok (.iload 4, 2) := by decide +kernel
theorem dX6_pairFor_107 : decode cX6_pairFor 107 = .ok (.iload 5, 2) := by decide +kernel
theorem dX6_pairFor_109 : decode cX6_pairFor 109 = .ok (.invokevirtual 78, 3) := by decide +kernel
theorem dX6_pairFor_112 : decode cX6_pairFor 112 = .ok (.ifCond .eq 6, 3) := by decide +kernel
theorem dX6_pairFor_115 : decode cX6_pairFor 115 = .ok (.iload 9, 2) := by decide +kernel
theorem dX6_pairFor_117 : decode cX6_pairFor 117 = .ok (.ireturn, 1) := by decide +kernel
theorem dX6_pairFor_118 : decode cX6_pairFor 118 = .ok (.aload_n 0, 1) := by decide +kernel
theorem dX6_pairFor_119 : decode cX6_pairFor 119 = .ok (.getfield 24, 3) := by decide +kernel
theorem dX6_pairFor_122 : decode cX6_pairFor 122 = .ok (.iload 9, 2) := by decide +kernel
theorem dX6_pairFor_124 : decode cX6_pairFor 124 = .ok (.iaload, 1) := by decide +kernel
theorem dX6_pairFor_125 : decode cX6_pairFor 125 = .ok (.istore 9, 2) := by decide +kernel
theorem dX6_pairFor_127 : decode cX6_pairFor 127 = .ok (.iinc 10 1, 3) := by decide +kernel
theorem dX6_pairFor_130 : decode cX6_pairFor 130 = .ok (.goto (-59), 3) := by decide +kernel
theorem dX6_pairFor_133 : decode cX6_pairFor 133 = .ok (.iconst (-1), 1) := by decide +kernel
theorem dX6_pairFor_134 : decode cX6_pairFor 134 = .ok (.ireturn, 1) := by decide +kernel
set_option maxRecDepth 20000 in
theorem ggX6_singleFor_X6_chainOf : GoodIn wsX6_singleFor wsX6_chainOf := goodIn_r _ [6] (by decide +kernel) (by decide +kernel)
set_option maxRecDepth 20000 in
theorem gX6_singleFor_X6_chainOf : GoodIn wsX6_singleFor (va_wsS RX6 70 yX6_chainOf wsX6_chainOf) := goodIn_app (goodIn_of _ (by decide +kernel)) ggX6_singleFor_X6_chainOf
set_option maxRecDepth 20000 in
theorem ggX6_singleFor_X6_kindOf : GoodIn wsX6_singleFor wsX6_kindOf := goodIn_r _ [10, 11, 12, 13, 14, 15, 16, 17, 18, 31, 32, 33, 34, 35, 36, 37, 38] (by decide +kernel) (by decide +kernel)
set_option maxRecDepth 20000 in
theorem gX6_singleFor_X6_kindOf : GoodIn wsX6_singleFor (wsV RX6 61 RX6 yX6_kindOf wsX6_kindOf) := goodIn_app (goodIn_of _ (by decide +kernel)) ggX6_singleFor_X6_kindOf
set_option maxRecDepth 20000 in
theorem ggX6_singleFor_X6_fits : GoodIn wsX6_singleFor wsX6_fits := goodIn_r _ [22, 7, 8, 9, 5, 10, 11, 12, 13, 14, 15, 16, 17, 18, 23, 24, 25, 26, 27, 28, 29, 30, 31, 32, 33, 34, 35, 36, 37, 38] (by decide +kernel) (by decide +kernel)
set_option maxRecDepth 20000 in
theorem gX6_singleFor_X6_fits : GoodIn wsX6_singleFor (wsV RX6 78 RX6 yX6_fits wsX6_fits) := goodIn_app (goodIn_of _ (by decide +kernel)) ggX6_singleFor_X6_fits
theorem dX6_singleFor_0 : decode cX6_singleFor 0 = .ok (.aload_n 0, 1) := by decide +kernel
theorem dX6_singleFor_1 : decode cX6_singleFor 1 = .ok (.getfield 20, 3) := by decide +kernel
theorem dX6_singleFor_4 : decode cX6_singleFor 4 = .ok (.iload_n 1, 1) := by decide +kernel
theorem dX6_singleFor_5 : decode cX6_singleFor 5 = .ok (.iload_n 2, 1) := by decide +kernel
theorem dX6_singleFor_6 : decode cX6_singleFor 6 = .ok (.iload_n 3, 1) := by decide +kernel
theorem dX6_singleFor_7 : decode cX6_singleFor 7 = .ok (.invokestatic 70, 3) := by decide +kernel
theorem dX6_singleFor_10 : decode cX6_singleFor 10 = .ok (.iaload, 1) := by decide +kernel
theorem dX6_singleFor_11 : decode cX6_singleFor 11 = .ok (.istore 4, 2) := by decide +kernel
theorem dX6_singleFor_13 : decode cX6_singleFor 13 = .ok (.iconst 0, 1) := by decide +kernel
theorem dX6_singleFor_14 : decode cX6_singleFor 14 = .ok (.istore 5, 2) := by decide +kernel
theorem dX6_singleFor_16 : decode cX6_singleFor 16 = .ok (.iload 5, 2) := by decide +kernel
theorem dX6_singleFor_18 : decode cX6_singleFor 18 = .ok (.sipush 256, 3) := by decide +kernel
theorem dX6_singleFor_21 : decode cX6_singleFor 21 = .ok (.if_icmp .ge 49, 3) := by decide +kernel
theorem dX6_singleFor_24 : decode cX6_singleFor 24 = .ok (.iload 4, 2) := by decide +kernel
theorem dX6_singleFor_26 : decode cX6_singleFor 26 = .ok (.ifCond .lt 44, 3) := by decide +kernel
theorem dX6_singleFor_29 : decode cX6_singleFor 29 = .ok (.aload_n 0, 1) := by decide +kernel
theorem dX6_singleFor_30 : decode cX6_singleFor 30 = .ok (.iload 4, 2) := by decide +kernel
theorem dX6_singleFor_32 : decode cX6_singleFor 32 = .ok (.iconst 1, 1) := by decide +kernel
theorem dX6_singleFor_33 : decode cX6_singleFor 33 = .ok (.invokevirtual 61, 3) := by decide +kernel
theorem dX6_singleFor_36 : decode cX6_singleFor 36 = .ok (.ifCond .ne 19, 3) := by decide +kernel
theorem dX6_singleFor_39 : decode cX6_singleFor 39 = .ok (.aload_n 0, 1) := by decide +kernel
theorem dX6_singleFor_40 : decode cX6_singleFor 40 = .ok (.iload 4, 2) := by decide +kernel
theorem dX6_singleFor_42 : decode cX6_singleFor 42 = .ok (.iconst 0, 1) := by decide +kernel
theorem dX6_singleFor_43 : decode cX6_singleFor 43 = .ok (.iload_n 1, 1) := by decide +kernel
theorem dX6_singleFor_44 : decode cX6_singleFor 44 = .ok (.iload_n 2, 1) := by decide +kernel
theorem dX6_singleFor_45 : decode cX6_singleFor 45 = .ok (.iload_n 3, 1) := by decide +kernel
theorem dX6_singleFor_46 : decode cX6_singleFor 46 = .ok (.invokevirtual 78, 3) := by decide +kernel
theorem dX6_singleFor_49 : decode cX6_singleFor 49 = .ok (.ifCond .eq 6, 3) := by decide +kernel
theorem dX6_singleFor_52 : decode cX6_singleFor 52 = .ok (.iload 4, 2) := by decide +kernel
theorem dX6_singleFor_54 : decode cX6_singleFor 54 = .ok (.ireturn, 1) := by decide +kernel
theorem dX6_singleFor_55 : decode cX6_singleFor 55 = .ok (.aload_n 0, 1) := by decide +kernel
theorem dX6_singleFor_56 : decode cX6_singleFor 56 = .ok (.getfield 24, 3) := by decide +kernel
theorem dX6_singleFor_59 : decode cX6_singleFor 59 = .ok (.iload 4, 2) := by decide +kernel
theorem dX6_singleFor_61 : decode cX6_singleFor 61 = .ok (.iaload, 1) := by decide +kernel
theorem dX6_singleFor_62 : decode cX6_singleFor 62 = .ok (.istore 4, 2) := by decide +kernel
theorem dX6_singleFor_64 : decode cX6_singleFor 64 = .ok (.iinc 5 1, 3) := by decide +kernel
theorem dX6_singleFor_67 : decode cX6_singleFor 67 = .ok (.goto (-51), 3) := by decide +kernel
theorem dX6_singleFor_70 : decode cX6_singleFor 70 = .ok (.iconst (-1), 1) := by decide +kernel
theorem dX6_singleFor_71 : decode cX6_singleFor 71 = .ok (.ireturn, 1) := by decide +kernel
set_option maxRecDepth 20000 in
theorem ggX6_fits_X6_kindOf : GoodIn wsX6_fits wsX6_kindOf := goodIn_r _ [5, 6, 7, 8, 9, 10, 11, 12, 13, 22, 23, 24, 25, 26, 27, 28, 29] (by decide +kernel) (by decide +kernel)
set_option maxRecDepth 20000 in
theorem gX6_fits_X6_kindOf : GoodIn wsX6_fits (wsV RX6 61 RX6 yX6_kindOf wsX6_kindOf) := goodIn_app (goodIn_of _ (by decide +kernel)) ggX6_fits_X6_kindOf
set_option maxRecDepth 20000 in
theorem ggX6_fits_X6_sizeOf : GoodIn wsX6_fits wsX6_sizeOf := goodIn_r _ [17, 6, 7, 8, 9, 10, 11, 12, 13, 22, 23, 24, 25, 26, 27, 28, 29] (by decide +kernel) (by decide +kernel)
set_option maxRecDepth 20000 in
theorem gX6_fits_X6_sizeOf : GoodIn wsX6_fits (wsV RX6 64 RX6 yX6_sizeOf wsX6_sizeOf) := goodIn_app (goodIn_of _ (by decide +kernel)) ggX6_fits_X6_sizeOf
set_option maxRecDepth 20000 in
theorem ggX6_fits_X6_modeOf : GoodIn wsX6_fits wsX6_modeOf := goodIn_r _ [21, 6, 7, 8, 9, 10, 11, 12, 13, 22, 23, 24, 25, 26, 27, 28, 29] (by decide +kernel) (by decide +kernel)
set_option maxRecDepth 20000 in
theorem gX6_fits_X6_modeOf : GoodIn wsX6_fits (wsV RX6 67 RX6 yX6_modeOf wsX6_modeOf) := goodIn_app (goodIn_of _ (by decide +kernel)) ggX6_fits_X6_modeOf
theorem dX6_fits_0 : decode cX6_fits 0 = .ok (.aload_n 0, 1) := by decide +kernel
theorem dX6_fits_1 : decode cX6_fits 1 = .ok (.iload_n 1, 1) := by decide +kernel
theorem dX6_fits_2 : decode cX6_fits 2 = .ok (.iload_n 2, 1) := by decide +kernel
theorem dX6_fits_3 : decode cX6_fits 3 = .ok (.invokevirtual 61, 3) := by decide +kernel
theorem dX6_fits_6 : decode cX6_fits 6 = .ok (.iload_n 3, 1) := by decide +kernel
theorem dX6_fits_7 : decode cX6_fits 7 = .ok (.if_icmp .ne 34, 3) := by decide +kernel
theorem dX6_fits_10 : decode cX6_fits 10 = .ok (.aload_n 0, 1) := by decide +kernel
theorem dX6_fits_11 : decode cX6_fits 11 = .ok (.iload_n 1, 1) := by decide +kernel
theorem dX6_fits_12 : decode cX6_fits 12 = .ok (.iload_n 2, 1) := by decide +kernel
theorem dX6_fits_13 : decode cX6_fits 13 = .ok (.invokevirtual 64, 3) := by decide +kernel
theorem dX6_fits_16 : decode cX6_fits 16 = .ok (.iload 4, 2) := by decide +kernel
theorem dX6_fits_18 : decode cX6_fits 18 = .ok (.if_icmp .ne 23, 3) := by decide +kernel
theorem dX6_fits_21 : decode cX6_fits 21 = .ok (.iload_n 3, 1) := by decide +kernel
theorem dX6_fits_22 : decode cX6_fits 22 = .ok (.iconst 3, 1) := by decide +kernel
theorem dX6_fits_23 : decode cX6_fits 23 = .ok (.if_icmp .ne 14, 3) := by decide +kernel
theorem dX6_fits_26 : decode cX6_fits 26 = .ok (.aload_n 0, 1) := by decide +kernel
theorem dX6_fits_27 : decode cX6_fits 27 = .ok (.iload_n 1, 1) := by decide +kernel
theorem dX6_fits_28 : decode cX6_fits 28 = .ok (.iload_n 2, 1) := by decide +kernel
theorem dX6_fits_29 : decode cX6_fits 29 = .ok (.invokevirtual 67, 3) := by decide +kernel
theorem dX6_fits_32 : decode cX6_fits 32 = .ok (.iload 5, 2) := by decide +kernel
theorem dX6_fits_34 : decode cX6_fits 34 = .ok (.if_icmp .ne 7, 3) := by decide +kernel
theorem dX6_fits_37 : decode cX6_fits 37 = .ok (.iconst 1, 1) := by decide +kernel
theorem dX6_fits_38 : decode cX6_fits 38 = .ok (.goto 4, 3) := by decide +kernel
theorem dX6_fits_41 : decode cX6_fits 41 = .ok (.iconst 0, 1) := by decide +kernel
theorem dX6_fits_42 : decode cX6_fits 42 = .ok (.ireturn, 1) := by decide +kernel
set_option maxRecDepth 20000 in
theorem ggX7_init_X4_init : GoodIn wsX7_init wsX4_init := goodIn_r _ [25, 26, 2, 3, 27, 28, 29, 30, 31, 32, 54, 55, 56] (by decide +kernel) (by decide +kernel)
set_option maxRecDepth 20000 in
theorem gX7_init_X4_init : GoodIn wsX7_init (wsX4_init) := ggX7_init_X4_init
set_option maxRecDepth 20000 in
theorem ggX7_init_X0_init : GoodIn wsX7_init wsX0_init := goodIn_r _ [34, 35, 2, 3, 31, 36, 37, 69, 70, 71, 72, 73] (by decide +kernel) (by decide +kernel)
set_option maxRecDepth 20000 in
theorem gX7_init_X0_init_n28 : GoodIn wsX7_init (wsX0_init) := ggX7_init_X0_init
set_option maxRecDepth 20000 in
theorem ggX7_init_X2_init : GoodIn wsX7_init wsX2_init := goodIn_r _ [39, 40, 2, 3, 31, 41, 42, 43, 44, 45, 46, 74, 75, 76, 77, 78, 79, 80, 81, 82, 83, 84] (by decide +kernel) (by decide +kernel)
set_option maxRecDepth 20000 in
theorem gX7_init_X2_init_n35 : GoodIn wsX7_init (wsX2_init) := ggX7_init_X2_init
set_option maxRecDepth 20000 in
theorem ggX7_init_X5_init : GoodIn wsX7_init wsX5_init := goodIn_r _ [49, 50, 2, 3, 51, 28, 29, 30, 52, 31, 53, 85, 86, 87] (by decide +kernel) (by decide +kernel)
set_option maxRecDepth 20000 in
theorem gX7_init_X5_init : GoodIn wsX7_init (wsX5_init) := ggX7_init_X5_init
theorem dX7_init_0 : decode cX7_init 0 = .ok (.aload_n 0, 1) := by decide +kernel
theorem dX7_init_1 : decode cX7_init 1 = .ok (.invokespecial 3, 3) := by decide +kernel
theorem dX7_init_4 : decode cX7_init 4 = .ok (.aload_n 0, 1) := by decide +kernel
theorem dX7_init_5 : decode cX7_init 5 = .ok (.new 9, 3) := by decide +kernel
theorem dX7_init_8 : decode cX7_init 8 = .ok (.dup, 1) := by decide +kernel
theorem dX7_init_9 : decode cX7_init 9 = .ok (.sipush 4000, 3) := by decide +kernel
theorem dX7_init_12 : decode cX7_init 12 = .ok (.invokespecial 11, 3) := by decide +kernel
theorem dX7_init_15 : decode cX7_init 15 = .ok (.putfield 14, 3) := by decide +kernel
theorem dX7_init_18 : decode cX7_init 18 = .ok (.aload_n 0, 1) := by decide +kernel
theorem dX7_init_19 : decode cX7_init 19 = .ok (.new 9, 3) := by decide +kernel
theorem dX7_init_22 : decode cX7_init 22 = .ok (.dup, 1) := by decide +kernel
theorem dX7_init_23 : decode cX7_init 23 = .ok (.sipush 4000, 3) := by decide +kernel
theorem dX7_init_26 : decode cX7_init 26 = .ok (.invokespecial 11, 3) := by decide +kernel
theorem dX7_init_29 : decode cX7_init 29 = .ok (.putfield 20, 3) := by decide +kernel
theorem dX7_init_32 : decode cX7_init 32 = .ok (.aload_n 0, 1) := by decide +kernel
theorem dX7_init_33 : decode cX7_init 33 = .ok (.new 9, 3) := by decide +kernel
theorem dX7_init_36 : decode cX7_init 36 = .ok (.dup, 1) := by decide +kernel
theorem dX7_init_37 : decode cX7_init 37 = .ok (.sipush 4000, 3) := by decide +kernel
theorem dX7_init_40 : decode cX7_init 40 = .ok (.invokespecial 11, 3) := by decide +kernel
theorem dX7_init_43 : decode cX7_init 43 = .ok (.putfield 23, 3) := by decide +kernel
theorem dX7_init_46 : decode cX7_init 46 = .ok (.aload_n 0, 1) := by decide +kernel
theorem dX7_init_47 : decode cX7_init 47 = .ok (.new 26, 3) := by decide +kernel
theorem dX7_init_50 : decode cX7_init 50 = .ok (.dup, 1) := by decide +kernel
theorem dX7_init_51 : decode cX7_init 51 = .ok (.invokespecial 28, 3) := by decide +kernel
theorem dX7_init_54 : decode cX7_init 54 = .ok (.putfield 29, 3) := by decide +kernel
theorem dX7_init_57 : decode cX7_init 57 = .ok (.aload_n 0, 1) := by decide +kernel
theorem dX7_init_58 : decode cX7_init 58 = .ok (.new 33, 3) := by decide +kernel
theorem dX7_init_61 : decode cX7_init 61 = .ok (.dup, 1) := by decide +kernel
theorem dX7_init_62 : decode cX7_init 62 = .ok (.invokespecial 35, 3) := by decide +kernel
theorem dX7_init_65 : decode cX7_init 65 = .ok (.putfield 36, 3) := by decide +kernel
theorem dX7_init_68 : decode cX7_init 68 = .ok (.aload_n 0, 1) := by decide +kernel
theorem dX7_init_69 : decode cX7_init 69 = .ok (.aload_n 0, 1) := by decide +kernel
theorem dX7_init_70 : decode cX7_init 70 = .ok (.getfield 14, 3) := by decide +kernel
theorem dX7_init_73 : decode cX7_init 73 = .ok (.putfield 40, 3) := by decide +kernel
theorem dX7_init_76 : decode cX7_init 76 = .ok (.aload_n 0, 1) := by decide +kernel
theorem dX7_init_77 : decode cX7_init 77 = .ok (.new 43, 3) := by decide +kernel
theorem dX7_init_80 : decode cX7_init 80 = .ok (.dup, 1) := by decide +kernel
theorem dX7_init_81 : decode cX7_init 81 = .ok (.iconst 0, 1) := by decide +kernel
theorem dX7_init_82 : decode cX7_init 82 = .ok (.invokespecial 45, 3) := by decide +kernel
theorem dX7_init_85 : decode cX7_init 85 = .ok (.putfield 46, 3) := by decide +kernel
theorem dX7_init_88 : decode cX7_init 88 = .ok (.return_, 1) := by decide +kernel
theorem dX7_begin_0 : decode cX7_begin 0 = .ok (.aload_n 0, 1) := by decide +kernel
theorem dX7_begin_1 : decode cX7_begin 1 = .ok (.aload_n 1, 1) := by decide +kernel
theorem dX7_begin_2 : decode cX7_begin 2 = .ok (.putfield 40, 3) := by decide +kernel
theorem dX7_begin_5 : decode cX7_begin 5 = .ok (.aload_n 0, 1) := by decide +kernel
theorem dX7_begin_6 : decode cX7_begin 6 = .ok (.aload_n 2, 1) := by decide +kernel
theorem dX7_begin_7 : decode cX7_begin 7 = .ok (.putfield 46, 3) := by decide +kernel
theorem dX7_begin_10 : decode cX7_begin 10 = .ok (.aload_n 0, 1) := by decide +kernel
theorem dX7_begin_11 : decode cX7_begin 11 = .ok (.iconst 0, 1) := by decide +kernel
theorem dX7_begin_12 : decode cX7_begin 12 = .ok (.putfield 50, 3) := by decide +kernel
theorem dX7_begin_15 : decode cX7_begin 15 = .ok (.aload_n 0, 1) := by decide +kernel
theorem dX7_begin_16 : decode cX7_begin 16 = .ok (.iconst 0, 1) := by decide +kernel
theorem dX7_begin_17 : decode cX7_begin 17 = .ok (.putfield 54, 3) := by decide +kernel
theorem dX7_begin_20 : decode cX7_begin 20 = .ok (.return_, 1) := by decide +kernel
set_option maxRecDepth 20000 in
theorem ggX7_putWindows_X2_begin : GoodIn wsX7_putWindows wsX2_begin := goodIn_r _ [16, 17, 18, 19, 20, 21, 22, 23, 24, 25, 26, 27, 15, 28, 29, 5, 6, 7, 30, 31, 32, 33, 34, 35, 251, 252, 253, 254, 255, 256, 257, 258, 259, 260, 261, 248, 249, 250] (by decide +kernel) (by decide +kernel)
set_option maxRecDepth 20000 in
theorem gX7_putWindows_X2_begin : GoodIn wsX7_putWindows (wsV RX7 58 RX2 yX2_begin wsX2_begin) := goodIn_app (goodIn_of _ (by decide +kernel)) ggX7_putWindows_X2_begin
set_option maxRecDepth 20000 in
theorem ggX7_putWindows_X7_openWindow : GoodIn wsX7_putWindows wsX7_openWindow := goodIn_r _ [40, 41, 8, 42, 43, 44, 45, 46, 47, 48, 49, 50, 51, 52, 53, 54, 55, 56, 57, 58, 59, 60, 61, 62, 5, 6, 7, 63, 10, 11, 64, 65, 66, 67, 68, 69, 70, 22, 23, 24, 236, 237, 238, 239, 240, 241, 242, 243, 244, 245, 246, 247, 262, 263, 264, 248, 249, 250, 265, 266, 267, 268, 269, 270, 271, 272, 273, 274] (by decide +kernel) (by decide +kernel)
set_option maxRecDepth 20000 in
theorem gX7_putWindows_X7_openWindow : GoodIn wsX7_putWindows (wsV RX7 71 RX7 yX7_openWindow wsX7_openWindow) := goodIn_app (goodIn_of _ (by decide +kernel)) ggX7_putWindows_X7_openWindow
set_option maxRecDepth 20000 in
theorem ggX7_putWindows_X2_openWindow : GoodIn wsX7_putWindows wsX2_openWindow := goodIn_r _ [74, 19, 18, 17, 75, 76, 77, 78, 79, 80, 81, 15, 82, 83, 84, 85, 86, 87, 31, 88, 25, 26, 27, 28, 29, 5, 6, 7, 20, 30, 32, 33, 34, 35, 21, 22, 23, 24, 251, 252, 253, 254, 255, 256, 257, 258, 259, 260, 261, 248, 249, 250] (by decide +kernel) (by decide +kernel)
set_option maxRecDepth 20000 in
theorem gX7_putWindows_X2_openWindow : GoodIn wsX7_putWindows (wsV RX7 78 RX2 yX2_openWindow wsX2_openWindow) := goodIn_app (goodIn_of _ (by decide +kernel)) ggX7_putWindows_X2_openWindow
set_option maxRecDepth 20000 in
theorem ggX7_putWindows_X7_choose : GoodIn wsX7_putWindows wsX7_choose := goodIn_r _ [92, 8, 1, 93, 94, 95, 96, 15, 97, 19, 31, 98, 99, 100, 101, 78, 102, 103, 17, 76, 84, 85, 86, 87, 88, 104, 105, 106, 107, 83, 108, 109, 110, 39, 111, 45, 42, 112, 113, 114, 115, 52, 116, 54, 117, 118, 119, 120, 121, 55, 122, 123, 124, 125, 126, 127, 128, 129, 130, 131, 132, 133, 134, 135, 136, 137, 48, 47, 138, 139, 140, 59, 141, 64, 68, 66, 69, 142, 143, 144, 145, 146, 147, 148, 149, 150, 151, 152, 153, 154, 155, 156, 157, 158, 159, 160, 161, 162, 163, 164, 165, 166, 67, 236, 237, 238, 239, 240, 241, 242, 243, 244, 245, 246, 247, 251, 252, 253, 254, 255, 256, 257, 258, 259, 260, 261, 248, 249, 250, 262, 263, 264, 270, 271, 272, 273, 274] (by decide +kernel) (by decide +kernel)
set_option maxRecDepth 20000 in
theorem gX7_putWindows_X7_choose : GoodIn wsX7_putWindows (wsV RX7 81 RX7 yX7_choose wsX7_choose) := goodIn_app (goodIn_of _ (by decide +kernel)) ggX7_putWindows_X7_choose
set_option maxRecDepth 20000 in
theorem ggX7_putWindows_X7_putAdd : GoodIn wsX7_putWindows wsX7_putAdd := goodIn_r _ [111, 45, 42, 112, 113, 114, 115, 52, 116, 54, 117, 118, 119, 120, 121, 55, 122, 123, 124, 125, 126, 127, 128, 129, 236, 237, 238, 239, 240, 241, 242, 243, 244, 245, 246, 247, 248, 249, 250, 262, 263, 264] (by decide +kernel) (by decide +kernel)
set_option maxRecDepth 20000 in
theorem gX7_putWindows_X7_putAdd : GoodIn wsX7_putWindows (wsV RX7 85 RX7 yX7_putAdd wsX7_putAdd) := goodIn_app (goodIn_of _ (by decide +kernel)) ggX7_putWindows_X7_putAdd
set_option maxRecDepth 20000 in
theorem ggX7_putWindows_X7_chooseCodes : GoodIn wsX7_putWindows wsX7_chooseCodes := goodIn_r _ [170, 44, 42, 43, 46, 171, 172, 173, 174, 175, 176, 177, 178, 179, 180, 125, 181, 129, 182, 183, 184, 185, 127, 128, 186, 187, 188, 189, 190, 191, 192, 193, 194, 195, 196, 197, 198, 114, 115, 52, 116, 54, 117, 199, 200, 201, 202, 203, 204, 205, 206, 118, 119, 120, 121, 55, 207, 208, 209, 210, 211, 212, 213, 39, 214, 3, 215, 216, 217, 218, 219, 220, 150, 151, 152, 142, 143, 144, 153, 236, 237, 238, 239, 240, 241, 242, 243, 244, 245, 246, 247, 262, 263, 264, 265, 266, 267, 268, 269, 248, 249, 250] (by decide +kernel) (by decide +kernel)
set_option maxRecDepth 20000 in
theorem gX7_putWindows_X7_chooseCodes : GoodIn wsX7_putWindows (wsV RX7 89 RX7 yX7_chooseCodes wsX7_chooseCodes) := goodIn_app (goodIn_of _ (by decide +kernel)) ggX7_putWindows_X7_chooseCodes
set_option maxRecDepth 20000 in
theorem ggX7_putWindows_X7_closeWindow : GoodIn wsX7_putWindows wsX7_closeWindow := goodIn_r _ [224, 225, 41, 8, 45, 2, 46, 47, 112, 118, 119, 120, 52, 121, 54, 117, 55, 220, 150, 151, 152, 142, 143, 144, 153, 226, 227, 228, 229, 230, 5, 6, 7, 231, 33, 34, 35, 232, 233, 234, 235, 236, 237, 238, 239, 240, 241, 242, 243, 244, 245, 246, 247, 248, 249, 250] (by decide +kernel) (by decide +kernel)
set_option maxRecDepth 20000 in
theorem gX7_putWindows_X7_closeWindow : GoodIn wsX7_putWindows (wsV RX7 93 RX7 yX7_closeWindow wsX7_closeWindow) := goodIn_app (goodIn_of _ (by decide +kernel)) ggX7_putWindows_X7_closeWindow
theorem dX7_putWindows_0 : decode cX7_putWindows 0 = .ok (.iload 4, 2) := by decide +kernel
theorem dX7_putWindows_2 : decode cX7_putWindows 2 = .ok (.ifCond .le 13, 3) := by decide +kernel
theorem dX7_putWindows_5 : decode cX7_putWindows 5 = .ok (.aload_n 0, 1) := by decide +kernel
theorem dX7_putWindows_6 : decode cX7_putWindows 6 = .ok (.getfield 36, 3) := by decide +kernel
theorem dX7_putWindows_9 : decode cX7_putWindows 9 = .ok (.aload_n 2, 1) := by decide +kernel
theorem dX7_putWindows_10 : decode cX7_putWindows 10 = .ok (.iload 5, 2) := by decide +kernel
theorem dX7_putWindows_12 : decode cX7_putWindows 12 = .ok (.invokevirtual 58, 3) := by decide +kernel
theorem dX7_putWindows_15 : decode cX7_putWindows 15 = .ok (.iconst 0, 1) := by decide +kernel
theorem dX7_putWindows_16 : decode cX7_putWindows 16 = .ok (.istore 7, 2) := by decide +kernel
theorem dX7_putWindows_18 : decode cX7_putWindows 18 = .ok (.iload 7, 2) := by decide +kernel
theorem dX7_putWindows_20 : decode cX7_putWindows 20 = .ok (.aload_n 3, 1) := by decide +kernel
theorem dX7_putWindows_21 : decode cX7_putWindows 21 = .ok (.getfield 62, 3) := by decide +kernel
theorem dX7_putWindows_24 : decode cX7_putWindows 24 = .ok (.if_icmp .ge 132, 3) := by decide +kernel
theorem dX7_putWindows_27 : decode cX7_putWindows 27 = .ok (.aload_n 0, 1) := by decide +kernel
theorem dX7_putWindows_28 : decode cX7_putWindows 28 = .ok (.getfield 54, 3) := by decide +kernel
theorem dX7_putWindows_31 : decode cX7_putWindows 31 = .ok (.ifCond .ne 125, 3) := by decide +kernel
theorem dX7_putWindows_34 : decode cX7_putWindows 34 = .ok (.iload 7, 2) := by decide +kernel
theorem dX7_putWindows_36 : decode cX7_putWindows 36 = .ok (.iload 6, 2) := by decide +kernel
theorem dX7_putWindows_38 : decode cX7_putWindows 38 = .ok (.iadd, 1) := by decide +kernel
theorem dX7_putWindows_39 : decode cX7_putWindows 39 = .ok (.aload_n 3, 1) := by decide +kernel
theorem dX7_putWindows_40 : decode cX7_putWindows 40 = .ok (.getfield 62, 3) := by decide +kernel
theorem dX7_putWindows_43 : decode cX7_putWindows 43 = .ok (.invokestatic 65, 3) := by decide +kernel
theorem dX7_putWindows_46 : decode cX7_putWindows 46 = .ok (.istore 8, 2) := by decide +kernel
theorem dX7_putWindows_48 : decode cX7_putWindows 48 = .ok (.iload 5, 2) := by decide +kernel
theorem dX7_putWindows_50 : decode cX7_putWindows 50 = .ok (.iconst 2, 1) := by decide +kernel
theorem dX7_putWindows_51 : decode cX7_putWindows 51 = .ok (.if_icmp .ne 8, 3) := by decide +kernel
theorem dX7_putWindows_54 : decode cX7_putWindows 54 = .ok (.iload 7, 2) := by decide +kernel
theorem dX7_putWindows_56 : decode cX7_putWindows 56 = .ok (.goto 4, 3) := by decide +kernel
theorem dX7_putWindows_59 : decode cX7_putWindows 59 = .ok (.iconst 0, 1) := by decide +kernel
theorem dX7_putWindows_60 : decode cX7_putWindows 60 = .ok (.istore 9, 2) := by decide +kernel
theorem dX7_putWindows_62 : decode cX7_putWindows 62 = .ok (.aload_n 0, 1) := by decide +kernel
theorem dX7_putWindows_63 : decode cX7_putWindows 63 = .ok (.aload_n 1, 1) := by decide +kernel
theorem dX7_putWindows_64 : decode cX7_putWindows 64 = .ok (.iload 5, 2) := by decide +kernel
theorem dX7_putWindows_66 : decode cX7_putWindows 66 = .ok (.iload 5, 2) := by decide +kernel
theorem dX7_putWindows_68 : decode cX7_putWindows 68 = .ok (.iconst 1, 1) := by decide +kernel
theorem dX7_putWindows_69 : decode cX7_putWindows 69 = .ok (.if_icmp .ne 10, 3) := by decide +kernel
theorem dX7_putWindows_72 : decode cX7_putWindows 72 = .ok (.aload_n 2, 1) := by decide +kernel
theorem dX7_putWindows_73 : decode cX7_putWindows 73 = .ok (.getfield 62, 3) := by decide +kernel
theorem dX7_putWindows_76 : decode cX7_putWindows 76 = .ok (.goto 5, 3) := by decide +kernel
theorem dX7_putWindows_79 : decode cX7_putWindows 79 = .ok (.iload 9, 2) := by decide +kernel
theorem dX7_putWindows_81 : decode cX7_putWindows 81 = .ok (.invokevirtual 71, 3) := by decide +kernel
theorem dX7_putWindows_84 : decode cX7_putWindows 84 = .ok (.iload 4, 2) := by decide +kernel
theorem dX7_putWindows_86 : decode cX7_putWindows 86 = .ok (.ifCond .le 33, 3) := by decide +kernel
theorem dX7_putWindows_89 : decode cX7_putWindows 89 = .ok (.aload_n 0, 1) := by decide +kernel
theorem dX7_putWindows_90 : decode cX7_putWindows 90 = .ok (.getfield 36, 3) := by decide +kernel
theorem dX7_putWindows_93 : decode cX7_putWindows 93 = .ok (.aload_n 0, 1) := by decide +kernel
theorem dX7_putWindows_94 : decode cX7_putWindows 94 = .ok (.getfield 75, 3) := by decide +kernel
theorem dX7_putWindows_97 : decode cX7_putWindows 97 = .ok (.aload_n 3, 1) := by decide +kernel
theorem dX7_putWindows_98 : decode cX7_putWindows 98 = .ok (.iload 7, 2) := by decide +kernel
theorem dX7_putWindows_100 : decode cX7_putWindows 100 = .ok (.iload 8, 2) := by decide +kernel
theorem dX7_putWindows_102 : decode cX7_putWindows 102 = .ok (.invokevirtual 78, 3) := by decide +kernel
theorem dX7_putWindows_105 : decode cX7_putWindows 105 = .ok (.aload_n 0, 1) := by decide +kernel
theorem dX7_putWindows_106 : decode cX7_putWindows 106 = .ok (.aload_n 3, 1) := by decide +kernel
theorem dX7_putWindows_107 : decode cX7_putWindows 107 = .ok (.iload 7, 2) := by decide +kernel
theorem dX7_putWindows_109 : decode cX7_putWindows 109 = .ok (.iload 8, 2) := by decide +kernel
theorem dX7_putWindows_111 : decode cX7_putWindows 111 = .ok (.iload 4, 2) := by decide +kernel
theorem dX7_putWindows_113 : decode cX7_putWindows 113 = .ok (.invokevirtual 81, 3) := by decide +kernel
theorem dX7_putWindows_116 : decode cX7_putWindows 116 = .ok (.goto 12, 3) := by decide +kernel
theorem dX7_putWindows_119 : decode cX7_putWindows 119 = .ok (.aload_n 0, 1) := by decide +kernel
theorem dX7_putWindows_120 : decode cX7_putWindows 120 = .ok (.aload_n 3, 1) := by decide +kernel
theorem dX7_putWindows_121 : decode cX7_putWindows 121 = .ok (.iload 7, 2) := by decide +kernel
theorem dX7_putWindows_123 : decode cX7_putWindows 123 = .ok (.iload 8, 2) := by decide +kernel
theorem dX7_putWindows_125 : decode cX7_putWindows 125 = .ok (.invokevirtual 85, 3) := by decide +kernel
theorem dX7_putWindows_128 : decode cX7_putWindows 128 = .ok (.aload_n 0, 1) := by decide +kernel
theorem dX7_putWindows_129 : decode cX7_putWindows 129 = .ok (.aload_n 1, 1) := by decide +kernel
theorem dX7_putWindows_130 : decode cX7_putWindows 130 = .ok (.invokevirtual 89, 3) := by decide +kernel
theorem dX7_putWindows_133 : decode cX7_putWindows 133 = .ok (.aload_n 0, 1) := by decide +kernel
theorem dX7_putWindows_134 : decode cX7_putWindows 134 = .ok (.iload 8, 2) := by decide +kernel
theorem dX7_putWindows_136 : decode cX7_putWindows 136 = .ok (.iload 7, 2) := by decide +kernel
theorem dX7_putWindows_138 : decode cX7_putWindows 138 = .ok (.isub, 1) := by decide +kernel
theorem dX7_putWindows_139 : decode cX7_putWindows 139 = .ok (.invokevirtual 93, 3) := by decide +kernel
theorem dX7_putWindows_142 : decode cX7_putWindows 142 = .ok (.iload 7, 2) := by decide +kernel
theorem dX7_putWindows_144 : decode cX7_putWindows 144 = .ok (.iload 6, 2) := by decide +kernel
theorem dX7_putWindows_146 : decode cX7_putWindows 146 = .ok (.iconst 1, 1) := by decide +kernel
theorem dX7_putWindows_147 : decode cX7_putWindows 147 = .ok (.invokestatic 96, 3) := by decide +kernel
theorem dX7_putWindows_150 : decode cX7_putWindows 150 = .ok (.iadd, 1) := by decide +kernel
theorem dX7_putWindows_151 : decode cX7_putWindows 151 = .ok (.istore 7, 2) := by decide +kernel
theorem dX7_putWindows_153 : decode cX7_putWindows 153 = .ok (.goto (-135), 3) := by decide +kernel
theorem dX7_putWindows_156 : decode cX7_putWindows 156 = .ok (.return_, 1) := by decide +kernel
set_option maxRecDepth 20000 in
theorem ggX7_putTraced_X7_openWindow : GoodIn wsX7_putTraced wsX7_openWindow := goodIn_r _ [11, 12, 2, 13, 14, 15, 16, 17, 18, 19, 20, 21, 22, 23, 24, 25, 26, 27, 28, 29, 30, 31, 32, 33, 34, 5, 35, 36, 4, 6, 37, 38, 39, 40, 41, 42, 43, 44, 45, 46, 182, 183, 184, 185, 186, 187, 188, 189, 190, 191, 192, 193, 194, 195, 196, 179, 180, 181, 197, 198, 199, 200, 201, 202, 203, 204, 205, 206] (by decide +kernel) (by decide +kernel)
set_option maxRecDepth 20000 in
theorem gX7_putTraced_X7_openWindow : GoodIn wsX7_putTraced (wsV RX7 71 RX7 yX7_openWindow wsX7_openWindow) := goodIn_app (goodIn_of _ (by decide +kernel)) ggX7_putTraced_X7_openWindow
set_option maxRecDepth 20000 in
theorem ggX7_putTraced_X7_tracedAt : GoodIn wsX7_putTraced wsX7_tracedAt := goodIn_r _ [49, 50, 34, 5, 35] (by decide +kernel) (by decide +kernel)
set_option maxRecDepth 20000 in
theorem gX7_putTraced_X7_tracedAt : GoodIn wsX7_putTraced (va_wsS RX7 99 yX7_tracedAt wsX7_tracedAt) := goodIn_app (goodIn_of _ (by decide +kernel)) ggX7_putTraced_X7_tracedAt
set_option maxRecDepth 20000 in
theorem ggX7_putTraced_X7_putAdd : GoodIn wsX7_putTraced wsX7_putAdd := goodIn_r _ [54, 16, 13, 55, 56, 57, 58, 23, 59, 25, 60, 61, 62, 63, 64, 26, 65, 66, 67, 68, 69, 70, 71, 72, 182, 183, 184, 185, 186, 187, 188, 189, 190, 191, 192, 193, 179, 180, 181, 194, 195, 196] (by decide +kernel) (by decide +kernel)
set_option maxRecDepth 20000 in
theorem gX7_putTraced_X7_putAdd : GoodIn wsX7_putTraced (wsV RX7 85 RX7 yX7_putAdd wsX7_putAdd) := goodIn_app (goodIn_of _ (by decide +kernel)) ggX7_putTraced_X7_putAdd
set_option maxRecDepth 20000 in
theorem ggX7_putTraced_X7_putCopy : GoodIn wsX7_putTraced wsX7_putCopy := goodIn_r _ [76, 19, 18, 13, 55, 77, 78, 79, 30, 80, 37, 41, 39, 42, 81, 82, 83, 84, 85, 86, 87, 88, 89, 90, 23, 91, 92, 62, 63, 64, 25, 60, 26, 93, 94, 95, 96, 97, 98, 99, 100, 101, 102, 103, 104, 105, 40, 65, 66, 67, 68, 69, 70, 71, 72, 182, 183, 184, 185, 186, 187, 188, 189, 190, 191, 192, 193, 202, 203, 204, 205, 206, 179, 180, 181, 194, 195, 196] (by decide +kernel) (by decide +kernel)
set_option maxRecDepth 20000 in
theorem gX7_putTraced_X7_putCopy : GoodIn wsX7_putTraced (wsV RX7 103 RX7 yX7_putCopy wsX7_putCopy) := goodIn_app (goodIn_of _ (by decide +kernel)) ggX7_putTraced_X7_putCopy
set_option maxRecDepth 20000 in
theorem ggX7_putTraced_X7_chooseCodes : GoodIn wsX7_putTraced wsX7_chooseCodes := goodIn_r _ [109, 15, 13, 14, 17, 110, 111, 112, 113, 114, 115, 116, 117, 118, 119, 68, 120, 72, 121, 122, 123, 124, 70, 71, 125, 126, 127, 128, 129, 130, 131, 132, 133, 134, 135, 136, 137, 57, 58, 23, 59, 25, 60, 138, 139, 140, 141, 142, 143, 144, 145, 61, 62, 63, 64, 26, 146, 147, 148, 149, 150, 151, 152, 10, 153, 154, 155, 156, 157, 158, 159, 160, 89, 90, 91, 81, 82, 83, 92, 182, 183, 184, 185, 186, 187, 188, 189, 190, 191, 192, 193, 194, 195, 196, 197, 198, 199, 200, 201, 179, 180, 181] (by decide +kernel) (by decide +kernel)
set_option maxRecDepth 20000 in
theorem gX7_putTraced_X7_chooseCodes : GoodIn wsX7_putTraced (wsV RX7 89 RX7 yX7_chooseCodes wsX7_chooseCodes) := goodIn_app (goodIn_of _ (by decide +kernel)) ggX7_putTraced_X7_chooseCodes
set_option maxRecDepth 20000 in
theorem ggX7_putTraced_X7_closeWindow : GoodIn wsX7_putTraced wsX7_closeWindow := goodIn_r _ [164, 165, 12, 2, 16, 1, 17, 18, 55, 61, 62, 63, 23, 64, 25, 60, 26, 160, 89, 90, 91, 81, 82, 83, 92, 166, 167, 168, 169, 170, 34, 5, 35, 171, 172, 173, 174, 175, 176, 177, 178, 182, 183, 184, 185, 186, 187, 188, 189, 190, 191, 192, 193, 179, 180, 181] (by decide +kernel) (by decide +kernel)
set_option maxRecDepth 20000 in
theorem gX7_putTraced_X7_closeWindow : GoodIn wsX7_putTraced (wsV RX7 93 RX7 yX7_closeWindow wsX7_closeWindow) := goodIn_app (goodIn_of _ (by decide +kernel)) ggX7_putTraced_X7_closeWindow
theorem dX7_putTraced_0 : decode cX7_putTraced 0 = .ok (.aload_n 3, 1) := by decide +kernel
theorem dX7_putTraced_1 : decode cX7_putTraced 1 = .ok (.getfield 62, 3) := by decide +kernel
theorem dX7_putTraced_4 : decode cX7_putTraced 4 = .ok (.ifCond .ne 4, 3) := by decide +kernel
theorem dX7_putTraced_7 : decode cX7_putTraced 7 = .ok (.return_, 1) := by decide +kernel
theorem dX7_putTraced_8 : decode cX7_putTraced 8 = .ok (.aload_n 0, 1) := by decide +kernel
theorem dX7_putTraced_9 : decode cX7_putTraced 9 = .ok (.aload_n 1, 1) := by decide +kernel
theorem dX7_putTraced_10 : decode cX7_putTraced 10 = .ok (.iconst 1, 1) := by decide +kernel
theorem dX7_putTraced_11 : decode cX7_putTraced 11 = .ok (.iload_n 2, 1) := by decide +kernel
theorem dX7_putTraced_12 : decode cX7_putTraced 12 = .ok (.invokevirtual 71, 3) := by decide +kernel
theorem dX7_putTraced_15 : decode cX7_putTraced 15 = .ok (.iconst 0, 1) := by decide +kernel
theorem dX7_putTraced_16 : decode cX7_putTraced 16 = .ok (.istore 5, 2) := by decide +kernel
theorem dX7_putTraced_18 : decode cX7_putTraced 18 = .ok (.iconst 0, 1) := by decide +kernel
theorem dX7_putTraced_19 : decode cX7_putTraced 19 = .ok (.istore 6, 2) := by decide +kernel
theorem dX7_putTraced_21 : decode cX7_putTraced 21 = .ok (.iconst 0, 1) := by decide +kernel
theorem dX7_putTraced_22 : decode cX7_putTraced 22 = .ok (.istore 7, 2) := by decide +kernel
theorem dX7_putTraced_24 : decode cX7_putTraced 24 = .ok (.iload 7, 2) := by decide +kernel
theorem dX7_putTraced_26 : decode cX7_putTraced 26 = .ok (.aload_n 3, 1) := by decide +kernel
theorem dX7_putTraced_27 : decode cX7_putTraced 27 = .ok (.getfield 62, 3) := by decide +kernel
theorem dX7_putTraced_30 : decode cX7_putTraced 30 = .ok (.if_icmp .ge 82, 3) := by decide +kernel
theorem dX7_putTraced_33 : decode cX7_putTraced 33 = .ok (.iload 6, 2) := by decide +kernel
theorem dX7_putTraced_35 : decode cX7_putTraced 35 = .ok (.aload_n 3, 1) := by decide +kernel
theorem dX7_putTraced_36 : decode cX7_putTraced 36 = .ok (.getfield 62, 3) := by decide +kernel
theorem dX7_putTraced_39 : decode cX7_putTraced 39 = .ok (.if_icmp .ge 73, 3) := by decide +kernel
theorem dX7_putTraced_42 : decode cX7_putTraced 42 = .ok (.iload 6, 2) := by decide +kernel
theorem dX7_putTraced_44 : decode cX7_putTraced 44 = .ok (.aload_n 3, 1) := by decide +kernel
theorem dX7_putTraced_45 : decode cX7_putTraced 45 = .ok (.getfield 62, 3) := by decide +kernel
theorem dX7_putTraced_48 : decode cX7_putTraced 48 = .ok (.aload 4, 2) := by decide +kernel
theorem dX7_putTraced_50 : decode cX7_putTraced 50 = .ok (.invokestatic 99, 3) := by decide +kernel
theorem dX7_putTraced_53 : decode cX7_putTraced 53 = .ok (.istore 8, 2) := by decide +kernel
theorem dX7_putTraced_55 : decode cX7_putTraced 55 = .ok (.iload 8, 2) := by decide +kernel
theorem dX7_putTraced_57 : decode cX7_putTraced 57 = .ok (.iconst 4, 1) := by decide +kernel
theorem dX7_putTraced_58 : decode cX7_putTraced 58 = .ok (.if_icmp .lt 37, 3) := by decide +kernel
theorem dX7_putTraced_61 : decode cX7_putTraced 61 = .ok (.aload_n 0, 1) := by decide +kernel
theorem dX7_putTraced_62 : decode cX7_putTraced 62 = .ok (.aload_n 3, 1) := by decide +kernel
theorem dX7_putTraced_63 : decode cX7_putTraced 63 = .ok (.iload 5, 2) := by decide +kernel
theorem dX7_putTraced_65 : decode cX7_putTraced 65 = .ok (.iload 6, 2) := by decide +kernel
theorem dX7_putTraced_67 : decode cX7_putTraced 67 = .ok (.invokevirtual 85, 3) := by decide +kernel
theorem dX7_putTraced_70 : decode cX7_putTraced 70 = .ok (.aload_n 0, 1) := by decide +kernel
theorem dX7_putTraced_71 : decode cX7_putTraced 71 = .ok (.aload 4, 2) := by decide +kernel
theorem dX7_putTraced_73 : decode cX7_putTraced 73 = .ok (.iload 6, 2) := by decide +kernel
theorem dX7_putTraced_75 : decode cX7_putTraced 75 = .ok (.iaload, 1) := by decide +kernel
theorem dX7_putTraced_76 : decode cX7_putTraced 76 = .ok (.iload 8, 2) := by decide +kernel
theorem dX7_putTraced_78 : decode cX7_putTraced 78 = .ok (.aload_n 0, 1) := by decide +kernel
theorem dX7_putTraced_79 : decode cX7_putTraced 79 = .ok (.getfield 75, 3) := by decide +kernel
theorem dX7_putTraced_82 : decode cX7_putTraced 82 = .ok (.iload 6, 2) := by decide +kernel
theorem dX7_putTraced_84 : decode cX7_putTraced 84 = .ok (.iadd, 1) := by decide +kernel
theorem dX7_putTraced_85 : decode cX7_putTraced 85 = .ok (.invokevirtual 103, 3) := by decide +kernel
theorem dX7_putTraced_88 : decode cX7_putTraced 88 = .ok (.iload 6, 2) := by decide +kernel
theorem dX7_putTraced_90 : decode cX7_putTraced 90 = .ok (.iload 8, 2) := by decide +kernel
theorem dX7_putTraced_92 : decode cX7_putTraced 92 = .ok (.iadd, 1) := by decide +kernel
theorem dX7_putTraced_93 : decode cX7_putTraced 93 = .ok (.istore 5, 2) := by decide +kernel
theorem dX7_putTraced_95 : decode cX7_putTraced 95 = .ok (.iload 6, 2) := by decide +kernel
theorem dX7_putTraced_97 : decode cX7_putTraced 97 = .ok (.iload 8, 2) := by decide +kernel
theorem dX7_putTraced_99 : decode cX7_putTraced 99 = .ok (.iconst 1, 1) := by decide +kernel
theorem dX7_putTraced_100 : decode cX7_putTraced 100 = .ok (.invokestatic 96, 3) := by decide +kernel
theorem dX7_putTraced_103 : decode cX7_putTraced 103 = .ok (.iadd, 1) := by decide +kernel
theorem dX7_putTraced_104 : decode cX7_putTraced 104 = .ok (.istore 6, 2) := by decide +kernel
theorem dX7_putTraced_106 : decode cX7_putTraced 106 = .ok (.iinc 7 1, 3) := by decide +kernel
theorem dX7_putTraced_109 : decode cX7_putTraced 109 = .ok (.goto (-85), 3) := by decide +kernel
theorem dX7_putTraced_112 : decode cX7_putTraced 112 = .ok (.aload_n 0, 1) := by decide +kernel
theorem dX7_putTraced_113 : decode cX7_putTraced 113 = .ok (.aload_n 3, 1) := by decide +kernel
theorem dX7_putTraced_114 : decode cX7_putTraced 114 = .ok (.iload 5, 2) := by decide +kernel
theorem dX7_putTraced_116 : decode cX7_putTraced 116 = .ok (.aload_n 3, 1) := by decide +kernel
theorem dX7_putTraced_117 : decode cX7_putTraced 117 = .ok (.getfield 62, 3) := by decide +kernel
theorem dX7_putTraced_120 : decode cX7_putTraced 120 = .ok (.invokevirtual 85, 3) := by decide +kernel
theorem dX7_putTraced_123 : decode cX7_putTraced 123 = .ok (.aload_n 0, 1) := by decide +kernel
theorem dX7_putTraced_124 : decode cX7_putTraced 124 = .ok (.aload_n 1, 1) := by decide +kernel
theorem dX7_putTraced_125 : decode cX7_putTraced 125 = .ok (.invokevirtual 89, 3) := by decide +kernel
theorem dX7_putTraced_128 : decode cX7_putTraced 128 = .ok (.aload_n 0, 1) := by decide +kernel
theorem dX7_putTraced_129 : decode cX7_putTraced 129 = .ok (.aload_n 3, 1) := by decide +kernel
theorem dX7_putTraced_130 : decode cX7_putTraced 130 = .ok (.getfield 62, 3) := by decide +kernel
theorem dX7_putTraced_133 : decode cX7_putTraced 133 = .ok (.invokevirtual 93, 3) := by decide +kernel
theorem dX7_putTraced_136 : decode cX7_putTraced 136 = .ok (.return_, 1) := by decide +kernel
theorem dX7_tracedAt_0 : decode cX7_tracedAt 0 = .ok (.iload_n 1, 1) := by decide +kernel
theorem dX7_tracedAt_1 : decode cX7_tracedAt 1 = .ok (.aload_n 2, 1) := by decide +kernel
theorem dX7_tracedAt_2 : decode cX7_tracedAt 2 = .ok (.arraylength, 1) := by decide +kernel
theorem dX7_tracedAt_3 : decode cX7_tracedAt 3 = .ok (.invokestatic 65, 3) := by decide +kernel
theorem dX7_tracedAt_6 : decode cX7_tracedAt 6 = .ok (.iload_n 0, 1) := by decide +kernel
theorem dX7_tracedAt_7 : decode cX7_tracedAt 7 = .ok (.isub, 1) := by decide +kernel
theorem dX7_tracedAt_8 : decode cX7_tracedAt 8 = .ok (.istore_n 3, 1) := by decide +kernel
theorem dX7_tracedAt_9 : decode cX7_tracedAt 9 = .ok (.iload_n 3, 1) := by decide +kernel
theorem dX7_tracedAt_10 : decode cX7_tracedAt 10 = .ok (.ifCond .le 9, 3) := by decide +kernel
theorem dX7_tracedAt_13 : decode cX7_tracedAt 13 = .ok (.aload_n 2, 1) := by decide +kernel
theorem dX7_tracedAt_14 : decode cX7_tracedAt 14 = .ok (.iload_n 0, 1) := by decide +kernel
theorem dX7_tracedAt_15 : decode cX7_tracedAt 15 = .ok (.iaload, 1) := by decide +kernel
theorem dX7_tracedAt_16 : decode cX7_tracedAt 16 = .ok (.ifCond .ge 5, 3) := by decide +kernel
theorem dX7_tracedAt_19 : decode cX7_tracedAt 19 = .ok (.iconst 0, 1) := by decide +kernel
theorem dX7_tracedAt_20 : decode cX7_tracedAt 20 = .ok (.ireturn, 1) := by decide +kernel
theorem dX7_tracedAt_21 : decode cX7_tracedAt 21 = .ok (.iconst 1, 1) := by decide +kernel
theorem dX7_tracedAt_22 : decode cX7_tracedAt 22 = .ok (.istore 4, 2) := by decide +kernel
theorem dX7_tracedAt_24 : decode cX7_tracedAt 24 = .ok (.iload 4, 2) := by decide +kernel
theorem dX7_tracedAt_26 : decode cX7_tracedAt 26 = .ok (.iload_n 3, 1) := by decide +kernel
theorem dX7_tracedAt_27 : decode cX7_tracedAt 27 = .ok (.if_icmp .ge 24, 3) := by decide +kernel
theorem dX7_tracedAt_30 : decode cX7_tracedAt 30 = .ok (.aload_n 2, 1) := by decide +kernel
theorem dX7_tracedAt_31 : decode cX7_tracedAt 31 = .ok (.iload_n 0, 1) := by decide +kernel
theorem dX7_tracedAt_32 : decode cX7_tracedAt 32 = .ok (.iload 4, 2) := by decide +kernel
theorem dX7_tracedAt_34 : decode cX7_tracedAt 34 = .ok (.iadd, 1) := by decide +kernel
theorem dX7_tracedAt_35 : decode cX7_tracedAt 35 = .ok (.iaload, 1) := by decide +kernel
theorem dX7_tracedAt_36 : decode cX7_tracedAt 36 = .ok (.aload_n 2, 1) := by decide +kernel
theorem dX7_tracedAt_37 : decode cX7_tracedAt 37 = .ok (.iload_n 0, 1) := by decide +kernel
theorem dX7_tracedAt_38 : decode cX7_tracedAt 38 = .ok (.iaload, 1) := by decide +kernel
theorem dX7_tracedAt_39 : decode cX7_tracedAt 39 = .ok (.iload 4, 2) := by decide +kernel
theorem dX7_tracedAt_41 : decode cX7_tracedAt 41 = .ok (.iadd, 1) := by decide +kernel
theorem dX7_tracedAt_42 : decode cX7_tracedAt 42 = .ok (.if_icmp .ne 9, 3) := by decide +kernel
theorem dX7_tracedAt_45 : decode cX7_tracedAt 45 = .ok (.iinc 4 1, 3) := by decide +kernel
theorem dX7_tracedAt_48 : decode cX7_tracedAt 48 = .ok (.goto (-24), 3) := by decide +kernel
theorem dX7_tracedAt_51 : decode cX7_tracedAt 51 = .ok (.iload 4, 2) := by decide +kernel
theorem dX7_tracedAt_53 : decode cX7_tracedAt 53 = .ok (.ireturn, 1) := by decide +kernel
set_option maxRecDepth 20000 in
theorem ggX7_openWindow_X4_makeEmpty : GoodIn wsX7_openWindow wsX4_makeEmpty := goodIn_r _ [14, 15, 16, 55, 56, 57] (by decide +kernel) (by decide +kernel)
set_option maxRecDepth 20000 in
theorem gX7_openWindow_X4_makeEmpty : GoodIn wsX7_openWindow (wsV RX7 114 RX4 yX4_makeEmpty wsX4_makeEmpty) := goodIn_app (goodIn_of _ (by decide +kernel)) ggX7_openWindow_X4_makeEmpty
set_option maxRecDepth 20000 in
theorem ggX7_openWindow_X0_begin : GoodIn wsX7_openWindow wsX0_begin := goodIn_r _ [21, 22, 23, 24, 25, 26, 27, 28, 29, 30, 31, 32, 33, 34, 35, 36, 37, 38, 39, 58, 59, 60, 61, 62, 63, 64, 65, 66, 67] (by decide +kernel) (by decide +kernel)
set_option maxRecDepth 20000 in
theorem gX7_openWindow_X0_begin : GoodIn wsX7_openWindow (wsV RX7 117 RX0 yX0_begin wsX0_begin) := goodIn_app (goodIn_of _ (by decide +kernel)) ggX7_openWindow_X0_begin
theorem dX7_openWindow_0 : decode cX7_openWindow 0 = .ok (.aload_n 0, 1) := by decide +kernel
theorem dX7_openWindow_1 : decode cX7_openWindow 1 = .ok (.iload_n 3, 1) := by decide +kernel
theorem dX7_openWindow_2 : decode cX7_openWindow 2 = .ok (.ifCond .ne 7, 3) := by decide +kernel
theorem dX7_openWindow_5 : decode cX7_openWindow 5 = .ok (.iconst 0, 1) := by decide +kernel
theorem dX7_openWindow_6 : decode cX7_openWindow 6 = .ok (.goto 4, 3) := by decide +kernel
theorem dX7_openWindow_9 : decode cX7_openWindow 9 = .ok (.iload_n 2, 1) := by decide +kernel
theorem dX7_openWindow_10 : decode cX7_openWindow 10 = .ok (.putfield 107, 3) := by decide +kernel
theorem dX7_openWindow_13 : decode cX7_openWindow 13 = .ok (.aload_n 0, 1) := by decide +kernel
theorem dX7_openWindow_14 : decode cX7_openWindow 14 = .ok (.iload_n 3, 1) := by decide +kernel
theorem dX7_openWindow_15 : decode cX7_openWindow 15 = .ok (.putfield 75, 3) := by decide +kernel
theorem dX7_openWindow_18 : decode cX7_openWindow 18 = .ok (.aload_n 0, 1) := by decide +kernel
theorem dX7_openWindow_19 : decode cX7_openWindow 19 = .ok (.aload_n 0, 1) := by decide +kernel
theorem dX7_openWindow_20 : decode cX7_openWindow 20 = .ok (.getfield 46, 3) := by decide +kernel
theorem dX7_openWindow_23 : decode cX7_openWindow 23 = .ok (.getfield 110, 3) := by decide +kernel
theorem dX7_openWindow_26 : decode cX7_openWindow 26 = .ok (.putfield 111, 3) := by decide +kernel
theorem dX7_openWindow_29 : decode cX7_openWindow 29 = .ok (.aload_n 0, 1) := by decide +kernel
theorem dX7_openWindow_30 : decode cX7_openWindow 30 = .ok (.getfield 14, 3) := by decide +kernel
theorem dX7_openWindow_33 : decode cX7_openWindow 33 = .ok (.invokevirtual 114, 3) := by decide +kernel
theorem dX7_openWindow_36 : decode cX7_openWindow 36 = .ok (.aload_n 0, 1) := by decide +kernel
theorem dX7_openWindow_37 : decode cX7_openWindow 37 = .ok (.getfield 20, 3) := by decide +kernel
theorem dX7_openWindow_40 : decode cX7_openWindow 40 = .ok (.invokevirtual 114, 3) := by decide +kernel
theorem dX7_openWindow_43 : decode cX7_openWindow 43 = .ok (.aload_n 0, 1) := by decide +kernel
theorem dX7_openWindow_44 : decode cX7_openWindow 44 = .ok (.getfield 23, 3) := by decide +kernel
theorem dX7_openWindow_47 : decode cX7_openWindow 47 = .ok (.invokevirtual 114, 3) := by decide +kernel
theorem dX7_openWindow_50 : decode cX7_openWindow 50 = .ok (.aload_n 0, 1) := by decide +kernel
theorem dX7_openWindow_51 : decode cX7_openWindow 51 = .ok (.getfield 29, 3) := by decide +kernel
theorem dX7_openWindow_54 : decode cX7_openWindow 54 = .ok (.aload_n 1, 1) := by decide +kernel
theorem dX7_openWindow_55 : decode cX7_openWindow 55 = .ok (.invokevirtual 117, 3) := by decide +kernel
theorem dX7_openWindow_58 : decode cX7_openWindow 58 = .ok (.return_, 1) := by decide +kernel
set_option maxRecDepth 20000 in
theorem ggX7_choose_X2_runAt : GoodIn wsX7_choose wsX2_runAt := goodIn_r _ [8, 9, 10, 115, 116, 117, 118, 119, 120, 121, 122, 123, 124, 125] (by decide +kernel) (by decide +kernel)
set_option maxRecDepth 20000 in
theorem gX7_choose_X2_runAt : GoodIn wsX7_choose (wsV RX7 119 RX2 yX2_runAt wsX2_runAt) := goodIn_app (goodIn_of _ (by decide +kernel)) ggX7_choose_X2_runAt
set_option maxRecDepth 20000 in
theorem ggX7_choose_X2_longestAt : GoodIn wsX7_choose wsX2_longestAt := goodIn_r _ [14, 15, 16, 17, 9, 18, 19, 20, 21, 22, 7, 23, 10, 24, 25, 26, 27, 28, 29, 115, 116, 117, 118, 119, 120, 121, 122, 123, 124, 125] (by decide +kernel) (by decide +kernel)
set_option maxRecDepth 20000 in
theorem gX7_choose_X2_longestAt : GoodIn wsX7_choose (wsV RX7 123 RX2 yX2_longestAt wsX2_longestAt) := goodIn_app (goodIn_of _ (by decide +kernel)) ggX7_choose_X2_longestAt
set_option maxRecDepth 20000 in
theorem ggX7_choose_X7_putAdd : GoodIn wsX7_choose wsX7_putAdd := goodIn_r _ [34, 35, 36, 37, 38, 39, 40, 41, 42, 43, 44, 45, 46, 47, 48, 49, 50, 51, 52, 53, 54, 55, 56, 57, 103, 104, 105, 106, 107, 108, 109, 110, 111, 112, 113, 114, 126, 127, 128, 129, 130, 131] (by decide +kernel) (by decide +kernel)
set_option maxRecDepth 20000 in
theorem gX7_choose_X7_putAdd : GoodIn wsX7_choose (wsV RX7 85 RX7 yX7_putAdd wsX7_putAdd) := goodIn_app (goodIn_of _ (by decide +kernel)) ggX7_choose_X7_putAdd
set_option maxRecDepth 20000 in
theorem ggX7_choose_X4_at : GoodIn wsX7_choose wsX4_at := goodIn_r _ [42, 43, 44, 126, 127, 128] (by decide +kernel) (by decide +kernel)
set_option maxRecDepth 20000 in
theorem gX7_choose_X4_at : GoodIn wsX7_choose (wsV RX7 129 RX4 yX4_at wsX4_at) := goodIn_app (goodIn_of _ (by decide +kernel)) ggX7_choose_X4_at
set_option maxRecDepth 20000 in
theorem ggX7_choose_X7_putRun : GoodIn wsX7_choose wsX7_putRun := goodIn_r _ [61, 35, 36, 37, 45, 46, 47, 41, 48, 43, 44, 49, 50, 51, 52, 53, 54, 55, 56, 57, 103, 104, 105, 106, 107, 108, 109, 110, 111, 112, 113, 114, 126, 127, 128, 129, 130, 131] (by decide +kernel) (by decide +kernel)
set_option maxRecDepth 20000 in
theorem gX7_choose_X7_putRun : GoodIn wsX7_choose (wsV RX7 132 RX7 yX7_putRun wsX7_putRun) := goodIn_app (goodIn_of _ (by decide +kernel)) ggX7_choose_X7_putRun
set_option maxRecDepth 20000 in
theorem ggX7_choose_X7_putCopy : GoodIn wsX7_choose wsX7_putCopy := goodIn_r _ [65, 66, 67, 36, 37, 68, 69, 70, 71, 72, 73, 74, 75, 76, 77, 78, 79, 80, 81, 82, 83, 84, 85, 86, 41, 87, 88, 46, 47, 48, 43, 44, 49, 89, 90, 91, 92, 93, 94, 95, 96, 97, 98, 99, 100, 101, 102, 50, 51, 52, 53, 54, 55, 56, 57, 103, 104, 105, 106, 107, 108, 109, 110, 111, 112, 113, 114, 132, 133, 134, 135, 136, 126, 127, 128, 129, 130, 131] (by decide +kernel) (by decide +kernel)
set_option maxRecDepth 20000 in
theorem gX7_choose_X7_putCopy : GoodIn wsX7_choose (wsV RX7 103 RX7 yX7_putCopy wsX7_putCopy) := goodIn_app (goodIn_of _ (by decide +kernel)) ggX7_choose_X7_putCopy
theorem dX7_choose_0 : decode cX7_choose 0 = .ok (.iload_n 2, 1) := by decide +kernel
theorem dX7_choose_1 : decode cX7_choose 1 = .ok (.istore 5, 2) := by decide +kernel
theorem dX7_choose_3 : decode cX7_choose 3 = .ok (.iload_n 2, 1) := by decide +kernel
theorem dX7_choose_4 : decode cX7_choose 4 = .ok (.istore 6, 2) := by decide +kernel
theorem dX7_choose_6 : decode cX7_choose 6 = .ok (.iload_n 2, 1) := by decide +kernel
theorem dX7_choose_7 : decode cX7_choose 7 = .ok (.istore 7, 2) := by decide +kernel
theorem dX7_choose_9 : decode cX7_choose 9 = .ok (.iload 7, 2) := by decide +kernel
theorem dX7_choose_11 : decode cX7_choose 11 = .ok (.iload_n 3, 1) := by decide +kernel
theorem dX7_choose_12 : decode cX7_choose 12 = .ok (.if_icmp .ge 184, 3) := by decide +kernel
theorem dX7_choose_15 : decode cX7_choose 15 = .ok (.iload 6, 2) := by decide +kernel
theorem dX7_choose_17 : decode cX7_choose 17 = .ok (.iload_n 3, 1) := by decide +kernel
theorem dX7_choose_18 : decode cX7_choose 18 = .ok (.if_icmp .ge 178, 3) := by decide +kernel
theorem dX7_choose_21 : decode cX7_choose 21 = .ok (.aload_n 0, 1) := by decide +kernel
theorem dX7_choose_22 : decode cX7_choose 22 = .ok (.getfield 75, 3) := by decide +kernel
theorem dX7_choose_25 : decode cX7_choose 25 = .ok (.iload 6, 2) := by decide +kernel
theorem dX7_choose_27 : decode cX7_choose 27 = .ok (.iadd, 1) := by decide +kernel
theorem dX7_choose_28 : decode cX7_choose 28 = .ok (.iload_n 2, 1) := by decide +kernel
theorem dX7_choose_29 : decode cX7_choose 29 = .ok (.isub, 1) := by decide +kernel
theorem dX7_choose_30 : decode cX7_choose 30 = .ok (.istore 8, 2) := by decide +kernel
theorem dX7_choose_32 : decode cX7_choose 32 = .ok (.aload_n 0, 1) := by decide +kernel
theorem dX7_choose_33 : decode cX7_choose 33 = .ok (.getfield 36, 3) := by decide +kernel
theorem dX7_choose_36 : decode cX7_choose 36 = .ok (.iload 8, 2) := by decide +kernel
theorem dX7_choose_38 : decode cX7_choose 38 = .ok (.invokevirtual 119, 3) := by decide +kernel
theorem dX7_choose_41 : decode cX7_choose 41 = .ok (.istore 9, 2) := by decide +kernel
theorem dX7_choose_43 : decode cX7_choose 43 = .ok (.aload_n 0, 1) := by decide +kernel
theorem dX7_choose_44 : decode cX7_choose 44 = .ok (.getfield 36, 3) := by decide +kernel
theorem dX7_choose_47 : decode cX7_choose 47 = .ok (.iload 8, 2) := by decide +kernel
theorem dX7_choose_49 : decode cX7_choose 49 = .ok (.invokevirtual 123, 3) := by decide +kernel
theorem dX7_choose_52 : decode cX7_choose 52 = .ok (.istore 10, 2) := by decide +kernel
theorem dX7_choose_54 : decode cX7_choose 54 = .ok (.aload_n 0, 1) := by decide +kernel
theorem dX7_choose_55 : decode cX7_choose 55 = .ok (.getfield 36, 3) := by decide +kernel
theorem dX7_choose_58 : decode cX7_choose 58 = .ok (.getfield 126, 3) := by decide +kernel
theorem dX7_choose_61 : decode cX7_choose 61 = .ok (.istore 11, 2) := by decide +kernel
theorem dX7_choose_63 : decode cX7_choose 63 = .ok (.iload 9, 2) := by decide +kernel
theorem dX7_choose_65 : decode cX7_choose 65 = .ok (.bipush 6, 2) := by decide +kernel
theorem dX7_choose_67 : decode cX7_choose 67 = .ok (.if_icmp .lt 14, 3) := by decide +kernel
theorem dX7_choose_70 : decode cX7_choose 70 = .ok (.iload 9, 2) := by decide +kernel
theorem dX7_choose_72 : decode cX7_choose 72 = .ok (.iload 10, 2) := by decide +kernel
theorem dX7_choose_74 : decode cX7_choose 74 = .ok (.if_icmp .lt 7, 3) := by decide +kernel
theorem dX7_choose_77 : decode cX7_choose 77 = .ok (.iconst 1, 1) := by decide +kernel
theorem dX7_choose_78 : decode cX7_choose 78 = .ok (.goto 4, 3) := by decide +kernel
theorem dX7_choose_81 : decode cX7_choose 81 = .ok (.iconst 0, 1) := by decide +kernel
theorem dX7_choose_82 : decode cX7_choose 82 = .ok (.istore 12, 2) := by decide +kernel
theorem dX7_choose_84 : decode cX7_choose 84 = .ok (.iload 12, 2) := by decide +kernel
theorem dX7_choose_86 : decode cX7_choose 86 = .ok (.ifCond .eq 38, 3) := by decide +kernel
theorem dX7_choose_89 : decode cX7_choose 89 = .ok (.aload_n 0, 1) := by decide +kernel
theorem dX7_choose_90 : decode cX7_choose 90 = .ok (.aload_n 1, 1) := by decide +kernel
theorem dX7_choose_91 : decode cX7_choose 91 = .ok (.iload 5, 2) := by decide +kernel
theorem dX7_choose_93 : decode cX7_choose 93 = .ok (.iload 6, 2) := by decide +kernel
theorem dX7_choose_95 : decode cX7_choose 95 = .ok (.invokevirtual 85, 3) := by decide +kernel
theorem dX7_choose_98 : decode cX7_choose 98 = .ok (.aload_n 0, 1) := by decide +kernel
theorem dX7_choose_99 : decode cX7_choose 99 = .ok (.aload_n 1, 1) := by decide +kernel
theorem dX7_choose_100 : decode cX7_choose 100 = .ok (.iload 6, 2) := by decide +kernel
theorem dX7_choose_102 : decode cX7_choose 102 = .ok (.invokevirtual 129, 3) := by decide +kernel
theorem dX7_choose_105 : decode cX7_choose 105 = .ok (.iload 9, 2) := by decide +kernel
theorem dX7_choose_107 : decode cX7_choose 107 = .ok (.invokevirtual 132, 3) := by decide +kernel
theorem dX7_choose_110 : decode cX7_choose 110 = .ok (.iload 6, 2) := by decide +kernel
theorem dX7_choose_112 : decode cX7_choose 112 = .ok (.iload 9, 2) := by decide +kernel
theorem dX7_choose_114 : decode cX7_choose 114 = .ok (.iadd, 1) := by decide +kernel
theorem dX7_choose_115 : decode cX7_choose 115 = .ok (.istore 6, 2) := by decide +kernel
theorem dX7_choose_117 : decode cX7_choose 117 = .ok (.iload 6, 2) := by decide +kernel
theorem dX7_choose_119 : decode cX7_choose 119 = .ok (.istore 5, 2) := by decide +kernel
theorem dX7_choose_121 : decode cX7_choose 121 = .ok (.goto 69, 3) := by decide +kernel
theorem dX7_choose_124 : decode cX7_choose 124 = .ok (.iload 10, 2) := by decide +kernel
theorem dX7_choose_126 : decode cX7_choose 126 = .ok (.iconst 4, 1) := by decide +kernel
theorem dX7_choose_127 : decode cX7_choose 127 = .ok (.if_icmp .lt 27, 3) := by decide +kernel
theorem dX7_choose_130 : decode cX7_choose 130 = .ok (.iload 4, 2) := by decide +kernel
theorem dX7_choose_132 : decode cX7_choose 132 = .ok (.iconst 2, 1) := by decide +kernel
theorem dX7_choose_133 : decode cX7_choose 133 = .ok (.if_icmp .ne 27, 3) := by decide +kernel
theorem dX7_choose_136 : decode cX7_choose 136 = .ok (.aload_n 0, 1) := by decide +kernel
theorem dX7_choose_137 : decode cX7_choose 137 = .ok (.getfield 36, 3) := by decide +kernel
theorem dX7_choose_140 : decode cX7_choose 140 = .ok (.iload 8, 2) := by decide +kernel
theorem dX7_choose_142 : decode cX7_choose 142 = .ok (.iconst 1, 1) := by decide +kernel
theorem dX7_choose_143 : decode cX7_choose 143 = .ok (.iadd, 1) := by decide +kernel
theorem dX7_choose_144 : decode cX7_choose 144 = .ok (.invokevirtual 123, 3) := by decide +kernel
theorem dX7_choose_147 : decode cX7_choose 147 = .ok (.iload 10, 2) := by decide +kernel
theorem dX7_choose_149 : decode cX7_choose 149 = .ok (.iconst 2, 1) := by decide +kernel
theorem dX7_choose_150 : decode cX7_choose 150 = .ok (.iadd, 1) := by decide +kernel
theorem dX7_choose_151 : decode cX7_choose 151 = .ok (.if_icmp .lt 9, 3) := by decide +kernel
theorem dX7_choose_154 : decode cX7_choose 154 = .ok (.iinc 6 1, 3) := by decide +kernel
theorem dX7_choose_157 : decode cX7_choose 157 = .ok (.goto 33, 3) := by decide +kernel
theorem dX7_choose_160 : decode cX7_choose 160 = .ok (.aload_n 0, 1) := by decide +kernel
theorem dX7_choose_161 : decode cX7_choose 161 = .ok (.aload_n 1, 1) := by decide +kernel
theorem dX7_choose_162 : decode cX7_choose 162 = .ok (.iload 5, 2) := by decide +kernel
theorem dX7_choose_164 : decode cX7_choose 164 = .ok (.iload 6, 2) := by decide +kernel
theorem dX7_choose_166 : decode cX7_choose 166 = .ok (.invokevirtual 85, 3) := by decide +kernel
theorem dX7_choose_169 : decode cX7_choose 169 = .ok (.aload_n 0, 1) := by decide +kernel
theorem dX7_choose_170 : decode cX7_choose 170 = .ok (.iload 11, 2) := by decide +kernel
theorem dX7_choose_172 : decode cX7_choose 172 = .ok (.iload 10, 2) := by decide +kernel
theorem dX7_choose_174 : decode cX7_choose 174 = .ok (.iload 8, 2) := by decide +kernel
theorem dX7_choose_176 : decode cX7_choose 176 = .ok (.invokevirtual 103, 3) := by decide +kernel
theorem dX7_choose_179 : decode cX7_choose 179 = .ok (.iload 6, 2) := by decide +kernel
theorem dX7_choose_181 : decode cX7_choose 181 = .ok (.iload 10, 2) := by decide +kernel
theorem dX7_choose_183 : decode cX7_choose 183 = .ok (.iadd, 1) := by decide +kernel
theorem dX7_choose_184 : decode cX7_choose 184 = .ok (.istore 6, 2) := by decide +kernel
theorem dX7_choose_186 : decode cX7_choose 186 = .ok (.iload 6, 2) := by decide +kernel
theorem dX7_choose_188 : decode cX7_choose 188 = .ok (.istore 5, 2) := by decide +kernel
theorem dX7_choose_190 : decode cX7_choose 190 = .ok (.iinc 7 1, 3) := by decide +kernel
theorem dX7_choose_193 : decode cX7_choose 193 = .ok (.goto (-184), 3) := by decide +kernel
theorem dX7_choose_196 : decode cX7_choose 196 = .ok (.aload_n 0, 1) := by decide +kernel
theorem dX7_choose_197 : decode cX7_choose 197 = .ok (.aload_n 1, 1) := by decide +kernel
theorem dX7_choose_198 : decode cX7_choose 198 = .ok (.iload 5, 2) := by decide +kernel
theorem dX7_choose_200 : decode cX7_choose 200 = .ok (.iload_n 3, 1) := by decide +kernel
theorem dX7_choose_201 : decode cX7_choose 201 = .ok (.invokevirtual 85, 3) := by decide +kernel
theorem dX7_choose_204 : decode cX7_choose 204 = .ok (.return_, 1) := by decide +kernel
set_option maxRecDepth 20000 in
theorem ggX7_putAdd_X4_at : GoodIn wsX7_putAdd wsX4_at := goodIn_r _ [8, 9, 10, 36, 37, 38] (by decide +kernel) (by decide +kernel)
set_option maxRecDepth 20000 in
theorem gX7_putAdd_X4_at : GoodIn wsX7_putAdd (wsV RX7 129 RX4 yX4_at wsX4_at) := goodIn_app (goodIn_of _ (by decide +kernel)) ggX7_putAdd_X4_at
set_option maxRecDepth 20000 in
theorem ggX7_putAdd_X4_put : GoodIn wsX7_putAdd wsX4_put := goodIn_r _ [14, 9, 10, 15, 36, 37, 38] (by decide +kernel) (by decide +kernel)
set_option maxRecDepth 20000 in
theorem gX7_putAdd_X4_put : GoodIn wsX7_putAdd (wsV RX7 136 RX4 yX4_put wsX4_put) := goodIn_app (goodIn_of _ (by decide +kernel)) ggX7_putAdd_X4_put
set_option maxRecDepth 20000 in
theorem ggX7_putAdd_X5_put : GoodIn wsX7_putAdd wsX5_put := goodIn_r _ [20, 21, 22, 23, 39, 40, 41] (by decide +kernel) (by decide +kernel)
set_option maxRecDepth 20000 in
theorem gX7_putAdd_X5_put : GoodIn wsX7_putAdd (wsV RX7 139 RX5 yX5_put wsX5_put) := goodIn_app (goodIn_of _ (by decide +kernel)) ggX7_putAdd_X5_put
theorem dX7_putAdd_0 : decode cX7_putAdd 0 = .ok (.iload_n 2, 1) := by decide +kernel
theorem dX7_putAdd_1 : decode cX7_putAdd 1 = .ok (.iload_n 3, 1) := by decide +kernel
theorem dX7_putAdd_2 : decode cX7_putAdd 2 = .ok (.if_icmp .lt 4, 3) := by decide +kernel
theorem dX7_putAdd_5 : decode cX7_putAdd 5 = .ok (.return_, 1) := by decide +kernel
theorem dX7_putAdd_6 : decode cX7_putAdd 6 = .ok (.iload_n 2, 1) := by decide +kernel
theorem dX7_putAdd_7 : decode cX7_putAdd 7 = .ok (.istore 4, 2) := by decide +kernel
theorem dX7_putAdd_9 : decode cX7_putAdd 9 = .ok (.iload 4, 2) := by decide +kernel
theorem dX7_putAdd_11 : decode cX7_putAdd 11 = .ok (.iload_n 3, 1) := by decide +kernel
theorem dX7_putAdd_12 : decode cX7_putAdd 12 = .ok (.if_icmp .ge 22, 3) := by decide +kernel
theorem dX7_putAdd_15 : decode cX7_putAdd 15 = .ok (.aload_n 0, 1) := by decide +kernel
theorem dX7_putAdd_16 : decode cX7_putAdd 16 = .ok (.getfield 14, 3) := by decide +kernel
theorem dX7_putAdd_19 : decode cX7_putAdd 19 = .ok (.aload_n 1, 1) := by decide +kernel
theorem dX7_putAdd_20 : decode cX7_putAdd 20 = .ok (.iload 4, 2) := by decide +kernel
theorem dX7_putAdd_22 : decode cX7_putAdd 22 = .ok (.invokevirtual 129, 3) := by decide +kernel
theorem dX7_putAdd_25 : decode cX7_putAdd 25 = .ok (.invokevirtual 136, 3) := by decide +kernel
theorem dX7_putAdd_28 : decode cX7_putAdd 28 = .ok (.iinc 4 1, 3) := by decide +kernel
theorem dX7_putAdd_31 : decode cX7_putAdd 31 = .ok (.goto (-22), 3) := by decide +kernel
theorem dX7_putAdd_34 : decode cX7_putAdd 34 = .ok (.aload_n 0, 1) := by decide +kernel
theorem dX7_putAdd_35 : decode cX7_putAdd 35 = .ok (.getfield 46, 3) := by decide +kernel
theorem dX7_putAdd_38 : decode cX7_putAdd 38 = .ok (.iconst 1, 1) := by decide +kernel
theorem dX7_putAdd_39 : decode cX7_putAdd 39 = .ok (.iload_n 3, 1) := by decide +kernel
theorem dX7_putAdd_40 : decode cX7_putAdd 40 = .ok (.iload_n 2, 1) := by decide +kernel
theorem dX7_putAdd_41 : decode cX7_putAdd 41 = .ok (.isub, 1) := by decide +kernel
theorem dX7_putAdd_42 : decode cX7_putAdd 42 = .ok (.iconst 0, 1) := by decide +kernel
theorem dX7_putAdd_43 : decode cX7_putAdd 43 = .ok (.iconst 0, 1) := by decide +kernel
theorem dX7_putAdd_44 : decode cX7_putAdd 44 = .ok (.iconst 0, 1) := by decide +kernel
theorem dX7_putAdd_45 : decode cX7_putAdd 45 = .ok (.aload_n 0, 1) := by decide +kernel
theorem dX7_putAdd_46 : decode cX7_putAdd 46 = .ok (.getfield 50, 3) := by decide +kernel
theorem dX7_putAdd_49 : decode cX7_putAdd 49 = .ok (.invokevirtual 139, 3) := by decide +kernel
theorem dX7_putAdd_52 : decode cX7_putAdd 52 = .ok (.return_, 1) := by decide +kernel
set_option maxRecDepth 20000 in
theorem ggX7_putRun_X4_put : GoodIn wsX7_putRun wsX4_put := goodIn_r _ [8, 9, 10, 11, 32, 33, 34] (by decide +kernel) (by decide +kernel)
set_option maxRecDepth 20000 in
theorem gX7_putRun_X4_put : GoodIn wsX7_putRun (wsV RX7 136 RX4 yX4_put wsX4_put) := goodIn_app (goodIn_of _ (by decide +kernel)) ggX7_putRun_X4_put
set_option maxRecDepth 20000 in
theorem ggX7_putRun_X5_put : GoodIn wsX7_putRun wsX5_put := goodIn_r _ [16, 17, 18, 19, 35, 36, 37] (by decide +kernel) (by decide +kernel)
set_option maxRecDepth 20000 in
theorem gX7_putRun_X5_put : GoodIn wsX7_putRun (wsV RX7 139 RX5 yX5_put wsX5_put) := goodIn_app (goodIn_of _ (by decide +kernel)) ggX7_putRun_X5_put
theorem dX7_putRun_0 : decode cX7_putRun 0 = .ok (.aload_n 0, 1) := by decide +kernel
theorem dX7_putRun_1 : decode cX7_putRun 1 = .ok (.getfield 14, 3) := by decide +kernel
theorem dX7_putRun_4 : decode cX7_putRun 4 = .ok (.iload_n 1, 1) := by decide +kernel
theorem dX7_putRun_5 : decode cX7_putRun 5 = .ok (.invokevirtual 136, 3) := by decide +kernel
theorem dX7_putRun_8 : decode cX7_putRun 8 = .ok (.aload_n 0, 1) := by decide +kernel
theorem dX7_putRun_9 : decode cX7_putRun 9 = .ok (.getfield 46, 3) := by decide +kernel
theorem dX7_putRun_12 : decode cX7_putRun 12 = .ok (.iconst 2, 1) := by decide +kernel
theorem dX7_putRun_13 : decode cX7_putRun 13 = .ok (.iload_n 2, 1) := by decide +kernel
theorem dX7_putRun_14 : decode cX7_putRun 14 = .ok (.iconst 0, 1) := by decide +kernel
theorem dX7_putRun_15 : decode cX7_putRun 15 = .ok (.iconst 0, 1) := by decide +kernel
theorem dX7_putRun_16 : decode cX7_putRun 16 = .ok (.iconst 0, 1) := by decide +kernel
theorem dX7_putRun_17 : decode cX7_putRun 17 = .ok (.aload_n 0, 1) := by decide +kernel
theorem dX7_putRun_18 : decode cX7_putRun 18 = .ok (.getfield 50, 3) := by decide +kernel
theorem dX7_putRun_21 : decode cX7_putRun 21 = .ok (.invokevirtual 139, 3) := by decide +kernel
theorem dX7_putRun_24 : decode cX7_putRun 24 = .ok (.return_, 1) := by decide +kernel
set_option maxRecDepth 20000 in
theorem ggX7_putCopy_X0_cheapestMode : GoodIn wsX7_putCopy wsX0_cheapestMode := goodIn_r _ [9, 10, 11, 12, 13, 14, 15, 16, 67, 68, 69, 70, 71] (by decide +kernel) (by decide +kernel)
set_option maxRecDepth 20000 in
theorem gX7_putCopy_X0_cheapestMode : GoodIn wsX7_putCopy (wsV RX7 142 RX0 yX0_cheapestMode wsX0_cheapestMode) := goodIn_app (goodIn_of _ (by decide +kernel)) ggX7_putCopy_X0_cheapestMode
set_option maxRecDepth 20000 in
theorem ggX7_putCopy_X0_putAddress : GoodIn wsX7_putCopy wsX0_putAddress := goodIn_r _ [20, 21, 22, 23, 24, 25, 14, 15, 16, 26, 27, 28, 29, 30, 31, 32, 33, 34, 35, 8, 36, 10, 37, 38, 39, 40, 41, 11, 72, 73, 74, 67, 68, 69, 70, 71] (by decide +kernel) (by decide +kernel)
set_option maxRecDepth 20000 in
theorem gX7_putCopy_X0_putAddress : GoodIn wsX7_putCopy (wsV RX7 145 RX0 yX0_putAddress wsX0_putAddress) := goodIn_app (goodIn_of _ (by decide +kernel)) ggX7_putCopy_X0_putAddress
set_option maxRecDepth 20000 in
theorem ggX7_putCopy_X0_keep : GoodIn wsX7_putCopy wsX0_keep := goodIn_r _ [45, 10, 11, 46, 12, 13, 67, 68, 69, 70, 71] (by decide +kernel) (by decide +kernel)
set_option maxRecDepth 20000 in
theorem gX7_putCopy_X0_keep : GoodIn wsX7_putCopy (wsV RX7 148 RX0 yX0_keep wsX0_keep) := goodIn_app (goodIn_of _ (by decide +kernel)) ggX7_putCopy_X0_keep
set_option maxRecDepth 20000 in
theorem ggX7_putCopy_X5_put : GoodIn wsX7_putCopy wsX5_put := goodIn_r _ [51, 52, 53, 54, 75, 76, 77] (by decide +kernel) (by decide +kernel)
set_option maxRecDepth 20000 in
theorem gX7_putCopy_X5_put : GoodIn wsX7_putCopy (wsV RX7 139 RX5 yX5_put wsX5_put) := goodIn_app (goodIn_of _ (by decide +kernel)) ggX7_putCopy_X5_put
theorem dX7_putCopy_0 : decode cX7_putCopy 0 = .ok (.aload_n 0, 1) := by decide +kernel
theorem dX7_putCopy_1 : decode cX7_putCopy 1 = .ok (.getfield 29, 3) := by decide +kernel
theorem dX7_putCopy_4 : decode cX7_putCopy 4 = .ok (.iload_n 1, 1) := by decide +kernel
theorem dX7_putCopy_5 : decode cX7_putCopy 5 = .ok (.iload_n 3, 1) := by decide +kernel
theorem dX7_putCopy_6 : decode cX7_putCopy 6 = .ok (.invokevirtual 142, 3) := by decide +kernel
theorem dX7_putCopy_9 : decode cX7_putCopy 9 = .ok (.istore 4, 2) := by decide +kernel
theorem dX7_putCopy_11 : decode cX7_putCopy 11 = .ok (.aload_n 0, 1) := by decide +kernel
theorem dX7_putCopy_12 : decode cX7_putCopy 12 = .ok (.getfield 29, 3) := by decide +kernel
theorem dX7_putCopy_15 : decode cX7_putCopy 15 = .ok (.aload_n 0, 1) := by decide +kernel
theorem dX7_putCopy_16 : decode cX7_putCopy 16 = .ok (.getfield 23, 3) := by decide +kernel
theorem dX7_putCopy_19 : decode cX7_putCopy 19 = .ok (.iload 4, 2) := by decide +kernel
theorem dX7_putCopy_21 : decode cX7_putCopy 21 = .ok (.iload_n 1, 1) := by decide +kernel
theorem dX7_putCopy_22 : decode cX7_putCopy 22 = .ok (.iload_n 3, 1) := by decide +kernel
theorem dX7_putCopy_23 : decode cX7_putCopy 23 = .ok (.invokevirtual 145, 3) := by decide +kernel
theorem dX7_putCopy_26 : decode cX7_putCopy 26 = .ok (.aload_n 0, 1) := by decide +kernel
theorem dX7_putCopy_27 : decode cX7_putCopy 27 = .ok (.getfield 29, 3) := by decide +kernel
theorem dX7_putCopy_30 : decode cX7_putCopy 30 = .ok (.iload_n 1, 1) := by decide +kernel
theorem dX7_putCopy_31 : decode cX7_putCopy 31 = .ok (.invokevirtual 148, 3) := by decide +kernel
theorem dX7_putCopy_34 : decode cX7_putCopy 34 = .ok (.aload_n 0, 1) := by decide +kernel
theorem dX7_putCopy_35 : decode cX7_putCopy 35 = .ok (.getfield 46, 3) := by decide +kernel
theorem dX7_putCopy_38 : decode cX7_putCopy 38 = .ok (.iconst 3, 1) := by decide +kernel
theorem dX7_putCopy_39 : decode cX7_putCopy 39 = .ok (.iload_n 2, 1) := by decide +kernel
theorem dX7_putCopy_40 : decode cX7_putCopy 40 = .ok (.iload_n 1, 1) := by decide +kernel
theorem dX7_putCopy_41 : decode cX7_putCopy 41 = .ok (.iload 4, 2) := by decide +kernel
theorem dX7_putCopy_43 : decode cX7_putCopy 43 = .ok (.iconst 0, 1) := by decide +kernel
theorem dX7_putCopy_44 : decode cX7_putCopy 44 = .ok (.aload_n 0, 1) := by decide +kernel
theorem dX7_putCopy_45 : decode cX7_putCopy 45 = .ok (.getfield 50, 3) := by decide +kernel
theorem dX7_putCopy_48 : decode cX7_putCopy 48 = .ok (.invokevirtual 139, 3) := by decide +kernel
theorem dX7_putCopy_51 : decode cX7_putCopy 51 = .ok (.return_, 1) := by decide +kernel
set_option maxRecDepth 20000 in
theorem ggX7_chooseCodes_X6_pairFor : GoodIn wsX7_chooseCodes wsX6_pairFor := goodIn_r _ [9, 10, 11, 12, 13, 14, 15, 16, 17, 18, 19, 20, 21, 22, 23, 24, 25, 8, 26, 27, 28, 29, 30, 31, 32, 33, 34, 35, 36, 37, 38, 39, 40, 41, 42, 43, 44, 45, 46, 47, 48, 49, 50, 94, 95, 96, 97, 98, 91, 92, 93, 99, 100, 101] (by decide +kernel) (by decide +kernel)
set_option maxRecDepth 20000 in
theorem gX7_chooseCodes_X6_pairFor : GoodIn wsX7_chooseCodes (wsV RX7 151 RX6 yX6_pairFor wsX6_pairFor) := goodIn_app (goodIn_of _ (by decide +kernel)) ggX7_chooseCodes_X6_pairFor
set_option maxRecDepth 20000 in
theorem ggX7_chooseCodes_X4_put : GoodIn wsX7_chooseCodes wsX4_put := goodIn_r _ [54, 41, 42, 55, 99, 100, 101] (by decide +kernel) (by decide +kernel)
set_option maxRecDepth 20000 in
theorem gX7_chooseCodes_X4_put : GoodIn wsX7_chooseCodes (wsV RX7 136 RX4 yX4_put wsX4_put) := goodIn_app (goodIn_of _ (by decide +kernel)) ggX7_chooseCodes_X4_put
set_option maxRecDepth 20000 in
theorem ggX7_chooseCodes_X5_setCode : GoodIn wsX7_chooseCodes wsX5_setCode := goodIn_r _ [59, 17, 18, 19, 20, 15, 21, 22, 23, 91, 92, 93] (by decide +kernel) (by decide +kernel)
set_option maxRecDepth 20000 in
theorem gX7_chooseCodes_X5_setCode : GoodIn wsX7_chooseCodes (wsV RX7 157 RX5 yX5_setCode wsX5_setCode) := goodIn_app (goodIn_of _ (by decide +kernel)) ggX7_chooseCodes_X5_setCode
set_option maxRecDepth 20000 in
theorem ggX7_chooseCodes_X7_chooseSingle : GoodIn wsX7_chooseCodes wsX7_chooseSingle := goodIn_r _ [64, 2, 65, 4, 66, 13, 14, 15, 16, 17, 18, 19, 20, 21, 22, 23, 67, 68, 69, 8, 70, 10, 11, 24, 25, 26, 31, 32, 33, 34, 35, 36, 37, 38, 39, 40, 41, 42, 27, 28, 29, 30, 43, 44, 45, 46, 47, 48, 49, 50, 51, 52, 53, 54, 55, 56, 57, 58, 59, 71, 72, 73, 74, 75, 76, 77, 78, 79, 80, 81, 82, 83, 84, 85, 86, 87, 88, 89, 90, 91, 92, 93, 94, 95, 96, 97, 98, 99, 100, 101] (by decide +kernel) (by decide +kernel)
set_option maxRecDepth 20000 in
theorem gX7_chooseCodes_X7_chooseSingle : GoodIn wsX7_chooseCodes (wsV RX7 160 RX7 yX7_chooseSingle wsX7_chooseSingle) := goodIn_app (goodIn_of _ (by decide +kernel)) ggX7_chooseCodes_X7_chooseSingle
theorem dX7_chooseCodes_0 : decode cX7_chooseCodes 0 = .ok (.aload_n 0, 1) := by decide +kernel
theorem dX7_chooseCodes_1 : decode cX7_chooseCodes 1 = .ok (.getfield 111, 3) := by decide +kernel
theorem dX7_chooseCodes_4 : decode cX7_chooseCodes 4 = .ok (.istore_n 2, 1) := by decide +kernel
theorem dX7_chooseCodes_5 : decode cX7_chooseCodes 5 = .ok (.iload_n 2, 1) := by decide +kernel
theorem dX7_chooseCodes_6 : decode cX7_chooseCodes 6 = .ok (.aload_n 0, 1) := by decide +kernel
theorem dX7_chooseCodes_7 : decode cX7_chooseCodes 7 = .ok (.getfield 46, 3) := by decide +kernel
theorem dX7_chooseCodes_10 : decode cX7_chooseCodes 10 = .ok (.getfield 110, 3) := by decide +kernel
theorem dX7_chooseCodes_13 : decode cX7_chooseCodes 13 = .ok (.if_icmp .ge 80, 3) := by decide +kernel
theorem dX7_chooseCodes_16 : decode cX7_chooseCodes 16 = .ok (.iload_n 2, 1) := by decide +kernel
theorem dX7_chooseCodes_17 : decode cX7_chooseCodes 17 = .ok (.iconst 1, 1) := by decide +kernel
theorem dX7_chooseCodes_18 : decode cX7_chooseCodes 18 = .ok (.iadd, 1) := by decide +kernel
theorem dX7_chooseCodes_19 : decode cX7_chooseCodes 19 = .ok (.aload_n 0, 1) := by decide +kernel
theorem dX7_chooseCodes_20 : decode cX7_chooseCodes 20 = .ok (.getfield 46, 3) := by decide +kernel
theorem dX7_chooseCodes_23 : decode cX7_chooseCodes 23 = .ok (.getfield 110, 3) := by decide +kernel
theorem dX7_chooseCodes_26 : decode cX7_chooseCodes 26 = .ok (.if_icmp .ge 15, 3) := by decide +kernel
theorem dX7_chooseCodes_29 : decode cX7_chooseCodes 29 = .ok (.aload_n 1, 1) := by decide +kernel
theorem dX7_chooseCodes_30 : decode cX7_chooseCodes 30 = .ok (.aload_n 0, 1) := by decide +kernel
theorem dX7_chooseCodes_31 : decode cX7_chooseCodes 31 = .ok (.getfield 46, 3) := by decide +kernel
theorem dX7_chooseCodes_34 : decode cX7_chooseCodes 34 = .ok (.iload_n 2, 1) := by decide +kernel
theorem dX7_chooseCodes_35 : decode cX7_chooseCodes 35 = .ok (.invokevirtual 151, 3) := by decide +kernel
theorem dX7_chooseCodes_38 : decode cX7_chooseCodes 38 = .ok (.goto 4, 3) := by decide +kernel
theorem dX7_chooseCodes_41 : decode cX7_chooseCodes 41 = .ok (.iconst (-1), 1) := by decide +kernel
theorem dX7_chooseCodes_42 : decode cX7_chooseCodes 42 = .ok (.istore_n 3, 1) := by decide +kernel
theorem dX7_chooseCodes_43 : decode cX7_chooseCodes 43 = .ok (.iload_n 3, 1) := by decide +kernel
theorem dX7_chooseCodes_44 : decode cX7_chooseCodes 44 = .ok (.ifCond .lt 37, 3) := by decide +kernel
theorem dX7_chooseCodes_47 : decode cX7_chooseCodes 47 = .ok (.aload_n 0, 1) := by decide +kernel
theorem dX7_chooseCodes_48 : decode cX7_chooseCodes 48 = .ok (.getfield 20, 3) := by decide +kernel
theorem dX7_chooseCodes_51 : decode cX7_chooseCodes 51 = .ok (.iload_n 3, 1) := by decide +kernel
theorem dX7_chooseCodes_52 : decode cX7_chooseCodes 52 = .ok (.invokevirtual 136, 3) := by decide +kernel
theorem dX7_chooseCodes_55 : decode cX7_chooseCodes 55 = .ok (.aload_n 0, 1) := by decide +kernel
theorem dX7_chooseCodes_56 : decode cX7_chooseCodes 56 = .ok (.getfield 46, 3) := by decide +kernel
theorem dX7_chooseCodes_59 : decode cX7_chooseCodes 59 = .ok (.iload_n 2, 1) := by decide +kernel
theorem dX7_chooseCodes_60 : decode cX7_chooseCodes 60 = .ok (.iload_n 3, 1) := by decide +kernel
theorem dX7_chooseCodes_61 : decode cX7_chooseCodes 61 = .ok (.invokevirtual 157, 3) := by decide +kernel
theorem dX7_chooseCodes_64 : decode cX7_chooseCodes 64 = .ok (.aload_n 0, 1) := by decide +kernel
theorem dX7_chooseCodes_65 : decode cX7_chooseCodes 65 = .ok (.getfield 46, 3) := by decide +kernel
theorem dX7_chooseCodes_68 : decode cX7_chooseCodes 68 = .ok (.iload_n 2, 1) := by decide +kernel
theorem dX7_chooseCodes_69 : decode cX7_chooseCodes 69 = .ok (.iconst 1, 1) := by decide +kernel
theorem dX7_chooseCodes_70 : decode cX7_chooseCodes 70 = .ok (.iadd, 1) := by decide +kernel
theorem dX7_chooseCodes_71 : decode cX7_chooseCodes 71 = .ok (.iload_n 3, 1) := by decide +kernel
theorem dX7_chooseCodes_72 : decode cX7_chooseCodes 72 = .ok (.invokevirtual 157, 3) := by decide +kernel
theorem dX7_chooseCodes_75 : decode cX7_chooseCodes 75 = .ok (.iinc 2 1, 3) := by decide +kernel
theorem dX7_chooseCodes_78 : decode cX7_chooseCodes 78 = .ok (.goto 9, 3) := by decide +kernel
theorem dX7_chooseCodes_81 : decode cX7_chooseCodes 81 = .ok (.aload_n 0, 1) := by decide +kernel
theorem dX7_chooseCodes_82 : decode cX7_chooseCodes 82 = .ok (.aload_n 1, 1) := by decide +kernel
theorem dX7_chooseCodes_83 : decode cX7_chooseCodes 83 = .ok (.iload_n 2, 1) := by decide +kernel
theorem dX7_chooseCodes_84 : decode cX7_chooseCodes 84 = .ok (.invokevirtual 160, 3) := by decide +kernel
theorem dX7_chooseCodes_87 : decode cX7_chooseCodes 87 = .ok (.iinc 2 1, 3) := by decide +kernel
theorem dX7_chooseCodes_90 : decode cX7_chooseCodes 90 = .ok (.goto (-85), 3) := by decide +kernel
theorem dX7_chooseCodes_93 : decode cX7_chooseCodes 93 = .ok (.return_, 1) := by decide +kernel
set_option maxRecDepth 20000 in
theorem ggX7_chooseSingle_X5_at : GoodIn wsX7_chooseSingle wsX5_at := goodIn_r _ [8, 9, 10, 11, 12, 7, 13, 14, 15, 79, 80, 81] (by decide +kernel) (by decide +kernel)
set_option maxRecDepth 20000 in
theorem gX7_chooseSingle_X5_at : GoodIn wsX7_chooseSingle (wsV RX7 164 RX5 yX5_at wsX5_at) := goodIn_app (goodIn_of _ (by decide +kernel)) ggX7_chooseSingle_X5_at
set_option maxRecDepth 20000 in
theorem ggX7_chooseSingle_X6_singleFor : GoodIn wsX7_chooseSingle wsX6_singleFor := goodIn_r _ [20, 21, 22, 23, 24, 19, 25, 26, 27, 28, 29, 30, 31, 32, 33, 34, 35, 36, 37, 38, 39, 40, 41, 42, 43, 44, 45, 46, 47, 48, 49, 82, 83, 84, 85, 86, 87, 88, 89] (by decide +kernel) (by decide +kernel)
set_option maxRecDepth 20000 in
theorem gX7_chooseSingle_X6_singleFor : GoodIn wsX7_chooseSingle (wsV RX7 166 RX6 yX6_singleFor wsX6_singleFor) := goodIn_app (goodIn_of _ (by decide +kernel)) ggX7_chooseSingle_X6_singleFor
set_option maxRecDepth 20000 in
theorem ggX7_chooseSingle_X4_put : GoodIn wsX7_chooseSingle wsX4_put := goodIn_r _ [53, 36, 37, 54, 87, 88, 89] (by decide +kernel) (by decide +kernel)
set_option maxRecDepth 20000 in
theorem gX7_chooseSingle_X4_put : GoodIn wsX7_chooseSingle (wsV RX7 136 RX4 yX4_put wsX4_put) := goodIn_app (goodIn_of _ (by decide +kernel)) ggX7_chooseSingle_X4_put
set_option maxRecDepth 20000 in
theorem ggX7_chooseSingle_X5_setCode : GoodIn wsX7_chooseSingle wsX5_setCode := goodIn_r _ [58, 9, 10, 11, 12, 7, 13, 14, 15, 79, 80, 81] (by decide +kernel) (by decide +kernel)
set_option maxRecDepth 20000 in
theorem gX7_chooseSingle_X5_setCode : GoodIn wsX7_chooseSingle (wsV RX7 157 RX5 yX5_setCode wsX5_setCode) := goodIn_app (goodIn_of _ (by decide +kernel)) ggX7_chooseSingle_X5_setCode
set_option maxRecDepth 20000 in
theorem ggX7_chooseSingle_X4_putNumber : GoodIn wsX7_chooseSingle wsX4_putNumber := goodIn_r _ [62, 63, 64, 65, 66, 51, 52, 34, 53, 36, 37, 54, 87, 88, 89] (by decide +kernel) (by decide +kernel)
set_option maxRecDepth 20000 in
theorem gX7_chooseSingle_X4_putNumber : GoodIn wsX7_chooseSingle (wsV RX7 170 RX4 yX4_putNumber wsX4_putNumber) := goodIn_app (goodIn_of _ (by decide +kernel)) ggX7_chooseSingle_X4_putNumber
theorem dX7_chooseSingle_0 : decode cX7_chooseSingle 0 = .ok (.aload_n 0, 1) := by decide +kernel
theorem dX7_chooseSingle_1 : decode cX7_chooseSingle 1 = .ok (.getfield 46, 3) := by decide +kernel
theorem dX7_chooseSingle_4 : decode cX7_chooseSingle 4 = .ok (.iload_n 2, 1) := by decide +kernel
theorem dX7_chooseSingle_5 : decode cX7_chooseSingle 5 = .ok (.iconst 0, 1) := by decide +kernel
theorem dX7_chooseSingle_6 : decode cX7_chooseSingle 6 = .ok (.invokevirtual 164, 3) := by decide +kernel
theorem dX7_chooseSingle_9 : decode cX7_chooseSingle 9 = .ok (.istore_n 3, 1) := by decide +kernel
theorem dX7_chooseSingle_10 : decode cX7_chooseSingle 10 = .ok (.aload_n 0, 1) := by decide +kernel
theorem dX7_chooseSingle_11 : decode cX7_chooseSingle 11 = .ok (.getfield 46, 3) := by decide +kernel
theorem dX7_chooseSingle_14 : decode cX7_chooseSingle 14 = .ok (.iload_n 2, 1) := by decide +kernel
theorem dX7_chooseSingle_15 : decode cX7_chooseSingle 15 = .ok (.iconst 1, 1) := by decide +kernel
theorem dX7_chooseSingle_16 : decode cX7_chooseSingle 16 = .ok (.invokevirtual 164, 3) := by decide +kernel
theorem dX7_chooseSingle_19 : decode cX7_chooseSingle 19 = .ok (.istore 4, 2) := by decide +kernel
theorem dX7_chooseSingle_21 : decode cX7_chooseSingle 21 = .ok (.aload_n 0, 1) := by decide +kernel
theorem dX7_chooseSingle_22 : decode cX7_chooseSingle 22 = .ok (.getfield 46, 3) := by decide +kernel
theorem dX7_chooseSingle_25 : decode cX7_chooseSingle 25 = .ok (.iload_n 2, 1) := by decide +kernel
theorem dX7_chooseSingle_26 : decode cX7_chooseSingle 26 = .ok (.iconst 3, 1) := by decide +kernel
theorem dX7_chooseSingle_27 : decode cX7_chooseSingle 27 = .ok (.invokevirtual 164, 3) := by decide +kernel
theorem dX7_chooseSingle_30 : decode cX7_chooseSingle 30 = .ok (.istore 5, 2) := by decide +kernel
theorem dX7_chooseSingle_32 : decode cX7_chooseSingle 32 = .ok (.aload_n 1, 1) := by decide +kernel
theorem dX7_chooseSingle_33 : decode cX7_chooseSingle 33 = .ok (.iload_n 3, 1) := by decide +kernel
theorem dX7_chooseSingle_34 : decode cX7_chooseSingle 34 = .ok (.iload 4, 2) := by decide +kernel
theorem dX7_chooseSingle_36 : decode cX7_chooseSingle 36 = .ok (.iload 5, 2) := by decide +kernel
theorem dX7_chooseSingle_38 : decode cX7_chooseSingle 38 = .ok (.invokevirtual 166, 3) := by decide +kernel
theorem dX7_chooseSingle_41 : decode cX7_chooseSingle 41 = .ok (.istore 6, 2) := by decide +kernel
theorem dX7_chooseSingle_43 : decode cX7_chooseSingle 43 = .ok (.iload 6, 2) := by decide +kernel
theorem dX7_chooseSingle_45 : decode cX7_chooseSingle 45 = .ok (.ifCond .lt 7, 3) := by decide +kernel
theorem dX7_chooseSingle_48 : decode cX7_chooseSingle 48 = .ok (.iconst 1, 1) := by decide +kernel
theorem dX7_chooseSingle_49 : decode cX7_chooseSingle 49 = .ok (.goto 4, 3) := by decide +kernel
theorem dX7_chooseSingle_52 : decode cX7_chooseSingle 52 = .ok (.iconst 0, 1) := by decide +kernel
theorem dX7_chooseSingle_53 : decode cX7_chooseSingle 53 = .ok (.istore 7, 2) := by decide +kernel
theorem dX7_chooseSingle_55 : decode cX7_chooseSingle 55 = .ok (.iload 7, 2) := by decide +kernel
theorem dX7_chooseSingle_57 : decode cX7_chooseSingle 57 = .ok (.ifCond .ne 13, 3) := by decide +kernel
theorem dX7_chooseSingle_60 : decode cX7_chooseSingle 60 = .ok (.aload_n 1, 1) := by decide +kernel
theorem dX7_chooseSingle_61 : decode cX7_chooseSingle 61 = .ok (.iload_n 3, 1) := by decide +kernel
theorem dX7_chooseSingle_62 : decode cX7_chooseSingle 62 = .ok (.iconst 0, 1) := by decide +kernel
theorem dX7_chooseSingle_63 : decode cX7_chooseSingle 63 = .ok (.iload 5, 2) := by decide +kernel
theorem dX7_chooseSingle_65 : decode cX7_chooseSingle 65 = .ok (.invokevirtual 166, 3) := by decide +kernel
theorem dX7_chooseSingle_68 : decode cX7_chooseSingle 68 = .ok (.istore 6, 2) := by decide +kernel
theorem dX7_chooseSingle_70 : decode cX7_chooseSingle 70 = .ok (.iload 6, 2) := by decide +kernel
theorem dX7_chooseSingle_72 : decode cX7_chooseSingle 72 = .ok (.ifCond .ge 9, 3) := by decide +kernel
theorem dX7_chooseSingle_75 : decode cX7_chooseSingle 75 = .ok (.aload_n 0, 1) := by decide +kernel
theorem dX7_chooseSingle_76 : decode cX7_chooseSingle 76 = .ok (.iconst 1, 1) := by decide +kernel
theorem dX7_chooseSingle_77 : decode cX7_chooseSingle 77 = .ok (.putfield 54, 3) := by decide +kernel
theorem dX7_chooseSingle_80 : decode cX7_chooseSingle 80 = .ok (.return_, 1) := by decide +kernel
theorem dX7_chooseSingle_81 : decode cX7_chooseSingle 81 = .ok (.aload_n 0, 1) := by decide +kernel
theorem dX7_chooseSingle_82 : decode cX7_chooseSingle 82 = .ok (.getfield 20, 3) := by decide +kernel
theorem dX7_chooseSingle_85 : decode cX7_chooseSingle 85 = .ok (.iload 6, 2) := by decide +kernel
theorem dX7_chooseSingle_87 : decode cX7_chooseSingle 87 = .ok (.invokevirtual 136, 3) := by decide +kernel
theorem dX7_chooseSingle_90 : decode cX7_chooseSingle 90 = .ok (.aload_n 0, 1) := by decide +kernel
theorem dX7_chooseSingle_91 : decode cX7_chooseSingle 91 = .ok (.getfield 46, 3) := by decide +kernel
theorem dX7_chooseSingle_94 : decode cX7_chooseSingle 94 = .ok (.iload_n 2, 1) := by decide +kernel
theorem dX7_chooseSingle_95 : decode cX7_chooseSingle 95 = .ok (.iload 6, 2) := by decide +kernel
theorem dX7_chooseSingle_97 : decode cX7_chooseSingle 97 = .ok (.invokevirtual 157, 3) := by decide +kernel
theorem dX7_chooseSingle_100 : decode cX7_chooseSingle 100 = .ok (.iload 7, 2) := by decide +kernel
theorem dX7_chooseSingle_102 : decode cX7_chooseSingle 102 = .ok (.ifCond .ne 12, 3) := by decide +kernel
theorem dX7_chooseSingle_105 : decode cX7_chooseSingle 105 = .ok (.aload_n 0, 1) := by decide +kernel
theorem dX7_chooseSingle_106 : decode cX7_chooseSingle 106 = .ok (.getfield 20, 3) := by decide +kernel
theorem dX7_chooseSingle_109 : decode cX7_chooseSingle 109 = .ok (.iload 4, 2) := by decide +kernel
theorem dX7_chooseSingle_111 : decode cX7_chooseSingle 111 = .ok (.invokevirtual 170, 3) := by decide +kernel
theorem dX7_chooseSingle_114 : decode cX7_chooseSingle 114 = .ok (.return_, 1) := by decide +kernel
set_option maxRecDepth 20000 in
theorem ggX7_closeWindow_X4_put : GoodIn wsX7_closeWindow wsX4_put := goodIn_r _ [13, 14, 15, 16, 53, 54, 55] (by decide +kernel) (by decide +kernel)
set_option maxRecDepth 20000 in
theorem gX7_closeWindow_X4_put : GoodIn wsX7_closeWindow (wsV RX7 136 RX4 yX4_put wsX4_put) := goodIn_app (goodIn_of _ (by decide +kernel)) ggX7_closeWindow_X4_put
set_option maxRecDepth 20000 in
theorem ggX7_closeWindow_X4_putNumber : GoodIn wsX7_closeWindow wsX4_putNumber := goodIn_r _ [20, 21, 22, 23, 24, 10, 11, 12, 13, 14, 15, 16, 53, 54, 55] (by decide +kernel) (by decide +kernel)
set_option maxRecDepth 20000 in
theorem gX7_closeWindow_X4_putNumber : GoodIn wsX7_closeWindow (wsV RX7 170 RX4 yX4_putNumber wsX4_putNumber) := goodIn_app (goodIn_of _ (by decide +kernel)) ggX7_closeWindow_X4_putNumber
set_option maxRecDepth 20000 in
theorem ggX7_closeWindow_X8_numberSize : GoodIn wsX7_closeWindow wsX8_numberSize := goodIn_r _ [23] (by decide +kernel) (by decide +kernel)
set_option maxRecDepth 20000 in
theorem gX7_closeWindow_X8_numberSize_n173 : GoodIn wsX7_closeWindow (wsX8_numberSize) := ggX7_closeWindow_X8_numberSize
set_option maxRecDepth 20000 in
theorem ggX7_closeWindow_X4_putAll : GoodIn wsX7_closeWindow wsX4_putAll := goodIn_r _ [28, 14, 29, 30, 31, 32, 15, 33, 34, 35, 36, 16, 37, 38, 39, 12, 40, 53, 54, 55] (by decide +kernel) (by decide +kernel)
set_option maxRecDepth 20000 in
theorem gX7_closeWindow_X4_putAll : GoodIn wsX7_closeWindow (wsV RX7 176 RX4 yX4_putAll wsX4_putAll) := goodIn_app (goodIn_of _ (by decide +kernel)) ggX7_closeWindow_X4_putAll
theorem dX7_closeWindow_0 : decode cX7_closeWindow 0 = .ok (.aload_n 0, 1) := by decide +kernel
theorem dX7_closeWindow_1 : decode cX7_closeWindow 1 = .ok (.getfield 40, 3) := by decide +kernel
theorem dX7_closeWindow_4 : decode cX7_closeWindow 4 = .ok (.aload_n 0, 1) := by decide +kernel
theorem dX7_closeWindow_5 : decode cX7_closeWindow 5 = .ok (.getfield 107, 3) := by decide +kernel
theorem dX7_closeWindow_8 : decode cX7_closeWindow 8 = .ok (.invokevirtual 136, 3) := by decide +kernel
theorem dX7_closeWindow_11 : decode cX7_closeWindow 11 = .ok (.aload_n 0, 1) := by decide +kernel
theorem dX7_closeWindow_12 : decode cX7_closeWindow 12 = .ok (.getfield 107, 3) := by decide +kernel
theorem dX7_closeWindow_15 : decode cX7_closeWindow 15 = .ok (.ifCond .eq 22, 3) := by decide +kernel
theorem dX7_closeWindow_18 : decode cX7_closeWindow 18 = .ok (.aload_n 0, 1) := by decide +kernel
theorem dX7_closeWindow_19 : decode cX7_closeWindow 19 = .ok (.getfield 40, 3) := by decide +kernel
theorem dX7_closeWindow_22 : decode cX7_closeWindow 22 = .ok (.aload_n 0, 1) := by decide +kernel
theorem dX7_closeWindow_23 : decode cX7_closeWindow 23 = .ok (.getfield 75, 3) := by decide +kernel
theorem dX7_closeWindow_26 : decode cX7_closeWindow 26 = .ok (.invokevirtual 170, 3) := by decide +kernel
theorem dX7_closeWindow_29 : decode cX7_closeWindow 29 = .ok (.aload_n 0, 1) := by decide +kernel
theorem dX7_closeWindow_30 : decode cX7_closeWindow 30 = .ok (.getfield 40, 3) := by decide +kernel
theorem dX7_closeWindow_33 : decode cX7_closeWindow 33 = .ok (.iconst 0, 1) := by decide +kernel
theorem dX7_closeWindow_34 : decode cX7_closeWindow 34 = .ok (.invokevirtual 170, 3) := by decide +kernel
theorem dX7_closeWindow_37 : decode cX7_closeWindow 37 = .ok (.aload_n 0, 1) := by decide +kernel
theorem dX7_closeWindow_38 : decode cX7_closeWindow 38 = .ok (.getfield 14, 3) := by decide +kernel
theorem dX7_closeWindow_41 : decode cX7_closeWindow 41 = .ok (.getfield 62, 3) := by decide +kernel
theorem dX7_closeWindow_44 : decode cX7_closeWindow 44 = .ok (.invokestatic 173, 3) := by decide +kernel
theorem dX7_closeWindow_47 : decode cX7_closeWindow 47 = .ok (.aload_n 0, 1) := by decide +kernel
theorem dX7_closeWindow_48 : decode cX7_closeWindow 48 = .ok (.getfield 20, 3) := by decide +kernel
theorem dX7_closeWindow_51 : decode cX7_closeWindow 51 = .ok (.getfield 62, 3) := by decide +kernel
theorem dX7_closeWindow_54 : decode cX7_closeWindow 54 = .ok (.invokestatic 173, 3) := by decide +kernel
theorem dX7_closeWindow_57 : decode cX7_closeWindow 57 = .ok (.iadd, 1) := by decide +kernel
theorem dX7_closeWindow_58 : decode cX7_closeWindow 58 = .ok (.aload_n 0, 1) := by decide +kernel
theorem dX7_closeWindow_59 : decode cX7_closeWindow 59 = .ok (.getfield 23, 3) := by decide +kernel
theorem dX7_closeWindow_62 : decode cX7_closeWindow 62 = .ok (.getfield 62, 3) := by decide +kernel
theorem dX7_closeWindow_65 : decode cX7_closeWindow 65 = .ok (.invokestatic 173, 3) := by decide +kernel
theorem dX7_closeWindow_68 : decode cX7_closeWindow 68 = .ok (.iadd, 1) := by decide +kernel
theorem dX7_closeWindow_69 : decode cX7_closeWindow 69 = .ok (.istore_n 2, 1) := by decide +kernel
theorem dX7_closeWindow_70 : decode cX7_closeWindow 70 = .ok (.aload_n 0, 1) := by decide +kernel
theorem dX7_closeWindow_71 : decode cX7_closeWindow 71 = .ok (.getfield 14, 3) := by decide +kernel
theorem dX7_closeWindow_74 : decode cX7_closeWindow 74 = .ok (.getfield 62, 3) := by decide +kernel
theorem dX7_closeWindow_77 : decode cX7_closeWindow 77 = .ok (.aload_n 0, 1) := by decide +kernel
theorem dX7_closeWindow_78 : decode cX7_closeWindow 78 = .ok (.getfield 20, 3) := by decide +kernel
theorem dX7_closeWindow_81 : decode cX7_closeWindow 81 = .ok (.getfield 62, 3) := by decide +kernel
theorem dX7_closeWindow_84 : decode cX7_closeWindow 84 = .ok (.iadd, 1) := by decide +kernel
theorem dX7_closeWindow_85 : decode cX7_closeWindow 85 = .ok (.aload_n 0, 1) := by decide +kernel
theorem dX7_closeWindow_86 : decode cX7_closeWindow 86 = .ok (.getfield 23, 3) := by decide +kernel
theorem dX7_closeWindow_89 : decode cX7_closeWindow 89 = .ok (.getfield 62, 3) := by decide +kernel
theorem dX7_closeWindow_92 : decode cX7_closeWindow 92 = .ok (.iadd, 1) := by decide +kernel
theorem dX7_closeWindow_93 : decode cX7_closeWindow 93 = .ok (.istore_n 3, 1) := by decide +kernel
theorem dX7_closeWindow_94 : decode cX7_closeWindow 94 = .ok (.aload_n 0, 1) := by decide +kernel
theorem dX7_closeWindow_95 : decode cX7_closeWindow 95 = .ok (.getfield 40, 3) := by decide +kernel
theorem dX7_closeWindow_98 : decode cX7_closeWindow 98 = .ok (.iload_n 1, 1) := by decide +kernel
theorem dX7_closeWindow_99 : decode cX7_closeWindow 99 = .ok (.invokestatic 173, 3) := by decide +kernel
theorem dX7_closeWindow_102 : decode cX7_closeWindow 102 = .ok (.iconst 1, 1) := by decide +kernel
theorem dX7_closeWindow_103 : decode cX7_closeWindow 103 = .ok (.iadd, 1) := by decide +kernel
theorem dX7_closeWindow_104 : decode cX7_closeWindow 104 = .ok (.iload_n 2, 1) := by decide +kernel
theorem dX7_closeWindow_105 : decode cX7_closeWindow 105 = .ok (.iadd, 1) := by decide +kernel
theorem dX7_closeWindow_106 : decode cX7_closeWindow 106 = .ok (.iload_n 3, 1) := by decide +kernel
theorem dX7_closeWindow_107 : decode cX7_closeWindow 107 = .ok (.iadd, 1) := by decide +kernel
theorem dX7_closeWindow_108 : decode cX7_closeWindow 108 = .ok (.invokevirtual 170, 3) := by decide +kernel
theorem dX7_closeWindow_111 : decode cX7_closeWindow 111 = .ok (.aload_n 0, 1) := by decide +kernel
theorem dX7_closeWindow_112 : decode cX7_closeWindow 112 = .ok (.getfield 40, 3) := by decide +kernel
theorem dX7_closeWindow_115 : decode cX7_closeWindow 115 = .ok (.iload_n 1, 1) := by decide +kernel
theorem dX7_closeWindow_116 : decode cX7_closeWindow 116 = .ok (.invokevirtual 170, 3) := by decide +kernel
theorem dX7_closeWindow_119 : decode cX7_closeWindow 119 = .ok (.aload_n 0, 1) := by decide +kernel
theorem dX7_closeWindow_120 : decode cX7_closeWindow 120 = .ok (.getfield 40, 3) := by decide +kernel
theorem dX7_closeWindow_123 : decode cX7_closeWindow 123 = .ok (.iconst 0, 1) := by decide +kernel
theorem dX7_closeWindow_124 : decode cX7_closeWindow 124 = .ok (.invokevirtual 136, 3) := by decide +kernel
theorem dX7_closeWindow_127 : decode cX7_closeWindow 127 = .ok (.aload_n 0, 1) := by decide +kernel
theorem dX7_closeWindow_128 : decode cX7_closeWindow 128 = .ok (.getfield 40, 3) := by decide +kernel
theorem dX7_closeWindow_131 : decode cX7_closeWindow 131 = .ok (.aload_n 0, 1) := by decide +kernel
theorem dX7_closeWindow_132 : decode cX7_closeWindow 132 = .ok (.getfield 14, 3) := by decide +kernel
theorem dX7_closeWindow_135 : decode cX7_closeWindow 135 = .ok (.getfield 62, 3) := by decide +kernel
theorem dX7_closeWindow_138 : decode cX7_closeWindow 138 = .ok (.invokevirtual 170, 3) := by decide +kernel
theorem dX7_closeWindow_141 : decode cX7_closeWindow 141 = .ok (.aload_n 0, 1) := by decide +kernel
theorem dX7_closeWindow_142 : decode cX7_closeWindow 142 = .ok (.getfield 40, 3) := by decide +kernel
theorem dX7_closeWindow_145 : decode cX7_closeWindow 145 = .ok (.aload_n 0, 1) := by decide +kernel
theorem dX7_closeWindow_146 : decode cX7_closeWindow 146 = .ok (.getfield 20, 3) := by decide +kernel
theorem dX7_closeWindow_149 : decode cX7_closeWindow 149 = .ok (.getfield 62, 3) := by decide +kernel
theorem dX7_closeWindow_152 : decode cX7_closeWindow 152 = .ok (.invokevirtual 170, 3) := by decide +kernel
theorem dX7_closeWindow_155 : decode cX7_closeWindow 155 = .ok (.aload_n 0, 1) := by decide +kernel
theorem dX7_closeWindow_156 : decode cX7_closeWindow 156 = .ok (.getfield 40, 3) := by decide +kernel
theorem dX7_closeWindow_159 : decode cX7_closeWindow 159 = .ok (.aload_n 0, 1) := by decide +kernel
theorem dX7_closeWindow_160 : decode cX7_closeWindow 160 = .ok (.getfield 23, 3) := by decide +kernel
theorem dX7_closeWindow_163 : decode cX7_closeWindow 163 = .ok (.getfield 62, 3) := by decide +kernel
theorem dX7_closeWindow_166 : decode cX7_closeWindow 166 = .ok (.invokevirtual 170, 3) := by decide +kernel
theorem dX7_closeWindow_169 : decode cX7_closeWindow 169 = .ok (.aload_n 0, 1) := by decide +kernel
theorem dX7_closeWindow_170 : decode cX7_closeWindow 170 = .ok (.getfield 40, 3) := by decide +kernel
theorem dX7_closeWindow_173 : decode cX7_closeWindow 173 = .ok (.aload_n 0, 1) := by decide +kernel
theorem dX7_closeWindow_174 : decode cX7_closeWindow 174 = .ok (.getfield 14, 3) := by decide +kernel
theorem dX7_closeWindow_177 : decode cX7_closeWindow 177 = .ok (.invokevirtual 176, 3) := by decide +kernel
theorem dX7_closeWindow_180 : decode cX7_closeWindow 180 = .ok (.aload_n 0, 1) := by decide +kernel
theorem dX7_closeWindow_181 : decode cX7_closeWindow 181 = .ok (.getfield 40, 3) := by decide +kernel
theorem dX7_closeWindow_184 : decode cX7_closeWindow 184 = .ok (.aload_n 0, 1) := by decide +kernel
theorem dX7_closeWindow_185 : decode cX7_closeWindow 185 = .ok (.getfield 20, 3) := by decide +kernel
theorem dX7_closeWindow_188 : decode cX7_closeWindow 188 = .ok (.invokevirtual 176, 3) := by decide +kernel
theorem dX7_closeWindow_191 : decode cX7_closeWindow 191 = .ok (.aload_n 0, 1) := by decide +kernel
theorem dX7_closeWindow_192 : decode cX7_closeWindow 192 = .ok (.getfield 40, 3) := by decide +kernel
theorem dX7_closeWindow_195 : decode cX7_closeWindow 195 = .ok (.aload_n 0, 1) := by decide +kernel
theorem dX7_closeWindow_196 : decode cX7_closeWindow 196 = .ok (.getfield 23, 3) := by decide +kernel
theorem dX7_closeWindow_199 : decode cX7_closeWindow 199 = .ok (.invokevirtual 176, 3) := by decide +kernel
theorem dX7_closeWindow_202 : decode cX7_closeWindow 202 = .ok (.aload_n 0, 1) := by decide +kernel
theorem dX7_closeWindow_203 : decode cX7_closeWindow 203 = .ok (.dup, 1) := by decide +kernel
theorem dX7_closeWindow_204 : decode cX7_closeWindow 204 = .ok (.getfield 50, 3) := by decide +kernel
theorem dX7_closeWindow_207 : decode cX7_closeWindow 207 = .ok (.iconst 1, 1) := by decide +kernel
theorem dX7_closeWindow_208 : decode cX7_closeWindow 208 = .ok (.iadd, 1) := by decide +kernel
theorem dX7_closeWindow_209 : decode cX7_closeWindow 209 = .ok (.putfield 50, 3) := by decide +kernel
theorem dX7_closeWindow_212 : decode cX7_closeWindow 212 = .ok (.return_, 1) := by decide +kernel
set_option maxRecDepth 20000 in
theorem ggX8_init_X4_init : GoodIn wsX8_init wsX4_init := goodIn_r _ [35, 36, 2, 3, 37, 38, 39, 40, 11, 41, 188, 189, 190] (by decide +kernel) (by decide +kernel)
set_option maxRecDepth 20000 in
theorem gX8_init_X4_init : GoodIn wsX8_init (wsX4_init) := ggX8_init_X4_init
set_option maxRecDepth 20000 in
theorem ggX8_init_X6_init : GoodIn wsX8_init wsX6_init := goodIn_r _ [43, 44, 2, 3, 45, 6, 7, 46, 11, 47, 48, 49, 34, 35, 36, 37, 38, 39, 40, 41, 188, 189, 190, 191, 192, 193, 194, 195] (by decide +kernel) (by decide +kernel)
set_option maxRecDepth 20000 in
theorem gX8_init_X6_init_n34 : GoodIn wsX8_init (wsX6_init) := ggX8_init_X6_init
set_option maxRecDepth 20000 in
theorem ggX8_init_X3_init : GoodIn wsX8_init wsX3_init := goodIn_r _ [52, 53, 2, 3, 54, 55, 56, 57, 58, 59, 60, 61, 62, 63, 64, 65, 6, 7, 66, 67, 38, 39, 40, 11, 68, 69, 70, 71, 29, 30, 72, 73, 74, 75, 76, 77, 78, 79, 80, 81, 82, 34, 35, 36, 37, 41, 83, 84, 85, 86, 87, 88, 89, 229, 230, 231, 196, 197, 198, 199, 200, 201, 202, 203, 204, 205, 206, 207, 208, 209, 210, 211, 212, 213, 232, 233, 234, 235, 236, 188, 189, 190, 226, 227, 228] (by decide +kernel) (by decide +kernel)
set_option maxRecDepth 20000 in
theorem gX8_init_X3_init : GoodIn wsX8_init (wsX3_init) := ggX8_init_X3_init
set_option maxRecDepth 20000 in
theorem ggX8_init_X7_init : GoodIn wsX8_init wsX7_init := goodIn_r _ [92, 93, 2, 3, 94, 6, 7, 95, 96, 97, 98, 62, 63, 99, 100, 101, 102, 103, 104, 105, 29, 30, 106, 107, 34, 35, 36, 37, 38, 39, 40, 11, 41, 77, 78, 79, 80, 81, 108, 109, 110, 111, 112, 113, 114, 115, 116, 117, 84, 85, 86, 87, 88, 89, 188, 189, 190, 214, 215, 216, 217, 218, 219, 220, 221, 222, 223, 224, 225, 232, 233, 234, 235, 236, 237, 238, 239, 240, 241, 242, 243, 244, 245, 246, 247, 226, 227, 228] (by decide +kernel) (by decide +kernel)
set_option maxRecDepth 20000 in
theorem gX8_init_X7_init : GoodIn wsX8_init (wsX7_init) := ggX8_init_X7_init
set_option maxRecDepth 20000 in
theorem ggX8_init_X5_init : GoodIn wsX8_init wsX5_init := goodIn_r _ [85, 86, 2, 3, 87, 38, 39, 40, 88, 11, 89, 226, 227, 228] (by decide +kernel) (by decide +kernel)
set_option maxRecDepth 20000 in
theorem gX8_init_X5_init : GoodIn wsX8_init (wsX5_init) := ggX8_init_X5_init
set_option maxRecDepth 20000 in
theorem ggX8_init_X6_becomeFirst : GoodIn wsX8_init wsX6_becomeFirst := goodIn_r _ [122, 123, 124, 46, 125, 126, 127, 128, 129, 130, 131, 132, 133, 15, 134, 135, 136, 137, 7, 138, 41, 139, 140, 141, 142, 143, 144, 145, 146, 147, 191, 192, 193, 194, 195, 188, 189, 190] (by decide +kernel) (by decide +kernel)
set_option maxRecDepth 20000 in
theorem gX8_init_X6_becomeFirst : GoodIn wsX8_init (wsV RX8 72 RX6 yX6_becomeFirst wsX6_becomeFirst) := goodIn_app (goodIn_of _ (by decide +kernel)) ggX8_init_X6_becomeFirst
set_option maxRecDepth 20000 in
theorem ggX8_init_X6_sortCodes : GoodIn wsX8_init wsX6_sortCodes := goodIn_r _ [151, 47, 48, 127, 128, 129, 130, 152, 153, 154, 15, 155, 46, 156, 157, 158, 7, 159, 143, 41, 160, 161, 162, 163, 164, 165, 166, 167, 168, 169, 170, 191, 192, 193, 194, 195, 188, 189, 190] (by decide +kernel) (by decide +kernel)
set_option maxRecDepth 20000 in
theorem gX8_init_X6_sortCodes : GoodIn wsX8_init (wsV RX8 75 RX6 yX6_sortCodes wsX6_sortCodes) := goodIn_app (goodIn_of _ (by decide +kernel)) ggX8_init_X6_sortCodes
theorem dX8_init_0 : decode cX8_init 0 = .ok (.aload_n 0, 1) := by decide +kernel
theorem dX8_init_1 : decode cX8_init 1 = .ok (.invokespecial 3, 3) := by decide +kernel
theorem dX8_init_4 : decode cX8_init 4 = .ok (.aload_n 0, 1) := by decide +kernel
theorem dX8_init_5 : decode cX8_init 5 = .ok (.iconst 4, 1) := by decide +kernel
theorem dX8_init_6 : decode cX8_init 6 = .ok (.anewarray 9, 3) := by decide +kernel
theorem dX8_init_9 : decode cX8_init 9 = .ok (.putfield 11, 3) := by decide +kernel
theorem dX8_init_12 : decode cX8_init 12 = .ok (.aload_n 0, 1) := by decide +kernel
theorem dX8_init_13 : decode cX8_init 13 = .ok (.new 9, 3) := by decide +kernel
theorem dX8_init_16 : decode cX8_init 16 = .ok (.dup, 1) := by decide +kernel
theorem dX8_init_17 : decode cX8_init 17 = .ok (.sipush 8000, 3) := by decide +kernel
theorem dX8_init_20 : decode cX8_init 20 = .ok (.invokespecial 15, 3) := by decide +kernel
theorem dX8_init_23 : decode cX8_init 23 = .ok (.putfield 18, 3) := by decide +kernel
theorem dX8_init_26 : decode cX8_init 26 = .ok (.aload_n 0, 1) := by decide +kernel
theorem dX8_init_27 : decode cX8_init 27 = .ok (.new 9, 3) := by decide +kernel
theorem dX8_init_30 : decode cX8_init 30 = .ok (.dup, 1) := by decide +kernel
theorem dX8_init_31 : decode cX8_init 31 = .ok (.sipush 4000, 3) := by decide +kernel
theorem dX8_init_34 : decode cX8_init 34 = .ok (.invokespecial 15, 3) := by decide +kernel
theorem dX8_init_37 : decode cX8_init 37 = .ok (.putfield 22, 3) := by decide +kernel
theorem dX8_init_40 : decode cX8_init 40 = .ok (.aload_n 0, 1) := by decide +kernel
theorem dX8_init_41 : decode cX8_init 41 = .ok (.new 9, 3) := by decide +kernel
theorem dX8_init_44 : decode cX8_init 44 = .ok (.dup, 1) := by decide +kernel
theorem dX8_init_45 : decode cX8_init 45 = .ok (.sipush 4000, 3) := by decide +kernel
theorem dX8_init_48 : decode cX8_init 48 = .ok (.invokespecial 15, 3) := by decide +kernel
theorem dX8_init_51 : decode cX8_init 51 = .ok (.putfield 25, 3) := by decide +kernel
theorem dX8_init_54 : decode cX8_init 54 = .ok (.aload_n 0, 1) := by decide +kernel
theorem dX8_init_55 : decode cX8_init 55 = .ok (.sipush 4000, 3) := by decide +kernel
theorem dX8_init_58 : decode cX8_init 58 = .ok (.newarray .int, 2) := by decide +kernel
theorem dX8_init_60 : decode cX8_init 60 = .ok (.putfield 28, 3) := by decide +kernel
theorem dX8_init_63 : decode cX8_init 63 = .ok (.aload_n 0, 1) := by decide +kernel
theorem dX8_init_64 : decode cX8_init 64 = .ok (.new 32, 3) := by decide +kernel
theorem dX8_init_67 : decode cX8_init 67 = .ok (.dup, 1) := by decide +kernel
theorem dX8_init_68 : decode cX8_init 68 = .ok (.invokespecial 34, 3) := by decide +kernel
theorem dX8_init_71 : decode cX8_init 71 = .ok (.putfield 35, 3) := by decide +kernel
theorem dX8_init_74 : decode cX8_init 74 = .ok (.aload_n 0, 1) := by decide +kernel
theorem dX8_init_75 : decode cX8_init 75 = .ok (.new 32, 3) := by decide +kernel
theorem dX8_init_78 : decode cX8_init 78 = .ok (.dup, 1) := by decide +kernel
theorem dX8_init_79 : decode cX8_init 79 = .ok (.invokespecial 34, 3) := by decide +kernel
theorem dX8_init_82 : decode cX8_init 82 = .ok (.putfield 39, 3) := by decide +kernel
theorem dX8_init_85 : decode cX8_init 85 = .ok (.aload_n 0, 1) := by decide +kernel
theorem dX8_init_86 : decode cX8_init 86 = .ok (.new 32, 3) := by decide +kernel
theorem dX8_init_89 : decode cX8_init 89 = .ok (.dup, 1) := by decide +kernel
theorem dX8_init_90 : decode cX8_init 90 = .ok (.invokespecial 34, 3) := by decide +kernel
theorem dX8_init_93 : decode cX8_init 93 = .ok (.putfield 42, 3) := by decide +kernel
theorem dX8_init_96 : decode cX8_init 96 = .ok (.aload_n 0, 1) := by decide +kernel
theorem dX8_init_97 : decode cX8_init 97 = .ok (.new 45, 3) := by decide +kernel
theorem dX8_init_100 : decode cX8_init 100 = .ok (.dup, 1) := by decide +kernel
theorem dX8_init_101 : decode cX8_init 101 = .ok (.sipush 4000, 3) := by decide +kernel
theorem dX8_init_104 : decode cX8_init 104 = .ok (.invokespecial 47, 3) := by decide +kernel
theorem dX8_init_107 : decode cX8_init 107 = .ok (.putfield 48, 3) := by decide +kernel
theorem dX8_init_110 : decode cX8_init 110 = .ok (.aload_n 0, 1) := by decide +kernel
theorem dX8_init_111 : decode cX8_init 111 = .ok (.new 45, 3) := by decide +kernel
theorem dX8_init_114 : decode cX8_init 114 = .ok (.dup, 1) := by decide +kernel
theorem dX8_init_115 : decode cX8_init 115 = .ok (.sipush 1536, 3) := by decide +kernel
theorem dX8_init_118 : decode cX8_init 118 = .ok (.invokespecial 47, 3) := by decide +kernel
theorem dX8_init_121 : decode cX8_init 121 = .ok (.putfield 52, 3) := by decide +kernel
theorem dX8_init_124 : decode cX8_init 124 = .ok (.aload_n 0, 1) := by decide +kernel
theorem dX8_init_125 : decode cX8_init 125 = .ok (.new 55, 3) := by decide +kernel
theorem dX8_init_128 : decode cX8_init 128 = .ok (.dup, 1) := by decide +kernel
theorem dX8_init_129 : decode cX8_init 129 = .ok (.invokespecial 57, 3) := by decide +kernel
theorem dX8_init_132 : decode cX8_init 132 = .ok (.putfield 58, 3) := by decide +kernel
theorem dX8_init_135 : decode cX8_init 135 = .ok (.aload_n 0, 1) := by decide +kernel
theorem dX8_init_136 : decode cX8_init 136 = .ok (.new 62, 3) := by decide +kernel
theorem dX8_init_139 : decode cX8_init 139 = .ok (.dup, 1) := by decide +kernel
theorem dX8_init_140 : decode cX8_init 140 = .ok (.sipush 4000, 3) := by decide +kernel
theorem dX8_init_143 : decode cX8_init 143 = .ok (.invokespecial 64, 3) := by decide +kernel
theorem dX8_init_146 : decode cX8_init 146 = .ok (.putfield 65, 3) := by decide +kernel
theorem dX8_init_149 : decode cX8_init 149 = .ok (.aload_n 0, 1) := by decide +kernel
theorem dX8_init_150 : decode cX8_init 150 = .ok (.new 62, 3) := by decide +kernel
theorem dX8_init_153 : decode cX8_init 153 = .ok (.dup, 1) := by decide +kernel
theorem dX8_init_154 : decode cX8_init 154 = .ok (.sipush 4000, 3) := by decide +kernel
theorem dX8_init_157 : decode cX8_init 157 = .ok (.invokespecial 64, 3) := by decide +kernel
theorem dX8_init_160 : decode cX8_init 160 = .ok (.putfield 69, 3) := by decide +kernel
theorem dX8_init_163 : decode cX8_init 163 = .ok (.aload_n 0, 1) := by decide +kernel
theorem dX8_init_164 : decode cX8_init 164 = .ok (.getfield 11, 3) := by decide +kernel
theorem dX8_init_167 : decode cX8_init 167 = .ok (.iconst 0, 1) := by decide +kernel
theorem dX8_init_168 : decode cX8_init 168 = .ok (.new 9, 3) := by decide +kernel
theorem dX8_init_171 : decode cX8_init 171 = .ok (.dup, 1) := by decide +kernel
theorem dX8_init_172 : decode cX8_init 172 = .ok (.sipush 4000, 3) := by decide +kernel
theorem dX8_init_175 : decode cX8_init 175 = .ok (.invokespecial 15, 3) := by decide +kernel
theorem dX8_init_178 : decode cX8_init 178 = .ok (.aastore, 1) := by decide +kernel
theorem dX8_init_179 : decode cX8_init 179 = .ok (.aload_n 0, 1) := by decide +kernel
theorem dX8_init_180 : decode cX8_init 180 = .ok (.getfield 11, 3) := by decide +kernel
theorem dX8_init_183 : decode cX8_init 183 = .ok (.iconst 1, 1) := by decide +kernel
theorem dX8_init_184 : decode cX8_init 184 = .ok (.new 9, 3) := by decide +kernel
theorem dX8_init_187 : decode cX8_init 187 = .ok (.dup, 1) := by decide +kernel
theorem dX8_init_188 : decode cX8_init 188 = .ok (.sipush 4000, 3) := by decide +kernel
theorem dX8_init_191 : decode cX8_init 191 = .ok (.invokespecial 15, 3) := by decide +kernel
theorem dX8_init_194 : decode cX8_init 194 = .ok (.aastore, 1) := by decide +kernel
theorem dX8_init_195 : decode cX8_init 195 = .ok (.aload_n 0, 1) := by decide +kernel
theorem dX8_init_196 : decode cX8_init 196 = .ok (.getfield 11, 3) := by decide +kernel
theorem dX8_init_199 : decode cX8_init 199 = .ok (.iconst 2, 1) := by decide +kernel
theorem dX8_init_200 : decode cX8_init 200 = .ok (.new 9, 3) := by decide +kernel
theorem dX8_init_203 : decode cX8_init 203 = .ok (.dup, 1) := by decide +kernel
theorem dX8_init_204 : decode cX8_init 204 = .ok (.sipush 8000, 3) := by decide +kernel
theorem dX8_init_207 : decode cX8_init 207 = .ok (.invokespecial 15, 3) := by decide +kernel
theorem dX8_init_210 : decode cX8_init 210 = .ok (.aastore, 1) := by decide +kernel
theorem dX8_init_211 : decode cX8_init 211 = .ok (.aload_n 0, 1) := by decide +kernel
theorem dX8_init_212 : decode cX8_init 212 = .ok (.getfield 11, 3) := by decide +kernel
theorem dX8_init_215 : decode cX8_init 215 = .ok (.iconst 3, 1) := by decide +kernel
theorem dX8_init_216 : decode cX8_init 216 = .ok (.new 9, 3) := by decide +kernel
theorem dX8_init_219 : decode cX8_init 219 = .ok (.dup, 1) := by decide +kernel
theorem dX8_init_220 : decode cX8_init 220 = .ok (.sipush 8000, 3) := by decide +kernel
theorem dX8_init_223 : decode cX8_init 223 = .ok (.invokespecial 15, 3) := by decide +kernel
theorem dX8_init_226 : decode cX8_init 226 = .ok (.aastore, 1) := by decide +kernel
theorem dX8_init_227 : decode cX8_init 227 = .ok (.aload_n 0, 1) := by decide +kernel
theorem dX8_init_228 : decode cX8_init 228 = .ok (.getfield 35, 3) := by decide +kernel
theorem dX8_init_231 : decode cX8_init 231 = .ok (.invokevirtual 72, 3) := by decide +kernel
theorem dX8_init_234 : decode cX8_init 234 = .ok (.aload_n 0, 1) := by decide +kernel
theorem dX8_init_235 : decode cX8_init 235 = .ok (.getfield 35, 3) := by decide +kernel
theorem dX8_init_238 : decode cX8_init 238 = .ok (.invokevirtual 75, 3) := by decide +kernel
theorem dX8_init_241 : decode cX8_init 241 = .ok (.aload_n 0, 1) := by decide +kernel
theorem dX8_init_242 : decode cX8_init 242 = .ok (.getfield 39, 3) := by decide +kernel
theorem dX8_init_245 : decode cX8_init 245 = .ok (.invokevirtual 72, 3) := by decide +kernel
theorem dX8_init_248 : decode cX8_init 248 = .ok (.return_, 1) := by decide +kernel
set_option maxRecDepth 20000 in
theorem ggX8_feed_X8_isRow : GoodIn wsX8_feed wsX8_isRow := goodIn_r _ [6] (by decide +kernel) (by decide +kernel)
set_option maxRecDepth 20000 in
theorem gX8_feed_X8_isRow : GoodIn wsX8_feed (va_wsS RX8 78 yX8_isRow wsX8_isRow) := goodIn_app (goodIn_of _ (by decide +kernel)) ggX8_feed_X8_isRow
set_option maxRecDepth 20000 in
theorem ggX8_feed_X4_makeEmpty : GoodIn wsX8_feed wsX4_makeEmpty := goodIn_r _ [11, 12, 13, 40, 41, 42] (by decide +kernel) (by decide +kernel)
set_option maxRecDepth 20000 in
theorem gX8_feed_X4_makeEmpty : GoodIn wsX8_feed (wsV RX8 82 RX4 yX4_makeEmpty wsX4_makeEmpty) := goodIn_app (goodIn_of _ (by decide +kernel)) ggX8_feed_X4_makeEmpty
set_option maxRecDepth 20000 in
theorem ggX8_feed_X4_room : GoodIn wsX8_feed wsX4_room := goodIn_r _ [17, 18, 12, 40, 41, 42] (by decide +kernel) (by decide +kernel)
set_option maxRecDepth 20000 in
theorem gX8_feed_X4_room : GoodIn wsX8_feed (wsV RX8 85 RX4 yX4_room wsX4_room) := goodIn_app (goodIn_of _ (by decide +kernel)) ggX8_feed_X4_room
set_option maxRecDepth 20000 in
theorem ggX8_feed_X4_put : GoodIn wsX8_feed wsX4_put := goodIn_r _ [22, 12, 18, 13, 40, 41, 42] (by decide +kernel) (by decide +kernel)
set_option maxRecDepth 20000 in
theorem gX8_feed_X4_put : GoodIn wsX8_feed (wsV RX8 89 RX4 yX4_put wsX4_put) := goodIn_app (goodIn_of _ (by decide +kernel)) ggX8_feed_X4_put
theorem dX8_feed_0 : decode cX8_feed 0 = .ok (.iload_n 1, 1) := by decide +kernel
theorem dX8_feed_1 : decode cX8_feed 1 = .ok (.invokestatic 78, 3) := by decide +kernel
theorem dX8_feed_4 : decode cX8_feed 4 = .ok (.ifCond .eq 15, 3) := by decide +kernel
theorem dX8_feed_7 : decode cX8_feed 7 = .ok (.iload 4, 2) := by decide +kernel
theorem dX8_feed_9 : decode cX8_feed 9 = .ok (.ifCond .lt 10, 3) := by decide +kernel
theorem dX8_feed_12 : decode cX8_feed 12 = .ok (.iload 4, 2) := by decide +kernel
theorem dX8_feed_14 : decode cX8_feed 14 = .ok (.bipush 8, 2) := by decide +kernel
theorem dX8_feed_16 : decode cX8_feed 16 = .ok (.if_icmp .le 6, 3) := by decide +kernel
theorem dX8_feed_19 : decode cX8_feed 19 = .ok (.bipush (-2), 2) := by decide +kernel
theorem dX8_feed_21 : decode cX8_feed 21 = .ok (.ireturn, 1) := by decide +kernel
theorem dX8_feed_22 : decode cX8_feed 22 = .ok (.aload_n 0, 1) := by decide +kernel
theorem dX8_feed_23 : decode cX8_feed 23 = .ok (.getfield 11, 3) := by decide +kernel
theorem dX8_feed_26 : decode cX8_feed 26 = .ok (.iload_n 1, 1) := by decide +kernel
theorem dX8_feed_27 : decode cX8_feed 27 = .ok (.aaload, 1) := by decide +kernel
theorem dX8_feed_28 : decode cX8_feed 28 = .ok (.astore 5, 2) := by decide +kernel
theorem dX8_feed_30 : decode cX8_feed 30 = .ok (.iload 4, 2) := by decide +kernel
theorem dX8_feed_32 : decode cX8_feed 32 = .ok (.ifCond .ne 10, 3) := by decide +kernel
theorem dX8_feed_35 : decode cX8_feed 35 = .ok (.aload 5, 2) := by decide +kernel
theorem dX8_feed_37 : decode cX8_feed 37 = .ok (.invokevirtual 82, 3) := by decide +kernel
theorem dX8_feed_40 : decode cX8_feed 40 = .ok (.iconst 0, 1) := by decide +kernel
theorem dX8_feed_41 : decode cX8_feed 41 = .ok (.ireturn, 1) := by decide +kernel
theorem dX8_feed_42 : decode cX8_feed 42 = .ok (.iload 4, 2) := by decide +kernel
theorem dX8_feed_44 : decode cX8_feed 44 = .ok (.aload 5, 2) := by decide +kernel
theorem dX8_feed_46 : decode cX8_feed 46 = .ok (.invokevirtual 85, 3) := by decide +kernel
theorem dX8_feed_49 : decode cX8_feed 49 = .ok (.if_icmp .le 6, 3) := by decide +kernel
theorem dX8_feed_52 : decode cX8_feed 52 = .ok (.bipush (-4), 2) := by decide +kernel
theorem dX8_feed_54 : decode cX8_feed 54 = .ok (.ireturn, 1) := by decide +kernel
theorem dX8_feed_55 : decode cX8_feed 55 = .ok (.iload 4, 2) := by decide +kernel
theorem dX8_feed_57 : decode cX8_feed 57 = .ok (.iconst 1, 1) := by decide +kernel
theorem dX8_feed_58 : decode cX8_feed 58 = .ok (.isub, 1) := by decide +kernel
theorem dX8_feed_59 : decode cX8_feed 59 = .ok (.istore 6, 2) := by decide +kernel
theorem dX8_feed_61 : decode cX8_feed 61 = .ok (.iload 6, 2) := by decide +kernel
theorem dX8_feed_63 : decode cX8_feed 63 = .ok (.ifCond .lt 26, 3) := by decide +kernel
theorem dX8_feed_66 : decode cX8_feed 66 = .ok (.aload 5, 2) := by decide +kernel
theorem dX8_feed_68 : decode cX8_feed 68 = .ok (.lload_n 2, 1) := by decide +kernel
theorem dX8_feed_69 : decode cX8_feed 69 = .ok (.bipush 8, 2) := by decide +kernel
theorem dX8_feed_71 : decode cX8_feed 71 = .ok (.iload 6, 2) := by decide +kernel
theorem dX8_feed_73 : decode cX8_feed 73 = .ok (.imul, 1) := by decide +kernel
theorem dX8_feed_74 : decode cX8_feed 74 = .ok (.lushr, 1) := by decide +kernel
theorem dX8_feed_75 : decode cX8_feed 75 = .ok (.l2i, 1) := by decide +kernel
theorem dX8_feed_76 : decode cX8_feed 76 = .ok (.sipush 255, 3) := by decide +kernel
theorem dX8_feed_79 : decode cX8_feed 79 = .ok (.iand, 1) := by decide +kernel
theorem dX8_feed_80 : decode cX8_feed 80 = .ok (.invokevirtual 89, 3) := by decide +kernel
theorem dX8_feed_83 : decode cX8_feed 83 = .ok (.iinc 6 (-1), 3) := by decide +kernel
theorem dX8_feed_86 : decode cX8_feed 86 = .ok (.goto (-25), 3) := by decide +kernel
theorem dX8_feed_89 : decode cX8_feed 89 = .ok (.aload 5, 2) := by decide +kernel
theorem dX8_feed_91 : decode cX8_feed 91 = .ok (.getfield 92, 3) := by decide +kernel
theorem dX8_feed_94 : decode cX8_feed 94 = .ok (.ireturn, 1) := by decide +kernel
set_option maxRecDepth 20000 in
theorem ggX8_fill_X8_isRow : GoodIn wsX8_fill wsX8_isRow := goodIn_r _ [8] (by decide +kernel) (by decide +kernel)
set_option maxRecDepth 20000 in
theorem gX8_fill_X8_isRow : GoodIn wsX8_fill (va_wsS RX8 78 yX8_isRow wsX8_isRow) := goodIn_app (goodIn_of _ (by decide +kernel)) ggX8_fill_X8_isRow
set_option maxRecDepth 20000 in
theorem ggX8_fill_X4_room : GoodIn wsX8_fill wsX4_room := goodIn_r _ [13, 14, 15, 45, 46, 47] (by decide +kernel) (by decide +kernel)
set_option maxRecDepth 20000 in
theorem gX8_fill_X4_room : GoodIn wsX8_fill (wsV RX8 85 RX4 yX4_room wsX4_room) := goodIn_app (goodIn_of _ (by decide +kernel)) ggX8_fill_X4_room
set_option maxRecDepth 20000 in
theorem ggX8_fill_X8_ruled : GoodIn wsX8_fill wsX8_ruled := goodIn_r _ [18, 4, 19, 20, 21, 12, 22, 15, 14, 45, 46, 47] (by decide +kernel) (by decide +kernel)
set_option maxRecDepth 20000 in
theorem gX8_fill_X8_ruled : GoodIn wsX8_fill (va_wsS RX8 98 yX8_ruled wsX8_ruled) := goodIn_app (goodIn_of _ (by decide +kernel)) ggX8_fill_X8_ruled
set_option maxRecDepth 20000 in
theorem ggX8_fill_X4_put : GoodIn wsX8_fill wsX4_put := goodIn_r _ [26, 15, 14, 27, 45, 46, 47] (by decide +kernel) (by decide +kernel)
set_option maxRecDepth 20000 in
theorem gX8_fill_X4_put : GoodIn wsX8_fill (wsV RX8 89 RX4 yX4_put wsX4_put) := goodIn_app (goodIn_of _ (by decide +kernel)) ggX8_fill_X4_put
theorem dX8_fill_0 : decode cX8_fill 0 = .ok (.iload_n 1, 1) := by decide +kernel
theorem dX8_fill_1 : decode cX8_fill 1 = .ok (.invokestatic 78, 3) := by decide +kernel
theorem dX8_fill_4 : decode cX8_fill 4 = .ok (.ifCond .eq 16, 3) := by decide +kernel
theorem dX8_fill_7 : decode cX8_fill 7 = .ok (.iload_n 2, 1) := by decide +kernel
theorem dX8_fill_8 : decode cX8_fill 8 = .ok (.ifCond .lt 12, 3) := by decide +kernel
theorem dX8_fill_11 : decode cX8_fill 11 = .ok (.iload_n 2, 1) := by decide +kernel
theorem dX8_fill_12 : decode cX8_fill 12 = .ok (.iconst 3, 1) := by decide +kernel
theorem dX8_fill_13 : decode cX8_fill 13 = .ok (.if_icmp .gt 7, 3) := by decide +kernel
theorem dX8_fill_16 : decode cX8_fill 16 = .ok (.iload_n 3, 1) := by decide +kernel
theorem dX8_fill_17 : decode cX8_fill 17 = .ok (.ifCond .ge 6, 3) := by decide +kernel
theorem dX8_fill_20 : decode cX8_fill 20 = .ok (.bipush (-2), 2) := by decide +kernel
theorem dX8_fill_22 : decode cX8_fill 22 = .ok (.ireturn, 1) := by decide +kernel
theorem dX8_fill_23 : decode cX8_fill 23 = .ok (.aload_n 0, 1) := by decide +kernel
theorem dX8_fill_24 : decode cX8_fill 24 = .ok (.getfield 11, 3) := by decide +kernel
theorem dX8_fill_27 : decode cX8_fill 27 = .ok (.iload_n 1, 1) := by decide +kernel
theorem dX8_fill_28 : decode cX8_fill 28 = .ok (.aaload, 1) := by decide +kernel
theorem dX8_fill_29 : decode cX8_fill 29 = .ok (.astore 5, 2) := by decide +kernel
theorem dX8_fill_31 : decode cX8_fill 31 = .ok (.iload_n 3, 1) := by decide +kernel
theorem dX8_fill_32 : decode cX8_fill 32 = .ok (.aload 5, 2) := by decide +kernel
theorem dX8_fill_34 : decode cX8_fill 34 = .ok (.invokevirtual 85, 3) := by decide +kernel
theorem dX8_fill_37 : decode cX8_fill 37 = .ok (.if_icmp .le 6, 3) := by decide +kernel
theorem dX8_fill_40 : decode cX8_fill 40 = .ok (.bipush (-4), 2) := by decide +kernel
theorem dX8_fill_42 : decode cX8_fill 42 = .ok (.ireturn, 1) := by decide +kernel
theorem dX8_fill_43 : decode cX8_fill 43 = .ok (.iload 4, 2) := by decide +kernel
theorem dX8_fill_45 : decode cX8_fill 45 = .ok (.istore 6, 2) := by decide +kernel
theorem dX8_fill_47 : decode cX8_fill 47 = .ok (.iconst 0, 1) := by decide +kernel
theorem dX8_fill_48 : decode cX8_fill 48 = .ok (.istore 7, 2) := by decide +kernel
theorem dX8_fill_50 : decode cX8_fill 50 = .ok (.iload 7, 2) := by decide +kernel
theorem dX8_fill_52 : decode cX8_fill 52 = .ok (.iload_n 3, 1) := by decide +kernel
theorem dX8_fill_53 : decode cX8_fill 53 = .ok (.if_icmp .ge 35, 3) := by decide +kernel
theorem dX8_fill_56 : decode cX8_fill 56 = .ok (.iload 6, 2) := by decide +kernel
theorem dX8_fill_58 : decode cX8_fill 58 = .ok (.ldc 96, 2) := by decide +kernel
theorem dX8_fill_60 : decode cX8_fill 60 = .ok (.imul, 1) := by decide +kernel
theorem dX8_fill_61 : decode cX8_fill 61 = .ok (.ldc 97, 2) := by decide +kernel
theorem dX8_fill_63 : decode cX8_fill 63 = .ok (.iadd, 1) := by decide +kernel
theorem dX8_fill_64 : decode cX8_fill 64 = .ok (.istore 6, 2) := by decide +kernel
theorem dX8_fill_66 : decode cX8_fill 66 = .ok (.aload 5, 2) := by decide +kernel
theorem dX8_fill_68 : decode cX8_fill 68 = .ok (.aload 5, 2) := by decide +kernel
theorem dX8_fill_70 : decode cX8_fill 70 = .ok (.iload_n 2, 1) := by decide +kernel
theorem dX8_fill_71 : decode cX8_fill 71 = .ok (.iload 6, 2) := by decide +kernel
theorem dX8_fill_73 : decode cX8_fill 73 = .ok (.bipush 24, 2) := by decide +kernel
theorem dX8_fill_75 : decode cX8_fill 75 = .ok (.iushr, 1) := by decide +kernel
theorem dX8_fill_76 : decode cX8_fill 76 = .ok (.invokestatic 98, 3) := by decide +kernel
theorem dX8_fill_79 : decode cX8_fill 79 = .ok (.invokevirtual 89, 3) := by decide +kernel
theorem dX8_fill_82 : decode cX8_fill 82 = .ok (.iinc 7 1, 3) := by decide +kernel
theorem dX8_fill_85 : decode cX8_fill 85 = .ok (.goto (-35), 3) := by decide +kernel
theorem dX8_fill_88 : decode cX8_fill 88 = .ok (.aload 5, 2) := by decide +kernel
theorem dX8_fill_90 : decode cX8_fill 90 = .ok (.getfield 92, 3) := by decide +kernel
theorem dX8_fill_93 : decode cX8_fill 93 = .ok (.ireturn, 1) := by decide +kernel
set_option maxRecDepth 20000 in
theorem ggX8_ruled_X4_at : GoodIn wsX8_ruled wsX4_at := goodIn_r _ [6, 7, 8, 9, 10, 11] (by decide +kernel) (by decide +kernel)
set_option maxRecDepth 20000 in
theorem gX8_ruled_X4_at : GoodIn wsX8_ruled (wsV RX8 102 RX4 yX4_at wsX4_at) := goodIn_app (goodIn_of _ (by decide +kernel)) ggX8_ruled_X4_at
theorem dX8_ruled_0 : decode cX8_ruled 0 = .ok (.aload_n 0, 1) := by decide +kernel
theorem dX8_ruled_1 : decode cX8_ruled 1 = .ok (.getfield 92, 3) := by decide +kernel
theorem dX8_ruled_4 : decode cX8_ruled 4 = .ok (.istore_n 3, 1) := by decide +kernel
theorem dX8_ruled_5 : decode cX8_ruled 5 = .ok (.iload_n 1, 1) := by decide +kernel
theorem dX8_ruled_6 : decode cX8_ruled 6 = .ok (.iconst 1, 1) := by decide +kernel
theorem dX8_ruled_7 : decode cX8_ruled 7 = .ok (.if_icmp .ne 10, 3) := by decide +kernel
theorem dX8_ruled_10 : decode cX8_ruled 10 = .ok (.bipush 97, 2) := by decide +kernel
theorem dX8_ruled_12 : decode cX8_ruled 12 = .ok (.iload_n 2, 1) := by decide +kernel
theorem dX8_ruled_13 : decode cX8_ruled 13 = .ok (.iconst 4, 1) := by decide +kernel
theorem dX8_ruled_14 : decode cX8_ruled 14 = .ok (.irem, 1) := by decide +kernel
theorem dX8_ruled_15 : decode cX8_ruled 15 = .ok (.iadd, 1) := by decide +kernel
theorem dX8_ruled_16 : decode cX8_ruled 16 = .ok (.ireturn, 1) := by decide +kernel
theorem dX8_ruled_17 : decode cX8_ruled 17 = .ok (.iload_n 1, 1) := by decide +kernel
theorem dX8_ruled_18 : decode cX8_ruled 18 = .ok (.iconst 2, 1) := by decide +kernel
theorem dX8_ruled_19 : decode cX8_ruled 19 = .ok (.if_icmp .ne 25, 3) := by decide +kernel
theorem dX8_ruled_22 : decode cX8_ruled 22 = .ok (.iload_n 3, 1) := by decide +kernel
theorem dX8_ruled_23 : decode cX8_ruled 23 = .ok (.bipush 17, 2) := by decide +kernel
theorem dX8_ruled_25 : decode cX8_ruled 25 = .ok (.if_icmp .lt 19, 3) := by decide +kernel
theorem dX8_ruled_28 : decode cX8_ruled 28 = .ok (.iload_n 2, 1) := by decide +kernel
theorem dX8_ruled_29 : decode cX8_ruled 29 = .ok (.sipush 240, 3) := by decide +kernel
theorem dX8_ruled_32 : decode cX8_ruled 32 = .ok (.if_icmp .ge 12, 3) := by decide +kernel
theorem dX8_ruled_35 : decode cX8_ruled 35 = .ok (.aload_n 0, 1) := by decide +kernel
theorem dX8_ruled_36 : decode cX8_ruled 36 = .ok (.iload_n 3, 1) := by decide +kernel
theorem dX8_ruled_37 : decode cX8_ruled 37 = .ok (.bipush 17, 2) := by decide +kernel
theorem dX8_ruled_39 : decode cX8_ruled 39 = .ok (.isub, 1) := by decide +kernel
theorem dX8_ruled_40 : decode cX8_ruled 40 = .ok (.invokevirtual 102, 3) := by decide +kernel
theorem dX8_ruled_43 : decode cX8_ruled 43 = .ok (.ireturn, 1) := by decide +kernel
theorem dX8_ruled_44 : decode cX8_ruled 44 = .ok (.iload_n 1, 1) := by decide +kernel
theorem dX8_ruled_45 : decode cX8_ruled 45 = .ok (.iconst 3, 1) := by decide +kernel
theorem dX8_ruled_46 : decode cX8_ruled 46 = .ok (.if_icmp .ne 23, 3) := by decide +kernel
theorem dX8_ruled_49 : decode cX8_ruled 49 = .ok (.iload_n 3, 1) := by decide +kernel
theorem dX8_ruled_50 : decode cX8_ruled 50 = .ok (.iconst 1, 1) := by decide +kernel
theorem dX8_ruled_51 : decode cX8_ruled 51 = .ok (.if_icmp .lt 18, 3) := by decide +kernel
theorem dX8_ruled_54 : decode cX8_ruled 54 = .ok (.iload_n 2, 1) := by decide +kernel
theorem dX8_ruled_55 : decode cX8_ruled 55 = .ok (.sipush 230, 3) := by decide +kernel
theorem dX8_ruled_58 : decode cX8_ruled 58 = .ok (.if_icmp .ge 11, 3) := by decide +kernel
theorem dX8_ruled_61 : decode cX8_ruled 61 = .ok (.aload_n 0, 1) := by decide +kernel
theorem dX8_ruled_62 : decode cX8_ruled 62 = .ok (.iload_n 3, 1) := by decide +kernel
theorem dX8_ruled_63 : decode cX8_ruled 63 = .ok (.iconst 1, 1) := by decide +kernel
theorem dX8_ruled_64 : decode cX8_ruled 64 = .ok (.isub, 1) := by decide +kernel
theorem dX8_ruled_65 : decode cX8_ruled 65 = .ok (.invokevirtual 102, 3) := by decide +kernel
theorem dX8_ruled_68 : decode cX8_ruled 68 = .ok (.ireturn, 1) := by decide +kernel
theorem dX8_ruled_69 : decode cX8_ruled 69 = .ok (.iload_n 2, 1) := by decide +kernel
theorem dX8_ruled_70 : decode cX8_ruled 70 = .ok (.ireturn, 1) := by decide +kernel
set_option maxRecDepth 20000 in
theorem ggX8_copy_X8_isRow : GoodIn wsX8_copy wsX8_isRow := goodIn_r _ [6] (by decide +kernel) (by decide +kernel)
set_option maxRecDepth 20000 in
theorem gX8_copy_X8_isRow : GoodIn wsX8_copy (va_wsS RX8 78 yX8_isRow wsX8_isRow) := goodIn_app (goodIn_of _ (by decide +kernel)) ggX8_copy_X8_isRow
set_option maxRecDepth 20000 in
theorem ggX8_copy_X4_room : GoodIn wsX8_copy wsX4_room := goodIn_r _ [11, 12, 13, 40, 41, 42] (by decide +kernel) (by decide +kernel)
set_option maxRecDepth 20000 in
theorem gX8_copy_X4_room : GoodIn wsX8_copy (wsV RX8 85 RX4 yX4_room wsX4_room) := goodIn_app (goodIn_of _ (by decide +kernel)) ggX8_copy_X4_room
set_option maxRecDepth 20000 in
theorem ggX8_copy_X4_at : GoodIn wsX8_copy wsX4_at := goodIn_r _ [17, 13, 12, 40, 41, 42] (by decide +kernel) (by decide +kernel)
set_option maxRecDepth 20000 in
theorem gX8_copy_X4_at : GoodIn wsX8_copy (wsV RX8 102 RX4 yX4_at wsX4_at) := goodIn_app (goodIn_of _ (by decide +kernel)) ggX8_copy_X4_at
set_option maxRecDepth 20000 in
theorem ggX8_copy_X4_put : GoodIn wsX8_copy wsX4_put := goodIn_r _ [21, 13, 12, 22, 40, 41, 42] (by decide +kernel) (by decide +kernel)
set_option maxRecDepth 20000 in
theorem gX8_copy_X4_put : GoodIn wsX8_copy (wsV RX8 89 RX4 yX4_put wsX4_put) := goodIn_app (goodIn_of _ (by decide +kernel)) ggX8_copy_X4_put
theorem dX8_copy_0 : decode cX8_copy 0 = .ok (.iload_n 1, 1) := by decide +kernel
theorem dX8_copy_1 : decode cX8_copy 1 = .ok (.invokestatic 78, 3) := by decide +kernel
theorem dX8_copy_4 : decode cX8_copy 4 = .ok (.ifCond .eq 11, 3) := by decide +kernel
theorem dX8_copy_7 : decode cX8_copy 7 = .ok (.iload 4, 2) := by decide +kernel
theorem dX8_copy_9 : decode cX8_copy 9 = .ok (.invokestatic 78, 3) := by decide +kernel
theorem dX8_copy_12 : decode cX8_copy 12 = .ok (.ifCond .ne 6, 3) := by decide +kernel
theorem dX8_copy_15 : decode cX8_copy 15 = .ok (.bipush (-2), 2) := by decide +kernel
theorem dX8_copy_17 : decode cX8_copy 17 = .ok (.ireturn, 1) := by decide +kernel
theorem dX8_copy_18 : decode cX8_copy 18 = .ok (.iload_n 2, 1) := by decide +kernel
theorem dX8_copy_19 : decode cX8_copy 19 = .ok (.ifCond .lt 26, 3) := by decide +kernel
theorem dX8_copy_22 : decode cX8_copy 22 = .ok (.iload_n 3, 1) := by decide +kernel
theorem dX8_copy_23 : decode cX8_copy 23 = .ok (.ifCond .lt 22, 3) := by decide +kernel
theorem dX8_copy_26 : decode cX8_copy 26 = .ok (.iload_n 2, 1) := by decide +kernel
theorem dX8_copy_27 : decode cX8_copy 27 = .ok (.i2l, 1) := by decide +kernel
theorem dX8_copy_28 : decode cX8_copy 28 = .ok (.iload_n 3, 1) := by decide +kernel
theorem dX8_copy_29 : decode cX8_copy 29 = .ok (.i2l, 1) := by decide +kernel
theorem dX8_copy_30 : decode cX8_copy 30 = .ok (.ladd, 1) := by decide +kernel
theorem dX8_copy_31 : decode cX8_copy 31 = .ok (.aload_n 0, 1) := by decide +kernel
theorem dX8_copy_32 : decode cX8_copy 32 = .ok (.getfield 11, 3) := by decide +kernel
theorem dX8_copy_35 : decode cX8_copy 35 = .ok (.iload_n 1, 1) := by decide +kernel
theorem dX8_copy_36 : decode cX8_copy 36 = .ok (.aaload, 1) := by decide +kernel
theorem dX8_copy_37 : decode cX8_copy 37 = .ok (.getfield 92, 3) := by decide +kernel
theorem dX8_copy_40 : decode cX8_copy 40 = .ok (.i2l, 1) := by decide +kernel
theorem dX8_copy_41 : decode cX8_copy 41 = .ok (.lcmp, 1) := by decide +kernel
theorem dX8_copy_42 : decode cX8_copy 42 = .ok (.ifCond .le 6, 3) := by decide +kernel
theorem dX8_copy_45 : decode cX8_copy 45 = .ok (.bipush (-2), 2) := by decide +kernel
theorem dX8_copy_47 : decode cX8_copy 47 = .ok (.ireturn, 1) := by decide +kernel
theorem dX8_copy_48 : decode cX8_copy 48 = .ok (.iload_n 3, 1) := by decide +kernel
theorem dX8_copy_49 : decode cX8_copy 49 = .ok (.aload_n 0, 1) := by decide +kernel
theorem dX8_copy_50 : decode cX8_copy 50 = .ok (.getfield 11, 3) := by decide +kernel
theorem dX8_copy_53 : decode cX8_copy 53 = .ok (.iload 4, 2) := by decide +kernel
theorem dX8_copy_55 : decode cX8_copy 55 = .ok (.aaload, 1) := by decide +kernel
theorem dX8_copy_56 : decode cX8_copy 56 = .ok (.invokevirtual 85, 3) := by decide +kernel
theorem dX8_copy_59 : decode cX8_copy 59 = .ok (.if_icmp .le 6, 3) := by decide +kernel
theorem dX8_copy_62 : decode cX8_copy 62 = .ok (.bipush (-4), 2) := by decide +kernel
theorem dX8_copy_64 : decode cX8_copy 64 = .ok (.ireturn, 1) := by decide +kernel
theorem dX8_copy_65 : decode cX8_copy 65 = .ok (.iconst 0, 1) := by decide +kernel
theorem dX8_copy_66 : decode cX8_copy 66 = .ok (.istore 5, 2) := by decide +kernel
theorem dX8_copy_68 : decode cX8_copy 68 = .ok (.iload 5, 2) := by decide +kernel
theorem dX8_copy_70 : decode cX8_copy 70 = .ok (.iload_n 3, 1) := by decide +kernel
theorem dX8_copy_71 : decode cX8_copy 71 = .ok (.if_icmp .ge 32, 3) := by decide +kernel
theorem dX8_copy_74 : decode cX8_copy 74 = .ok (.aload_n 0, 1) := by decide +kernel
theorem dX8_copy_75 : decode cX8_copy 75 = .ok (.getfield 11, 3) := by decide +kernel
theorem dX8_copy_78 : decode cX8_copy 78 = .ok (.iload 4, 2) := by decide +kernel
theorem dX8_copy_80 : decode cX8_copy 80 = .ok (.aaload, 1) := by decide +kernel
theorem dX8_copy_81 : decode cX8_copy 81 = .ok (.aload_n 0, 1) := by decide +kernel
theorem dX8_copy_82 : decode cX8_copy 82 = .ok (.getfield 11, 3) := by decide +kernel
theorem dX8_copy_85 : decode cX8_copy 85 = .ok (.iload_n 1, 1) := by decide +kernel
theorem dX8_copy_86 : decode cX8_copy 86 = .ok (.aaload, 1) := by decide +kernel
theorem dX8_copy_87 : decode cX8_copy 87 = .ok (.iload_n 2, 1) := by decide +kernel
theorem dX8_copy_88 : decode cX8_copy 88 = .ok (.iload 5, 2) := by decide +kernel
theorem dX8_copy_90 : decode cX8_copy 90 = .ok (.iadd, 1) := by decide +kernel
theorem dX8_copy_91 : decode cX8_copy 91 = .ok (.invokevirtual 102, 3) := by decide +kernel
theorem dX8_copy_94 : decode cX8_copy 94 = .ok (.invokevirtual 89, 3) := by decide +kernel
theorem dX8_copy_97 : decode cX8_copy 97 = .ok (.iinc 5 1, 3) := by decide +kernel
theorem dX8_copy_100 : decode cX8_copy 100 = .ok (.goto (-32), 3) := by decide +kernel
theorem dX8_copy_103 : decode cX8_copy 103 = .ok (.aload_n 0, 1) := by decide +kernel
theorem dX8_copy_104 : decode cX8_copy 104 = .ok (.getfield 11, 3) := by decide +kernel
theorem dX8_copy_107 : decode cX8_copy 107 = .ok (.iload 4, 2) := by decide +kernel
theorem dX8_copy_109 : decode cX8_copy 109 = .ok (.aaload, 1) := by decide +kernel
theorem dX8_copy_110 : decode cX8_copy 110 = .ok (.getfield 92, 3) := by decide +kernel
theorem dX8_copy_113 : decode cX8_copy 113 = .ok (.ireturn, 1) := by decide +kernel
set_option maxRecDepth 20000 in
theorem ggX8_alter_X8_isRow : GoodIn wsX8_alter wsX8_isRow := goodIn_r _ [5] (by decide +kernel) (by decide +kernel)
set_option maxRecDepth 20000 in
theorem gX8_alter_X8_isRow : GoodIn wsX8_alter (va_wsS RX8 78 yX8_isRow wsX8_isRow) := goodIn_app (goodIn_of _ (by decide +kernel)) ggX8_alter_X8_isRow
set_option maxRecDepth 20000 in
theorem ggX8_alter_X4_replace : GoodIn wsX8_alter wsX4_replace := goodIn_r _ [10, 11, 12, 13, 14, 9, 15, 16, 34, 35, 36] (by decide +kernel) (by decide +kernel)
set_option maxRecDepth 20000 in
theorem gX8_alter_X4_replace : GoodIn wsX8_alter (wsV RX8 106 RX4 yX4_replace wsX4_replace) := goodIn_app (goodIn_of _ (by decide +kernel)) ggX8_alter_X4_replace
theorem dX8_alter_0 : decode cX8_alter 0 = .ok (.iload_n 1, 1) := by decide +kernel
theorem dX8_alter_1 : decode cX8_alter 1 = .ok (.invokestatic 78, 3) := by decide +kernel
theorem dX8_alter_4 : decode cX8_alter 4 = .ok (.ifCond .ne 5, 3) := by decide +kernel
theorem dX8_alter_7 : decode cX8_alter 7 = .ok (.iconst (-1), 1) := by decide +kernel
theorem dX8_alter_8 : decode cX8_alter 8 = .ok (.ireturn, 1) := by decide +kernel
theorem dX8_alter_9 : decode cX8_alter 9 = .ok (.aload_n 0, 1) := by decide +kernel
theorem dX8_alter_10 : decode cX8_alter 10 = .ok (.getfield 11, 3) := by decide +kernel
theorem dX8_alter_13 : decode cX8_alter 13 = .ok (.iload_n 1, 1) := by decide +kernel
theorem dX8_alter_14 : decode cX8_alter 14 = .ok (.aaload, 1) := by decide +kernel
theorem dX8_alter_15 : decode cX8_alter 15 = .ok (.iload_n 2, 1) := by decide +kernel
theorem dX8_alter_16 : decode cX8_alter 16 = .ok (.iload_n 3, 1) := by decide +kernel
theorem dX8_alter_17 : decode cX8_alter 17 = .ok (.invokevirtual 106, 3) := by decide +kernel
theorem dX8_alter_20 : decode cX8_alter 20 = .ok (.ireturn, 1) := by decide +kernel
set_option maxRecDepth 20000 in
theorem ggX8_cut_X8_isRow : GoodIn wsX8_cut wsX8_isRow := goodIn_r _ [6] (by decide +kernel) (by decide +kernel)
set_option maxRecDepth 20000 in
theorem gX8_cut_X8_isRow : GoodIn wsX8_cut (va_wsS RX8 78 yX8_isRow wsX8_isRow) := goodIn_app (goodIn_of _ (by decide +kernel)) ggX8_cut_X8_isRow
theorem dX8_cut_0 : decode cX8_cut 0 = .ok (.iload_n 1, 1) := by decide +kernel
theorem dX8_cut_1 : decode cX8_cut 1 = .ok (.invokestatic 78, 3) := by decide +kernel
theorem dX8_cut_4 : decode cX8_cut 4 = .ok (.ifCond .eq 20, 3) := by decide +kernel
theorem dX8_cut_7 : decode cX8_cut 7 = .ok (.iload_n 2, 1) := by decide +kernel
theorem dX8_cut_8 : decode cX8_cut 8 = .ok (.ifCond .lt 16, 3) := by decide +kernel
theorem dX8_cut_11 : decode cX8_cut 11 = .ok (.iload_n 2, 1) := by decide +kernel
theorem dX8_cut_12 : decode cX8_cut 12 = .ok (.aload_n 0, 1) := by decide +kernel
theorem dX8_cut_13 : decode cX8_cut 13 = .ok (.getfield 11, 3) := by decide +kernel
theorem dX8_cut_16 : decode cX8_cut 16 = .ok (.iload_n 1, 1) := by decide +kernel
theorem dX8_cut_17 : decode cX8_cut 17 = .ok (.aaload, 1) := by decide +kernel
theorem dX8_cut_18 : decode cX8_cut 18 = .ok (.getfield 92, 3) := by decide +kernel
theorem dX8_cut_21 : decode cX8_cut 21 = .ok (.if_icmp .le 6, 3) := by decide +kernel
theorem dX8_cut_24 : decode cX8_cut 24 = .ok (.bipush (-2), 2) := by decide +kernel
theorem dX8_cut_26 : decode cX8_cut 26 = .ok (.ireturn, 1) := by decide +kernel
theorem dX8_cut_27 : decode cX8_cut 27 = .ok (.aload_n 0, 1) := by decide +kernel
theorem dX8_cut_28 : decode cX8_cut 28 = .ok (.getfield 11, 3) := by decide +kernel
theorem dX8_cut_31 : decode cX8_cut 31 = .ok (.iload_n 1, 1) := by decide +kernel
theorem dX8_cut_32 : decode cX8_cut 32 = .ok (.aaload, 1) := by decide +kernel
theorem dX8_cut_33 : decode cX8_cut 33 = .ok (.getfield 92, 3) := by decide +kernel
theorem dX8_cut_36 : decode cX8_cut 36 = .ok (.istore_n 3, 1) := by decide +kernel
theorem dX8_cut_37 : decode cX8_cut 37 = .ok (.aload_n 0, 1) := by decide +kernel
theorem dX8_cut_38 : decode cX8_cut 38 = .ok (.getfield 11, 3) := by decide +kernel
theorem dX8_cut_41 : decode cX8_cut 41 = .ok (.iload_n 1, 1) := by decide +kernel
theorem dX8_cut_42 : decode cX8_cut 42 = .ok (.aaload, 1) := by decide +kernel
theorem dX8_cut_43 : decode cX8_cut 43 = .ok (.iload_n 2, 1) := by decide +kernel
theorem dX8_cut_44 : decode cX8_cut 44 = .ok (.putfield 92, 3) := by decide +kernel
theorem dX8_cut_47 : decode cX8_cut 47 = .ok (.iload_n 3, 1) := by decide +kernel
theorem dX8_cut_48 : decode cX8_cut 48 = .ok (.ireturn, 1) := by decide +kernel
set_option maxRecDepth 20000 in
theorem ggX8_length_X8_isRow : GoodIn wsX8_length wsX8_isRow := goodIn_r _ [6] (by decide +kernel) (by decide +kernel)
set_option maxRecDepth 20000 in
theorem gX8_length_X8_isRow : GoodIn wsX8_length (va_wsS RX8 78 yX8_isRow wsX8_isRow) := goodIn_app (goodIn_of _ (by decide +kernel)) ggX8_length_X8_isRow
theorem dX8_length_0 : decode cX8_length 0 = .ok (.iload_n 1, 1) := by decide +kernel
theorem dX8_length_1 : decode cX8_length 1 = .ok (.invokestatic 78, 3) := by decide +kernel
theorem dX8_length_4 : decode cX8_length 4 = .ok (.ifCond .eq 15, 3) := by decide +kernel
theorem dX8_length_7 : decode cX8_length 7 = .ok (.aload_n 0, 1) := by decide +kernel
theorem dX8_length_8 : decode cX8_length 8 = .ok (.getfield 11, 3) := by decide +kernel
theorem dX8_length_11 : decode cX8_length 11 = .ok (.iload_n 1, 1) := by decide +kernel
theorem dX8_length_12 : decode cX8_length 12 = .ok (.aaload, 1) := by decide +kernel
theorem dX8_length_13 : decode cX8_length 13 = .ok (.getfield 92, 3) := by decide +kernel
theorem dX8_length_16 : decode cX8_length 16 = .ok (.goto 4, 3) := by decide +kernel
theorem dX8_length_19 : decode cX8_length 19 = .ok (.iconst (-1), 1) := by decide +kernel
theorem dX8_length_20 : decode cX8_length 20 = .ok (.ireturn, 1) := by decide +kernel
set_option maxRecDepth 20000 in
theorem ggX8_octet_X8_isRow : GoodIn wsX8_octet wsX8_isRow := goodIn_r _ [5] (by decide +kernel) (by decide +kernel)
set_option maxRecDepth 20000 in
theorem gX8_octet_X8_isRow : GoodIn wsX8_octet (va_wsS RX8 78 yX8_isRow wsX8_isRow) := goodIn_app (goodIn_of _ (by decide +kernel)) ggX8_octet_X8_isRow
set_option maxRecDepth 20000 in
theorem ggX8_octet_X4_has : GoodIn wsX8_octet wsX4_has := goodIn_r _ [10, 11, 34, 35, 36] (by decide +kernel) (by decide +kernel)
set_option maxRecDepth 20000 in
theorem gX8_octet_X4_has : GoodIn wsX8_octet (wsV RX8 110 RX4 yX4_has wsX4_has) := goodIn_app (goodIn_of _ (by decide +kernel)) ggX8_octet_X4_has
set_option maxRecDepth 20000 in
theorem ggX8_octet_X4_at : GoodIn wsX8_octet wsX4_at := goodIn_r _ [15, 11, 16, 34, 35, 36] (by decide +kernel) (by decide +kernel)
set_option maxRecDepth 20000 in
theorem gX8_octet_X4_at : GoodIn wsX8_octet (wsV RX8 102 RX4 yX4_at wsX4_at) := goodIn_app (goodIn_of _ (by decide +kernel)) ggX8_octet_X4_at
theorem dX8_octet_0 : decode cX8_octet 0 = .ok (.iload_n 1, 1) := by decide +kernel
theorem dX8_octet_1 : decode cX8_octet 1 = .ok (.invokestatic 78, 3) := by decide +kernel
theorem dX8_octet_4 : decode cX8_octet 4 = .ok (.ifCond .eq 29, 3) := by decide +kernel
theorem dX8_octet_7 : decode cX8_octet 7 = .ok (.aload_n 0, 1) := by decide +kernel
theorem dX8_octet_8 : decode cX8_octet 8 = .ok (.getfield 11, 3) := by decide +kernel
theorem dX8_octet_11 : decode cX8_octet 11 = .ok (.iload_n 1, 1) := by decide +kernel
theorem dX8_octet_12 : decode cX8_octet 12 = .ok (.aaload, 1) := by decide +kernel
theorem dX8_octet_13 : decode cX8_octet 13 = .ok (.iload_n 2, 1) := by decide +kernel
theorem dX8_octet_14 : decode cX8_octet 14 = .ok (.invokevirtual 110, 3) := by decide +kernel
theorem dX8_octet_17 : decode cX8_octet 17 = .ok (.ifCond .eq 16, 3) := by decide +kernel
theorem dX8_octet_20 : decode cX8_octet 20 = .ok (.aload_n 0, 1) := by decide +kernel
theorem dX8_octet_21 : decode cX8_octet 21 = .ok (.getfield 11, 3) := by decide +kernel
theorem dX8_octet_24 : decode cX8_octet 24 = .ok (.iload_n 1, 1) := by decide +kernel
theorem dX8_octet_25 : decode cX8_octet 25 = .ok (.aaload, 1) := by decide +kernel
theorem dX8_octet_26 : decode cX8_octet 26 = .ok (.iload_n 2, 1) := by decide +kernel
theorem dX8_octet_27 : decode cX8_octet 27 = .ok (.invokevirtual 102, 3) := by decide +kernel
theorem dX8_octet_30 : decode cX8_octet 30 = .ok (.goto 4, 3) := by decide +kernel
theorem dX8_octet_33 : decode cX8_octet 33 = .ok (.iconst (-1), 1) := by decide +kernel
theorem dX8_octet_34 : decode cX8_octet 34 = .ok (.ireturn, 1) := by decide +kernel
set_option maxRecDepth 20000 in
theorem ggX8_tableOctet_X4_replace : GoodIn wsX8_tableOctet wsX4_replace := goodIn_r _ [7, 8, 9, 10, 11, 6, 12, 13, 36, 37, 38] (by decide +kernel) (by decide +kernel)
set_option maxRecDepth 20000 in
theorem gX8_tableOctet_X4_replace : GoodIn wsX8_tableOctet (wsV RX8 106 RX4 yX4_replace wsX4_replace) := goodIn_app (goodIn_of _ (by decide +kernel)) ggX8_tableOctet_X4_replace
theorem dX8_tableOctet_0 : decode cX8_tableOctet 0 = .ok (.aload_n 0, 1) := by decide +kernel
theorem dX8_tableOctet_1 : decode cX8_tableOctet 1 = .ok (.getfield 39, 3) := by decide +kernel
theorem dX8_tableOctet_4 : decode cX8_tableOctet 4 = .ok (.getfield 113, 3) := by decide +kernel
theorem dX8_tableOctet_7 : decode cX8_tableOctet 7 = .ok (.iload_n 1, 1) := by decide +kernel
theorem dX8_tableOctet_8 : decode cX8_tableOctet 8 = .ok (.iload_n 2, 1) := by decide +kernel
theorem dX8_tableOctet_9 : decode cX8_tableOctet 9 = .ok (.invokevirtual 106, 3) := by decide +kernel
theorem dX8_tableOctet_12 : decode cX8_tableOctet 12 = .ok (.ireturn, 1) := by decide +kernel
theorem dX8_caches_0 : decode cX8_caches 0 = .ok (.iload_n 1, 1) := by decide +kernel
theorem dX8_caches_1 : decode cX8_caches 1 = .ok (.ifCond .lt 18, 3) := by decide +kernel
theorem dX8_caches_4 : decode cX8_caches 4 = .ok (.iload_n 1, 1) := by decide +kernel
theorem dX8_caches_5 : decode cX8_caches 5 = .ok (.bipush 8, 2) := by decide +kernel
theorem dX8_caches_7 : decode cX8_caches 7 = .ok (.if_icmp .gt 12, 3) := by decide +kernel
theorem dX8_caches_10 : decode cX8_caches 10 = .ok (.iload_n 2, 1) := by decide +kernel
theorem dX8_caches_11 : decode cX8_caches 11 = .ok (.ifCond .lt 8, 3) := by decide +kernel
theorem dX8_caches_14 : decode cX8_caches 14 = .ok (.iload_n 2, 1) := by decide +kernel
theorem dX8_caches_15 : decode cX8_caches 15 = .ok (.iconst 4, 1) := by decide +kernel
theorem dX8_caches_16 : decode cX8_caches 16 = .ok (.if_icmp .le 6, 3) := by decide +kernel
theorem dX8_caches_19 : decode cX8_caches 19 = .ok (.bipush (-2), 2) := by decide +kernel
theorem dX8_caches_21 : decode cX8_caches 21 = .ok (.ireturn, 1) := by decide +kernel
theorem dX8_caches_22 : decode cX8_caches 22 = .ok (.aload_n 0, 1) := by decide +kernel
theorem dX8_caches_23 : decode cX8_caches 23 = .ok (.getfield 39, 3) := by decide +kernel
theorem dX8_caches_26 : decode cX8_caches 26 = .ok (.iload_n 1, 1) := by decide +kernel
theorem dX8_caches_27 : decode cX8_caches 27 = .ok (.putfield 116, 3) := by decide +kernel
theorem dX8_caches_30 : decode cX8_caches 30 = .ok (.aload_n 0, 1) := by decide +kernel
theorem dX8_caches_31 : decode cX8_caches 31 = .ok (.getfield 39, 3) := by decide +kernel
theorem dX8_caches_34 : decode cX8_caches 34 = .ok (.iload_n 2, 1) := by decide +kernel
theorem dX8_caches_35 : decode cX8_caches 35 = .ok (.putfield 119, 3) := by decide +kernel
theorem dX8_caches_38 : decode cX8_caches 38 = .ok (.iconst 1, 1) := by decide +kernel
theorem dX8_caches_39 : decode cX8_caches 39 = .ok (.ireturn, 1) := by decide +kernel
set_option maxRecDepth 20000 in
theorem ggX8_code_X6_isRight : GoodIn wsX8_code wsX6_isRight := goodIn_r _ [8, 9, 10, 11, 12, 13, 14, 15, 16, 17, 18, 41, 42, 43, 44, 45, 46, 47, 48] (by decide +kernel) (by decide +kernel)
set_option maxRecDepth 20000 in
theorem gX8_code_X6_isRight : GoodIn wsX8_code (wsV RX8 122 RX6 yX6_isRight wsX6_isRight) := goodIn_app (goodIn_of _ (by decide +kernel)) ggX8_code_X6_isRight
set_option maxRecDepth 20000 in
theorem ggX8_code_X4_has : GoodIn wsX8_code wsX4_has := goodIn_r _ [22, 17, 46, 47, 48] (by decide +kernel) (by decide +kernel)
set_option maxRecDepth 20000 in
theorem gX8_code_X4_has : GoodIn wsX8_code (wsV RX8 110 RX4 yX4_has wsX4_has) := goodIn_app (goodIn_of _ (by decide +kernel)) ggX8_code_X4_has
set_option maxRecDepth 20000 in
theorem ggX8_code_X4_at : GoodIn wsX8_code wsX4_at := goodIn_r _ [16, 17, 18, 46, 47, 48] (by decide +kernel) (by decide +kernel)
set_option maxRecDepth 20000 in
theorem gX8_code_X4_at : GoodIn wsX8_code (wsV RX8 102 RX4 yX4_at wsX4_at) := goodIn_app (goodIn_of _ (by decide +kernel)) ggX8_code_X4_at
theorem dX8_code_0 : decode cX8_code 0 = .ok (.iload_n 1, 1) := by decide +kernel
theorem dX8_code_1 : decode cX8_code 1 = .ok (.ifCond .lt 8, 3) := by decide +kernel
theorem dX8_code_4 : decode cX8_code 4 = .ok (.iload_n 1, 1) := by decide +kernel
theorem dX8_code_5 : decode cX8_code 5 = .ok (.iconst 1, 1) := by decide +kernel
theorem dX8_code_6 : decode cX8_code 6 = .ok (.if_icmp .le 5, 3) := by decide +kernel
theorem dX8_code_9 : decode cX8_code 9 = .ok (.iconst (-1), 1) := by decide +kernel
theorem dX8_code_10 : decode cX8_code 10 = .ok (.ireturn, 1) := by decide +kernel
theorem dX8_code_11 : decode cX8_code 11 = .ok (.iload_n 1, 1) := by decide +kernel
theorem dX8_code_12 : decode cX8_code 12 = .ok (.ifCond .ne 10, 3) := by decide +kernel
theorem dX8_code_15 : decode cX8_code 15 = .ok (.aload_n 0, 1) := by decide +kernel
theorem dX8_code_16 : decode cX8_code 16 = .ok (.getfield 35, 3) := by decide +kernel
theorem dX8_code_19 : decode cX8_code 19 = .ok (.goto 7, 3) := by decide +kernel
theorem dX8_code_22 : decode cX8_code 22 = .ok (.aload_n 0, 1) := by decide +kernel
theorem dX8_code_23 : decode cX8_code 23 = .ok (.getfield 39, 3) := by decide +kernel
theorem dX8_code_26 : decode cX8_code 26 = .ok (.astore_n 3, 1) := by decide +kernel
theorem dX8_code_27 : decode cX8_code 27 = .ok (.iload_n 2, 1) := by decide +kernel
theorem dX8_code_28 : decode cX8_code 28 = .ok (.iconst (-1), 1) := by decide +kernel
theorem dX8_code_29 : decode cX8_code 29 = .ok (.if_icmp .ne 16, 3) := by decide +kernel
theorem dX8_code_32 : decode cX8_code 32 = .ok (.aload_n 3, 1) := by decide +kernel
theorem dX8_code_33 : decode cX8_code 33 = .ok (.invokevirtual 122, 3) := by decide +kernel
theorem dX8_code_36 : decode cX8_code 36 = .ok (.ifCond .eq 7, 3) := by decide +kernel
theorem dX8_code_39 : decode cX8_code 39 = .ok (.iconst 1, 1) := by decide +kernel
theorem dX8_code_40 : decode cX8_code 40 = .ok (.goto 4, 3) := by decide +kernel
theorem dX8_code_43 : decode cX8_code 43 = .ok (.iconst 0, 1) := by decide +kernel
theorem dX8_code_44 : decode cX8_code 44 = .ok (.ireturn, 1) := by decide +kernel
theorem dX8_code_45 : decode cX8_code 45 = .ok (.aload_n 3, 1) := by decide +kernel
theorem dX8_code_46 : decode cX8_code 46 = .ok (.getfield 113, 3) := by decide +kernel
theorem dX8_code_49 : decode cX8_code 49 = .ok (.iload_n 2, 1) := by decide +kernel
theorem dX8_code_50 : decode cX8_code 50 = .ok (.invokevirtual 110, 3) := by decide +kernel
theorem dX8_code_53 : decode cX8_code 53 = .ok (.ifCond .eq 14, 3) := by decide +kernel
theorem dX8_code_56 : decode cX8_code 56 = .ok (.aload_n 3, 1) := by decide +kernel
theorem dX8_code_57 : decode cX8_code 57 = .ok (.getfield 113, 3) := by decide +kernel
theorem dX8_code_60 : decode cX8_code 60 = .ok (.iload_n 2, 1) := by decide +kernel
theorem dX8_code_61 : decode cX8_code 61 = .ok (.invokevirtual 102, 3) := by decide +kernel
theorem dX8_code_64 : decode cX8_code 64 = .ok (.goto 4, 3) := by decide +kernel
theorem dX8_code_67 : decode cX8_code 67 = .ok (.iconst (-1), 1) := by decide +kernel
theorem dX8_code_68 : decode cX8_code 68 = .ok (.ireturn, 1) := by decide +kernel
set_option maxRecDepth 20000 in
theorem ggX8_write_X6_isRight : GoodIn wsX8_write wsX6_isRight := goodIn_r _ [14, 15, 16, 17, 18, 19, 20, 21, 22, 23, 24, 314, 315, 316, 317, 318, 331, 332, 333] (by decide +kernel) (by decide +kernel)
set_option maxRecDepth 20000 in
theorem gX8_write_X6_isRight : GoodIn wsX8_write (wsV RX8 122 RX6 yX6_isRight wsX6_isRight) := goodIn_app (goodIn_of _ (by decide +kernel)) ggX8_write_X6_isRight
set_option maxRecDepth 20000 in
theorem ggX8_write_X8_startWriting : GoodIn wsX8_write wsX8_startWriting := goodIn_r _ [29, 30, 3, 31, 32, 33, 21, 34, 23, 35, 36, 37, 38, 39, 40, 41, 42, 43, 24, 44, 45, 46, 47, 48, 49, 50, 51, 52, 53, 54, 55, 56, 57, 58, 297, 298, 299, 300, 301, 302, 303, 304, 305, 306, 307, 308, 309, 310, 311, 312, 313, 331, 332, 333, 334, 335, 336, 319, 320, 321, 322, 323, 324, 325, 326, 327, 328, 329, 330] (by decide +kernel) (by decide +kernel)
set_option maxRecDepth 20000 in
theorem gX8_write_X8_startWriting : GoodIn wsX8_write (wsV RX8 126 RX8 yX8_startWriting wsX8_startWriting) := goodIn_app (goodIn_of _ (by decide +kernel)) ggX8_write_X8_startWriting
set_option maxRecDepth 20000 in
theorem ggX8_write_X7_putWindows : GoodIn wsX8_write wsX7_putWindows := goodIn_r _ [62, 63, 64, 58, 65, 66, 67, 68, 69, 70, 71, 72, 73, 74, 75, 76, 77, 78, 79, 80, 81, 82, 83, 84, 85, 86, 87, 88, 89, 90, 91, 92, 93, 94, 95, 96, 97, 98, 99, 53, 100, 101, 56, 102, 103, 104, 105, 106, 107, 108, 32, 33, 21, 34, 23, 35, 109, 110, 111, 112, 113, 114, 115, 116, 117, 118, 119, 120, 121, 122, 123, 124, 125, 126, 127, 128, 129, 130, 131, 132, 133, 134, 135, 136, 137, 138, 139, 140, 141, 142, 143, 144, 145, 146, 147, 148, 149, 150, 151, 152, 153, 154, 155, 156, 157, 158, 159, 160, 161, 162, 163, 164, 57, 165, 19, 20, 22, 24, 166, 41, 42, 43, 167, 168, 169, 47, 170, 49, 171, 172, 173, 174, 175, 176, 177, 178, 179, 180, 181, 182, 183, 184, 185, 28, 186, 187, 188, 189, 190, 191, 192, 193, 194, 40, 195, 196, 197, 198, 199, 200, 201, 202, 203, 204, 205, 206, 207, 208, 209, 210, 211, 212, 213, 214, 13, 215, 216, 217, 218, 219, 220, 221, 222, 223, 224, 225, 226, 227, 228, 229, 230, 231, 232, 233, 234, 235, 236, 15, 18, 237, 238, 239, 240, 241, 242, 243, 244, 245, 246, 247, 248, 249, 250, 251, 252, 253, 254, 255, 256, 257, 258, 259, 260, 261, 262, 55, 263, 264, 265, 266, 267, 268, 269, 270, 271, 272, 319, 320, 321, 322, 323, 324, 325, 326, 327, 328, 329, 330, 331, 332, 333, 337, 338, 339, 340, 341, 342, 343, 344, 345, 346, 347, 334, 335, 336, 314, 315, 316, 317, 318, 348, 349, 350, 351, 352] (by decide +kernel) (by decide +kernel)
set_option maxRecDepth 20000 in
theorem gX8_write_X7_putWindows : GoodIn wsX8_write (wsV RX8 130 RX7 yX7_putWindows wsX7_putWindows) := goodIn_app (goodIn_of _ (by decide +kernel)) ggX8_write_X7_putWindows
set_option maxRecDepth 20000 in
theorem ggX8_write_X6_sortCodes : GoodIn wsX8_write wsX6_sortCodes := goodIn_r _ [276, 216, 217, 277, 83, 84, 85, 233, 234, 235, 13, 236, 15, 18, 19, 20, 21, 22, 23, 24, 237, 238, 239, 240, 241, 242, 243, 244, 226, 227, 228, 314, 315, 316, 317, 318, 331, 332, 333] (by decide +kernel) (by decide +kernel)
set_option maxRecDepth 20000 in
theorem gX8_write_X6_sortCodes : GoodIn wsX8_write (wsV RX8 75 RX6 yX6_sortCodes wsX6_sortCodes) := goodIn_app (goodIn_of _ (by decide +kernel)) ggX8_write_X6_sortCodes
set_option maxRecDepth 20000 in
theorem ggX8_write_X8_putTableData : GoodIn wsX8_write wsX8_putTableData := goodIn_r _ [281, 6, 2, 282, 1, 283, 284, 285, 192, 193, 21, 194, 185, 28, 186, 40, 41, 42, 43, 23, 24, 35, 286, 287, 264, 265, 266, 267, 66, 67, 68, 268, 94, 95, 96, 269, 270, 271, 272, 297, 298, 299, 300, 301, 302, 303, 304, 305, 306, 307, 308, 309, 310, 311, 312, 313, 331, 332, 333, 314, 315, 316, 317, 318] (by decide +kernel) (by decide +kernel)
set_option maxRecDepth 20000 in
theorem gX8_write_X8_putTableData : GoodIn wsX8_write (wsV RX8 134 RX8 yX8_putTableData wsX8_putTableData) := goodIn_app (goodIn_of _ (by decide +kernel)) ggX8_write_X8_putTableData
set_option maxRecDepth 20000 in
theorem ggX8_write_X8_takeWritten : GoodIn wsX8_write wsX8_takeWritten := goodIn_r _ [291, 7, 6, 282, 31, 32, 33, 21, 34, 23, 35, 287, 264, 265, 266, 267, 66, 67, 68, 24, 268, 94, 95, 96, 269, 270, 271, 272, 292, 293, 294, 28, 295, 296, 30, 297, 298, 299, 300, 301, 302, 303, 304, 305, 306, 307, 308, 309, 310, 311, 312, 313, 331, 332, 333] (by decide +kernel) (by decide +kernel)
set_option maxRecDepth 20000 in
theorem gX8_write_X8_takeWritten : GoodIn wsX8_write (wsV RX8 144 RX8 yX8_takeWritten wsX8_takeWritten) := goodIn_app (goodIn_of _ (by decide +kernel)) ggX8_write_X8_takeWritten
theorem dX8_write_0 : decode cX8_write 0 = .ok (.iload_n 1, 1) := by decide +kernel
theorem dX8_write_1 : decode cX8_write 1 = .ok (.ifCond .lt 30, 3) := by decide +kernel
theorem dX8_write_4 : decode cX8_write 4 = .ok (.iload_n 1, 1) := by decide +kernel
theorem dX8_write_5 : decode cX8_write 5 = .ok (.iconst 2, 1) := by decide +kernel
theorem dX8_write_6 : decode cX8_write 6 = .ok (.if_icmp .gt 25, 3) := by decide +kernel
theorem dX8_write_9 : decode cX8_write 9 = .ok (.iload_n 2, 1) := by decide +kernel
theorem dX8_write_10 : decode cX8_write 10 = .ok (.ifCond .lt 21, 3) := by decide +kernel
theorem dX8_write_13 : decode cX8_write 13 = .ok (.iload_n 2, 1) := by decide +kernel
theorem dX8_write_14 : decode cX8_write 14 = .ok (.iconst 2, 1) := by decide +kernel
theorem dX8_write_15 : decode cX8_write 15 = .ok (.if_icmp .gt 16, 3) := by decide +kernel
theorem dX8_write_18 : decode cX8_write 18 = .ok (.iload_n 3, 1) := by decide +kernel
theorem dX8_write_19 : decode cX8_write 19 = .ok (.bipush 50, 2) := by decide +kernel
theorem dX8_write_21 : decode cX8_write 21 = .ok (.if_icmp .lt 10, 3) := by decide +kernel
theorem dX8_write_24 : decode cX8_write 24 = .ok (.iload_n 3, 1) := by decide +kernel
theorem dX8_write_25 : decode cX8_write 25 = .ok (.sipush 4000, 3) := by decide +kernel
theorem dX8_write_28 : decode cX8_write 28 = .ok (.if_icmp .le 6, 3) := by decide +kernel
theorem dX8_write_31 : decode cX8_write 31 = .ok (.bipush (-2), 2) := by decide +kernel
theorem dX8_write_33 : decode cX8_write 33 = .ok (.ireturn, 1) := by decide +kernel
theorem dX8_write_34 : decode cX8_write 34 = .ok (.iload 4, 2) := by decide +kernel
theorem dX8_write_36 : decode cX8_write 36 = .ok (.ifCond .eq 16, 3) := by decide +kernel
theorem dX8_write_39 : decode cX8_write 39 = .ok (.aload_n 0, 1) := by decide +kernel
theorem dX8_write_40 : decode cX8_write 40 = .ok (.getfield 39, 3) := by decide +kernel
theorem dX8_write_43 : decode cX8_write 43 = .ok (.invokevirtual 122, 3) := by decide +kernel
theorem dX8_write_46 : decode cX8_write 46 = .ok (.ifCond .ne 6, 3) := by decide +kernel
theorem dX8_write_49 : decode cX8_write 49 = .ok (.bipush (-2), 2) := by decide +kernel
theorem dX8_write_51 : decode cX8_write 51 = .ok (.ireturn, 1) := by decide +kernel
theorem dX8_write_52 : decode cX8_write 52 = .ok (.iload 4, 2) := by decide +kernel
theorem dX8_write_54 : decode cX8_write 54 = .ok (.ifCond .eq 49, 3) := by decide +kernel
theorem dX8_write_57 : decode cX8_write 57 = .ok (.aload_n 0, 1) := by decide +kernel
theorem dX8_write_58 : decode cX8_write 58 = .ok (.aload_n 0, 1) := by decide +kernel
theorem dX8_write_59 : decode cX8_write 59 = .ok (.getfield 22, 3) := by decide +kernel
theorem dX8_write_62 : decode cX8_write 62 = .ok (.iconst 0, 1) := by decide +kernel
theorem dX8_write_63 : decode cX8_write 63 = .ok (.invokevirtual 126, 3) := by decide +kernel
theorem dX8_write_66 : decode cX8_write 66 = .ok (.aload_n 0, 1) := by decide +kernel
theorem dX8_write_67 : decode cX8_write 67 = .ok (.getfield 58, 3) := by decide +kernel
theorem dX8_write_70 : decode cX8_write 70 = .ok (.aload_n 0, 1) := by decide +kernel
theorem dX8_write_71 : decode cX8_write 71 = .ok (.getfield 35, 3) := by decide +kernel
theorem dX8_write_74 : decode cX8_write 74 = .ok (.aload_n 0, 1) := by decide +kernel
theorem dX8_write_75 : decode cX8_write 75 = .ok (.getfield 35, 3) := by decide +kernel
theorem dX8_write_78 : decode cX8_write 78 = .ok (.getfield 113, 3) := by decide +kernel
theorem dX8_write_81 : decode cX8_write 81 = .ok (.aload_n 0, 1) := by decide +kernel
theorem dX8_write_82 : decode cX8_write 82 = .ok (.getfield 39, 3) := by decide +kernel
theorem dX8_write_85 : decode cX8_write 85 = .ok (.getfield 113, 3) := by decide +kernel
theorem dX8_write_88 : decode cX8_write 88 = .ok (.iconst 1, 1) := by decide +kernel
theorem dX8_write_89 : decode cX8_write 89 = .ok (.iconst 1, 1) := by decide +kernel
theorem dX8_write_90 : decode cX8_write 90 = .ok (.sipush 1536, 3) := by decide +kernel
theorem dX8_write_93 : decode cX8_write 93 = .ok (.invokevirtual 130, 3) := by decide +kernel
theorem dX8_write_96 : decode cX8_write 96 = .ok (.aload_n 0, 1) := by decide +kernel
theorem dX8_write_97 : decode cX8_write 97 = .ok (.getfield 39, 3) := by decide +kernel
theorem dX8_write_100 : decode cX8_write 100 = .ok (.invokevirtual 75, 3) := by decide +kernel
theorem dX8_write_103 : decode cX8_write 103 = .ok (.aload_n 0, 1) := by decide +kernel
theorem dX8_write_104 : decode cX8_write 104 = .ok (.aload_n 0, 1) := by decide +kernel
theorem dX8_write_105 : decode cX8_write 105 = .ok (.getfield 18, 3) := by decide +kernel
theorem dX8_write_108 : decode cX8_write 108 = .ok (.iload 4, 2) := by decide +kernel
theorem dX8_write_110 : decode cX8_write 110 = .ok (.ifCond .eq 7, 3) := by decide +kernel
theorem dX8_write_113 : decode cX8_write 113 = .ok (.iconst 2, 1) := by decide +kernel
theorem dX8_write_114 : decode cX8_write 114 = .ok (.goto 4, 3) := by decide +kernel
theorem dX8_write_117 : decode cX8_write 117 = .ok (.iconst 0, 1) := by decide +kernel
theorem dX8_write_118 : decode cX8_write 118 = .ok (.invokevirtual 126, 3) := by decide +kernel
theorem dX8_write_121 : decode cX8_write 121 = .ok (.iload 4, 2) := by decide +kernel
theorem dX8_write_123 : decode cX8_write 123 = .ok (.ifCond .eq 7, 3) := by decide +kernel
theorem dX8_write_126 : decode cX8_write 126 = .ok (.aload_n 0, 1) := by decide +kernel
theorem dX8_write_127 : decode cX8_write 127 = .ok (.invokevirtual 134, 3) := by decide +kernel
theorem dX8_write_130 : decode cX8_write 130 = .ok (.aload_n 0, 1) := by decide +kernel
theorem dX8_write_131 : decode cX8_write 131 = .ok (.getfield 58, 3) := by decide +kernel
theorem dX8_write_134 : decode cX8_write 134 = .ok (.iload 4, 2) := by decide +kernel
theorem dX8_write_136 : decode cX8_write 136 = .ok (.ifCond .eq 10, 3) := by decide +kernel
theorem dX8_write_139 : decode cX8_write 139 = .ok (.aload_n 0, 1) := by decide +kernel
theorem dX8_write_140 : decode cX8_write 140 = .ok (.getfield 39, 3) := by decide +kernel
theorem dX8_write_143 : decode cX8_write 143 = .ok (.goto 7, 3) := by decide +kernel
theorem dX8_write_146 : decode cX8_write 146 = .ok (.aload_n 0, 1) := by decide +kernel
theorem dX8_write_147 : decode cX8_write 147 = .ok (.getfield 35, 3) := by decide +kernel
theorem dX8_write_150 : decode cX8_write 150 = .ok (.aload_n 0, 1) := by decide +kernel
theorem dX8_write_151 : decode cX8_write 151 = .ok (.getfield 11, 3) := by decide +kernel
theorem dX8_write_154 : decode cX8_write 154 = .ok (.iconst 0, 1) := by decide +kernel
theorem dX8_write_155 : decode cX8_write 155 = .ok (.aaload, 1) := by decide +kernel
theorem dX8_write_156 : decode cX8_write 156 = .ok (.aload_n 0, 1) := by decide +kernel
theorem dX8_write_157 : decode cX8_write 157 = .ok (.getfield 11, 3) := by decide +kernel
theorem dX8_write_160 : decode cX8_write 160 = .ok (.iconst 1, 1) := by decide +kernel
theorem dX8_write_161 : decode cX8_write 161 = .ok (.aaload, 1) := by decide +kernel
theorem dX8_write_162 : decode cX8_write 162 = .ok (.iload_n 1, 1) := by decide +kernel
theorem dX8_write_163 : decode cX8_write 163 = .ok (.iload_n 2, 1) := by decide +kernel
theorem dX8_write_164 : decode cX8_write 164 = .ok (.iload_n 3, 1) := by decide +kernel
theorem dX8_write_165 : decode cX8_write 165 = .ok (.invokevirtual 130, 3) := by decide +kernel
theorem dX8_write_168 : decode cX8_write 168 = .ok (.aload_n 0, 1) := by decide +kernel
theorem dX8_write_169 : decode cX8_write 169 = .ok (.getfield 58, 3) := by decide +kernel
theorem dX8_write_172 : decode cX8_write 172 = .ok (.getfield 137, 3) := by decide +kernel
theorem dX8_write_175 : decode cX8_write 175 = .ok (.ifCond .eq 6, 3) := by decide +kernel
theorem dX8_write_178 : decode cX8_write 178 = .ok (.bipush (-5), 2) := by decide +kernel
theorem dX8_write_180 : decode cX8_write 180 = .ok (.ireturn, 1) := by decide +kernel
theorem dX8_write_181 : decode cX8_write 181 = .ok (.aload_n 0, 1) := by decide +kernel
theorem dX8_write_182 : decode cX8_write 182 = .ok (.getfield 18, 3) := by decide +kernel
theorem dX8_write_185 : decode cX8_write 185 = .ok (.getfield 141, 3) := by decide +kernel
theorem dX8_write_188 : decode cX8_write 188 = .ok (.ifCond .eq 8, 3) := by decide +kernel
theorem dX8_write_191 : decode cX8_write 191 = .ok (.bipush (-4), 2) := by decide +kernel
theorem dX8_write_193 : decode cX8_write 193 = .ok (.goto 7, 3) := by decide +kernel
theorem dX8_write_196 : decode cX8_write 196 = .ok (.aload_n 0, 1) := by decide +kernel
theorem dX8_write_197 : decode cX8_write 197 = .ok (.invokevirtual 144, 3) := by decide +kernel
theorem dX8_write_200 : decode cX8_write 200 = .ok (.ireturn, 1) := by decide +kernel
set_option maxRecDepth 20000 in
theorem ggX8_startWriting_X4_makeEmpty : GoodIn wsX8_startWriting wsX4_makeEmpty := goodIn_r _ [7, 8, 9, 51, 52, 53] (by decide +kernel) (by decide +kernel)
set_option maxRecDepth 20000 in
theorem gX8_startWriting_X4_makeEmpty : GoodIn wsX8_startWriting (wsV RX8 82 RX4 yX4_makeEmpty wsX4_makeEmpty) := goodIn_app (goodIn_of _ (by decide +kernel)) ggX8_startWriting_X4_makeEmpty
set_option maxRecDepth 20000 in
theorem ggX8_startWriting_X4_putMark : GoodIn wsX8_startWriting wsX4_putMark := goodIn_r _ [13, 14, 15, 16, 6, 17, 8, 18, 9, 51, 52, 53] (by decide +kernel) (by decide +kernel)
set_option maxRecDepth 20000 in
theorem gX8_startWriting_X4_putMark : GoodIn wsX8_startWriting (wsV RX8 147 RX4 yX4_putMark wsX4_putMark) := goodIn_app (goodIn_of _ (by decide +kernel)) ggX8_startWriting_X4_putMark
set_option maxRecDepth 20000 in
theorem ggX8_startWriting_X5_makeEmpty : GoodIn wsX8_startWriting wsX5_makeEmpty := goodIn_r _ [23, 24, 54, 55, 56] (by decide +kernel) (by decide +kernel)
set_option maxRecDepth 20000 in
theorem gX8_startWriting_X5_makeEmpty : GoodIn wsX8_startWriting (wsV RX8 150 RX5 yX5_makeEmpty wsX5_makeEmpty) := goodIn_app (goodIn_of _ (by decide +kernel)) ggX8_startWriting_X5_makeEmpty
set_option maxRecDepth 20000 in
theorem ggX8_startWriting_X7_begin : GoodIn wsX8_startWriting wsX7_begin := goodIn_r _ [29, 30, 31, 32, 33, 57, 58, 59, 60, 61, 62, 63, 64, 65, 66, 67, 68] (by decide +kernel) (by decide +kernel)
set_option maxRecDepth 20000 in
theorem gX8_startWriting_X7_begin : GoodIn wsX8_startWriting (wsV RX8 151 RX7 yX7_begin wsX7_begin) := goodIn_app (goodIn_of _ (by decide +kernel)) ggX8_startWriting_X7_begin
theorem dX8_startWriting_0 : decode cX8_startWriting 0 = .ok (.aload_n 1, 1) := by decide +kernel
theorem dX8_startWriting_1 : decode cX8_startWriting 1 = .ok (.invokevirtual 82, 3) := by decide +kernel
theorem dX8_startWriting_4 : decode cX8_startWriting 4 = .ok (.aload_n 1, 1) := by decide +kernel
theorem dX8_startWriting_5 : decode cX8_startWriting 5 = .ok (.iload_n 2, 1) := by decide +kernel
theorem dX8_startWriting_6 : decode cX8_startWriting 6 = .ok (.invokevirtual 147, 3) := by decide +kernel
theorem dX8_startWriting_9 : decode cX8_startWriting 9 = .ok (.aload_n 0, 1) := by decide +kernel
theorem dX8_startWriting_10 : decode cX8_startWriting 10 = .ok (.getfield 69, 3) := by decide +kernel
theorem dX8_startWriting_13 : decode cX8_startWriting 13 = .ok (.invokevirtual 150, 3) := by decide +kernel
theorem dX8_startWriting_16 : decode cX8_startWriting 16 = .ok (.aload_n 0, 1) := by decide +kernel
theorem dX8_startWriting_17 : decode cX8_startWriting 17 = .ok (.getfield 58, 3) := by decide +kernel
theorem dX8_startWriting_20 : decode cX8_startWriting 20 = .ok (.aload_n 1, 1) := by decide +kernel
theorem dX8_startWriting_21 : decode cX8_startWriting 21 = .ok (.aload_n 0, 1) := by decide +kernel
theorem dX8_startWriting_22 : decode cX8_startWriting 22 = .ok (.getfield 69, 3) := by decide +kernel
theorem dX8_startWriting_25 : decode cX8_startWriting 25 = .ok (.invokevirtual 151, 3) := by decide +kernel
theorem dX8_startWriting_28 : decode cX8_startWriting 28 = .ok (.return_, 1) := by decide +kernel
set_option maxRecDepth 20000 in
theorem ggX8_putTableData_X4_putNumber : GoodIn wsX8_putTableData wsX4_putNumber := goodIn_r _ [11, 12, 13, 14, 15, 16, 17, 10, 18, 19, 20, 21, 56, 57, 58] (by decide +kernel) (by decide +kernel)
set_option maxRecDepth 20000 in
theorem gX8_putTableData_X4_putNumber : GoodIn wsX8_putTableData (wsV RX8 155 RX4 yX4_putNumber wsX4_putNumber) := goodIn_app (goodIn_of _ (by decide +kernel)) ggX8_putTableData_X4_putNumber
set_option maxRecDepth 20000 in
theorem ggX8_putTableData_X4_put : GoodIn wsX8_putTableData wsX4_put := goodIn_r _ [18, 19, 20, 21, 56, 57, 58] (by decide +kernel) (by decide +kernel)
set_option maxRecDepth 20000 in
theorem gX8_putTableData_X4_put : GoodIn wsX8_putTableData (wsV RX8 89 RX4 yX4_put wsX4_put) := goodIn_app (goodIn_of _ (by decide +kernel)) ggX8_putTableData_X4_put
set_option maxRecDepth 20000 in
theorem ggX8_putTableData_X4_putAll : GoodIn wsX8_putTableData wsX4_putAll := goodIn_r _ [26, 19, 27, 28, 29, 30, 20, 31, 32, 33, 34, 21, 35, 36, 37, 10, 38, 56, 57, 58] (by decide +kernel) (by decide +kernel)
set_option maxRecDepth 20000 in
theorem gX8_putTableData_X4_putAll : GoodIn wsX8_putTableData (wsV RX8 158 RX4 yX4_putAll wsX4_putAll) := goodIn_app (goodIn_of _ (by decide +kernel)) ggX8_putTableData_X4_putAll
theorem dX8_putTableData_0 : decode cX8_putTableData 0 = .ok (.aload_n 0, 1) := by decide +kernel
theorem dX8_putTableData_1 : decode cX8_putTableData 1 = .ok (.getfield 18, 3) := by decide +kernel
theorem dX8_putTableData_4 : decode cX8_putTableData 4 = .ok (.iconst 2, 1) := by decide +kernel
theorem dX8_putTableData_5 : decode cX8_putTableData 5 = .ok (.aload_n 0, 1) := by decide +kernel
theorem dX8_putTableData_6 : decode cX8_putTableData 6 = .ok (.getfield 22, 3) := by decide +kernel
theorem dX8_putTableData_9 : decode cX8_putTableData 9 = .ok (.getfield 92, 3) := by decide +kernel
theorem dX8_putTableData_12 : decode cX8_putTableData 12 = .ok (.iadd, 1) := by decide +kernel
theorem dX8_putTableData_13 : decode cX8_putTableData 13 = .ok (.invokevirtual 155, 3) := by decide +kernel
theorem dX8_putTableData_16 : decode cX8_putTableData 16 = .ok (.aload_n 0, 1) := by decide +kernel
theorem dX8_putTableData_17 : decode cX8_putTableData 17 = .ok (.getfield 18, 3) := by decide +kernel
theorem dX8_putTableData_20 : decode cX8_putTableData 20 = .ok (.aload_n 0, 1) := by decide +kernel
theorem dX8_putTableData_21 : decode cX8_putTableData 21 = .ok (.getfield 39, 3) := by decide +kernel
theorem dX8_putTableData_24 : decode cX8_putTableData 24 = .ok (.getfield 116, 3) := by decide +kernel
theorem dX8_putTableData_27 : decode cX8_putTableData 27 = .ok (.invokevirtual 89, 3) := by decide +kernel
theorem dX8_putTableData_30 : decode cX8_putTableData 30 = .ok (.aload_n 0, 1) := by decide +kernel
theorem dX8_putTableData_31 : decode cX8_putTableData 31 = .ok (.getfield 18, 3) := by decide +kernel
theorem dX8_putTableData_34 : decode cX8_putTableData 34 = .ok (.aload_n 0, 1) := by decide +kernel
theorem dX8_putTableData_35 : decode cX8_putTableData 35 = .ok (.getfield 39, 3) := by decide +kernel
theorem dX8_putTableData_38 : decode cX8_putTableData 38 = .ok (.getfield 119, 3) := by decide +kernel
theorem dX8_putTableData_41 : decode cX8_putTableData 41 = .ok (.invokevirtual 89, 3) := by decide +kernel
theorem dX8_putTableData_44 : decode cX8_putTableData 44 = .ok (.aload_n 0, 1) := by decide +kernel
theorem dX8_putTableData_45 : decode cX8_putTableData 45 = .ok (.getfield 18, 3) := by decide +kernel
theorem dX8_putTableData_48 : decode cX8_putTableData 48 = .ok (.aload_n 0, 1) := by decide +kernel
theorem dX8_putTableData_49 : decode cX8_putTableData 49 = .ok (.getfield 22, 3) := by decide +kernel
theorem dX8_putTableData_52 : decode cX8_putTableData 52 = .ok (.invokevirtual 158, 3) := by decide +kernel
theorem dX8_putTableData_55 : decode cX8_putTableData 55 = .ok (.return_, 1) := by decide +kernel
set_option maxRecDepth 20000 in
theorem ggX8_takeWritten_X4_makeEmpty : GoodIn wsX8_takeWritten wsX4_makeEmpty := goodIn_r _ [8, 9, 10, 52, 53, 54] (by decide +kernel) (by decide +kernel)
set_option maxRecDepth 20000 in
theorem gX8_takeWritten_X4_makeEmpty : GoodIn wsX8_takeWritten (wsV RX8 82 RX4 yX4_makeEmpty wsX4_makeEmpty) := goodIn_app (goodIn_of _ (by decide +kernel)) ggX8_takeWritten_X4_makeEmpty
set_option maxRecDepth 20000 in
theorem ggX8_takeWritten_X4_putAll : GoodIn wsX8_takeWritten wsX4_putAll := goodIn_r _ [14, 9, 15, 16, 17, 18, 19, 20, 21, 22, 23, 10, 24, 25, 26, 7, 27, 52, 53, 54] (by decide +kernel) (by decide +kernel)
set_option maxRecDepth 20000 in
theorem gX8_takeWritten_X4_putAll : GoodIn wsX8_takeWritten (wsV RX8 158 RX4 yX4_putAll wsX4_putAll) := goodIn_app (goodIn_of _ (by decide +kernel)) ggX8_takeWritten_X4_putAll
set_option maxRecDepth 20000 in
theorem ggX8_takeWritten_X8_tellSpareSteps : GoodIn wsX8_takeWritten wsX8_tellSpareSteps := goodIn_r _ [32, 33, 34, 35, 36, 37, 38, 39, 40, 41, 42, 43, 44, 45, 46, 47, 48, 49, 50, 51] (by decide +kernel) (by decide +kernel)
set_option maxRecDepth 20000 in
theorem gX8_takeWritten_X8_tellSpareSteps : GoodIn wsX8_takeWritten (wsV RX8 162 RX8 yX8_tellSpareSteps wsX8_tellSpareSteps) := goodIn_app (goodIn_of _ (by decide +kernel)) ggX8_takeWritten_X8_tellSpareSteps
theorem dX8_takeWritten_0 : decode cX8_takeWritten 0 = .ok (.aload_n 0, 1) := by decide +kernel
theorem dX8_takeWritten_1 : decode cX8_takeWritten 1 = .ok (.getfield 11, 3) := by decide +kernel
theorem dX8_takeWritten_4 : decode cX8_takeWritten 4 = .ok (.iconst 2, 1) := by decide +kernel
theorem dX8_takeWritten_5 : decode cX8_takeWritten 5 = .ok (.aaload, 1) := by decide +kernel
theorem dX8_takeWritten_6 : decode cX8_takeWritten 6 = .ok (.invokevirtual 82, 3) := by decide +kernel
theorem dX8_takeWritten_9 : decode cX8_takeWritten 9 = .ok (.aload_n 0, 1) := by decide +kernel
theorem dX8_takeWritten_10 : decode cX8_takeWritten 10 = .ok (.getfield 11, 3) := by decide +kernel
theorem dX8_takeWritten_13 : decode cX8_takeWritten 13 = .ok (.iconst 2, 1) := by decide +kernel
theorem dX8_takeWritten_14 : decode cX8_takeWritten 14 = .ok (.aaload, 1) := by decide +kernel
theorem dX8_takeWritten_15 : decode cX8_takeWritten 15 = .ok (.aload_n 0, 1) := by decide +kernel
theorem dX8_takeWritten_16 : decode cX8_takeWritten 16 = .ok (.getfield 18, 3) := by decide +kernel
theorem dX8_takeWritten_19 : decode cX8_takeWritten 19 = .ok (.invokevirtual 158, 3) := by decide +kernel
theorem dX8_takeWritten_22 : decode cX8_takeWritten 22 = .ok (.aload_n 0, 1) := by decide +kernel
theorem dX8_takeWritten_23 : decode cX8_takeWritten 23 = .ok (.invokevirtual 162, 3) := by decide +kernel
theorem dX8_takeWritten_26 : decode cX8_takeWritten 26 = .ok (.aload_n 0, 1) := by decide +kernel
theorem dX8_takeWritten_27 : decode cX8_takeWritten 27 = .ok (.getfield 11, 3) := by decide +kernel
theorem dX8_takeWritten_30 : decode cX8_takeWritten 30 = .ok (.iconst 2, 1) := by decide +kernel
theorem dX8_takeWritten_31 : decode cX8_takeWritten 31 = .ok (.aaload, 1) := by decide +kernel
theorem dX8_takeWritten_32 : decode cX8_takeWritten 32 = .ok (.getfield 92, 3) := by decide +kernel
theorem dX8_takeWritten_35 : decode cX8_takeWritten 35 = .ok (.ireturn, 1) := by decide +kernel
theorem dX8_tellSpareSteps_0 : decode cX8_tellSpareSteps 0 = .ok (.aload_n 0, 1) := by decide +kernel
theorem dX8_tellSpareSteps_1 : decode cX8_tellSpareSteps 1 = .ok (.getfield 65, 3) := by decide +kernel
theorem dX8_tellSpareSteps_4 : decode cX8_tellSpareSteps 4 = .ok (.astore_n 1, 1) := by decide +kernel
theorem dX8_tellSpareSteps_5 : decode cX8_tellSpareSteps 5 = .ok (.aload_n 0, 1) := by decide +kernel
theorem dX8_tellSpareSteps_6 : decode cX8_tellSpareSteps 6 = .ok (.aload_n 0, 1) := by decide +kernel
theorem dX8_tellSpareSteps_7 : decode cX8_tellSpareSteps 7 = .ok (.getfield 69, 3) := by decide +kernel
theorem dX8_tellSpareSteps_10 : decode cX8_tellSpareSteps 10 = .ok (.putfield 65, 3) := by decide +kernel
theorem dX8_tellSpareSteps_13 : decode cX8_tellSpareSteps 13 = .ok (.aload_n 0, 1) := by decide +kernel
theorem dX8_tellSpareSteps_14 : decode cX8_tellSpareSteps 14 = .ok (.aload_n 1, 1) := by decide +kernel
theorem dX8_tellSpareSteps_15 : decode cX8_tellSpareSteps 15 = .ok (.putfield 69, 3) := by decide +kernel
theorem dX8_tellSpareSteps_18 : decode cX8_tellSpareSteps 18 = .ok (.return_, 1) := by decide +kernel
set_option maxRecDepth 20000 in
theorem ggX8_read_X8_readFrom : GoodIn wsX8_read wsX8_readFrom := goodIn_r _ [12, 2, 4, 7, 13, 14, 15, 16, 17, 18, 19, 20, 21, 22, 23, 24, 25, 26, 27, 28, 29, 30, 31, 32, 33, 34, 35, 36, 37, 38, 39, 40, 41, 42, 43, 44, 45, 46, 47, 48, 49, 50, 51, 52, 53, 54, 55, 56, 57, 58, 59, 60, 61, 62, 63, 64, 65, 66, 67, 68, 69, 70, 71, 72, 73, 74, 75, 76, 77, 78, 79, 80, 81, 82, 83, 84, 11, 85, 86, 87, 88, 89, 90, 91, 92, 93, 94, 95, 96, 97, 98, 99, 100, 101, 102, 103, 104, 105, 106, 107, 108, 109, 110, 111, 112, 113, 114, 115, 116, 117, 118, 119, 120, 121, 122, 123, 124, 125, 126, 127, 128, 129, 130, 131, 132, 133, 134, 135, 136, 137, 138, 139, 140, 141, 142, 143, 144, 145, 146, 147, 148, 149, 150, 151, 152, 153, 154, 155, 156, 157, 158, 159, 160, 161, 162, 163, 164, 165, 166, 167, 168, 169, 170, 171, 172, 173, 174, 175, 176, 177, 178, 179, 180, 181, 182, 183, 184, 185, 186, 187, 188, 189, 190, 191, 192, 193, 194, 195, 196, 197, 198, 199, 200, 201, 202, 203, 204, 205, 206, 207, 208, 209, 210, 211, 212, 213, 214, 215, 216, 217, 218, 219, 220, 221, 222, 223, 224, 225, 226, 227, 228, 229, 230, 231, 232, 233, 6, 5, 234, 235, 236, 237, 238, 239, 240, 241, 242, 243, 244, 245, 246, 247, 248, 249, 250, 251, 252, 253, 254, 270, 271, 272, 273, 274, 275, 276, 277, 278, 279, 280, 281, 282, 283, 284, 285, 286, 308, 309, 310, 287, 288, 289, 290, 291, 292, 293, 294, 295, 296, 297, 298, 299, 300, 301, 302, 303, 304, 305, 306, 307, 311, 312, 313, 314, 315, 316, 317, 318, 319, 320, 321, 322, 323] (by decide +kernel) (by decide +kernel)
set_option maxRecDepth 20000 in
theorem gX8_read_X8_readFrom : GoodIn wsX8_read (wsV RX8 165 RX8 yX8_readFrom wsX8_readFrom) := goodIn_app (goodIn_of _ (by decide +kernel)) ggX8_read_X8_readFrom
set_option maxRecDepth 20000 in
theorem ggX8_read_X8_tellReading : GoodIn wsX8_read wsX8_tellReading := goodIn_r _ [258, 4, 5, 259, 260, 261, 262, 263, 264, 270, 271, 272, 273, 274, 275, 276, 277, 278, 279, 280, 281, 282, 283, 284, 285, 286, 290, 291, 292, 293, 294, 295, 296, 297, 298, 299, 300, 301, 302, 303, 304, 305, 306, 307] (by decide +kernel) (by decide +kernel)
set_option maxRecDepth 20000 in
theorem gX8_read_X8_tellReading : GoodIn wsX8_read (wsV RX8 170 RX8 yX8_tellReading wsX8_tellReading) := goodIn_app (goodIn_of _ (by decide +kernel)) ggX8_read_X8_tellReading
set_option maxRecDepth 20000 in
theorem ggX8_read_X8_tellSpareSteps : GoodIn wsX8_read wsX8_tellSpareSteps := goodIn_r _ [268, 269, 2, 270, 271, 272, 273, 274, 275, 276, 277, 278, 279, 280, 281, 282, 283, 284, 285, 286] (by decide +kernel) (by decide +kernel)
set_option maxRecDepth 20000 in
theorem gX8_read_X8_tellSpareSteps : GoodIn wsX8_read (wsV RX8 162 RX8 yX8_tellSpareSteps wsX8_tellSpareSteps) := goodIn_app (goodIn_of _ (by decide +kernel)) ggX8_read_X8_tellSpareSteps
set_option maxRecDepth 20000 in
theorem ggX8_read_X4_makeEmpty : GoodIn wsX8_read wsX4_makeEmpty := goodIn_r _ [56, 57, 58, 308, 309, 310] (by decide +kernel) (by decide +kernel)
set_option maxRecDepth 20000 in
theorem gX8_read_X4_makeEmpty : GoodIn wsX8_read (wsV RX8 82 RX4 yX4_makeEmpty wsX4_makeEmpty) := goodIn_app (goodIn_of _ (by decide +kernel)) ggX8_read_X4_makeEmpty
set_option maxRecDepth 20000 in
theorem ggX8_read_X4_putAll : GoodIn wsX8_read wsX4_putAll := goodIn_r _ [238, 57, 239, 49, 44, 50, 158, 240, 241, 242, 243, 58, 244, 155, 156, 55, 157, 308, 309, 310] (by decide +kernel) (by decide +kernel)
set_option maxRecDepth 20000 in
theorem gX8_read_X4_putAll : GoodIn wsX8_read (wsV RX8 158 RX4 yX4_putAll wsX4_putAll) := goodIn_app (goodIn_of _ (by decide +kernel)) ggX8_read_X4_putAll
theorem dX8_read_0 : decode cX8_read 0 = .ok (.aload_n 0, 1) := by decide +kernel
theorem dX8_read_1 : decode cX8_read 1 = .ok (.aload_n 0, 1) := by decide +kernel
theorem dX8_read_2 : decode cX8_read 2 = .ok (.getfield 11, 3) := by decide +kernel
theorem dX8_read_5 : decode cX8_read 5 = .ok (.iconst 0, 1) := by decide +kernel
theorem dX8_read_6 : decode cX8_read 6 = .ok (.aaload, 1) := by decide +kernel
theorem dX8_read_7 : decode cX8_read 7 = .ok (.aload_n 0, 1) := by decide +kernel
theorem dX8_read_8 : decode cX8_read 8 = .ok (.getfield 11, 3) := by decide +kernel
theorem dX8_read_11 : decode cX8_read 11 = .ok (.iconst 2, 1) := by decide +kernel
theorem dX8_read_12 : decode cX8_read 12 = .ok (.aaload, 1) := by decide +kernel
theorem dX8_read_13 : decode cX8_read 13 = .ok (.invokevirtual 165, 3) := by decide +kernel
theorem dX8_read_16 : decode cX8_read 16 = .ok (.aload_n 0, 1) := by decide +kernel
theorem dX8_read_17 : decode cX8_read 17 = .ok (.aload_n 0, 1) := by decide +kernel
theorem dX8_read_18 : decode cX8_read 18 = .ok (.getfield 69, 3) := by decide +kernel
theorem dX8_read_21 : decode cX8_read 21 = .ok (.getfield 169, 3) := by decide +kernel
theorem dX8_read_24 : decode cX8_read 24 = .ok (.invokevirtual 170, 3) := by decide +kernel
theorem dX8_read_27 : decode cX8_read 27 = .ok (.aload_n 0, 1) := by decide +kernel
theorem dX8_read_28 : decode cX8_read 28 = .ok (.invokevirtual 162, 3) := by decide +kernel
theorem dX8_read_31 : decode cX8_read 31 = .ok (.aload_n 0, 1) := by decide +kernel
theorem dX8_read_32 : decode cX8_read 32 = .ok (.getfield 48, 3) := by decide +kernel
theorem dX8_read_35 : decode cX8_read 35 = .ok (.getfield 173, 3) := by decide +kernel
theorem dX8_read_38 : decode cX8_read 38 = .ok (.ifCond .eq 14, 3) := by decide +kernel
theorem dX8_read_41 : decode cX8_read 41 = .ok (.bipush (-10), 2) := by decide +kernel
theorem dX8_read_43 : decode cX8_read 43 = .ok (.aload_n 0, 1) := by decide +kernel
theorem dX8_read_44 : decode cX8_read 44 = .ok (.getfield 48, 3) := by decide +kernel
theorem dX8_read_47 : decode cX8_read 47 = .ok (.getfield 173, 3) := by decide +kernel
theorem dX8_read_50 : decode cX8_read 50 = .ok (.isub, 1) := by decide +kernel
theorem dX8_read_51 : decode cX8_read 51 = .ok (.ireturn, 1) := by decide +kernel
theorem dX8_read_52 : decode cX8_read 52 = .ok (.aload_n 0, 1) := by decide +kernel
theorem dX8_read_53 : decode cX8_read 53 = .ok (.getfield 11, 3) := by decide +kernel
theorem dX8_read_56 : decode cX8_read 56 = .ok (.iconst 1, 1) := by decide +kernel
theorem dX8_read_57 : decode cX8_read 57 = .ok (.aaload, 1) := by decide +kernel
theorem dX8_read_58 : decode cX8_read 58 = .ok (.invokevirtual 82, 3) := by decide +kernel
theorem dX8_read_61 : decode cX8_read 61 = .ok (.aload_n 0, 1) := by decide +kernel
theorem dX8_read_62 : decode cX8_read 62 = .ok (.getfield 11, 3) := by decide +kernel
theorem dX8_read_65 : decode cX8_read 65 = .ok (.iconst 1, 1) := by decide +kernel
theorem dX8_read_66 : decode cX8_read 66 = .ok (.aaload, 1) := by decide +kernel
theorem dX8_read_67 : decode cX8_read 67 = .ok (.aload_n 0, 1) := by decide +kernel
theorem dX8_read_68 : decode cX8_read 68 = .ok (.getfield 48, 3) := by decide +kernel
theorem dX8_read_71 : decode cX8_read 71 = .ok (.getfield 176, 3) := by decide +kernel
theorem dX8_read_74 : decode cX8_read 74 = .ok (.invokevirtual 158, 3) := by decide +kernel
theorem dX8_read_77 : decode cX8_read 77 = .ok (.aload_n 0, 1) := by decide +kernel
theorem dX8_read_78 : decode cX8_read 78 = .ok (.getfield 11, 3) := by decide +kernel
theorem dX8_read_81 : decode cX8_read 81 = .ok (.iconst 1, 1) := by decide +kernel
theorem dX8_read_82 : decode cX8_read 82 = .ok (.aaload, 1) := by decide +kernel
theorem dX8_read_83 : decode cX8_read 83 = .ok (.getfield 92, 3) := by decide +kernel
theorem dX8_read_86 : decode cX8_read 86 = .ok (.ireturn, 1) := by decide +kernel
set_option maxRecDepth 20000 in
theorem ggX8_readFrom_X5_makeEmpty : GoodIn wsX8_readFrom wsX5_makeEmpty := goodIn_r _ [11, 12, 269, 270, 271] (by decide +kernel) (by decide +kernel)
set_option maxRecDepth 20000 in
theorem gX8_readFrom_X5_makeEmpty : GoodIn wsX8_readFrom (wsV RX8 150 RX5 yX5_makeEmpty wsX5_makeEmpty) := goodIn_app (goodIn_of _ (by decide +kernel)) ggX8_readFrom_X5_makeEmpty
set_option maxRecDepth 20000 in
theorem ggX8_readFrom_X3_begin : GoodIn wsX8_readFrom wsX3_begin := goodIn_r _ [17, 18, 19, 20, 21, 22, 23, 24, 25, 26, 27, 28, 29, 30, 31, 32, 33, 34, 35, 36, 37, 38, 39, 40, 41, 42, 43, 44, 45, 46, 47, 48, 49, 272, 273, 274, 275, 276, 277, 278, 279, 280, 281, 282, 283, 284, 285, 286, 287, 288, 289, 266, 267, 268, 290, 291, 292] (by decide +kernel) (by decide +kernel)
set_option maxRecDepth 20000 in
theorem gX8_readFrom_X3_begin : GoodIn wsX8_readFrom (wsV RX8 179 RX3 yX3_begin wsX3_begin) := goodIn_app (goodIn_of _ (by decide +kernel)) ggX8_readFrom_X3_begin
set_option maxRecDepth 20000 in
theorem ggX8_readFrom_X3_takeMark : GoodIn wsX8_readFrom wsX3_takeMark := goodIn_r _ [53, 21, 54, 55, 56, 57, 16, 58, 23, 59, 60, 34, 35, 36, 61, 62, 63, 29, 64, 37, 42, 32, 65, 66, 67, 68, 24, 272, 273, 274, 275, 276, 277, 278, 279, 280, 281, 282, 283, 284, 285, 286, 287, 288, 289, 290, 291, 292] (by decide +kernel) (by decide +kernel)
set_option maxRecDepth 20000 in
theorem gX8_readFrom_X3_takeMark : GoodIn wsX8_readFrom (wsV RX8 182 RX3 yX3_takeMark wsX3_takeMark) := goodIn_app (goodIn_of _ (by decide +kernel)) ggX8_readFrom_X3_takeMark
set_option maxRecDepth 20000 in
theorem ggX8_readFrom_X3_takeKind : GoodIn wsX8_readFrom wsX3_takeKind := goodIn_r _ [72, 21, 54, 55, 56, 57, 16, 58, 23, 59, 60, 34, 35, 36, 61, 62, 63, 29, 64, 37, 42, 32, 65, 66, 67, 68, 24, 272, 273, 274, 275, 276, 277, 278, 279, 280, 281, 282, 283, 284, 285, 286, 287, 288, 289, 290, 291, 292] (by decide +kernel) (by decide +kernel)
set_option maxRecDepth 20000 in
theorem gX8_readFrom_X3_takeKind : GoodIn wsX8_readFrom (wsV RX8 185 RX3 yX3_takeKind wsX3_takeKind) := goodIn_app (goodIn_of _ (by decide +kernel)) ggX8_readFrom_X3_takeKind
set_option maxRecDepth 20000 in
theorem ggX8_readFrom_X8_startTable : GoodIn wsX8_readFrom wsX8_startTable := goodIn_r _ [77, 2, 6, 78, 79, 5, 4, 80, 1, 81, 82, 83, 16, 84, 21, 54, 85, 86, 59, 23, 87, 88, 89, 90, 60, 34, 35, 36, 91, 92, 93, 29, 94, 95, 96, 97, 62, 63, 64, 37, 42, 32, 65, 66, 67, 68, 24, 55, 56, 57, 58, 61, 98, 99, 100, 101, 13, 14, 15, 17, 18, 19, 20, 22, 25, 26, 27, 28, 30, 31, 33, 38, 39, 40, 41, 43, 44, 45, 46, 47, 48, 49, 50, 51, 52, 53, 102, 103, 104, 105, 249, 250, 251, 252, 253, 254, 255, 256, 257, 258, 259, 260, 261, 262, 263, 264, 265, 272, 273, 274, 275, 276, 277, 278, 279, 280, 281, 282, 283, 284, 285, 286, 287, 288, 289, 290, 291, 292, 293, 294, 295, 296, 297, 266, 267, 268] (by decide +kernel) (by decide +kernel)
set_option maxRecDepth 20000 in
theorem gX8_readFrom_X8_startTable : GoodIn wsX8_readFrom (wsV RX8 188 RX8 yX8_startTable wsX8_startTable) := goodIn_app (goodIn_of _ (by decide +kernel)) ggX8_readFrom_X8_startTable
set_option maxRecDepth 20000 in
theorem ggX8_readFrom_X3_readWindows : GoodIn wsX8_readFrom wsX3_readWindows := goodIn_r _ [109, 23, 21, 110, 111, 54, 98, 99, 100, 29, 101, 42, 37, 112, 113, 114, 115, 116, 117, 118, 40, 35, 41, 119, 34, 36, 120, 121, 122, 123, 124, 125, 126, 127, 128, 129, 130, 131, 132, 16, 133, 134, 135, 136, 18, 137, 22, 55, 56, 57, 58, 59, 60, 61, 62, 63, 64, 32, 65, 66, 67, 68, 24, 87, 88, 89, 90, 91, 92, 93, 94, 95, 96, 97, 138, 139, 140, 141, 142, 143, 144, 19, 145, 146, 147, 148, 46, 149, 150, 48, 26, 27, 28, 30, 31, 33, 38, 39, 151, 152, 153, 154, 155, 156, 157, 158, 159, 160, 161, 162, 163, 164, 165, 166, 167, 168, 169, 170, 171, 172, 173, 174, 175, 176, 20, 25, 177, 178, 179, 180, 181, 182, 183, 184, 185, 186, 187, 188, 189, 190, 191, 192, 193, 194, 195, 196, 197, 198, 199, 200, 201, 202, 203, 204, 205, 206, 207, 208, 209, 210, 10, 211, 12, 212, 213, 214, 215, 216, 217, 218, 219, 220, 221, 272, 273, 274, 275, 276, 277, 278, 279, 280, 281, 282, 283, 284, 285, 286, 287, 288, 289, 290, 291, 292, 293, 294, 295, 296, 297, 298, 299, 300, 301, 302, 266, 267, 268, 269, 270, 271] (by decide +kernel) (by decide +kernel)
set_option maxRecDepth 20000 in
theorem gX8_readFrom_X3_readWindows : GoodIn wsX8_readFrom (wsV RX8 192 RX3 yX3_readWindows wsX3_readWindows) := goodIn_app (goodIn_of _ (by decide +kernel)) ggX8_readFrom_X3_readWindows
set_option maxRecDepth 20000 in
theorem ggX8_readFrom_X8_endTable : GoodIn wsX8_readFrom wsX8_endTable := goodIn_r _ [225, 1, 6, 80, 5, 226, 227, 3, 2, 7, 8, 9, 10, 11, 12, 228, 44, 45, 46, 47, 48, 49, 229, 230, 231, 232, 233, 40, 35, 41, 150, 234, 235, 236, 237, 238, 147, 148, 149, 239, 240, 241, 158, 242, 160, 243, 244, 161, 162, 163, 164, 245, 246, 247, 16, 248, 21, 54, 65, 66, 67, 68, 23, 24, 249, 250, 251, 252, 253, 254, 255, 256, 257, 258, 259, 260, 261, 262, 263, 264, 265, 293, 294, 295, 296, 297, 272, 273, 274, 275, 276, 277, 278, 279, 280, 281, 282, 283, 284, 285, 286, 287, 288, 289, 266, 267, 268, 269, 270, 271, 290, 291, 292] (by decide +kernel) (by decide +kernel)
set_option maxRecDepth 20000 in
theorem gX8_readFrom_X8_endTable : GoodIn wsX8_readFrom (wsV RX8 196 RX8 yX8_endTable wsX8_endTable) := goodIn_app (goodIn_of _ (by decide +kernel)) ggX8_readFrom_X8_endTable
theorem dX8_readFrom_0 : decode cX8_readFrom 0 = .ok (.aload_n 0, 1) := by decide +kernel
theorem dX8_readFrom_1 : decode cX8_readFrom 1 = .ok (.getfield 69, 3) := by decide +kernel
theorem dX8_readFrom_4 : decode cX8_readFrom 4 = .ok (.invokevirtual 150, 3) := by decide +kernel
theorem dX8_readFrom_7 : decode cX8_readFrom 7 = .ok (.aload_n 0, 1) := by decide +kernel
theorem dX8_readFrom_8 : decode cX8_readFrom 8 = .ok (.getfield 48, 3) := by decide +kernel
theorem dX8_readFrom_11 : decode cX8_readFrom 11 = .ok (.aload_n 1, 1) := by decide +kernel
theorem dX8_readFrom_12 : decode cX8_readFrom 12 = .ok (.aload_n 2, 1) := by decide +kernel
theorem dX8_readFrom_13 : decode cX8_readFrom 13 = .ok (.iconst 0, 1) := by decide +kernel
theorem dX8_readFrom_14 : decode cX8_readFrom 14 = .ok (.aload_n 2, 1) := by decide +kernel
theorem dX8_readFrom_15 : decode cX8_readFrom 15 = .ok (.getfield 92, 3) := by decide +kernel
theorem dX8_readFrom_18 : decode cX8_readFrom 18 = .ok (.aload_n 0, 1) := by decide +kernel
theorem dX8_readFrom_19 : decode cX8_readFrom 19 = .ok (.getfield 69, 3) := by decide +kernel
theorem dX8_readFrom_22 : decode cX8_readFrom 22 = .ok (.invokevirtual 179, 3) := by decide +kernel
theorem dX8_readFrom_25 : decode cX8_readFrom 25 = .ok (.aload_n 0, 1) := by decide +kernel
theorem dX8_readFrom_26 : decode cX8_readFrom 26 = .ok (.getfield 48, 3) := by decide +kernel
theorem dX8_readFrom_29 : decode cX8_readFrom 29 = .ok (.invokevirtual 182, 3) := by decide +kernel
theorem dX8_readFrom_32 : decode cX8_readFrom 32 = .ok (.aload_n 0, 1) := by decide +kernel
theorem dX8_readFrom_33 : decode cX8_readFrom 33 = .ok (.getfield 35, 3) := by decide +kernel
theorem dX8_readFrom_36 : decode cX8_readFrom 36 = .ok (.astore_n 3, 1) := by decide +kernel
theorem dX8_readFrom_37 : decode cX8_readFrom 37 = .ok (.aload_n 0, 1) := by decide +kernel
theorem dX8_readFrom_38 : decode cX8_readFrom 38 = .ok (.getfield 48, 3) := by decide +kernel
theorem dX8_readFrom_41 : decode cX8_readFrom 41 = .ok (.invokevirtual 185, 3) := by decide +kernel
theorem dX8_readFrom_44 : decode cX8_readFrom 44 = .ok (.iconst 2, 1) := by decide +kernel
theorem dX8_readFrom_45 : decode cX8_readFrom 45 = .ok (.if_icmp .ne 32, 3) := by decide +kernel
theorem dX8_readFrom_48 : decode cX8_readFrom 48 = .ok (.aload_n 0, 1) := by decide +kernel
theorem dX8_readFrom_49 : decode cX8_readFrom 49 = .ok (.aload_n 2, 1) := by decide +kernel
theorem dX8_readFrom_50 : decode cX8_readFrom 50 = .ok (.invokevirtual 188, 3) := by decide +kernel
theorem dX8_readFrom_53 : decode cX8_readFrom 53 = .ok (.istore 4, 2) := by decide +kernel
theorem dX8_readFrom_55 : decode cX8_readFrom 55 = .ok (.aload_n 0, 1) := by decide +kernel
theorem dX8_readFrom_56 : decode cX8_readFrom 56 = .ok (.getfield 52, 3) := by decide +kernel
theorem dX8_readFrom_59 : decode cX8_readFrom 59 = .ok (.aload_n 0, 1) := by decide +kernel
theorem dX8_readFrom_60 : decode cX8_readFrom 60 = .ok (.getfield 35, 3) := by decide +kernel
theorem dX8_readFrom_63 : decode cX8_readFrom 63 = .ok (.invokevirtual 192, 3) := by decide +kernel
theorem dX8_readFrom_66 : decode cX8_readFrom 66 = .ok (.aload_n 0, 1) := by decide +kernel
theorem dX8_readFrom_67 : decode cX8_readFrom 67 = .ok (.iload 4, 2) := by decide +kernel
theorem dX8_readFrom_69 : decode cX8_readFrom 69 = .ok (.invokevirtual 196, 3) := by decide +kernel
theorem dX8_readFrom_72 : decode cX8_readFrom 72 = .ok (.aload_n 0, 1) := by decide +kernel
theorem dX8_readFrom_73 : decode cX8_readFrom 73 = .ok (.getfield 42, 3) := by decide +kernel
theorem dX8_readFrom_76 : decode cX8_readFrom 76 = .ok (.astore_n 3, 1) := by decide +kernel
theorem dX8_readFrom_77 : decode cX8_readFrom 77 = .ok (.aload_n 0, 1) := by decide +kernel
theorem dX8_readFrom_78 : decode cX8_readFrom 78 = .ok (.getfield 48, 3) := by decide +kernel
theorem dX8_readFrom_81 : decode cX8_readFrom 81 = .ok (.aload_n 3, 1) := by decide +kernel
theorem dX8_readFrom_82 : decode cX8_readFrom 82 = .ok (.invokevirtual 192, 3) := by decide +kernel
theorem dX8_readFrom_85 : decode cX8_readFrom 85 = .ok (.return_, 1) := by decide +kernel
set_option maxRecDepth 20000 in
theorem ggX8_startTable_X3_takeTableHead : GoodIn wsX8_startTable wsX3_takeTableHead := goodIn_r _ [13, 14, 15, 16, 17, 18, 19, 20, 21, 22, 12, 23, 24, 25, 26, 27, 28, 29, 30, 31, 32, 33, 34, 35, 36, 37, 38, 39, 40, 41, 42, 43, 44, 45, 46, 47, 48, 49, 50, 51, 52, 53, 54, 55, 107, 108, 109, 110, 111, 112, 113, 114, 115, 116, 117, 118, 119, 120, 121, 122, 123, 124, 125, 126, 127, 128, 129, 130, 131, 132] (by decide +kernel) (by decide +kernel)
set_option maxRecDepth 20000 in
theorem gX8_startTable_X3_takeTableHead : GoodIn wsX8_startTable (wsV RX8 199 RX3 yX3_takeTableHead wsX3_takeTableHead) := goodIn_app (goodIn_of _ (by decide +kernel)) ggX8_startTable_X3_takeTableHead
set_option maxRecDepth 20000 in
theorem ggX8_startTable_X3_begin : GoodIn wsX8_startTable wsX3_begin := goodIn_r _ [59, 60, 61, 62, 14, 63, 19, 46, 64, 65, 66, 67, 31, 68, 69, 41, 70, 25, 26, 27, 39, 71, 72, 73, 74, 40, 75, 76, 77, 78, 79, 80, 81, 107, 108, 109, 110, 111, 112, 113, 114, 115, 116, 117, 118, 119, 120, 121, 122, 123, 124, 133, 134, 135, 125, 126, 127] (by decide +kernel) (by decide +kernel)
set_option maxRecDepth 20000 in
theorem gX8_startTable_X3_begin : GoodIn wsX8_startTable (wsV RX8 179 RX3 yX3_begin wsX3_begin) := goodIn_app (goodIn_of _ (by decide +kernel)) ggX8_startTable_X3_begin
set_option maxRecDepth 20000 in
theorem ggX8_startTable_X3_takeMark : GoodIn wsX8_startTable wsX3_takeMark := goodIn_r _ [85, 14, 15, 47, 48, 49, 12, 50, 19, 18, 24, 25, 26, 27, 51, 36, 37, 31, 38, 39, 40, 41, 42, 43, 44, 45, 46, 107, 108, 109, 110, 111, 112, 113, 114, 115, 116, 117, 118, 119, 120, 121, 122, 123, 124, 125, 126, 127] (by decide +kernel) (by decide +kernel)
set_option maxRecDepth 20000 in
theorem gX8_startTable_X3_takeMark : GoodIn wsX8_startTable (wsV RX8 182 RX3 yX3_takeMark wsX3_takeMark) := goodIn_app (goodIn_of _ (by decide +kernel)) ggX8_startTable_X3_takeMark
set_option maxRecDepth 20000 in
theorem ggX8_startTable_X3_takeNoTable : GoodIn wsX8_startTable wsX3_takeNoTable := goodIn_r _ [89, 14, 15, 47, 48, 49, 12, 50, 19, 18, 24, 25, 26, 27, 51, 36, 37, 31, 38, 39, 40, 41, 42, 43, 44, 45, 46, 107, 108, 109, 110, 111, 112, 113, 114, 115, 116, 117, 118, 119, 120, 121, 122, 123, 124, 125, 126, 127] (by decide +kernel) (by decide +kernel)
set_option maxRecDepth 20000 in
theorem gX8_startTable_X3_takeNoTable : GoodIn wsX8_startTable (wsV RX8 211 RX3 yX3_takeNoTable wsX3_takeNoTable) := goodIn_app (goodIn_of _ (by decide +kernel)) ggX8_startTable_X3_takeNoTable
theorem dX8_startTable_0 : decode cX8_startTable 0 = .ok (.aload_n 0, 1) := by decide +kernel
theorem dX8_startTable_1 : decode cX8_startTable 1 = .ok (.getfield 48, 3) := by decide +kernel
theorem dX8_startTable_4 : decode cX8_startTable 4 = .ok (.aload_n 0, 1) := by decide +kernel
theorem dX8_startTable_5 : decode cX8_startTable 5 = .ok (.getfield 42, 3) := by decide +kernel
theorem dX8_startTable_8 : decode cX8_startTable 8 = .ok (.invokevirtual 199, 3) := by decide +kernel
theorem dX8_startTable_11 : decode cX8_startTable 11 = .ok (.istore_n 2, 1) := by decide +kernel
theorem dX8_startTable_12 : decode cX8_startTable 12 = .ok (.aload_n 0, 1) := by decide +kernel
theorem dX8_startTable_13 : decode cX8_startTable 13 = .ok (.getfield 48, 3) := by decide +kernel
theorem dX8_startTable_16 : decode cX8_startTable 16 = .ok (.getfield 203, 3) := by decide +kernel
theorem dX8_startTable_19 : decode cX8_startTable 19 = .ok (.getfield 207, 3) := by decide +kernel
theorem dX8_startTable_22 : decode cX8_startTable 22 = .ok (.istore_n 3, 1) := by decide +kernel
theorem dX8_startTable_23 : decode cX8_startTable 23 = .ok (.aload_n 0, 1) := by decide +kernel
theorem dX8_startTable_24 : decode cX8_startTable 24 = .ok (.getfield 52, 3) := by decide +kernel
theorem dX8_startTable_27 : decode cX8_startTable 27 = .ok (.aload_n 0, 1) := by decide +kernel
theorem dX8_startTable_28 : decode cX8_startTable 28 = .ok (.getfield 35, 3) := by decide +kernel
theorem dX8_startTable_31 : decode cX8_startTable 31 = .ok (.getfield 113, 3) := by decide +kernel
theorem dX8_startTable_34 : decode cX8_startTable 34 = .ok (.aload_n 1, 1) := by decide +kernel
theorem dX8_startTable_35 : decode cX8_startTable 35 = .ok (.iload_n 3, 1) := by decide +kernel
theorem dX8_startTable_36 : decode cX8_startTable 36 = .ok (.iload_n 3, 1) := by decide +kernel
theorem dX8_startTable_37 : decode cX8_startTable 37 = .ok (.iload_n 2, 1) := by decide +kernel
theorem dX8_startTable_38 : decode cX8_startTable 38 = .ok (.iadd, 1) := by decide +kernel
theorem dX8_startTable_39 : decode cX8_startTable 39 = .ok (.aload_n 0, 1) := by decide +kernel
theorem dX8_startTable_40 : decode cX8_startTable 40 = .ok (.getfield 69, 3) := by decide +kernel
theorem dX8_startTable_43 : decode cX8_startTable 43 = .ok (.invokevirtual 179, 3) := by decide +kernel
theorem dX8_startTable_46 : decode cX8_startTable 46 = .ok (.aload_n 0, 1) := by decide +kernel
theorem dX8_startTable_47 : decode cX8_startTable 47 = .ok (.getfield 52, 3) := by decide +kernel
theorem dX8_startTable_50 : decode cX8_startTable 50 = .ok (.invokevirtual 182, 3) := by decide +kernel
theorem dX8_startTable_53 : decode cX8_startTable 53 = .ok (.aload_n 0, 1) := by decide +kernel
theorem dX8_startTable_54 : decode cX8_startTable 54 = .ok (.getfield 52, 3) := by decide +kernel
theorem dX8_startTable_57 : decode cX8_startTable 57 = .ok (.invokevirtual 211, 3) := by decide +kernel
theorem dX8_startTable_60 : decode cX8_startTable 60 = .ok (.iload_n 2, 1) := by decide +kernel
theorem dX8_startTable_61 : decode cX8_startTable 61 = .ok (.ireturn, 1) := by decide +kernel
set_option maxRecDepth 20000 in
theorem ggX8_endTable_X5_makeEmpty : GoodIn wsX8_endTable wsX5_makeEmpty := goodIn_r _ [13, 14, 107, 108, 109] (by decide +kernel) (by decide +kernel)
set_option maxRecDepth 20000 in
theorem gX8_endTable_X5_makeEmpty : GoodIn wsX8_endTable (wsV RX8 150 RX5 yX5_makeEmpty wsX5_makeEmpty) := goodIn_app (goodIn_of _ (by decide +kernel)) ggX8_endTable_X5_makeEmpty
set_option maxRecDepth 20000 in
theorem ggX8_endTable_X4_makeEmpty : GoodIn wsX8_endTable wsX4_makeEmpty := goodIn_r _ [19, 20, 21, 104, 105, 106] (by decide +kernel) (by decide +kernel)
set_option maxRecDepth 20000 in
theorem gX8_endTable_X4_makeEmpty : GoodIn wsX8_endTable (wsV RX8 82 RX4 yX4_makeEmpty wsX4_makeEmpty) := goodIn_app (goodIn_of _ (by decide +kernel)) ggX8_endTable_X4_makeEmpty
set_option maxRecDepth 20000 in
theorem ggX8_endTable_X4_putAll : GoodIn wsX8_endTable wsX4_putAll := goodIn_r _ [25, 20, 26, 27, 28, 29, 30, 31, 32, 33, 34, 21, 35, 36, 37, 18, 38, 104, 105, 106] (by decide +kernel) (by decide +kernel)
set_option maxRecDepth 20000 in
theorem gX8_endTable_X4_putAll : GoodIn wsX8_endTable (wsV RX8 158 RX4 yX4_putAll wsX4_putAll) := goodIn_app (goodIn_of _ (by decide +kernel)) ggX8_endTable_X4_putAll
set_option maxRecDepth 20000 in
theorem ggX8_endTable_X6_isRight : GoodIn wsX8_endTable wsX6_isRight := goodIn_r _ [43, 44, 45, 46, 47, 48, 49, 18, 50, 20, 30, 81, 82, 83, 84, 85, 104, 105, 106] (by decide +kernel) (by decide +kernel)
set_option maxRecDepth 20000 in
theorem gX8_endTable_X6_isRight : GoodIn wsX8_endTable (wsV RX8 122 RX6 yX6_isRight wsX6_isRight) := goodIn_app (goodIn_of _ (by decide +kernel)) ggX8_endTable_X6_isRight
set_option maxRecDepth 20000 in
theorem ggX8_endTable_X3_skipTable : GoodIn wsX8_endTable wsX3_skipTable := goodIn_r _ [55, 56, 57, 58, 59, 60, 54, 61, 62, 63, 86, 87, 88, 89, 90, 91, 92, 93, 94, 95, 96, 97, 98, 99, 100, 101, 102, 103, 110, 111, 112] (by decide +kernel) (by decide +kernel)
set_option maxRecDepth 20000 in
theorem gX8_endTable_X3_skipTable : GoodIn wsX8_endTable (wsV RX8 214 RX3 yX3_skipTable wsX3_skipTable) := goodIn_app (goodIn_of _ (by decide +kernel)) ggX8_endTable_X3_skipTable
theorem dX8_endTable_0 : decode cX8_endTable 0 = .ok (.aload_n 0, 1) := by decide +kernel
theorem dX8_endTable_1 : decode cX8_endTable 1 = .ok (.getfield 69, 3) := by decide +kernel
theorem dX8_endTable_4 : decode cX8_endTable 4 = .ok (.invokevirtual 150, 3) := by decide +kernel
theorem dX8_endTable_7 : decode cX8_endTable 7 = .ok (.aload_n 0, 1) := by decide +kernel
theorem dX8_endTable_8 : decode cX8_endTable 8 = .ok (.getfield 42, 3) := by decide +kernel
theorem dX8_endTable_11 : decode cX8_endTable 11 = .ok (.getfield 113, 3) := by decide +kernel
theorem dX8_endTable_14 : decode cX8_endTable 14 = .ok (.invokevirtual 82, 3) := by decide +kernel
theorem dX8_endTable_17 : decode cX8_endTable 17 = .ok (.aload_n 0, 1) := by decide +kernel
theorem dX8_endTable_18 : decode cX8_endTable 18 = .ok (.getfield 42, 3) := by decide +kernel
theorem dX8_endTable_21 : decode cX8_endTable 21 = .ok (.getfield 113, 3) := by decide +kernel
theorem dX8_endTable_24 : decode cX8_endTable 24 = .ok (.aload_n 0, 1) := by decide +kernel
theorem dX8_endTable_25 : decode cX8_endTable 25 = .ok (.getfield 52, 3) := by decide +kernel
theorem dX8_endTable_28 : decode cX8_endTable 28 = .ok (.getfield 176, 3) := by decide +kernel
theorem dX8_endTable_31 : decode cX8_endTable 31 = .ok (.invokevirtual 158, 3) := by decide +kernel
theorem dX8_endTable_34 : decode cX8_endTable 34 = .ok (.aload_n 0, 1) := by decide +kernel
theorem dX8_endTable_35 : decode cX8_endTable 35 = .ok (.getfield 52, 3) := by decide +kernel
theorem dX8_endTable_38 : decode cX8_endTable 38 = .ok (.getfield 173, 3) := by decide +kernel
theorem dX8_endTable_41 : decode cX8_endTable 41 = .ok (.ifCond .ne 23, 3) := by decide +kernel
theorem dX8_endTable_44 : decode cX8_endTable 44 = .ok (.aload_n 0, 1) := by decide +kernel
theorem dX8_endTable_45 : decode cX8_endTable 45 = .ok (.getfield 42, 3) := by decide +kernel
theorem dX8_endTable_48 : decode cX8_endTable 48 = .ok (.getfield 113, 3) := by decide +kernel
theorem dX8_endTable_51 : decode cX8_endTable 51 = .ok (.getfield 92, 3) := by decide +kernel
theorem dX8_endTable_54 : decode cX8_endTable 54 = .ok (.sipush 1536, 3) := by decide +kernel
theorem dX8_endTable_57 : decode cX8_endTable 57 = .ok (.if_icmp .ne 7, 3) := by decide +kernel
theorem dX8_endTable_60 : decode cX8_endTable 60 = .ok (.iconst 1, 1) := by decide +kernel
theorem dX8_endTable_61 : decode cX8_endTable 61 = .ok (.goto 4, 3) := by decide +kernel
theorem dX8_endTable_64 : decode cX8_endTable 64 = .ok (.iconst 0, 1) := by decide +kernel
theorem dX8_endTable_65 : decode cX8_endTable 65 = .ok (.istore_n 2, 1) := by decide +kernel
theorem dX8_endTable_66 : decode cX8_endTable 66 = .ok (.aload_n 0, 1) := by decide +kernel
theorem dX8_endTable_67 : decode cX8_endTable 67 = .ok (.getfield 48, 3) := by decide +kernel
theorem dX8_endTable_70 : decode cX8_endTable 70 = .ok (.iload_n 1, 1) := by decide +kernel
theorem dX8_endTable_71 : decode cX8_endTable 71 = .ok (.iload_n 2, 1) := by decide +kernel
theorem dX8_endTable_72 : decode cX8_endTable 72 = .ok (.ifCond .eq 17, 3) := by decide +kernel
theorem dX8_endTable_75 : decode cX8_endTable 75 = .ok (.aload_n 0, 1) := by decide +kernel
theorem dX8_endTable_76 : decode cX8_endTable 76 = .ok (.getfield 42, 3) := by decide +kernel
theorem dX8_endTable_79 : decode cX8_endTable 79 = .ok (.invokevirtual 122, 3) := by decide +kernel
theorem dX8_endTable_82 : decode cX8_endTable 82 = .ok (.ifCond .eq 7, 3) := by decide +kernel
theorem dX8_endTable_85 : decode cX8_endTable 85 = .ok (.iconst 1, 1) := by decide +kernel
theorem dX8_endTable_86 : decode cX8_endTable 86 = .ok (.goto 4, 3) := by decide +kernel
theorem dX8_endTable_89 : decode cX8_endTable 89 = .ok (.iconst 0, 1) := by decide +kernel
theorem dX8_endTable_90 : decode cX8_endTable 90 = .ok (.invokevirtual 214, 3) := by decide +kernel
theorem dX8_endTable_93 : decode cX8_endTable 93 = .ok (.return_, 1) := by decide +kernel
theorem dX8_tellReading_0 : decode cX8_tellReading 0 = .ok (.aload_n 0, 1) := by decide +kernel
theorem dX8_tellReading_1 : decode cX8_tellReading 1 = .ok (.aload_n 0, 1) := by decide +kernel
theorem dX8_tellReading_2 : decode cX8_tellReading 2 = .ok (.getfield 48, 3) := by decide +kernel
theorem dX8_tellReading_5 : decode cX8_tellReading 5 = .ok (.getfield 173, 3) := by decide +kernel
theorem dX8_tellReading_8 : decode cX8_tellReading 8 = .ok (.putfield 218, 3) := by decide +kernel
theorem dX8_tellReading_11 : decode cX8_tellReading 11 = .ok (.aload_n 0, 1) := by decide +kernel
theorem dX8_tellReading_12 : decode cX8_tellReading 12 = .ok (.aload_n 0, 1) := by decide +kernel
theorem dX8_tellReading_13 : decode cX8_tellReading 13 = .ok (.getfield 48, 3) := by decide +kernel
theorem dX8_tellReading_16 : decode cX8_tellReading 16 = .ok (.getfield 221, 3) := by decide +kernel
theorem dX8_tellReading_19 : decode cX8_tellReading 19 = .ok (.putfield 224, 3) := by decide +kernel
theorem dX8_tellReading_22 : decode cX8_tellReading 22 = .ok (.aload_n 0, 1) := by decide +kernel
theorem dX8_tellReading_23 : decode cX8_tellReading 23 = .ok (.aload_n 0, 1) := by decide +kernel
theorem dX8_tellReading_24 : decode cX8_tellReading 24 = .ok (.getfield 48, 3) := by decide +kernel
theorem dX8_tellReading_27 : decode cX8_tellReading 27 = .ok (.getfield 227, 3) := by decide +kernel
theorem dX8_tellReading_30 : decode cX8_tellReading 30 = .ok (.putfield 230, 3) := by decide +kernel
theorem dX8_tellReading_33 : decode cX8_tellReading 33 = .ok (.aload_n 0, 1) := by decide +kernel
theorem dX8_tellReading_34 : decode cX8_tellReading 34 = .ok (.iload_n 1, 1) := by decide +kernel
theorem dX8_tellReading_35 : decode cX8_tellReading 35 = .ok (.putfield 233, 3) := by decide +kernel
theorem dX8_tellReading_38 : decode cX8_tellReading 38 = .ok (.return_, 1) := by decide +kernel
set_option maxRecDepth 20000 in
theorem ggX8_join_X8_readFrom : GoodIn wsX8_join wsX8_readFrom := goodIn_r _ [23, 13, 2, 8, 17, 24, 25, 26, 27, 28, 29, 30, 31, 32, 33, 34, 35, 36, 37, 38, 39, 40, 41, 42, 43, 44, 45, 46, 47, 48, 49, 50, 51, 52, 53, 54, 55, 56, 57, 58, 59, 60, 61, 62, 63, 64, 65, 66, 67, 68, 69, 70, 71, 72, 73, 74, 75, 76, 77, 78, 79, 80, 81, 82, 83, 84, 85, 86, 87, 88, 89, 90, 91, 92, 93, 94, 22, 95, 96, 97, 98, 99, 100, 101, 102, 103, 104, 105, 106, 107, 108, 109, 110, 111, 112, 113, 114, 115, 116, 117, 118, 119, 120, 121, 122, 123, 124, 125, 126, 127, 128, 129, 130, 131, 132, 133, 134, 135, 136, 137, 138, 139, 140, 141, 142, 143, 144, 145, 146, 147, 148, 149, 150, 151, 152, 153, 154, 155, 156, 157, 158, 159, 160, 161, 162, 163, 164, 165, 166, 167, 168, 169, 170, 171, 172, 173, 174, 175, 176, 177, 178, 179, 180, 181, 182, 183, 184, 185, 186, 187, 188, 189, 190, 191, 192, 193, 194, 195, 196, 197, 198, 199, 200, 201, 202, 203, 204, 205, 206, 207, 208, 209, 210, 211, 212, 213, 214, 215, 216, 217, 218, 219, 220, 221, 222, 223, 224, 225, 226, 227, 228, 229, 230, 231, 232, 233, 234, 235, 236, 237, 238, 239, 240, 241, 242, 243, 5, 3, 244, 245, 246, 247, 248, 249, 250, 10, 11, 12, 251, 252, 253, 254, 255, 256, 257, 258, 259, 260, 261, 406, 407, 408, 409, 410, 411, 412, 413, 414, 415, 416, 417, 418, 419, 420, 421, 422, 441, 442, 443, 444, 445, 446, 423, 424, 425, 426, 427, 428, 429, 430, 431, 432, 433, 434, 435, 436, 437, 438, 439, 440, 447, 448, 449, 450, 451, 452, 453, 454, 455, 456, 457, 458, 459] (by decide +kernel) (by decide +kernel)
set_option maxRecDepth 20000 in
theorem gX8_join_X8_readFrom : GoodIn wsX8_join (wsV RX8 165 RX8 yX8_readFrom wsX8_readFrom) := goodIn_app (goodIn_of _ (by decide +kernel)) ggX8_join_X8_readFrom
set_option maxRecDepth 20000 in
theorem ggX8_join_X4_makeEmpty : GoodIn wsX8_join wsX4_makeEmpty := goodIn_r _ [66, 67, 68, 441, 442, 443] (by decide +kernel) (by decide +kernel)
set_option maxRecDepth 20000 in
theorem gX8_join_X4_makeEmpty : GoodIn wsX8_join (wsV RX8 82 RX4 yX4_makeEmpty wsX4_makeEmpty) := goodIn_app (goodIn_of _ (by decide +kernel)) ggX8_join_X4_makeEmpty
set_option maxRecDepth 20000 in
theorem ggX8_join_X4_putAll : GoodIn wsX8_join wsX4_putAll := goodIn_r _ [248, 67, 249, 59, 54, 60, 168, 250, 10, 11, 12, 68, 251, 165, 166, 65, 167, 441, 442, 443] (by decide +kernel) (by decide +kernel)
set_option maxRecDepth 20000 in
theorem gX8_join_X4_putAll : GoodIn wsX8_join (wsV RX8 158 RX4 yX4_putAll wsX4_putAll) := goodIn_app (goodIn_of _ (by decide +kernel)) ggX8_join_X4_putAll
set_option maxRecDepth 20000 in
theorem ggX8_join_X8_tellReading : GoodIn wsX8_join wsX8_tellReading := goodIn_r _ [265, 2, 3, 266, 267, 268, 269, 270, 271, 406, 407, 408, 409, 410, 411, 412, 413, 414, 415, 416, 417, 418, 419, 420, 421, 422, 423, 424, 425, 426, 427, 428, 429, 430, 431, 432, 433, 434, 435, 436, 437, 438, 439, 440] (by decide +kernel) (by decide +kernel)
set_option maxRecDepth 20000 in
theorem gX8_join_X8_tellReading : GoodIn wsX8_join (wsV RX8 170 RX8 yX8_tellReading wsX8_tellReading) := goodIn_app (goodIn_of _ (by decide +kernel)) ggX8_join_X8_tellReading
set_option maxRecDepth 20000 in
theorem ggX8_join_X8_tellSpareSteps : GoodIn wsX8_join wsX8_tellSpareSteps := goodIn_r _ [275, 276, 13, 406, 407, 408, 409, 410, 411, 412, 413, 414, 415, 416, 417, 418, 419, 420, 421, 422] (by decide +kernel) (by decide +kernel)
set_option maxRecDepth 20000 in
theorem gX8_join_X8_tellSpareSteps : GoodIn wsX8_join (wsV RX8 162 RX8 yX8_tellSpareSteps wsX8_tellSpareSteps) := goodIn_app (goodIn_of _ (by decide +kernel)) ggX8_join_X8_tellSpareSteps
set_option maxRecDepth 20000 in
theorem ggX8_join_X3_traceBack : GoodIn wsX8_join wsX3_traceBack := goodIn_r _ [280, 41, 155, 215, 423, 424, 425, 426, 427, 428, 429, 430, 431, 432, 433, 434, 435, 436, 437, 438, 439, 440, 441, 442, 443] (by decide +kernel) (by decide +kernel)
set_option maxRecDepth 20000 in
theorem gX8_join_X3_traceBack : GoodIn wsX8_join (wsV RX8 245 RX3 yX3_traceBack wsX3_traceBack) := goodIn_app (goodIn_of _ (by decide +kernel)) ggX8_join_X3_traceBack
set_option maxRecDepth 20000 in
theorem ggX8_join_X8_startWriting : GoodIn wsX8_join wsX8_startWriting := goodIn_r _ [284, 13, 16, 244, 63, 64, 65, 66, 67, 68, 285, 286, 287, 288, 289, 290, 291, 292, 168, 26, 27, 28, 29, 30, 31, 293, 294, 295, 296, 297, 298, 299, 300, 301, 406, 407, 408, 409, 410, 411, 412, 413, 414, 415, 416, 417, 418, 419, 420, 421, 422, 441, 442, 443, 444, 445, 446, 460, 461, 462, 463, 464, 465, 466, 467, 468, 469, 470, 471] (by decide +kernel) (by decide +kernel)
set_option maxRecDepth 20000 in
theorem gX8_join_X8_startWriting : GoodIn wsX8_join (wsV RX8 126 RX8 yX8_startWriting wsX8_startWriting) := goodIn_app (goodIn_of _ (by decide +kernel)) ggX8_join_X8_startWriting
set_option maxRecDepth 20000 in
theorem ggX8_join_X7_putTraced : GoodIn wsX8_join wsX7_putTraced := goodIn_r _ [305, 306, 307, 308, 53, 54, 55, 309, 310, 311, 296, 312, 313, 299, 314, 315, 316, 317, 318, 319, 320, 63, 64, 65, 66, 67, 68, 321, 131, 132, 133, 134, 135, 136, 59, 60, 137, 138, 139, 140, 141, 142, 143, 144, 145, 146, 147, 322, 323, 324, 325, 326, 327, 328, 329, 300, 330, 180, 181, 182, 168, 331, 290, 291, 292, 332, 227, 228, 29, 229, 31, 230, 231, 333, 334, 335, 336, 337, 338, 339, 340, 341, 22, 342, 343, 344, 345, 346, 347, 348, 349, 350, 289, 351, 196, 197, 198, 352, 353, 204, 205, 206, 354, 208, 209, 210, 355, 356, 357, 358, 359, 360, 361, 176, 362, 363, 364, 365, 366, 367, 368, 369, 370, 371, 372, 373, 374, 375, 376, 377, 378, 379, 380, 174, 175, 177, 178, 179, 381, 184, 185, 186, 382, 188, 189, 190, 383, 384, 385, 386, 387, 388, 389, 390, 301, 391, 392, 393, 394, 395, 396, 397, 398, 399, 400, 298, 401, 246, 247, 248, 249, 250, 10, 11, 12, 251, 165, 166, 167, 441, 442, 443, 460, 461, 462, 463, 464, 465, 466, 467, 468, 469, 470, 471, 444, 445, 446, 450, 451, 452, 453, 454, 455, 456, 457, 458, 459] (by decide +kernel) (by decide +kernel)
set_option maxRecDepth 20000 in
theorem gX8_join_X7_putTraced : GoodIn wsX8_join (wsV RX8 249 RX7 yX7_putTraced wsX7_putTraced) := goodIn_app (goodIn_of _ (by decide +kernel)) ggX8_join_X7_putTraced
set_option maxRecDepth 20000 in
theorem ggX8_join_X8_takeWritten : GoodIn wsX8_join wsX8_takeWritten := goodIn_r _ [405, 1, 15, 8, 244, 63, 64, 65, 66, 67, 68, 245, 246, 247, 248, 249, 59, 54, 60, 168, 250, 10, 11, 12, 251, 165, 166, 167, 272, 273, 274, 22, 275, 276, 13, 406, 407, 408, 409, 410, 411, 412, 413, 414, 415, 416, 417, 418, 419, 420, 421, 422, 441, 442, 443] (by decide +kernel) (by decide +kernel)
set_option maxRecDepth 20000 in
theorem gX8_join_X8_takeWritten : GoodIn wsX8_join (wsV RX8 144 RX8 yX8_takeWritten wsX8_takeWritten) := goodIn_app (goodIn_of _ (by decide +kernel)) ggX8_join_X8_takeWritten
theorem dX8_join_0 : decode cX8_join 0 = .ok (.aload_n 0, 1) := by decide +kernel
theorem dX8_join_1 : decode cX8_join 1 = .ok (.aload_n 0, 1) := by decide +kernel
theorem dX8_join_2 : decode cX8_join 2 = .ok (.getfield 11, 3) := by decide +kernel
theorem dX8_join_5 : decode cX8_join 5 = .ok (.iconst 0, 1) := by decide +kernel
theorem dX8_join_6 : decode cX8_join 6 = .ok (.aaload, 1) := by decide +kernel
theorem dX8_join_7 : decode cX8_join 7 = .ok (.aload_n 0, 1) := by decide +kernel
theorem dX8_join_8 : decode cX8_join 8 = .ok (.getfield 11, 3) := by decide +kernel
theorem dX8_join_11 : decode cX8_join 11 = .ok (.iconst 2, 1) := by decide +kernel
theorem dX8_join_12 : decode cX8_join 12 = .ok (.aaload, 1) := by decide +kernel
theorem dX8_join_13 : decode cX8_join 13 = .ok (.invokevirtual 165, 3) := by decide +kernel
theorem dX8_join_16 : decode cX8_join 16 = .ok (.aload_n 0, 1) := by decide +kernel
theorem dX8_join_17 : decode cX8_join 17 = .ok (.getfield 48, 3) := by decide +kernel
theorem dX8_join_20 : decode cX8_join 20 = .ok (.getfield 173, 3) := by decide +kernel
theorem dX8_join_23 : decode cX8_join 23 = .ok (.ifCond .ne 61, 3) := by decide +kernel
theorem dX8_join_26 : decode cX8_join 26 = .ok (.aload_n 0, 1) := by decide +kernel
theorem dX8_join_27 : decode cX8_join 27 = .ok (.getfield 25, 3) := by decide +kernel
theorem dX8_join_30 : decode cX8_join 30 = .ok (.invokevirtual 82, 3) := by decide +kernel
theorem dX8_join_33 : decode cX8_join 33 = .ok (.aload_n 0, 1) := by decide +kernel
theorem dX8_join_34 : decode cX8_join 34 = .ok (.getfield 25, 3) := by decide +kernel
theorem dX8_join_37 : decode cX8_join 37 = .ok (.aload_n 0, 1) := by decide +kernel
theorem dX8_join_38 : decode cX8_join 38 = .ok (.getfield 48, 3) := by decide +kernel
theorem dX8_join_41 : decode cX8_join 41 = .ok (.getfield 176, 3) := by decide +kernel
theorem dX8_join_44 : decode cX8_join 44 = .ok (.invokevirtual 158, 3) := by decide +kernel
theorem dX8_join_47 : decode cX8_join 47 = .ok (.aload_n 0, 1) := by decide +kernel
theorem dX8_join_48 : decode cX8_join 48 = .ok (.getfield 48, 3) := by decide +kernel
theorem dX8_join_51 : decode cX8_join 51 = .ok (.getfield 236, 3) := by decide +kernel
theorem dX8_join_54 : decode cX8_join 54 = .ok (.iconst 0, 1) := by decide +kernel
theorem dX8_join_55 : decode cX8_join 55 = .ok (.aload_n 0, 1) := by decide +kernel
theorem dX8_join_56 : decode cX8_join 56 = .ok (.getfield 28, 3) := by decide +kernel
theorem dX8_join_59 : decode cX8_join 59 = .ok (.iconst 0, 1) := by decide +kernel
theorem dX8_join_60 : decode cX8_join 60 = .ok (.aload_n 0, 1) := by decide +kernel
theorem dX8_join_61 : decode cX8_join 61 = .ok (.getfield 25, 3) := by decide +kernel
theorem dX8_join_64 : decode cX8_join 64 = .ok (.getfield 92, 3) := by decide +kernel
theorem dX8_join_67 : decode cX8_join 67 = .ok (.invokestatic 239, 3) := by decide +kernel
theorem dX8_join_70 : decode cX8_join 70 = .ok (.aload_n 0, 1) := by decide +kernel
theorem dX8_join_71 : decode cX8_join 71 = .ok (.aload_n 0, 1) := by decide +kernel
theorem dX8_join_72 : decode cX8_join 72 = .ok (.getfield 25, 3) := by decide +kernel
theorem dX8_join_75 : decode cX8_join 75 = .ok (.aload_n 0, 1) := by decide +kernel
theorem dX8_join_76 : decode cX8_join 76 = .ok (.getfield 11, 3) := by decide +kernel
theorem dX8_join_79 : decode cX8_join 79 = .ok (.iconst 3, 1) := by decide +kernel
theorem dX8_join_80 : decode cX8_join 80 = .ok (.aaload, 1) := by decide +kernel
theorem dX8_join_81 : decode cX8_join 81 = .ok (.invokevirtual 165, 3) := by decide +kernel
theorem dX8_join_84 : decode cX8_join 84 = .ok (.aload_n 0, 1) := by decide +kernel
theorem dX8_join_85 : decode cX8_join 85 = .ok (.getfield 69, 3) := by decide +kernel
theorem dX8_join_88 : decode cX8_join 88 = .ok (.getfield 169, 3) := by decide +kernel
theorem dX8_join_91 : decode cX8_join 91 = .ok (.istore_n 1, 1) := by decide +kernel
theorem dX8_join_92 : decode cX8_join 92 = .ok (.aload_n 0, 1) := by decide +kernel
theorem dX8_join_93 : decode cX8_join 93 = .ok (.getfield 48, 3) := by decide +kernel
theorem dX8_join_96 : decode cX8_join 96 = .ok (.getfield 173, 3) := by decide +kernel
theorem dX8_join_99 : decode cX8_join 99 = .ok (.ifCond .eq 23, 3) := by decide +kernel
theorem dX8_join_102 : decode cX8_join 102 = .ok (.aload_n 0, 1) := by decide +kernel
theorem dX8_join_103 : decode cX8_join 103 = .ok (.iload_n 1, 1) := by decide +kernel
theorem dX8_join_104 : decode cX8_join 104 = .ok (.invokevirtual 170, 3) := by decide +kernel
theorem dX8_join_107 : decode cX8_join 107 = .ok (.aload_n 0, 1) := by decide +kernel
theorem dX8_join_108 : decode cX8_join 108 = .ok (.invokevirtual 162, 3) := by decide +kernel
theorem dX8_join_111 : decode cX8_join 111 = .ok (.bipush (-10), 2) := by decide +kernel
theorem dX8_join_113 : decode cX8_join 113 = .ok (.aload_n 0, 1) := by decide +kernel
theorem dX8_join_114 : decode cX8_join 114 = .ok (.getfield 48, 3) := by decide +kernel
theorem dX8_join_117 : decode cX8_join 117 = .ok (.getfield 173, 3) := by decide +kernel
theorem dX8_join_120 : decode cX8_join 120 = .ok (.isub, 1) := by decide +kernel
theorem dX8_join_121 : decode cX8_join 121 = .ok (.ireturn, 1) := by decide +kernel
theorem dX8_join_122 : decode cX8_join 122 = .ok (.aload_n 0, 1) := by decide +kernel
theorem dX8_join_123 : decode cX8_join 123 = .ok (.getfield 48, 3) := by decide +kernel
theorem dX8_join_126 : decode cX8_join 126 = .ok (.aload_n 0, 1) := by decide +kernel
theorem dX8_join_127 : decode cX8_join 127 = .ok (.getfield 28, 3) := by decide +kernel
theorem dX8_join_130 : decode cX8_join 130 = .ok (.aload_n 0, 1) := by decide +kernel
theorem dX8_join_131 : decode cX8_join 131 = .ok (.getfield 25, 3) := by decide +kernel
theorem dX8_join_134 : decode cX8_join 134 = .ok (.getfield 92, 3) := by decide +kernel
theorem dX8_join_137 : decode cX8_join 137 = .ok (.invokevirtual 245, 3) := by decide +kernel
theorem dX8_join_140 : decode cX8_join 140 = .ok (.aload_n 0, 1) := by decide +kernel
theorem dX8_join_141 : decode cX8_join 141 = .ok (.aload_n 0, 1) := by decide +kernel
theorem dX8_join_142 : decode cX8_join 142 = .ok (.getfield 18, 3) := by decide +kernel
theorem dX8_join_145 : decode cX8_join 145 = .ok (.iconst 0, 1) := by decide +kernel
theorem dX8_join_146 : decode cX8_join 146 = .ok (.invokevirtual 126, 3) := by decide +kernel
theorem dX8_join_149 : decode cX8_join 149 = .ok (.aload_n 0, 1) := by decide +kernel
theorem dX8_join_150 : decode cX8_join 150 = .ok (.getfield 58, 3) := by decide +kernel
theorem dX8_join_153 : decode cX8_join 153 = .ok (.aload_n 0, 1) := by decide +kernel
theorem dX8_join_154 : decode cX8_join 154 = .ok (.getfield 35, 3) := by decide +kernel
theorem dX8_join_157 : decode cX8_join 157 = .ok (.aload_n 0, 1) := by decide +kernel
theorem dX8_join_158 : decode cX8_join 158 = .ok (.getfield 11, 3) := by decide +kernel
theorem dX8_join_161 : decode cX8_join 161 = .ok (.iconst 0, 1) := by decide +kernel
theorem dX8_join_162 : decode cX8_join 162 = .ok (.aaload, 1) := by decide +kernel
theorem dX8_join_163 : decode cX8_join 163 = .ok (.getfield 92, 3) := by decide +kernel
theorem dX8_join_166 : decode cX8_join 166 = .ok (.aload_n 0, 1) := by decide +kernel
theorem dX8_join_167 : decode cX8_join 167 = .ok (.getfield 48, 3) := by decide +kernel
theorem dX8_join_170 : decode cX8_join 170 = .ok (.getfield 176, 3) := by decide +kernel
theorem dX8_join_173 : decode cX8_join 173 = .ok (.aload_n 0, 1) := by decide +kernel
theorem dX8_join_174 : decode cX8_join 174 = .ok (.getfield 48, 3) := by decide +kernel
theorem dX8_join_177 : decode cX8_join 177 = .ok (.getfield 236, 3) := by decide +kernel
theorem dX8_join_180 : decode cX8_join 180 = .ok (.invokevirtual 249, 3) := by decide +kernel
theorem dX8_join_183 : decode cX8_join 183 = .ok (.aload_n 0, 1) := by decide +kernel
theorem dX8_join_184 : decode cX8_join 184 = .ok (.getfield 18, 3) := by decide +kernel
theorem dX8_join_187 : decode cX8_join 187 = .ok (.getfield 141, 3) := by decide +kernel
theorem dX8_join_190 : decode cX8_join 190 = .ok (.ifCond .eq 6, 3) := by decide +kernel
theorem dX8_join_193 : decode cX8_join 193 = .ok (.bipush (-4), 2) := by decide +kernel
theorem dX8_join_195 : decode cX8_join 195 = .ok (.ireturn, 1) := by decide +kernel
theorem dX8_join_196 : decode cX8_join 196 = .ok (.aload_n 0, 1) := by decide +kernel
theorem dX8_join_197 : decode cX8_join 197 = .ok (.iload_n 1, 1) := by decide +kernel
theorem dX8_join_198 : decode cX8_join 198 = .ok (.invokevirtual 170, 3) := by decide +kernel
theorem dX8_join_201 : decode cX8_join 201 = .ok (.aload_n 0, 1) := by decide +kernel
theorem dX8_join_202 : decode cX8_join 202 = .ok (.invokevirtual 144, 3) := by decide +kernel
theorem dX8_join_205 : decode cX8_join 205 = .ok (.ireturn, 1) := by decide +kernel
theorem dX8_told_0 : decode cX8_told 0 = .ok (.iload_n 1, 1) := by decide +kernel
theorem dX8_told_1 : decode cX8_told 1 = .ok (.tableswitch 51 0 3 #[31, 36, 41, 46], 31) := by decide +kernel
theorem dX8_told_32 : decode cX8_told 32 = .ok (.aload_n 0, 1) := by decide +kernel
theorem dX8_told_33 : decode cX8_told 33 = .ok (.getfield 218, 3) := by decide +kernel
theorem dX8_told_36 : decode cX8_told 36 = .ok (.ireturn, 1) := by decide +kernel
theorem dX8_told_37 : decode cX8_told 37 = .ok (.aload_n 0, 1) := by decide +kernel
theorem dX8_told_38 : decode cX8_told 38 = .ok (.getfield 224, 3) := by decide +kernel
theorem dX8_told_41 : decode cX8_told 41 = .ok (.ireturn, 1) := by decide +kernel
theorem dX8_told_42 : decode cX8_told 42 = .ok (.aload_n 0, 1) := by decide +kernel
theorem dX8_told_43 : decode cX8_told 43 = .ok (.getfield 230, 3) := by decide +kernel
theorem dX8_told_46 : decode cX8_told 46 = .ok (.ireturn, 1) := by decide +kernel
theorem dX8_told_47 : decode cX8_told 47 = .ok (.aload_n 0, 1) := by decide +kernel
theorem dX8_told_48 : decode cX8_told 48 = .ok (.getfield 233, 3) := by decide +kernel
theorem dX8_told_51 : decode cX8_told 51 = .ok (.ireturn, 1) := by decide +kernel
theorem dX8_told_52 : decode cX8_told 52 = .ok (.bipush (-2), 2) := by decide +kernel
theorem dX8_told_54 : decode cX8_told 54 = .ok (.ireturn, 1) := by decide +kernel
set_option maxRecDepth 20000 in
theorem ggX8_instruction_X5_has : GoodIn wsX8_instruction wsX5_has := goodIn_r _ [6, 7, 8, 32, 33, 34] (by decide +kernel) (by decide +kernel)
set_option maxRecDepth 20000 in
theorem gX8_instruction_X5_has : GoodIn wsX8_instruction (wsV RX8 253 RX5 yX5_has wsX5_has) := goodIn_app (goodIn_of _ (by decide +kernel)) ggX8_instruction_X5_has
set_option maxRecDepth 20000 in
theorem ggX8_instruction_X5_at : GoodIn wsX8_instruction wsX5_at := goodIn_r _ [12, 13, 14, 3, 4, 5, 6, 7, 8, 32, 33, 34] (by decide +kernel) (by decide +kernel)
set_option maxRecDepth 20000 in
theorem gX8_instruction_X5_at : GoodIn wsX8_instruction (wsV RX8 254 RX5 yX5_at wsX5_at) := goodIn_app (goodIn_of _ (by decide +kernel)) ggX8_instruction_X5_at
theorem dX8_instruction_0 : decode cX8_instruction 0 = .ok (.aload_n 0, 1) := by decide +kernel
theorem dX8_instruction_1 : decode cX8_instruction 1 = .ok (.getfield 65, 3) := by decide +kernel
theorem dX8_instruction_4 : decode cX8_instruction 4 = .ok (.iload_n 1, 1) := by decide +kernel
theorem dX8_instruction_5 : decode cX8_instruction 5 = .ok (.invokevirtual 253, 3) := by decide +kernel
theorem dX8_instruction_8 : decode cX8_instruction 8 = .ok (.ifCond .ne 5, 3) := by decide +kernel
theorem dX8_instruction_11 : decode cX8_instruction 11 = .ok (.iconst (-1), 1) := by decide +kernel
theorem dX8_instruction_12 : decode cX8_instruction 12 = .ok (.ireturn, 1) := by decide +kernel
theorem dX8_instruction_13 : decode cX8_instruction 13 = .ok (.iload_n 2, 1) := by decide +kernel
theorem dX8_instruction_14 : decode cX8_instruction 14 = .ok (.ifCond .lt 9, 3) := by decide +kernel
theorem dX8_instruction_17 : decode cX8_instruction 17 = .ok (.iload_n 2, 1) := by decide +kernel
theorem dX8_instruction_18 : decode cX8_instruction 18 = .ok (.bipush 6, 2) := by decide +kernel
theorem dX8_instruction_20 : decode cX8_instruction 20 = .ok (.if_icmp .lt 8, 3) := by decide +kernel
theorem dX8_instruction_23 : decode cX8_instruction 23 = .ok (.bipush (-2), 2) := by decide +kernel
theorem dX8_instruction_25 : decode cX8_instruction 25 = .ok (.goto 12, 3) := by decide +kernel
theorem dX8_instruction_28 : decode cX8_instruction 28 = .ok (.aload_n 0, 1) := by decide +kernel
theorem dX8_instruction_29 : decode cX8_instruction 29 = .ok (.getfield 65, 3) := by decide +kernel
theorem dX8_instruction_32 : decode cX8_instruction 32 = .ok (.iload_n 1, 1) := by decide +kernel
theorem dX8_instruction_33 : decode cX8_instruction 33 = .ok (.iload_n 2, 1) := by decide +kernel
theorem dX8_instruction_34 : decode cX8_instruction 34 = .ok (.invokevirtual 254, 3) := by decide +kernel
theorem dX8_instruction_37 : decode cX8_instruction 37 = .ok (.ireturn, 1) := by decide +kernel
theorem dX8_isRow_0 : decode cX8_isRow 0 = .ok (.iload_n 0, 1) := by decide +kernel
theorem dX8_isRow_1 : decode cX8_isRow 1 = .ok (.ifCond .lt 12, 3) := by decide +kernel
theorem dX8_isRow_4 : decode cX8_isRow 4 = .ok (.iload_n 0, 1) := by decide +kernel
theorem dX8_isRow_5 : decode cX8_isRow 5 = .ok (.iconst 4, 1) := by decide +kernel
theorem dX8_isRow_6 : decode cX8_isRow 6 = .ok (.if_icmp .ge 7, 3) := by decide +kernel
theorem dX8_isRow_9 : decode cX8_isRow 9 = .ok (.iconst 1, 1) := by decide +kernel
theorem dX8_isRow_10 : decode cX8_isRow 10 = .ok (.goto 4, 3) := by decide +kernel
theorem dX8_isRow_13 : decode cX8_isRow 13 = .ok (.iconst 0, 1) := by decide +kernel
theorem dX8_isRow_14 : decode cX8_isRow 14 = .ok (.ireturn, 1) := by decide +kernel
theorem dX8_numberSize_0 : decode cX8_numberSize 0 = .ok (.iconst 1, 1) := by decide +kernel
theorem dX8_numberSize_1 : decode cX8_numberSize 1 = .ok (.istore_n 1, 1) := by decide +kernel
theorem dX8_numberSize_2 : decode cX8_numberSize 2 = .ok (.iload_n 0, 1) := by decide +kernel
theorem dX8_numberSize_3 : decode cX8_numberSize 3 = .ok (.bipush 7, 2) := by decide +kernel
theorem dX8_numberSize_5 : decode cX8_numberSize 5 = .ok (.iushr, 1) := by decide +kernel
theorem dX8_numberSize_6 : decode cX8_numberSize 6 = .ok (.istore_n 2, 1) := by decide +kernel
theorem dX8_numberSize_7 : decode cX8_numberSize 7 = .ok (.iload_n 2, 1) := by decide +kernel
theorem dX8_numberSize_8 : decode cX8_numberSize 8 = .ok (.ifCond .eq 14, 3) := by decide +kernel
theorem dX8_numberSize_11 : decode cX8_numberSize 11 = .ok (.iinc 1 1, 3) := by decide +kernel
theorem dX8_numberSize_14 : decode cX8_numberSize 14 = .ok (.iload_n 2, 1) := by decide +kernel
theorem dX8_numberSize_15 : decode cX8_numberSize 15 = .ok (.bipush 7, 2) := by decide +kernel
theorem dX8_numberSize_17 : decode cX8_numberSize 17 = .ok (.iushr, 1) := by decide +kernel
theorem dX8_numberSize_18 : decode cX8_numberSize 18 = .ok (.istore_n 2, 1) := by decide +kernel
theorem dX8_numberSize_19 : decode cX8_numberSize 19 = .ok (.goto (-12), 3) := by decide +kernel
theorem dX8_numberSize_22 : decode cX8_numberSize 22 = .ok (.iload_n 1, 1) := by decide +kernel
theorem dX8_numberSize_23 : decode cX8_numberSize 23 = .ok (.ireturn, 1) := by decide +kernel
