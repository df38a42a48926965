theorem dX0_init_0 : decode cX0_init 0 = .ok (.aload_n 0, 1) := by decide +kernel
theorem dX0_init_1 : decode cX0_init 1 = .ok (.invokespecial 3, 3) := by decide +kernel
theorem dX0_init_4 : decode cX0_init 4 = .ok (.aload_n 0, 1) := by decide +kernel
theorem dX0_init_5 : decode cX0_init 5 = .ok (.bipush 8, 2) := by decide +kernel
theorem dX0_init_7 : decode cX0_init 7 = .ok (.newarray .int, 2) := by decide +kernel
theorem dX0_init_9 : decode cX0_init 9 = .ok (.putfield 9, 3) := by decide +kernel
theorem dX0_init_12 : decode cX0_init 12 = .ok (.aload_n 0, 1) := by decide +kernel
theorem dX0_init_13 : decode cX0_init 13 = .ok (.sipush 1024, 3) := by decide +kernel
theorem dX0_init_16 : decode cX0_init 16 = .ok (.newarray .int, 2) := by decide +kernel
theorem dX0_init_18 : decode cX0_init 18 = .ok (.putfield 15, 3) := by decide +kernel
theorem dX0_init_21 : decode cX0_init 21 = .ok (.return_, 1) := by decide +kernel
theorem dX0_begin_0 : decode cX0_begin 0 = .ok (.aload_n 0, 1) := by decide +kernel
theorem dX0_begin_1 : decode cX0_begin 1 = .ok (.iconst 0, 1) := by decide +kernel
theorem dX0_begin_2 : decode cX0_begin 2 = .ok (.aload_n 1, 1) := by decide +kernel
theorem dX0_begin_3 : decode cX0_begin 3 = .ok (.getfield 18, 3) := by decide +kernel
theorem dX0_begin_6 : decode cX0_begin 6 = .ok (.bipush 8, 2) := by decide +kernel
theorem dX0_begin_8 : decode cX0_begin 8 = .ok (.invokestatic 24, 3) := by decide +kernel
theorem dX0_begin_11 : decode cX0_begin 11 = .ok (.invokestatic 30, 3) := by decide +kernel
theorem dX0_begin_14 : decode cX0_begin 14 = .ok (.putfield 33, 3) := by decide +kernel
theorem dX0_begin_17 : decode cX0_begin 17 = .ok (.aload_n 0, 1) := by decide +kernel
theorem dX0_begin_18 : decode cX0_begin 18 = .ok (.iconst 0, 1) := by decide +kernel
theorem dX0_begin_19 : decode cX0_begin 19 = .ok (.aload_n 1, 1) := by decide +kernel
theorem dX0_begin_20 : decode cX0_begin 20 = .ok (.getfield 34, 3) := by decide +kernel
theorem dX0_begin_23 : decode cX0_begin 23 = .ok (.iconst 4, 1) := by decide +kernel
theorem dX0_begin_24 : decode cX0_begin 24 = .ok (.invokestatic 24, 3) := by decide +kernel
theorem dX0_begin_27 : decode cX0_begin 27 = .ok (.invokestatic 30, 3) := by decide +kernel
theorem dX0_begin_30 : decode cX0_begin 30 = .ok (.putfield 37, 3) := by decide +kernel
theorem dX0_begin_33 : decode cX0_begin 33 = .ok (.aload_n 0, 1) := by decide +kernel
theorem dX0_begin_34 : decode cX0_begin 34 = .ok (.iconst 0, 1) := by decide +kernel
theorem dX0_begin_35 : decode cX0_begin 35 = .ok (.putfield 38, 3) := by decide +kernel
theorem dX0_begin_38 : decode cX0_begin 38 = .ok (.aload_n 0, 1) := by decide +kernel
theorem dX0_begin_39 : decode cX0_begin 39 = .ok (.getfield 9, 3) := by decide +kernel
theorem dX0_begin_42 : decode cX0_begin 42 = .ok (.iconst 0, 1) := by decide +kernel
theorem dX0_begin_43 : decode cX0_begin 43 = .ok (.invokestatic 41, 3) := by decide +kernel
theorem dX0_begin_46 : decode cX0_begin 46 = .ok (.aload_n 0, 1) := by decide +kernel
theorem dX0_begin_47 : decode cX0_begin 47 = .ok (.getfield 15, 3) := by decide +kernel
theorem dX0_begin_50 : decode cX0_begin 50 = .ok (.iconst 0, 1) := by decide +kernel
theorem dX0_begin_51 : decode cX0_begin 51 = .ok (.invokestatic 41, 3) := by decide +kernel
theorem dX0_begin_54 : decode cX0_begin 54 = .ok (.return_, 1) := by decide +kernel
theorem dX0_isSameMode_0 : decode cX0_isSameMode 0 = .ok (.iload_n 1, 1) := by decide +kernel
theorem dX0_isSameMode_1 : decode cX0_isSameMode 1 = .ok (.aload_n 0, 1) := by decide +kernel
theorem dX0_isSameMode_2 : decode cX0_isSameMode 2 = .ok (.getfield 33, 3) := by decide +kernel
theorem dX0_isSameMode_5 : decode cX0_isSameMode 5 = .ok (.iconst 2, 1) := by decide +kernel
theorem dX0_isSameMode_6 : decode cX0_isSameMode 6 = .ok (.iadd, 1) := by decide +kernel
theorem dX0_isSameMode_7 : decode cX0_isSameMode 7 = .ok (.if_icmp .lt 7, 3) := by decide +kernel
theorem dX0_isSameMode_10 : decode cX0_isSameMode 10 = .ok (.iconst 1, 1) := by decide +kernel
theorem dX0_isSameMode_11 : decode cX0_isSameMode 11 = .ok (.goto 4, 3) := by decide +kernel
theorem dX0_isSameMode_14 : decode cX0_isSameMode 14 = .ok (.iconst 0, 1) := by decide +kernel
theorem dX0_isSameMode_15 : decode cX0_isSameMode 15 = .ok (.ireturn, 1) := by decide +kernel
theorem dX0_nearOne_0 : decode cX0_nearOne 0 = .ok (.iload_n 1, 1) := by decide +kernel
theorem dX0_nearOne_1 : decode cX0_nearOne 1 = .ok (.iconst 2, 1) := by decide +kernel
theorem dX0_nearOne_2 : decode cX0_nearOne 2 = .ok (.isub, 1) := by decide +kernel
theorem dX0_nearOne_3 : decode cX0_nearOne 3 = .ok (.istore_n 2, 1) := by decide +kernel
theorem dX0_nearOne_4 : decode cX0_nearOne 4 = .ok (.iload_n 2, 1) := by decide +kernel
theorem dX0_nearOne_5 : decode cX0_nearOne 5 = .ok (.ifCond .lt 20, 3) := by decide +kernel
theorem dX0_nearOne_8 : decode cX0_nearOne 8 = .ok (.iload_n 2, 1) := by decide +kernel
theorem dX0_nearOne_9 : decode cX0_nearOne 9 = .ok (.aload_n 0, 1) := by decide +kernel
theorem dX0_nearOne_10 : decode cX0_nearOne 10 = .ok (.getfield 33, 3) := by decide +kernel
theorem dX0_nearOne_13 : decode cX0_nearOne 13 = .ok (.if_icmp .ge 12, 3) := by decide +kernel
theorem dX0_nearOne_16 : decode cX0_nearOne 16 = .ok (.aload_n 0, 1) := by decide +kernel
theorem dX0_nearOne_17 : decode cX0_nearOne 17 = .ok (.getfield 9, 3) := by decide +kernel
theorem dX0_nearOne_20 : decode cX0_nearOne 20 = .ok (.iload_n 2, 1) := by decide +kernel
theorem dX0_nearOne_21 : decode cX0_nearOne 21 = .ok (.iaload, 1) := by decide +kernel
theorem dX0_nearOne_22 : decode cX0_nearOne 22 = .ok (.goto 4, 3) := by decide +kernel
theorem dX0_nearOne_25 : decode cX0_nearOne 25 = .ok (.iconst 0, 1) := by decide +kernel
theorem dX0_nearOne_26 : decode cX0_nearOne 26 = .ok (.ireturn, 1) := by decide +kernel
theorem dX0_sameOne_0 : decode cX0_sameOne 0 = .ok (.sipush 256, 3) := by decide +kernel
theorem dX0_sameOne_3 : decode cX0_sameOne 3 = .ok (.iload_n 1, 1) := by decide +kernel
theorem dX0_sameOne_4 : decode cX0_sameOne 4 = .ok (.aload_n 0, 1) := by decide +kernel
theorem dX0_sameOne_5 : decode cX0_sameOne 5 = .ok (.getfield 33, 3) := by decide +kernel
theorem dX0_sameOne_8 : decode cX0_sameOne 8 = .ok (.isub, 1) := by decide +kernel
theorem dX0_sameOne_9 : decode cX0_sameOne 9 = .ok (.iconst 2, 1) := by decide +kernel
theorem dX0_sameOne_10 : decode cX0_sameOne 10 = .ok (.isub, 1) := by decide +kernel
theorem dX0_sameOne_11 : decode cX0_sameOne 11 = .ok (.imul, 1) := by decide +kernel
theorem dX0_sameOne_12 : decode cX0_sameOne 12 = .ok (.iload_n 2, 1) := by decide +kernel
theorem dX0_sameOne_13 : decode cX0_sameOne 13 = .ok (.iadd, 1) := by decide +kernel
theorem dX0_sameOne_14 : decode cX0_sameOne 14 = .ok (.istore_n 3, 1) := by decide +kernel
theorem dX0_sameOne_15 : decode cX0_sameOne 15 = .ok (.iload_n 3, 1) := by decide +kernel
theorem dX0_sameOne_16 : decode cX0_sameOne 16 = .ok (.ifCond .lt 24, 3) := by decide +kernel
theorem dX0_sameOne_19 : decode cX0_sameOne 19 = .ok (.iload_n 3, 1) := by decide +kernel
theorem dX0_sameOne_20 : decode cX0_sameOne 20 = .ok (.sipush 256, 3) := by decide +kernel
theorem dX0_sameOne_23 : decode cX0_sameOne 23 = .ok (.aload_n 0, 1) := by decide +kernel
theorem dX0_sameOne_24 : decode cX0_sameOne 24 = .ok (.getfield 37, 3) := by decide +kernel
theorem dX0_sameOne_27 : decode cX0_sameOne 27 = .ok (.imul, 1) := by decide +kernel
theorem dX0_sameOne_28 : decode cX0_sameOne 28 = .ok (.if_icmp .ge 12, 3) := by decide +kernel
theorem dX0_sameOne_31 : decode cX0_sameOne 31 = .ok (.aload_n 0, 1) := by decide +kernel
theorem dX0_sameOne_32 : decode cX0_sameOne 32 = .ok (.getfield 15, 3) := by decide +kernel
theorem dX0_sameOne_35 : decode cX0_sameOne 35 = .ok (.iload_n 3, 1) := by decide +kernel
theorem dX0_sameOne_36 : decode cX0_sameOne 36 = .ok (.iaload, 1) := by decide +kernel
theorem dX0_sameOne_37 : decode cX0_sameOne 37 = .ok (.goto 4, 3) := by decide +kernel
theorem dX0_sameOne_40 : decode cX0_sameOne 40 = .ok (.iconst 0, 1) := by decide +kernel
theorem dX0_sameOne_41 : decode cX0_sameOne 41 = .ok (.ireturn, 1) := by decide +kernel
theorem dX0_cheapestMode_0 : decode cX0_cheapestMode 0 = .ok (.iconst 0, 1) := by decide +kernel
theorem dX0_cheapestMode_1 : decode cX0_cheapestMode 1 = .ok (.istore_n 3, 1) := by decide +kernel
theorem dX0_cheapestMode_2 : decode cX0_cheapestMode 2 = .ok (.iload_n 1, 1) := by decide +kernel
theorem dX0_cheapestMode_3 : decode cX0_cheapestMode 3 = .ok (.invokestatic 47, 3) := by decide +kernel
theorem dX0_cheapestMode_6 : decode cX0_cheapestMode 6 = .ok (.istore 4, 2) := by decide +kernel
theorem dX0_cheapestMode_8 : decode cX0_cheapestMode 8 = .ok (.iload_n 2, 1) := by decide +kernel
theorem dX0_cheapestMode_9 : decode cX0_cheapestMode 9 = .ok (.iload_n 1, 1) := by decide +kernel
theorem dX0_cheapestMode_10 : decode cX0_cheapestMode 10 = .ok (.isub, 1) := by decide +kernel
theorem dX0_cheapestMode_11 : decode cX0_cheapestMode 11 = .ok (.invokestatic 47, 3) := by decide +kernel
theorem dX0_cheapestMode_14 : decode cX0_cheapestMode 14 = .ok (.iload 4, 2) := by decide +kernel
theorem dX0_cheapestMode_16 : decode cX0_cheapestMode 16 = .ok (.if_icmp .ge 13, 3) := by decide +kernel
theorem dX0_cheapestMode_19 : decode cX0_cheapestMode 19 = .ok (.iconst 1, 1) := by decide +kernel
theorem dX0_cheapestMode_20 : decode cX0_cheapestMode 20 = .ok (.istore_n 3, 1) := by decide +kernel
theorem dX0_cheapestMode_21 : decode cX0_cheapestMode 21 = .ok (.iload_n 2, 1) := by decide +kernel
theorem dX0_cheapestMode_22 : decode cX0_cheapestMode 22 = .ok (.iload_n 1, 1) := by decide +kernel
theorem dX0_cheapestMode_23 : decode cX0_cheapestMode 23 = .ok (.isub, 1) := by decide +kernel
theorem dX0_cheapestMode_24 : decode cX0_cheapestMode 24 = .ok (.invokestatic 47, 3) := by decide +kernel
theorem dX0_cheapestMode_27 : decode cX0_cheapestMode 27 = .ok (.istore 4, 2) := by decide +kernel
theorem dX0_cheapestMode_29 : decode cX0_cheapestMode 29 = .ok (.iconst 0, 1) := by decide +kernel
theorem dX0_cheapestMode_30 : decode cX0_cheapestMode 30 = .ok (.istore 5, 2) := by decide +kernel
theorem dX0_cheapestMode_32 : decode cX0_cheapestMode 32 = .ok (.iload 5, 2) := by decide +kernel
theorem dX0_cheapestMode_34 : decode cX0_cheapestMode 34 = .ok (.aload_n 0, 1) := by decide +kernel
theorem dX0_cheapestMode_35 : decode cX0_cheapestMode 35 = .ok (.getfield 33, 3) := by decide +kernel
theorem dX0_cheapestMode_38 : decode cX0_cheapestMode 38 = .ok (.if_icmp .ge 47, 3) := by decide +kernel
theorem dX0_cheapestMode_41 : decode cX0_cheapestMode 41 = .ok (.iload_n 1, 1) := by decide +kernel
theorem dX0_cheapestMode_42 : decode cX0_cheapestMode 42 = .ok (.aload_n 0, 1) := by decide +kernel
theorem dX0_cheapestMode_43 : decode cX0_cheapestMode 43 = .ok (.getfield 9, 3) := by decide +kernel
theorem dX0_cheapestMode_46 : decode cX0_cheapestMode 46 = .ok (.iload 5, 2) := by decide +kernel
theorem dX0_cheapestMode_48 : decode cX0_cheapestMode 48 = .ok (.iaload, 1) := by decide +kernel
theorem dX0_cheapestMode_49 : decode cX0_cheapestMode 49 = .ok (.isub, 1) := by decide +kernel
theorem dX0_cheapestMode_50 : decode cX0_cheapestMode 50 = .ok (.istore 6, 2) := by decide +kernel
theorem dX0_cheapestMode_52 : decode cX0_cheapestMode 52 = .ok (.iload 6, 2) := by decide +kernel
theorem dX0_cheapestMode_54 : decode cX0_cheapestMode 54 = .ok (.ifCond .lt 25, 3) := by decide +kernel
theorem dX0_cheapestMode_57 : decode cX0_cheapestMode 57 = .ok (.iload 6, 2) := by decide +kernel
theorem dX0_cheapestMode_59 : decode cX0_cheapestMode 59 = .ok (.invokestatic 47, 3) := by decide +kernel
theorem dX0_cheapestMode_62 : decode cX0_cheapestMode 62 = .ok (.iload 4, 2) := by decide +kernel
theorem dX0_cheapestMode_64 : decode cX0_cheapestMode 64 = .ok (.if_icmp .ge 15, 3) := by decide +kernel
theorem dX0_cheapestMode_67 : decode cX0_cheapestMode 67 = .ok (.iconst 2, 1) := by decide +kernel
theorem dX0_cheapestMode_68 : decode cX0_cheapestMode 68 = .ok (.iload 5, 2) := by decide +kernel
theorem dX0_cheapestMode_70 : decode cX0_cheapestMode 70 = .ok (.iadd, 1) := by decide +kernel
theorem dX0_cheapestMode_71 : decode cX0_cheapestMode 71 = .ok (.istore_n 3, 1) := by decide +kernel
theorem dX0_cheapestMode_72 : decode cX0_cheapestMode 72 = .ok (.iload 6, 2) := by decide +kernel
theorem dX0_cheapestMode_74 : decode cX0_cheapestMode 74 = .ok (.invokestatic 47, 3) := by decide +kernel
theorem dX0_cheapestMode_77 : decode cX0_cheapestMode 77 = .ok (.istore 4, 2) := by decide +kernel
theorem dX0_cheapestMode_79 : decode cX0_cheapestMode 79 = .ok (.iinc 5 1, 3) := by decide +kernel
theorem dX0_cheapestMode_82 : decode cX0_cheapestMode 82 = .ok (.goto (-50), 3) := by decide +kernel
theorem dX0_cheapestMode_85 : decode cX0_cheapestMode 85 = .ok (.iload 4, 2) := by decide +kernel
theorem dX0_cheapestMode_87 : decode cX0_cheapestMode 87 = .ok (.iconst 1, 1) := by decide +kernel
theorem dX0_cheapestMode_88 : decode cX0_cheapestMode 88 = .ok (.if_icmp .le 51, 3) := by decide +kernel
theorem dX0_cheapestMode_91 : decode cX0_cheapestMode 91 = .ok (.aload_n 0, 1) := by decide +kernel
theorem dX0_cheapestMode_92 : decode cX0_cheapestMode 92 = .ok (.getfield 37, 3) := by decide +kernel
theorem dX0_cheapestMode_95 : decode cX0_cheapestMode 95 = .ok (.ifCond .le 44, 3) := by decide +kernel
theorem dX0_cheapestMode_98 : decode cX0_cheapestMode 98 = .ok (.aload_n 0, 1) := by decide +kernel
theorem dX0_cheapestMode_99 : decode cX0_cheapestMode 99 = .ok (.getfield 15, 3) := by decide +kernel
theorem dX0_cheapestMode_102 : decode cX0_cheapestMode 102 = .ok (.iload_n 1, 1) := by decide +kernel
theorem dX0_cheapestMode_103 : decode cX0_cheapestMode 103 = .ok (.sipush 256, 3) := by decide +kernel
theorem dX0_cheapestMode_106 : decode cX0_cheapestMode 106 = .ok (.aload_n 0, 1) := by decide +kernel
theorem dX0_cheapestMode_107 : decode cX0_cheapestMode 107 = .ok (.getfield 37, 3) := by decide +kernel
theorem dX0_cheapestMode_110 : decode cX0_cheapestMode 110 = .ok (.imul, 1) := by decide +kernel
theorem dX0_cheapestMode_111 : decode cX0_cheapestMode 111 = .ok (.irem, 1) := by decide +kernel
theorem dX0_cheapestMode_112 : decode cX0_cheapestMode 112 = .ok (.iaload, 1) := by decide +kernel
theorem dX0_cheapestMode_113 : decode cX0_cheapestMode 113 = .ok (.iload_n 1, 1) := by decide +kernel
theorem dX0_cheapestMode_114 : decode cX0_cheapestMode 114 = .ok (.if_icmp .ne 25, 3) := by decide +kernel
theorem dX0_cheapestMode_117 : decode cX0_cheapestMode 117 = .ok (.aload_n 0, 1) := by decide +kernel
theorem dX0_cheapestMode_118 : decode cX0_cheapestMode 118 = .ok (.getfield 33, 3) := by decide +kernel
theorem dX0_cheapestMode_121 : decode cX0_cheapestMode 121 = .ok (.iconst 2, 1) := by decide +kernel
theorem dX0_cheapestMode_122 : decode cX0_cheapestMode 122 = .ok (.iadd, 1) := by decide +kernel
theorem dX0_cheapestMode_123 : decode cX0_cheapestMode 123 = .ok (.iload_n 1, 1) := by decide +kernel
theorem dX0_cheapestMode_124 : decode cX0_cheapestMode 124 = .ok (.sipush 256, 3) := by decide +kernel
theorem dX0_cheapestMode_127 : decode cX0_cheapestMode 127 = .ok (.aload_n 0, 1) := by decide +kernel
theorem dX0_cheapestMode_128 : decode cX0_cheapestMode 128 = .ok (.getfield 37, 3) := by decide +kernel
theorem dX0_cheapestMode_131 : decode cX0_cheapestMode 131 = .ok (.imul, 1) := by decide +kernel
theorem dX0_cheapestMode_132 : decode cX0_cheapestMode 132 = .ok (.irem, 1) := by decide +kernel
theorem dX0_cheapestMode_133 : decode cX0_cheapestMode 133 = .ok (.sipush 256, 3) := by decide +kernel
theorem dX0_cheapestMode_136 : decode cX0_cheapestMode 136 = .ok (.idiv, 1) := by decide +kernel
theorem dX0_cheapestMode_137 : decode cX0_cheapestMode 137 = .ok (.iadd, 1) := by decide +kernel
theorem dX0_cheapestMode_138 : decode cX0_cheapestMode 138 = .ok (.istore_n 3, 1) := by decide +kernel
theorem dX0_cheapestMode_139 : decode cX0_cheapestMode 139 = .ok (.iload_n 3, 1) := by decide +kernel
theorem dX0_cheapestMode_140 : decode cX0_cheapestMode 140 = .ok (.ireturn, 1) := by decide +kernel
theorem dX0_putAddress_0 : decode cX0_putAddress 0 = .ok (.iload_n 2, 1) := by decide +kernel
theorem dX0_putAddress_1 : decode cX0_putAddress 1 = .ok (.ifCond .ne 11, 3) := by decide +kernel
theorem dX0_putAddress_4 : decode cX0_putAddress 4 = .ok (.aload_n 1, 1) := by decide +kernel
theorem dX0_putAddress_5 : decode cX0_putAddress 5 = .ok (.iload_n 3, 1) := by decide +kernel
theorem dX0_putAddress_6 : decode cX0_putAddress 6 = .ok (.invokevirtual 51, 3) := by decide +kernel
theorem dX0_putAddress_9 : decode cX0_putAddress 9 = .ok (.goto 50, 3) := by decide +kernel
theorem dX0_putAddress_12 : decode cX0_putAddress 12 = .ok (.iload_n 2, 1) := by decide +kernel
theorem dX0_putAddress_13 : decode cX0_putAddress 13 = .ok (.iconst 1, 1) := by decide +kernel
theorem dX0_putAddress_14 : decode cX0_putAddress 14 = .ok (.if_icmp .ne 14, 3) := by decide +kernel
theorem dX0_putAddress_17 : decode cX0_putAddress 17 = .ok (.aload_n 1, 1) := by decide +kernel
theorem dX0_putAddress_18 : decode cX0_putAddress 18 = .ok (.iload 4, 2) := by decide +kernel
theorem dX0_putAddress_20 : decode cX0_putAddress 20 = .ok (.iload_n 3, 1) := by decide +kernel
theorem dX0_putAddress_21 : decode cX0_putAddress 21 = .ok (.isub, 1) := by decide +kernel
theorem dX0_putAddress_22 : decode cX0_putAddress 22 = .ok (.invokevirtual 51, 3) := by decide +kernel
theorem dX0_putAddress_25 : decode cX0_putAddress 25 = .ok (.goto 34, 3) := by decide +kernel
theorem dX0_putAddress_28 : decode cX0_putAddress 28 = .ok (.aload_n 0, 1) := by decide +kernel
theorem dX0_putAddress_29 : decode cX0_putAddress 29 = .ok (.iload_n 2, 1) := by decide +kernel
theorem dX0_putAddress_30 : decode cX0_putAddress 30 = .ok (.invokevirtual 57, 3) := by decide +kernel
theorem dX0_putAddress_33 : decode cX0_putAddress 33 = .ok (.ifCond .eq 15, 3) := by decide +kernel
theorem dX0_putAddress_36 : decode cX0_putAddress 36 = .ok (.aload_n 1, 1) := by decide +kernel
theorem dX0_putAddress_37 : decode cX0_putAddress 37 = .ok (.iload_n 3, 1) := by decide +kernel
theorem dX0_putAddress_38 : decode cX0_putAddress 38 = .ok (.sipush 255, 3) := by decide +kernel
theorem dX0_putAddress_41 : decode cX0_putAddress 41 = .ok (.iand, 1) := by decide +kernel
theorem dX0_putAddress_42 : decode cX0_putAddress 42 = .ok (.invokevirtual 61, 3) := by decide +kernel
theorem dX0_putAddress_45 : decode cX0_putAddress 45 = .ok (.goto 14, 3) := by decide +kernel
theorem dX0_putAddress_48 : decode cX0_putAddress 48 = .ok (.aload_n 1, 1) := by decide +kernel
theorem dX0_putAddress_49 : decode cX0_putAddress 49 = .ok (.iload_n 3, 1) := by decide +kernel
theorem dX0_putAddress_50 : decode cX0_putAddress 50 = .ok (.aload_n 0, 1) := by decide +kernel
theorem dX0_putAddress_51 : decode cX0_putAddress 51 = .ok (.iload_n 2, 1) := by decide +kernel
theorem dX0_putAddress_52 : decode cX0_putAddress 52 = .ok (.invokevirtual 64, 3) := by decide +kernel
theorem dX0_putAddress_55 : decode cX0_putAddress 55 = .ok (.isub, 1) := by decide +kernel
theorem dX0_putAddress_56 : decode cX0_putAddress 56 = .ok (.invokevirtual 51, 3) := by decide +kernel
theorem dX0_putAddress_59 : decode cX0_putAddress 59 = .ok (.return_, 1) := by decide +kernel
theorem dX0_keep_0 : decode cX0_keep 0 = .ok (.aload_n 0, 1) := by decide +kernel
theorem dX0_keep_1 : decode cX0_keep 1 = .ok (.getfield 33, 3) := by decide +kernel
theorem dX0_keep_4 : decode cX0_keep 4 = .ok (.ifCond .le 40, 3) := by decide +kernel
theorem dX0_keep_7 : decode cX0_keep 7 = .ok (.aload_n 0, 1) := by decide +kernel
theorem dX0_keep_8 : decode cX0_keep 8 = .ok (.getfield 9, 3) := by decide +kernel
theorem dX0_keep_11 : decode cX0_keep 11 = .ok (.aload_n 0, 1) := by decide +kernel
theorem dX0_keep_12 : decode cX0_keep 12 = .ok (.getfield 38, 3) := by decide +kernel
theorem dX0_keep_15 : decode cX0_keep 15 = .ok (.iload_n 1, 1) := by decide +kernel
theorem dX0_keep_16 : decode cX0_keep 16 = .ok (.iastore, 1) := by decide +kernel
theorem dX0_keep_17 : decode cX0_keep 17 = .ok (.aload_n 0, 1) := by decide +kernel
theorem dX0_keep_18 : decode cX0_keep 18 = .ok (.aload_n 0, 1) := by decide +kernel
theorem dX0_keep_19 : decode cX0_keep 19 = .ok (.getfield 38, 3) := by decide +kernel
theorem dX0_keep_22 : decode cX0_keep 22 = .ok (.iconst 1, 1) := by decide +kernel
theorem dX0_keep_23 : decode cX0_keep 23 = .ok (.iadd, 1) := by decide +kernel
theorem dX0_keep_24 : decode cX0_keep 24 = .ok (.aload_n 0, 1) := by decide +kernel
theorem dX0_keep_25 : decode cX0_keep 25 = .ok (.getfield 33, 3) := by decide +kernel
theorem dX0_keep_28 : decode cX0_keep 28 = .ok (.if_icmp .ge 12, 3) := by decide +kernel
theorem dX0_keep_31 : decode cX0_keep 31 = .ok (.aload_n 0, 1) := by decide +kernel
theorem dX0_keep_32 : decode cX0_keep 32 = .ok (.getfield 38, 3) := by decide +kernel
theorem dX0_keep_35 : decode cX0_keep 35 = .ok (.iconst 1, 1) := by decide +kernel
theorem dX0_keep_36 : decode cX0_keep 36 = .ok (.iadd, 1) := by decide +kernel
theorem dX0_keep_37 : decode cX0_keep 37 = .ok (.goto 4, 3) := by decide +kernel
theorem dX0_keep_40 : decode cX0_keep 40 = .ok (.iconst 0, 1) := by decide +kernel
theorem dX0_keep_41 : decode cX0_keep 41 = .ok (.putfield 38, 3) := by decide +kernel
theorem dX0_keep_44 : decode cX0_keep 44 = .ok (.aload_n 0, 1) := by decide +kernel
theorem dX0_keep_45 : decode cX0_keep 45 = .ok (.getfield 37, 3) := by decide +kernel
theorem dX0_keep_48 : decode cX0_keep 48 = .ok (.ifCond .le 19, 3) := by decide +kernel
theorem dX0_keep_51 : decode cX0_keep 51 = .ok (.aload_n 0, 1) := by decide +kernel
theorem dX0_keep_52 : decode cX0_keep 52 = .ok (.getfield 15, 3) := by decide +kernel
theorem dX0_keep_55 : decode cX0_keep 55 = .ok (.iload_n 1, 1) := by decide +kernel
theorem dX0_keep_56 : decode cX0_keep 56 = .ok (.sipush 256, 3) := by decide +kernel
theorem dX0_keep_59 : decode cX0_keep 59 = .ok (.aload_n 0, 1) := by decide +kernel
theorem dX0_keep_60 : decode cX0_keep 60 = .ok (.getfield 37, 3) := by decide +kernel
theorem dX0_keep_63 : decode cX0_keep 63 = .ok (.imul, 1) := by decide +kernel
theorem dX0_keep_64 : decode cX0_keep 64 = .ok (.irem, 1) := by decide +kernel
theorem dX0_keep_65 : decode cX0_keep 65 = .ok (.iload_n 1, 1) := by decide +kernel
theorem dX0_keep_66 : decode cX0_keep 66 = .ok (.iastore, 1) := by decide +kernel
theorem dX0_keep_67 : decode cX0_keep 67 = .ok (.return_, 1) := by decide +kernel
theorem dX1_init_0 : decode cX1_init 0 = .ok (.aload_n 0, 1) := by decide +kernel
theorem dX1_init_1 : decode cX1_init 1 = .ok (.invokespecial 3, 3) := by decide +kernel
theorem dX1_init_4 : decode cX1_init 4 = .ok (.aload_n 0, 1) := by decide +kernel
theorem dX1_init_5 : decode cX1_init 5 = .ok (.iconst 0, 1) := by decide +kernel
theorem dX1_init_6 : decode cX1_init 6 = .ok (.newarray .int, 2) := by decide +kernel
theorem dX1_init_8 : decode cX1_init 8 = .ok (.putfield 9, 3) := by decide +kernel
theorem dX1_init_11 : decode cX1_init 11 = .ok (.return_, 1) := by decide +kernel
theorem dX1_set_0 : decode cX1_set 0 = .ok (.aload_n 0, 1) := by decide +kernel
theorem dX1_set_1 : decode cX1_set 1 = .ok (.aload_n 1, 1) := by decide +kernel
theorem dX1_set_2 : decode cX1_set 2 = .ok (.getfield 15, 3) := by decide +kernel
theorem dX1_set_5 : decode cX1_set 5 = .ok (.putfield 9, 3) := by decide +kernel
theorem dX1_set_8 : decode cX1_set 8 = .ok (.aload_n 0, 1) := by decide +kernel
theorem dX1_set_9 : decode cX1_set 9 = .ok (.iload_n 2, 1) := by decide +kernel
theorem dX1_set_10 : decode cX1_set 10 = .ok (.iconst 0, 1) := by decide +kernel
theorem dX1_set_11 : decode cX1_set 11 = .ok (.invokestatic 18, 3) := by decide +kernel
theorem dX1_set_14 : decode cX1_set 14 = .ok (.putfield 24, 3) := by decide +kernel
theorem dX1_set_17 : decode cX1_set 17 = .ok (.aload_n 0, 1) := by decide +kernel
theorem dX1_set_18 : decode cX1_set 18 = .ok (.iload_n 3, 1) := by decide +kernel
theorem dX1_set_19 : decode cX1_set 19 = .ok (.aload_n 1, 1) := by decide +kernel
theorem dX1_set_20 : decode cX1_set 20 = .ok (.getfield 28, 3) := by decide +kernel
theorem dX1_set_23 : decode cX1_set 23 = .ok (.invokestatic 31, 3) := by decide +kernel
theorem dX1_set_26 : decode cX1_set 26 = .ok (.putfield 34, 3) := by decide +kernel
theorem dX1_set_29 : decode cX1_set 29 = .ok (.return_, 1) := by decide +kernel
theorem dX1_left_0 : decode cX1_left 0 = .ok (.aload_n 0, 1) := by decide +kernel
theorem dX1_left_1 : decode cX1_left 1 = .ok (.getfield 34, 3) := by decide +kernel
theorem dX1_left_4 : decode cX1_left 4 = .ok (.aload_n 0, 1) := by decide +kernel
theorem dX1_left_5 : decode cX1_left 5 = .ok (.getfield 24, 3) := by decide +kernel
theorem dX1_left_8 : decode cX1_left 8 = .ok (.isub, 1) := by decide +kernel
theorem dX1_left_9 : decode cX1_left 9 = .ok (.ireturn, 1) := by decide +kernel
theorem dX1_nextOctet_0 : decode cX1_nextOctet 0 = .ok (.aload_n 0, 1) := by decide +kernel
theorem dX1_nextOctet_1 : decode cX1_nextOctet 1 = .ok (.getfield 24, 3) := by decide +kernel
theorem dX1_nextOctet_4 : decode cX1_nextOctet 4 = .ok (.aload_n 0, 1) := by decide +kernel
theorem dX1_nextOctet_5 : decode cX1_nextOctet 5 = .ok (.getfield 34, 3) := by decide +kernel
theorem dX1_nextOctet_8 : decode cX1_nextOctet 8 = .ok (.if_icmp .lt 5, 3) := by decide +kernel
theorem dX1_nextOctet_11 : decode cX1_nextOctet 11 = .ok (.iconst (-1), 1) := by decide +kernel
theorem dX1_nextOctet_12 : decode cX1_nextOctet 12 = .ok (.ireturn, 1) := by decide +kernel
theorem dX1_nextOctet_13 : decode cX1_nextOctet 13 = .ok (.aload_n 0, 1) := by decide +kernel
theorem dX1_nextOctet_14 : decode cX1_nextOctet 14 = .ok (.getfield 9, 3) := by decide +kernel
theorem dX1_nextOctet_17 : decode cX1_nextOctet 17 = .ok (.aload_n 0, 1) := by decide +kernel
theorem dX1_nextOctet_18 : decode cX1_nextOctet 18 = .ok (.getfield 24, 3) := by decide +kernel
theorem dX1_nextOctet_21 : decode cX1_nextOctet 21 = .ok (.iaload, 1) := by decide +kernel
theorem dX1_nextOctet_22 : decode cX1_nextOctet 22 = .ok (.istore_n 1, 1) := by decide +kernel
theorem dX1_nextOctet_23 : decode cX1_nextOctet 23 = .ok (.aload_n 0, 1) := by decide +kernel
theorem dX1_nextOctet_24 : decode cX1_nextOctet 24 = .ok (.dup, 1) := by decide +kernel
theorem dX1_nextOctet_25 : decode cX1_nextOctet 25 = .ok (.getfield 24, 3) := by decide +kernel
theorem dX1_nextOctet_28 : decode cX1_nextOctet 28 = .ok (.iconst 1, 1) := by decide +kernel
theorem dX1_nextOctet_29 : decode cX1_nextOctet 29 = .ok (.iadd, 1) := by decide +kernel
theorem dX1_nextOctet_30 : decode cX1_nextOctet 30 = .ok (.putfield 24, 3) := by decide +kernel
theorem dX1_nextOctet_33 : decode cX1_nextOctet 33 = .ok (.iload_n 1, 1) := by decide +kernel
theorem dX1_nextOctet_34 : decode cX1_nextOctet 34 = .ok (.ireturn, 1) := by decide +kernel
theorem dX1_nextNumber_0 : decode cX1_nextNumber 0 = .ok (.lconst 0, 1) := by decide +kernel
theorem dX1_nextNumber_1 : decode cX1_nextNumber 1 = .ok (.lstore_n 1, 1) := by decide +kernel
theorem dX1_nextNumber_2 : decode cX1_nextNumber 2 = .ok (.iconst 0, 1) := by decide +kernel
theorem dX1_nextNumber_3 : decode cX1_nextNumber 3 = .ok (.istore_n 3, 1) := by decide +kernel
theorem dX1_nextNumber_4 : decode cX1_nextNumber 4 = .ok (.iload_n 3, 1) := by decide +kernel
theorem dX1_nextNumber_5 : decode cX1_nextNumber 5 = .ok (.iconst 5, 1) := by decide +kernel
theorem dX1_nextNumber_6 : decode cX1_nextNumber 6 = .ok (.if_icmp .ge 59, 3) := by decide +kernel
theorem dX1_nextNumber_9 : decode cX1_nextNumber 9 = .ok (.aload_n 0, 1) := by decide +kernel
theorem dX1_nextNumber_10 : decode cX1_nextNumber 10 = .ok (.invokevirtual 37, 3) := by decide +kernel
theorem dX1_nextNumber_13 : decode cX1_nextNumber 13 = .ok (.istore 4, 2) := by decide +kernel
theorem dX1_nextNumber_15 : decode cX1_nextNumber 15 = .ok (.iload 4, 2) := by decide +kernel
theorem dX1_nextNumber_17 : decode cX1_nextNumber 17 = .ok (.ifCond .ge 5, 3) := by decide +kernel
theorem dX1_nextNumber_20 : decode cX1_nextNumber 20 = .ok (.iconst (-1), 1) := by decide +kernel
theorem dX1_nextNumber_21 : decode cX1_nextNumber 21 = .ok (.ireturn, 1) := by decide +kernel
theorem dX1_nextNumber_22 : decode cX1_nextNumber 22 = .ok (.lload_n 1, 1) := by decide +kernel
theorem dX1_nextNumber_23 : decode cX1_nextNumber 23 = .ok (.ldc2_w 41, 3) := by decide +kernel
theorem dX1_nextNumber_26 : decode cX1_nextNumber 26 = .ok (.lmul, 1) := by decide +kernel
theorem dX1_nextNumber_27 : decode cX1_nextNumber 27 = .ok (.iload 4, 2) := by decide +kernel
theorem dX1_nextNumber_29 : decode cX1_nextNumber 29 = .ok (.bipush 127, 2) := by decide +kernel
theorem dX1_nextNumber_31 : decode cX1_nextNumber 31 = .ok (.iand, 1) := by decide +kernel
theorem dX1_nextNumber_32 : decode cX1_nextNumber 32 = .ok (.i2l, 1) := by decide +kernel
theorem dX1_nextNumber_33 : decode cX1_nextNumber 33 = .ok (.ladd, 1) := by decide +kernel
theorem dX1_nextNumber_34 : decode cX1_nextNumber 34 = .ok (.lstore_n 1, 1) := by decide +kernel
theorem dX1_nextNumber_35 : decode cX1_nextNumber 35 = .ok (.iload 4, 2) := by decide +kernel
theorem dX1_nextNumber_37 : decode cX1_nextNumber 37 = .ok (.sipush 128, 3) := by decide +kernel
theorem dX1_nextNumber_40 : decode cX1_nextNumber 40 = .ok (.if_icmp .ge 19, 3) := by decide +kernel
theorem dX1_nextNumber_43 : decode cX1_nextNumber 43 = .ok (.lload_n 1, 1) := by decide +kernel
theorem dX1_nextNumber_44 : decode cX1_nextNumber 44 = .ok (.ldc2_w 43, 3) := by decide +kernel
theorem dX1_nextNumber_47 : decode cX1_nextNumber 47 = .ok (.lcmp, 1) := by decide +kernel
theorem dX1_nextNumber_48 : decode cX1_nextNumber 48 = .ok (.ifCond .le 8, 3) := by decide +kernel
theorem dX1_nextNumber_51 : decode cX1_nextNumber 51 = .ok (.bipush (-2), 2) := by decide +kernel
theorem dX1_nextNumber_53 : decode cX1_nextNumber 53 = .ok (.goto 5, 3) := by decide +kernel
theorem dX1_nextNumber_56 : decode cX1_nextNumber 56 = .ok (.lload_n 1, 1) := by decide +kernel
theorem dX1_nextNumber_57 : decode cX1_nextNumber 57 = .ok (.l2i, 1) := by decide +kernel
theorem dX1_nextNumber_58 : decode cX1_nextNumber 58 = .ok (.ireturn, 1) := by decide +kernel
theorem dX1_nextNumber_59 : decode cX1_nextNumber 59 = .ok (.iinc 3 1, 3) := by decide +kernel
theorem dX1_nextNumber_62 : decode cX1_nextNumber 62 = .ok (.goto (-58), 3) := by decide +kernel
theorem dX1_nextNumber_65 : decode cX1_nextNumber 65 = .ok (.bipush (-2), 2) := by decide +kernel
theorem dX1_nextNumber_67 : decode cX1_nextNumber 67 = .ok (.ireturn, 1) := by decide +kernel
theorem dX2_init_0 : decode cX2_init 0 = .ok (.aload_n 0, 1) := by decide +kernel
theorem dX2_init_1 : decode cX2_init 1 = .ok (.invokespecial 3, 3) := by decide +kernel
theorem dX2_init_4 : decode cX2_init 4 = .ok (.aload_n 0, 1) := by decide +kernel
theorem dX2_init_5 : decode cX2_init 5 = .ok (.sipush 8000, 3) := by decide +kernel
theorem dX2_init_8 : decode cX2_init 8 = .ok (.newarray .int, 2) := by decide +kernel
theorem dX2_init_10 : decode cX2_init 10 = .ok (.putfield 11, 3) := by decide +kernel
theorem dX2_init_13 : decode cX2_init 13 = .ok (.aload_n 0, 1) := by decide +kernel
theorem dX2_init_14 : decode cX2_init 14 = .ok (.sipush 8000, 3) := by decide +kernel
theorem dX2_init_17 : decode cX2_init 17 = .ok (.newarray .int, 2) := by decide +kernel
theorem dX2_init_19 : decode cX2_init 19 = .ok (.putfield 15, 3) := by decide +kernel
theorem dX2_init_22 : decode cX2_init 22 = .ok (.aload_n 0, 1) := by decide +kernel
theorem dX2_init_23 : decode cX2_init 23 = .ok (.sipush 1024, 3) := by decide +kernel
theorem dX2_init_26 : decode cX2_init 26 = .ok (.newarray .int, 2) := by decide +kernel
theorem dX2_init_28 : decode cX2_init 28 = .ok (.putfield 18, 3) := by decide +kernel
theorem dX2_init_31 : decode cX2_init 31 = .ok (.aload_n 0, 1) := by decide +kernel
theorem dX2_init_32 : decode cX2_init 32 = .ok (.sipush 1024, 3) := by decide +kernel
theorem dX2_init_35 : decode cX2_init 35 = .ok (.newarray .int, 2) := by decide +kernel
theorem dX2_init_37 : decode cX2_init 37 = .ok (.putfield 21, 3) := by decide +kernel
theorem dX2_init_40 : decode cX2_init 40 = .ok (.aload_n 0, 1) := by decide +kernel
theorem dX2_init_41 : decode cX2_init 41 = .ok (.sipush 1024, 3) := by decide +kernel
theorem dX2_init_44 : decode cX2_init 44 = .ok (.newarray .int, 2) := by decide +kernel
theorem dX2_init_46 : decode cX2_init 46 = .ok (.putfield 24, 3) := by decide +kernel
theorem dX2_init_49 : decode cX2_init 49 = .ok (.aload_n 0, 1) := by decide +kernel
theorem dX2_init_50 : decode cX2_init 50 = .ok (.sipush 1024, 3) := by decide +kernel
theorem dX2_init_53 : decode cX2_init 53 = .ok (.newarray .int, 2) := by decide +kernel
theorem dX2_init_55 : decode cX2_init 55 = .ok (.putfield 27, 3) := by decide +kernel
theorem dX2_init_58 : decode cX2_init 58 = .ok (.return_, 1) := by decide +kernel
theorem dX2_begin_0 : decode cX2_begin 0 = .ok (.aload_n 0, 1) := by decide +kernel
theorem dX2_begin_1 : decode cX2_begin 1 = .ok (.getfield 18, 3) := by decide +kernel
theorem dX2_begin_4 : decode cX2_begin 4 = .ok (.iconst (-1), 1) := by decide +kernel
theorem dX2_begin_5 : decode cX2_begin 5 = .ok (.invokestatic 30, 3) := by decide +kernel
theorem dX2_begin_8 : decode cX2_begin 8 = .ok (.aload_n 0, 1) := by decide +kernel
theorem dX2_begin_9 : decode cX2_begin 9 = .ok (.iconst 0, 1) := by decide +kernel
theorem dX2_begin_10 : decode cX2_begin 10 = .ok (.putfield 36, 3) := by decide +kernel
theorem dX2_begin_13 : decode cX2_begin 13 = .ok (.aload_n 0, 1) := by decide +kernel
theorem dX2_begin_14 : decode cX2_begin 14 = .ok (.iconst 0, 1) := by decide +kernel
theorem dX2_begin_15 : decode cX2_begin 15 = .ok (.putfield 40, 3) := by decide +kernel
theorem dX2_begin_18 : decode cX2_begin 18 = .ok (.iload_n 2, 1) := by decide +kernel
theorem dX2_begin_19 : decode cX2_begin 19 = .ok (.iconst 1, 1) := by decide +kernel
theorem dX2_begin_20 : decode cX2_begin 20 = .ok (.if_icmp .ne 14, 3) := by decide +kernel
theorem dX2_begin_23 : decode cX2_begin 23 = .ok (.aload_n 0, 1) := by decide +kernel
theorem dX2_begin_24 : decode cX2_begin 24 = .ok (.iconst 0, 1) := by decide +kernel
theorem dX2_begin_25 : decode cX2_begin 25 = .ok (.aload_n 1, 1) := by decide +kernel
theorem dX2_begin_26 : decode cX2_begin 26 = .ok (.iconst 0, 1) := by decide +kernel
theorem dX2_begin_27 : decode cX2_begin 27 = .ok (.aload_n 1, 1) := by decide +kernel
theorem dX2_begin_28 : decode cX2_begin 28 = .ok (.getfield 43, 3) := by decide +kernel
theorem dX2_begin_31 : decode cX2_begin 31 = .ok (.invokevirtual 48, 3) := by decide +kernel
theorem dX2_begin_34 : decode cX2_begin 34 = .ok (.return_, 1) := by decide +kernel
theorem dX2_set_0 : decode cX2_set 0 = .ok (.iload 4, 2) := by decide +kernel
theorem dX2_set_2 : decode cX2_set 2 = .ok (.iload_n 3, 1) := by decide +kernel
theorem dX2_set_3 : decode cX2_set 3 = .ok (.isub, 1) := by decide +kernel
theorem dX2_set_4 : decode cX2_set 4 = .ok (.sipush 8000, 3) := by decide +kernel
theorem dX2_set_7 : decode cX2_set 7 = .ok (.iload_n 1, 1) := by decide +kernel
theorem dX2_set_8 : decode cX2_set 8 = .ok (.isub, 1) := by decide +kernel
theorem dX2_set_9 : decode cX2_set 9 = .ok (.invokestatic 52, 3) := by decide +kernel
theorem dX2_set_12 : decode cX2_set 12 = .ok (.istore 5, 2) := by decide +kernel
theorem dX2_set_14 : decode cX2_set 14 = .ok (.iload 5, 2) := by decide +kernel
theorem dX2_set_16 : decode cX2_set 16 = .ok (.ifCond .le 43, 3) := by decide +kernel
theorem dX2_set_19 : decode cX2_set 19 = .ok (.iload_n 1, 1) := by decide +kernel
theorem dX2_set_20 : decode cX2_set 20 = .ok (.ifCond .lt 39, 3) := by decide +kernel
theorem dX2_set_23 : decode cX2_set 23 = .ok (.iload_n 3, 1) := by decide +kernel
theorem dX2_set_24 : decode cX2_set 24 = .ok (.ifCond .lt 35, 3) := by decide +kernel
theorem dX2_set_27 : decode cX2_set 27 = .ok (.iload 4, 2) := by decide +kernel
theorem dX2_set_29 : decode cX2_set 29 = .ok (.aload_n 2, 1) := by decide +kernel
theorem dX2_set_30 : decode cX2_set 30 = .ok (.getfield 43, 3) := by decide +kernel
theorem dX2_set_33 : decode cX2_set 33 = .ok (.if_icmp .gt 26, 3) := by decide +kernel
theorem dX2_set_36 : decode cX2_set 36 = .ok (.aload_n 2, 1) := by decide +kernel
theorem dX2_set_37 : decode cX2_set 37 = .ok (.getfield 58, 3) := by decide +kernel
theorem dX2_set_40 : decode cX2_set 40 = .ok (.iload_n 3, 1) := by decide +kernel
theorem dX2_set_41 : decode cX2_set 41 = .ok (.aload_n 0, 1) := by decide +kernel
theorem dX2_set_42 : decode cX2_set 42 = .ok (.getfield 11, 3) := by decide +kernel
theorem dX2_set_45 : decode cX2_set 45 = .ok (.iload_n 1, 1) := by decide +kernel
theorem dX2_set_46 : decode cX2_set 46 = .ok (.iload 5, 2) := by decide +kernel
theorem dX2_set_48 : decode cX2_set 48 = .ok (.invokestatic 61, 3) := by decide +kernel
theorem dX2_set_51 : decode cX2_set 51 = .ok (.aload_n 0, 1) := by decide +kernel
theorem dX2_set_52 : decode cX2_set 52 = .ok (.iload_n 1, 1) := by decide +kernel
theorem dX2_set_53 : decode cX2_set 53 = .ok (.iload 5, 2) := by decide +kernel
theorem dX2_set_55 : decode cX2_set 55 = .ok (.iadd, 1) := by decide +kernel
theorem dX2_set_56 : decode cX2_set 56 = .ok (.putfield 40, 3) := by decide +kernel
theorem dX2_set_59 : decode cX2_set 59 = .ok (.return_, 1) := by decide +kernel
theorem dX2_openWindow_0 : decode cX2_openWindow 0 = .ok (.aload_n 0, 1) := by decide +kernel
theorem dX2_openWindow_1 : decode cX2_openWindow 1 = .ok (.iload_n 1, 1) := by decide +kernel
theorem dX2_openWindow_2 : decode cX2_openWindow 2 = .ok (.putfield 40, 3) := by decide +kernel
theorem dX2_openWindow_5 : decode cX2_openWindow 5 = .ok (.aload_n 0, 1) := by decide +kernel
theorem dX2_openWindow_6 : decode cX2_openWindow 6 = .ok (.getfield 36, 3) := by decide +kernel
theorem dX2_openWindow_9 : decode cX2_openWindow 9 = .ok (.iconst 4, 1) := by decide +kernel
theorem dX2_openWindow_10 : decode cX2_openWindow 10 = .ok (.iadd, 1) := by decide +kernel
theorem dX2_openWindow_11 : decode cX2_openWindow 11 = .ok (.iload_n 1, 1) := by decide +kernel
theorem dX2_openWindow_12 : decode cX2_openWindow 12 = .ok (.if_icmp .gt 32, 3) := by decide +kernel
theorem dX2_openWindow_15 : decode cX2_openWindow 15 = .ok (.aload_n 0, 1) := by decide +kernel
theorem dX2_openWindow_16 : decode cX2_openWindow 16 = .ok (.aload_n 0, 1) := by decide +kernel
theorem dX2_openWindow_17 : decode cX2_openWindow 17 = .ok (.getfield 36, 3) := by decide +kernel
theorem dX2_openWindow_20 : decode cX2_openWindow 20 = .ok (.aload_n 0, 1) := by decide +kernel
theorem dX2_openWindow_21 : decode cX2_openWindow 21 = .ok (.getfield 18, 3) := by decide +kernel
theorem dX2_openWindow_24 : decode cX2_openWindow 24 = .ok (.aload_n 0, 1) := by decide +kernel
theorem dX2_openWindow_25 : decode cX2_openWindow 25 = .ok (.getfield 21, 3) := by decide +kernel
theorem dX2_openWindow_28 : decode cX2_openWindow 28 = .ok (.invokevirtual 67, 3) := by decide +kernel
theorem dX2_openWindow_31 : decode cX2_openWindow 31 = .ok (.aload_n 0, 1) := by decide +kernel
theorem dX2_openWindow_32 : decode cX2_openWindow 32 = .ok (.dup, 1) := by decide +kernel
theorem dX2_openWindow_33 : decode cX2_openWindow 33 = .ok (.getfield 36, 3) := by decide +kernel
theorem dX2_openWindow_36 : decode cX2_openWindow 36 = .ok (.iconst 1, 1) := by decide +kernel
theorem dX2_openWindow_37 : decode cX2_openWindow 37 = .ok (.iadd, 1) := by decide +kernel
theorem dX2_openWindow_38 : decode cX2_openWindow 38 = .ok (.putfield 36, 3) := by decide +kernel
theorem dX2_openWindow_41 : decode cX2_openWindow 41 = .ok (.goto (-36), 3) := by decide +kernel
theorem dX2_openWindow_44 : decode cX2_openWindow 44 = .ok (.aload_n 0, 1) := by decide +kernel
theorem dX2_openWindow_45 : decode cX2_openWindow 45 = .ok (.iload_n 1, 1) := by decide +kernel
theorem dX2_openWindow_46 : decode cX2_openWindow 46 = .ok (.aload_n 2, 1) := by decide +kernel
theorem dX2_openWindow_47 : decode cX2_openWindow 47 = .ok (.iload_n 3, 1) := by decide +kernel
theorem dX2_openWindow_48 : decode cX2_openWindow 48 = .ok (.iload 4, 2) := by decide +kernel
theorem dX2_openWindow_50 : decode cX2_openWindow 50 = .ok (.invokevirtual 48, 3) := by decide +kernel
theorem dX2_openWindow_53 : decode cX2_openWindow 53 = .ok (.aload_n 0, 1) := by decide +kernel
theorem dX2_openWindow_54 : decode cX2_openWindow 54 = .ok (.getfield 24, 3) := by decide +kernel
theorem dX2_openWindow_57 : decode cX2_openWindow 57 = .ok (.iconst (-1), 1) := by decide +kernel
theorem dX2_openWindow_58 : decode cX2_openWindow 58 = .ok (.invokestatic 30, 3) := by decide +kernel
theorem dX2_openWindow_61 : decode cX2_openWindow 61 = .ok (.aload_n 0, 1) := by decide +kernel
theorem dX2_openWindow_62 : decode cX2_openWindow 62 = .ok (.getfield 36, 3) := by decide +kernel
theorem dX2_openWindow_65 : decode cX2_openWindow 65 = .ok (.istore 5, 2) := by decide +kernel
theorem dX2_openWindow_67 : decode cX2_openWindow 67 = .ok (.iload 5, 2) := by decide +kernel
theorem dX2_openWindow_69 : decode cX2_openWindow 69 = .ok (.iconst 4, 1) := by decide +kernel
theorem dX2_openWindow_70 : decode cX2_openWindow 70 = .ok (.iadd, 1) := by decide +kernel
theorem dX2_openWindow_71 : decode cX2_openWindow 71 = .ok (.aload_n 0, 1) := by decide +kernel
theorem dX2_openWindow_72 : decode cX2_openWindow 72 = .ok (.getfield 40, 3) := by decide +kernel
theorem dX2_openWindow_75 : decode cX2_openWindow 75 = .ok (.if_icmp .gt 23, 3) := by decide +kernel
theorem dX2_openWindow_78 : decode cX2_openWindow 78 = .ok (.aload_n 0, 1) := by decide +kernel
theorem dX2_openWindow_79 : decode cX2_openWindow 79 = .ok (.iload 5, 2) := by decide +kernel
theorem dX2_openWindow_81 : decode cX2_openWindow 81 = .ok (.aload_n 0, 1) := by decide +kernel
theorem dX2_openWindow_82 : decode cX2_openWindow 82 = .ok (.getfield 24, 3) := by decide +kernel
theorem dX2_openWindow_85 : decode cX2_openWindow 85 = .ok (.aload_n 0, 1) := by decide +kernel
theorem dX2_openWindow_86 : decode cX2_openWindow 86 = .ok (.getfield 27, 3) := by decide +kernel
theorem dX2_openWindow_89 : decode cX2_openWindow 89 = .ok (.invokevirtual 67, 3) := by decide +kernel
theorem dX2_openWindow_92 : decode cX2_openWindow 92 = .ok (.iinc 5 1, 3) := by decide +kernel
theorem dX2_openWindow_95 : decode cX2_openWindow 95 = .ok (.goto (-28), 3) := by decide +kernel
theorem dX2_openWindow_98 : decode cX2_openWindow 98 = .ok (.aload_n 0, 1) := by decide +kernel
theorem dX2_openWindow_99 : decode cX2_openWindow 99 = .ok (.iconst (-1), 1) := by decide +kernel
theorem dX2_openWindow_100 : decode cX2_openWindow 100 = .ok (.putfield 71, 3) := by decide +kernel
theorem dX2_openWindow_103 : decode cX2_openWindow 103 = .ok (.return_, 1) := by decide +kernel
theorem dX2_sortIn_0 : decode cX2_sortIn 0 = .ok (.aload_n 0, 1) := by decide +kernel
theorem dX2_sortIn_1 : decode cX2_sortIn 1 = .ok (.iload_n 1, 1) := by decide +kernel
theorem dX2_sortIn_2 : decode cX2_sortIn 2 = .ok (.invokevirtual 74, 3) := by decide +kernel
theorem dX2_sortIn_5 : decode cX2_sortIn 5 = .ok (.istore 4, 2) := by decide +kernel
theorem dX2_sortIn_7 : decode cX2_sortIn 7 = .ok (.aload_n 0, 1) := by decide +kernel
theorem dX2_sortIn_8 : decode cX2_sortIn 8 = .ok (.getfield 15, 3) := by decide +kernel
theorem dX2_sortIn_11 : decode cX2_sortIn 11 = .ok (.iload_n 1, 1) := by decide +kernel
theorem dX2_sortIn_12 : decode cX2_sortIn 12 = .ok (.iconst (-1), 1) := by decide +kernel
theorem dX2_sortIn_13 : decode cX2_sortIn 13 = .ok (.iastore, 1) := by decide +kernel
theorem dX2_sortIn_14 : decode cX2_sortIn 14 = .ok (.aload_n 2, 1) := by decide +kernel
theorem dX2_sortIn_15 : decode cX2_sortIn 15 = .ok (.iload 4, 2) := by decide +kernel
theorem dX2_sortIn_17 : decode cX2_sortIn 17 = .ok (.iaload, 1) := by decide +kernel
theorem dX2_sortIn_18 : decode cX2_sortIn 18 = .ok (.ifCond .ge 11, 3) := by decide +kernel
theorem dX2_sortIn_21 : decode cX2_sortIn 21 = .ok (.aload_n 2, 1) := by decide +kernel
theorem dX2_sortIn_22 : decode cX2_sortIn 22 = .ok (.iload 4, 2) := by decide +kernel
theorem dX2_sortIn_24 : decode cX2_sortIn 24 = .ok (.iload_n 1, 1) := by decide +kernel
theorem dX2_sortIn_25 : decode cX2_sortIn 25 = .ok (.iastore, 1) := by decide +kernel
theorem dX2_sortIn_26 : decode cX2_sortIn 26 = .ok (.goto 13, 3) := by decide +kernel
theorem dX2_sortIn_29 : decode cX2_sortIn 29 = .ok (.aload_n 0, 1) := by decide +kernel
theorem dX2_sortIn_30 : decode cX2_sortIn 30 = .ok (.getfield 15, 3) := by decide +kernel
theorem dX2_sortIn_33 : decode cX2_sortIn 33 = .ok (.aload_n 3, 1) := by decide +kernel
theorem dX2_sortIn_34 : decode cX2_sortIn 34 = .ok (.iload 4, 2) := by decide +kernel
theorem dX2_sortIn_36 : decode cX2_sortIn 36 = .ok (.iaload, 1) := by decide +kernel
theorem dX2_sortIn_37 : decode cX2_sortIn 37 = .ok (.iload_n 1, 1) := by decide +kernel
theorem dX2_sortIn_38 : decode cX2_sortIn 38 = .ok (.iastore, 1) := by decide +kernel
theorem dX2_sortIn_39 : decode cX2_sortIn 39 = .ok (.aload_n 3, 1) := by decide +kernel
theorem dX2_sortIn_40 : decode cX2_sortIn 40 = .ok (.iload 4, 2) := by decide +kernel
theorem dX2_sortIn_42 : decode cX2_sortIn 42 = .ok (.iload_n 1, 1) := by decide +kernel
theorem dX2_sortIn_43 : decode cX2_sortIn 43 = .ok (.iastore, 1) := by decide +kernel
theorem dX2_sortIn_44 : decode cX2_sortIn 44 = .ok (.return_, 1) := by decide +kernel
theorem dX2_chainAt_0 : decode cX2_chainAt 0 = .ok (.aload_n 0, 1) := by decide +kernel
theorem dX2_chainAt_1 : decode cX2_chainAt 1 = .ok (.getfield 11, 3) := by decide +kernel
theorem dX2_chainAt_4 : decode cX2_chainAt 4 = .ok (.iload_n 1, 1) := by decide +kernel
theorem dX2_chainAt_5 : decode cX2_chainAt 5 = .ok (.iaload, 1) := by decide +kernel
theorem dX2_chainAt_6 : decode cX2_chainAt 6 = .ok (.bipush 24, 2) := by decide +kernel
theorem dX2_chainAt_8 : decode cX2_chainAt 8 = .ok (.ishl, 1) := by decide +kernel
theorem dX2_chainAt_9 : decode cX2_chainAt 9 = .ok (.aload_n 0, 1) := by decide +kernel
theorem dX2_chainAt_10 : decode cX2_chainAt 10 = .ok (.getfield 11, 3) := by decide +kernel
theorem dX2_chainAt_13 : decode cX2_chainAt 13 = .ok (.iload_n 1, 1) := by decide +kernel
theorem dX2_chainAt_14 : decode cX2_chainAt 14 = .ok (.iconst 1, 1) := by decide +kernel
theorem dX2_chainAt_15 : decode cX2_chainAt 15 = .ok (.iadd, 1) := by decide +kernel
theorem dX2_chainAt_16 : decode cX2_chainAt 16 = .ok (.iaload, 1) := by decide +kernel
theorem dX2_chainAt_17 : decode cX2_chainAt 17 = .ok (.bipush 16, 2) := by decide +kernel
theorem dX2_chainAt_19 : decode cX2_chainAt 19 = .ok (.ishl, 1) := by decide +kernel
theorem dX2_chainAt_20 : decode cX2_chainAt 20 = .ok (.ior, 1) := by decide +kernel
theorem dX2_chainAt_21 : decode cX2_chainAt 21 = .ok (.aload_n 0, 1) := by decide +kernel
theorem dX2_chainAt_22 : decode cX2_chainAt 22 = .ok (.getfield 11, 3) := by decide +kernel
theorem dX2_chainAt_25 : decode cX2_chainAt 25 = .ok (.iload_n 1, 1) := by decide +kernel
theorem dX2_chainAt_26 : decode cX2_chainAt 26 = .ok (.iconst 2, 1) := by decide +kernel
theorem dX2_chainAt_27 : decode cX2_chainAt 27 = .ok (.iadd, 1) := by decide +kernel
theorem dX2_chainAt_28 : decode cX2_chainAt 28 = .ok (.iaload, 1) := by decide +kernel
theorem dX2_chainAt_29 : decode cX2_chainAt 29 = .ok (.bipush 8, 2) := by decide +kernel
theorem dX2_chainAt_31 : decode cX2_chainAt 31 = .ok (.ishl, 1) := by decide +kernel
theorem dX2_chainAt_32 : decode cX2_chainAt 32 = .ok (.ior, 1) := by decide +kernel
theorem dX2_chainAt_33 : decode cX2_chainAt 33 = .ok (.aload_n 0, 1) := by decide +kernel
theorem dX2_chainAt_34 : decode cX2_chainAt 34 = .ok (.getfield 11, 3) := by decide +kernel
theorem dX2_chainAt_37 : decode cX2_chainAt 37 = .ok (.iload_n 1, 1) := by decide +kernel
theorem dX2_chainAt_38 : decode cX2_chainAt 38 = .ok (.iconst 3, 1) := by decide +kernel
theorem dX2_chainAt_39 : decode cX2_chainAt 39 = .ok (.iadd, 1) := by decide +kernel
theorem dX2_chainAt_40 : decode cX2_chainAt 40 = .ok (.iaload, 1) := by decide +kernel
theorem dX2_chainAt_41 : decode cX2_chainAt 41 = .ok (.ior, 1) := by decide +kernel
theorem dX2_chainAt_42 : decode cX2_chainAt 42 = .ok (.istore_n 2, 1) := by decide +kernel
theorem dX2_chainAt_43 : decode cX2_chainAt 43 = .ok (.iload_n 2, 1) := by decide +kernel
theorem dX2_chainAt_44 : decode cX2_chainAt 44 = .ok (.ldc 78, 2) := by decide +kernel
theorem dX2_chainAt_46 : decode cX2_chainAt 46 = .ok (.imul, 1) := by decide +kernel
theorem dX2_chainAt_47 : decode cX2_chainAt 47 = .ok (.bipush 22, 2) := by decide +kernel
theorem dX2_chainAt_49 : decode cX2_chainAt 49 = .ok (.iushr, 1) := by decide +kernel
theorem dX2_chainAt_50 : decode cX2_chainAt 50 = .ok (.ireturn, 1) := by decide +kernel
theorem dX2_runAt_0 : decode cX2_runAt 0 = .ok (.iload_n 1, 1) := by decide +kernel
theorem dX2_runAt_1 : decode cX2_runAt 1 = .ok (.istore_n 2, 1) := by decide +kernel
theorem dX2_runAt_2 : decode cX2_runAt 2 = .ok (.iload_n 2, 1) := by decide +kernel
theorem dX2_runAt_3 : decode cX2_runAt 3 = .ok (.aload_n 0, 1) := by decide +kernel
theorem dX2_runAt_4 : decode cX2_runAt 4 = .ok (.getfield 40, 3) := by decide +kernel
theorem dX2_runAt_7 : decode cX2_runAt 7 = .ok (.if_icmp .ge 24, 3) := by decide +kernel
theorem dX2_runAt_10 : decode cX2_runAt 10 = .ok (.aload_n 0, 1) := by decide +kernel
theorem dX2_runAt_11 : decode cX2_runAt 11 = .ok (.getfield 11, 3) := by decide +kernel
theorem dX2_runAt_14 : decode cX2_runAt 14 = .ok (.iload_n 2, 1) := by decide +kernel
theorem dX2_runAt_15 : decode cX2_runAt 15 = .ok (.iaload, 1) := by decide +kernel
theorem dX2_runAt_16 : decode cX2_runAt 16 = .ok (.aload_n 0, 1) := by decide +kernel
theorem dX2_runAt_17 : decode cX2_runAt 17 = .ok (.getfield 11, 3) := by decide +kernel
theorem dX2_runAt_20 : decode cX2_runAt 20 = .ok (.iload_n 1, 1) := by decide +kernel
theorem dX2_runAt_21 : decode cX2_runAt 21 = .ok (.iaload, 1) := by decide +kernel
theorem dX2_runAt_22 : decode cX2_runAt 22 = .ok (.if_icmp .ne 9, 3) := by decide +kernel
theorem dX2_runAt_25 : decode cX2_runAt 25 = .ok (.iinc 2 1, 3) := by decide +kernel
theorem dX2_runAt_28 : decode cX2_runAt 28 = .ok (.goto (-26), 3) := by decide +kernel
theorem dX2_runAt_31 : decode cX2_runAt 31 = .ok (.iload_n 2, 1) := by decide +kernel
theorem dX2_runAt_32 : decode cX2_runAt 32 = .ok (.iload_n 1, 1) := by decide +kernel
theorem dX2_runAt_33 : decode cX2_runAt 33 = .ok (.isub, 1) := by decide +kernel
theorem dX2_runAt_34 : decode cX2_runAt 34 = .ok (.ireturn, 1) := by decide +kernel
theorem dX2_longestAt_0 : decode cX2_longestAt 0 = .ok (.iload_n 1, 1) := by decide +kernel
theorem dX2_longestAt_1 : decode cX2_longestAt 1 = .ok (.aload_n 0, 1) := by decide +kernel
theorem dX2_longestAt_2 : decode cX2_longestAt 2 = .ok (.getfield 71, 3) := by decide +kernel
theorem dX2_longestAt_5 : decode cX2_longestAt 5 = .ok (.if_icmp .ne 8, 3) := by decide +kernel
theorem dX2_longestAt_8 : decode cX2_longestAt 8 = .ok (.aload_n 0, 1) := by decide +kernel
theorem dX2_longestAt_9 : decode cX2_longestAt 9 = .ok (.getfield 79, 3) := by decide +kernel
theorem dX2_longestAt_12 : decode cX2_longestAt 12 = .ok (.ireturn, 1) := by decide +kernel
theorem dX2_longestAt_13 : decode cX2_longestAt 13 = .ok (.aload_n 0, 1) := by decide +kernel
theorem dX2_longestAt_14 : decode cX2_longestAt 14 = .ok (.iload_n 1, 1) := by decide +kernel
theorem dX2_longestAt_15 : decode cX2_longestAt 15 = .ok (.putfield 71, 3) := by decide +kernel
theorem dX2_longestAt_18 : decode cX2_longestAt 18 = .ok (.aload_n 0, 1) := by decide +kernel
theorem dX2_longestAt_19 : decode cX2_longestAt 19 = .ok (.iconst 0, 1) := by decide +kernel
theorem dX2_longestAt_20 : decode cX2_longestAt 20 = .ok (.putfield 79, 3) := by decide +kernel
theorem dX2_longestAt_23 : decode cX2_longestAt 23 = .ok (.aload_n 0, 1) := by decide +kernel
theorem dX2_longestAt_24 : decode cX2_longestAt 24 = .ok (.iconst 0, 1) := by decide +kernel
theorem dX2_longestAt_25 : decode cX2_longestAt 25 = .ok (.putfield 82, 3) := by decide +kernel
theorem dX2_longestAt_28 : decode cX2_longestAt 28 = .ok (.iload_n 1, 1) := by decide +kernel
theorem dX2_longestAt_29 : decode cX2_longestAt 29 = .ok (.ifCond .lt 41, 3) := by decide +kernel
theorem dX2_longestAt_32 : decode cX2_longestAt 32 = .ok (.iload_n 1, 1) := by decide +kernel
theorem dX2_longestAt_33 : decode cX2_longestAt 33 = .ok (.iconst 4, 1) := by decide +kernel
theorem dX2_longestAt_34 : decode cX2_longestAt 34 = .ok (.iadd, 1) := by decide +kernel
theorem dX2_longestAt_35 : decode cX2_longestAt 35 = .ok (.aload_n 0, 1) := by decide +kernel
theorem dX2_longestAt_36 : decode cX2_longestAt 36 = .ok (.getfield 40, 3) := by decide +kernel
theorem dX2_longestAt_39 : decode cX2_longestAt 39 = .ok (.if_icmp .gt 31, 3) := by decide +kernel
theorem dX2_longestAt_42 : decode cX2_longestAt 42 = .ok (.aload_n 0, 1) := by decide +kernel
theorem dX2_longestAt_43 : decode cX2_longestAt 43 = .ok (.iload_n 1, 1) := by decide +kernel
theorem dX2_longestAt_44 : decode cX2_longestAt 44 = .ok (.invokevirtual 74, 3) := by decide +kernel
theorem dX2_longestAt_47 : decode cX2_longestAt 47 = .ok (.istore_n 2, 1) := by decide +kernel
theorem dX2_longestAt_48 : decode cX2_longestAt 48 = .ok (.aload_n 0, 1) := by decide +kernel
theorem dX2_longestAt_49 : decode cX2_longestAt 49 = .ok (.aload_n 0, 1) := by decide +kernel
theorem dX2_longestAt_50 : decode cX2_longestAt 50 = .ok (.getfield 18, 3) := by decide +kernel
theorem dX2_longestAt_53 : decode cX2_longestAt 53 = .ok (.iload_n 2, 1) := by decide +kernel
theorem dX2_longestAt_54 : decode cX2_longestAt 54 = .ok (.iaload, 1) := by decide +kernel
theorem dX2_longestAt_55 : decode cX2_longestAt 55 = .ok (.iload_n 1, 1) := by decide +kernel
theorem dX2_longestAt_56 : decode cX2_longestAt 56 = .ok (.invokevirtual 85, 3) := by decide +kernel
theorem dX2_longestAt_59 : decode cX2_longestAt 59 = .ok (.aload_n 0, 1) := by decide +kernel
theorem dX2_longestAt_60 : decode cX2_longestAt 60 = .ok (.aload_n 0, 1) := by decide +kernel
theorem dX2_longestAt_61 : decode cX2_longestAt 61 = .ok (.getfield 24, 3) := by decide +kernel
theorem dX2_longestAt_64 : decode cX2_longestAt 64 = .ok (.iload_n 2, 1) := by decide +kernel
theorem dX2_longestAt_65 : decode cX2_longestAt 65 = .ok (.iaload, 1) := by decide +kernel
theorem dX2_longestAt_66 : decode cX2_longestAt 66 = .ok (.iload_n 1, 1) := by decide +kernel
theorem dX2_longestAt_67 : decode cX2_longestAt 67 = .ok (.invokevirtual 85, 3) := by decide +kernel
theorem dX2_longestAt_70 : decode cX2_longestAt 70 = .ok (.aload_n 0, 1) := by decide +kernel
theorem dX2_longestAt_71 : decode cX2_longestAt 71 = .ok (.getfield 79, 3) := by decide +kernel
theorem dX2_longestAt_74 : decode cX2_longestAt 74 = .ok (.ireturn, 1) := by decide +kernel
theorem dX2_search_0 : decode cX2_search 0 = .ok (.aload_n 0, 1) := by decide +kernel
theorem dX2_search_1 : decode cX2_search 1 = .ok (.getfield 40, 3) := by decide +kernel
theorem dX2_search_4 : decode cX2_search 4 = .ok (.iload_n 2, 1) := by decide +kernel
theorem dX2_search_5 : decode cX2_search 5 = .ok (.isub, 1) := by decide +kernel
theorem dX2_search_6 : decode cX2_search 6 = .ok (.istore_n 3, 1) := by decide +kernel
theorem dX2_search_7 : decode cX2_search 7 = .ok (.iload_n 1, 1) := by decide +kernel
theorem dX2_search_8 : decode cX2_search 8 = .ok (.istore 4, 2) := by decide +kernel
theorem dX2_search_10 : decode cX2_search 10 = .ok (.iconst 0, 1) := by decide +kernel
theorem dX2_search_11 : decode cX2_search 11 = .ok (.istore 5, 2) := by decide +kernel
theorem dX2_search_13 : decode cX2_search 13 = .ok (.iload 5, 2) := by decide +kernel
theorem dX2_search_15 : decode cX2_search 15 = .ok (.sipush 8000, 3) := by decide +kernel
theorem dX2_search_18 : decode cX2_search 18 = .ok (.if_icmp .ge 127, 3) := by decide +kernel
theorem dX2_search_21 : decode cX2_search 21 = .ok (.iload 4, 2) := by decide +kernel
theorem dX2_search_23 : decode cX2_search 23 = .ok (.ifCond .lt 122, 3) := by decide +kernel
theorem dX2_search_26 : decode cX2_search 26 = .ok (.iload 4, 2) := by decide +kernel
theorem dX2_search_28 : decode cX2_search 28 = .ok (.iload_n 2, 1) := by decide +kernel
theorem dX2_search_29 : decode cX2_search 29 = .ok (.if_icmp .ge 116, 3) := by decide +kernel
theorem dX2_search_32 : decode cX2_search 32 = .ok (.aload_n 0, 1) := by decide +kernel
theorem dX2_search_33 : decode cX2_search 33 = .ok (.getfield 79, 3) := by decide +kernel
theorem dX2_search_36 : decode cX2_search 36 = .ok (.iload_n 3, 1) := by decide +kernel
theorem dX2_search_37 : decode cX2_search 37 = .ok (.if_icmp .ge 108, 3) := by decide +kernel
theorem dX2_search_40 : decode cX2_search 40 = .ok (.aload_n 0, 1) := by decide +kernel
theorem dX2_search_41 : decode cX2_search 41 = .ok (.getfield 11, 3) := by decide +kernel
theorem dX2_search_44 : decode cX2_search 44 = .ok (.iload 4, 2) := by decide +kernel
theorem dX2_search_46 : decode cX2_search 46 = .ok (.aload_n 0, 1) := by decide +kernel
theorem dX2_search_47 : decode cX2_search 47 = .ok (.getfield 79, 3) := by decide +kernel
theorem dX2_search_50 : decode cX2_search 50 = .ok (.iadd, 1) := by decide +kernel
theorem dX2_search_51 : decode cX2_search 51 = .ok (.iaload, 1) := by decide +kernel
theorem dX2_search_52 : decode cX2_search 52 = .ok (.aload_n 0, 1) := by decide +kernel
theorem dX2_search_53 : decode cX2_search 53 = .ok (.getfield 11, 3) := by decide +kernel
theorem dX2_search_56 : decode cX2_search 56 = .ok (.iload_n 2, 1) := by decide +kernel
theorem dX2_search_57 : decode cX2_search 57 = .ok (.aload_n 0, 1) := by decide +kernel
theorem dX2_search_58 : decode cX2_search 58 = .ok (.getfield 79, 3) := by decide +kernel
theorem dX2_search_61 : decode cX2_search 61 = .ok (.iadd, 1) := by decide +kernel
theorem dX2_search_62 : decode cX2_search 62 = .ok (.iaload, 1) := by decide +kernel
theorem dX2_search_63 : decode cX2_search 63 = .ok (.if_icmp .ne 67, 3) := by decide +kernel
theorem dX2_search_66 : decode cX2_search 66 = .ok (.iconst 0, 1) := by decide +kernel
theorem dX2_search_67 : decode cX2_search 67 = .ok (.istore 6, 2) := by decide +kernel
theorem dX2_search_69 : decode cX2_search 69 = .ok (.iload 6, 2) := by decide +kernel
theorem dX2_search_71 : decode cX2_search 71 = .ok (.iload_n 3, 1) := by decide +kernel
theorem dX2_search_72 : decode cX2_search 72 = .ok (.if_icmp .ge 31, 3) := by decide +kernel
theorem dX2_search_75 : decode cX2_search 75 = .ok (.aload_n 0, 1) := by decide +kernel
theorem dX2_search_76 : decode cX2_search 76 = .ok (.getfield 11, 3) := by decide +kernel
theorem dX2_search_79 : decode cX2_search 79 = .ok (.iload 4, 2) := by decide +kernel
theorem dX2_search_81 : decode cX2_search 81 = .ok (.iload 6, 2) := by decide +kernel
theorem dX2_search_83 : decode cX2_search 83 = .ok (.iadd, 1) := by decide +kernel
theorem dX2_search_84 : decode cX2_search 84 = .ok (.iaload, 1) := by decide +kernel
theorem dX2_search_85 : decode cX2_search 85 = .ok (.aload_n 0, 1) := by decide +kernel
theorem dX2_search_86 : decode cX2_search 86 = .ok (.getfield 11, 3) := by decide +kernel
theorem dX2_search_89 : decode cX2_search 89 = .ok (.iload_n 2, 1) := by decide +kernel
theorem dX2_search_90 : decode cX2_search 90 = .ok (.iload 6, 2) := by decide +kernel
theorem dX2_search_92 : decode cX2_search 92 = .ok (.iadd, 1) := by decide +kernel
theorem dX2_search_93 : decode cX2_search 93 = .ok (.iaload, 1) := by decide +kernel
theorem dX2_search_94 : decode cX2_search 94 = .ok (.if_icmp .ne 9, 3) := by decide +kernel
theorem dX2_search_97 : decode cX2_search 97 = .ok (.iinc 6 1, 3) := by decide +kernel
theorem dX2_search_100 : decode cX2_search 100 = .ok (.goto (-31), 3) := by decide +kernel
theorem dX2_search_103 : decode cX2_search 103 = .ok (.iload 6, 2) := by decide +kernel
theorem dX2_search_105 : decode cX2_search 105 = .ok (.iconst 4, 1) := by decide +kernel
theorem dX2_search_106 : decode cX2_search 106 = .ok (.if_icmp .lt 24, 3) := by decide +kernel
theorem dX2_search_109 : decode cX2_search 109 = .ok (.iload 6, 2) := by decide +kernel
theorem dX2_search_111 : decode cX2_search 111 = .ok (.aload_n 0, 1) := by decide +kernel
theorem dX2_search_112 : decode cX2_search 112 = .ok (.getfield 79, 3) := by decide +kernel
theorem dX2_search_115 : decode cX2_search 115 = .ok (.if_icmp .le 15, 3) := by decide +kernel
theorem dX2_search_118 : decode cX2_search 118 = .ok (.aload_n 0, 1) := by decide +kernel
theorem dX2_search_119 : decode cX2_search 119 = .ok (.iload 6, 2) := by decide +kernel
theorem dX2_search_121 : decode cX2_search 121 = .ok (.putfield 79, 3) := by decide +kernel
theorem dX2_search_124 : decode cX2_search 124 = .ok (.aload_n 0, 1) := by decide +kernel
theorem dX2_search_125 : decode cX2_search 125 = .ok (.iload 4, 2) := by decide +kernel
theorem dX2_search_127 : decode cX2_search 127 = .ok (.putfield 82, 3) := by decide +kernel
theorem dX2_search_130 : decode cX2_search 130 = .ok (.aload_n 0, 1) := by decide +kernel
theorem dX2_search_131 : decode cX2_search 131 = .ok (.getfield 15, 3) := by decide +kernel
theorem dX2_search_134 : decode cX2_search 134 = .ok (.iload 4, 2) := by decide +kernel
theorem dX2_search_136 : decode cX2_search 136 = .ok (.iaload, 1) := by decide +kernel
theorem dX2_search_137 : decode cX2_search 137 = .ok (.istore 4, 2) := by decide +kernel
theorem dX2_search_139 : decode cX2_search 139 = .ok (.iinc 5 1, 3) := by decide +kernel
theorem dX2_search_142 : decode cX2_search 142 = .ok (.goto (-129), 3) := by decide +kernel
theorem dX2_search_145 : decode cX2_search 145 = .ok (.return_, 1) := by decide +kernel
theorem dX3_init_0 : decode cX3_init 0 = .ok (.aload_n 0, 1) := by decide +kernel
theorem dX3_init_1 : decode cX3_init 1 = .ok (.invokespecial 3, 3) := by decide +kernel
theorem dX3_init_4 : decode cX3_init 4 = .ok (.aload_n 0, 1) := by decide +kernel
theorem dX3_init_5 : decode cX3_init 5 = .ok (.new 9, 3) := by decide +kernel
theorem dX3_init_8 : decode cX3_init 8 = .ok (.dup, 1) := by decide +kernel
theorem dX3_init_9 : decode cX3_init 9 = .ok (.invokespecial 11, 3) := by decide +kernel
theorem dX3_init_12 : decode cX3_init 12 = .ok (.putfield 12, 3) := by decide +kernel
theorem dX3_init_15 : decode cX3_init 15 = .ok (.aload_n 0, 1) := by decide +kernel
theorem dX3_init_16 : decode cX3_init 16 = .ok (.new 9, 3) := by decide +kernel
theorem dX3_init_19 : decode cX3_init 19 = .ok (.dup, 1) := by decide +kernel
theorem dX3_init_20 : decode cX3_init 20 = .ok (.invokespecial 11, 3) := by decide +kernel
theorem dX3_init_23 : decode cX3_init 23 = .ok (.putfield 18, 3) := by decide +kernel
theorem dX3_init_26 : decode cX3_init 26 = .ok (.aload_n 0, 1) := by decide +kernel
theorem dX3_init_27 : decode cX3_init 27 = .ok (.new 9, 3) := by decide +kernel
theorem dX3_init_30 : decode cX3_init 30 = .ok (.dup, 1) := by decide +kernel
theorem dX3_init_31 : decode cX3_init 31 = .ok (.invokespecial 11, 3) := by decide +kernel
theorem dX3_init_34 : decode cX3_init 34 = .ok (.putfield 21, 3) := by decide +kernel
theorem dX3_init_37 : decode cX3_init 37 = .ok (.aload_n 0, 1) := by decide +kernel
theorem dX3_init_38 : decode cX3_init 38 = .ok (.new 9, 3) := by decide +kernel
theorem dX3_init_41 : decode cX3_init 41 = .ok (.dup, 1) := by decide +kernel
theorem dX3_init_42 : decode cX3_init 42 = .ok (.invokespecial 11, 3) := by decide +kernel
theorem dX3_init_45 : decode cX3_init 45 = .ok (.putfield 24, 3) := by decide +kernel
theorem dX3_init_48 : decode cX3_init 48 = .ok (.aload_n 0, 1) := by decide +kernel
theorem dX3_init_49 : decode cX3_init 49 = .ok (.new 27, 3) := by decide +kernel
theorem dX3_init_52 : decode cX3_init 52 = .ok (.dup, 1) := by decide +kernel
theorem dX3_init_53 : decode cX3_init 53 = .ok (.invokespecial 29, 3) := by decide +kernel
theorem dX3_init_56 : decode cX3_init 56 = .ok (.putfield 30, 3) := by decide +kernel
theorem dX3_init_59 : decode cX3_init 59 = .ok (.aload_n 0, 1) := by decide +kernel
theorem dX3_init_60 : decode cX3_init 60 = .ok (.new 34, 3) := by decide +kernel
theorem dX3_init_63 : decode cX3_init 63 = .ok (.dup, 1) := by decide +kernel
theorem dX3_init_64 : decode cX3_init 64 = .ok (.iload_n 1, 1) := by decide +kernel
theorem dX3_init_65 : decode cX3_init 65 = .ok (.invokespecial 36, 3) := by decide +kernel
theorem dX3_init_68 : decode cX3_init 68 = .ok (.putfield 39, 3) := by decide +kernel
theorem dX3_init_71 : decode cX3_init 71 = .ok (.aload_n 0, 1) := by decide +kernel
theorem dX3_init_72 : decode cX3_init 72 = .ok (.iload_n 1, 1) := by decide +kernel
theorem dX3_init_73 : decode cX3_init 73 = .ok (.iconst 0, 1) := by decide +kernel
theorem dX3_init_74 : decode cX3_init 74 = .ok (.invokestatic 43, 3) := by decide +kernel
theorem dX3_init_77 : decode cX3_init 77 = .ok (.newarray .int, 2) := by decide +kernel
theorem dX3_init_79 : decode cX3_init 79 = .ok (.putfield 49, 3) := by decide +kernel
theorem dX3_init_82 : decode cX3_init 82 = .ok (.aload_n 0, 1) := by decide +kernel
theorem dX3_init_83 : decode cX3_init 83 = .ok (.aload_n 0, 1) := by decide +kernel
theorem dX3_init_84 : decode cX3_init 84 = .ok (.getfield 39, 3) := by decide +kernel
theorem dX3_init_87 : decode cX3_init 87 = .ok (.putfield 53, 3) := by decide +kernel
theorem dX3_init_90 : decode cX3_init 90 = .ok (.aload_n 0, 1) := by decide +kernel
theorem dX3_init_91 : decode cX3_init 91 = .ok (.aload_n 0, 1) := by decide +kernel
theorem dX3_init_92 : decode cX3_init 92 = .ok (.getfield 39, 3) := by decide +kernel
theorem dX3_init_95 : decode cX3_init 95 = .ok (.putfield 56, 3) := by decide +kernel
theorem dX3_init_98 : decode cX3_init 98 = .ok (.aload_n 0, 1) := by decide +kernel
theorem dX3_init_99 : decode cX3_init 99 = .ok (.new 59, 3) := by decide +kernel
theorem dX3_init_102 : decode cX3_init 102 = .ok (.dup, 1) := by decide +kernel
theorem dX3_init_103 : decode cX3_init 103 = .ok (.iconst 0, 1) := by decide +kernel
theorem dX3_init_104 : decode cX3_init 104 = .ok (.invokespecial 61, 3) := by decide +kernel
theorem dX3_init_107 : decode cX3_init 107 = .ok (.putfield 62, 3) := by decide +kernel
theorem dX3_init_110 : decode cX3_init 110 = .ok (.return_, 1) := by decide +kernel
theorem dX3_begin_0 : decode cX3_begin 0 = .ok (.aload_n 0, 1) := by decide +kernel
theorem dX3_begin_1 : decode cX3_begin 1 = .ok (.aload_n 1, 1) := by decide +kernel
theorem dX3_begin_2 : decode cX3_begin 2 = .ok (.putfield 53, 3) := by decide +kernel
theorem dX3_begin_5 : decode cX3_begin 5 = .ok (.aload_n 0, 1) := by decide +kernel
theorem dX3_begin_6 : decode cX3_begin 6 = .ok (.aload_n 2, 1) := by decide +kernel
theorem dX3_begin_7 : decode cX3_begin 7 = .ok (.putfield 56, 3) := by decide +kernel
theorem dX3_begin_10 : decode cX3_begin 10 = .ok (.aload_n 0, 1) := by decide +kernel
theorem dX3_begin_11 : decode cX3_begin 11 = .ok (.aload 5, 2) := by decide +kernel
theorem dX3_begin_13 : decode cX3_begin 13 = .ok (.putfield 62, 3) := by decide +kernel
theorem dX3_begin_16 : decode cX3_begin 16 = .ok (.aload_n 0, 1) := by decide +kernel
theorem dX3_begin_17 : decode cX3_begin 17 = .ok (.getfield 12, 3) := by decide +kernel
theorem dX3_begin_20 : decode cX3_begin 20 = .ok (.aload_n 2, 1) := by decide +kernel
theorem dX3_begin_21 : decode cX3_begin 21 = .ok (.iload_n 3, 1) := by decide +kernel
theorem dX3_begin_22 : decode cX3_begin 22 = .ok (.iload 4, 2) := by decide +kernel
theorem dX3_begin_24 : decode cX3_begin 24 = .ok (.invokevirtual 66, 3) := by decide +kernel
theorem dX3_begin_27 : decode cX3_begin 27 = .ok (.aload_n 0, 1) := by decide +kernel
theorem dX3_begin_28 : decode cX3_begin 28 = .ok (.getfield 39, 3) := by decide +kernel
theorem dX3_begin_31 : decode cX3_begin 31 = .ok (.invokevirtual 70, 3) := by decide +kernel
theorem dX3_begin_34 : decode cX3_begin 34 = .ok (.aload_n 0, 1) := by decide +kernel
theorem dX3_begin_35 : decode cX3_begin 35 = .ok (.iconst 0, 1) := by decide +kernel
theorem dX3_begin_36 : decode cX3_begin 36 = .ok (.putfield 73, 3) := by decide +kernel
theorem dX3_begin_39 : decode cX3_begin 39 = .ok (.aload_n 0, 1) := by decide +kernel
theorem dX3_begin_40 : decode cX3_begin 40 = .ok (.iconst 0, 1) := by decide +kernel
theorem dX3_begin_41 : decode cX3_begin 41 = .ok (.putfield 77, 3) := by decide +kernel
theorem dX3_begin_44 : decode cX3_begin 44 = .ok (.aload_n 0, 1) := by decide +kernel
theorem dX3_begin_45 : decode cX3_begin 45 = .ok (.iconst 0, 1) := by decide +kernel
theorem dX3_begin_46 : decode cX3_begin 46 = .ok (.putfield 80, 3) := by decide +kernel
theorem dX3_begin_49 : decode cX3_begin 49 = .ok (.return_, 1) := by decide +kernel
theorem dX3_fail_0 : decode cX3_fail 0 = .ok (.aload_n 0, 1) := by decide +kernel
theorem dX3_fail_1 : decode cX3_fail 1 = .ok (.getfield 73, 3) := by decide +kernel
theorem dX3_fail_4 : decode cX3_fail 4 = .ok (.ifCond .ne 13, 3) := by decide +kernel
theorem dX3_fail_7 : decode cX3_fail 7 = .ok (.aload_n 0, 1) := by decide +kernel
theorem dX3_fail_8 : decode cX3_fail 8 = .ok (.iload_n 1, 1) := by decide +kernel
theorem dX3_fail_9 : decode cX3_fail 9 = .ok (.putfield 73, 3) := by decide +kernel
theorem dX3_fail_12 : decode cX3_fail 12 = .ok (.aload_n 0, 1) := by decide +kernel
theorem dX3_fail_13 : decode cX3_fail 13 = .ok (.iload_n 2, 1) := by decide +kernel
theorem dX3_fail_14 : decode cX3_fail 14 = .ok (.putfield 77, 3) := by decide +kernel
theorem dX3_fail_17 : decode cX3_fail 17 = .ok (.return_, 1) := by decide +kernel
theorem dX3_takeOctet_0 : decode cX3_takeOctet 0 = .ok (.aload_n 0, 1) := by decide +kernel
theorem dX3_takeOctet_1 : decode cX3_takeOctet 1 = .ok (.getfield 73, 3) := by decide +kernel
theorem dX3_takeOctet_4 : decode cX3_takeOctet 4 = .ok (.ifCond .ne 13, 3) := by decide +kernel
theorem dX3_takeOctet_7 : decode cX3_takeOctet 7 = .ok (.aload_n 0, 1) := by decide +kernel
theorem dX3_takeOctet_8 : decode cX3_takeOctet 8 = .ok (.getfield 12, 3) := by decide +kernel
theorem dX3_takeOctet_11 : decode cX3_takeOctet 11 = .ok (.invokevirtual 83, 3) := by decide +kernel
theorem dX3_takeOctet_14 : decode cX3_takeOctet 14 = .ok (.goto 4, 3) := by decide +kernel
theorem dX3_takeOctet_17 : decode cX3_takeOctet 17 = .ok (.iconst 0, 1) := by decide +kernel
theorem dX3_takeOctet_18 : decode cX3_takeOctet 18 = .ok (.istore_n 1, 1) := by decide +kernel
theorem dX3_takeOctet_19 : decode cX3_takeOctet 19 = .ok (.iload_n 1, 1) := by decide +kernel
theorem dX3_takeOctet_20 : decode cX3_takeOctet 20 = .ok (.ifCond .ge 15, 3) := by decide +kernel
theorem dX3_takeOctet_23 : decode cX3_takeOctet 23 = .ok (.aload_n 0, 1) := by decide +kernel
theorem dX3_takeOctet_24 : decode cX3_takeOctet 24 = .ok (.iconst 1, 1) := by decide +kernel
theorem dX3_takeOctet_25 : decode cX3_takeOctet 25 = .ok (.aload_n 0, 1) := by decide +kernel
theorem dX3_takeOctet_26 : decode cX3_takeOctet 26 = .ok (.getfield 12, 3) := by decide +kernel
theorem dX3_takeOctet_29 : decode cX3_takeOctet 29 = .ok (.getfield 87, 3) := by decide +kernel
theorem dX3_takeOctet_32 : decode cX3_takeOctet 32 = .ok (.invokevirtual 90, 3) := by decide +kernel
theorem dX3_takeOctet_35 : decode cX3_takeOctet 35 = .ok (.iload_n 1, 1) := by decide +kernel
theorem dX3_takeOctet_36 : decode cX3_takeOctet 36 = .ok (.iconst 0, 1) := by decide +kernel
theorem dX3_takeOctet_37 : decode cX3_takeOctet 37 = .ok (.invokestatic 43, 3) := by decide +kernel
theorem dX3_takeOctet_40 : decode cX3_takeOctet 40 = .ok (.ireturn, 1) := by decide +kernel
theorem dX3_takeNumber_0 : decode cX3_takeNumber 0 = .ok (.aload_n 0, 1) := by decide +kernel
theorem dX3_takeNumber_1 : decode cX3_takeNumber 1 = .ok (.getfield 12, 3) := by decide +kernel
theorem dX3_takeNumber_4 : decode cX3_takeNumber 4 = .ok (.getfield 94, 3) := by decide +kernel
theorem dX3_takeNumber_7 : decode cX3_takeNumber 7 = .ok (.istore_n 1, 1) := by decide +kernel
theorem dX3_takeNumber_8 : decode cX3_takeNumber 8 = .ok (.aload_n 0, 1) := by decide +kernel
theorem dX3_takeNumber_9 : decode cX3_takeNumber 9 = .ok (.getfield 73, 3) := by decide +kernel
theorem dX3_takeNumber_12 : decode cX3_takeNumber 12 = .ok (.ifCond .ne 13, 3) := by decide +kernel
theorem dX3_takeNumber_15 : decode cX3_takeNumber 15 = .ok (.aload_n 0, 1) := by decide +kernel
theorem dX3_takeNumber_16 : decode cX3_takeNumber 16 = .ok (.getfield 12, 3) := by decide +kernel
theorem dX3_takeNumber_19 : decode cX3_takeNumber 19 = .ok (.invokevirtual 97, 3) := by decide +kernel
theorem dX3_takeNumber_22 : decode cX3_takeNumber 22 = .ok (.goto 4, 3) := by decide +kernel
theorem dX3_takeNumber_25 : decode cX3_takeNumber 25 = .ok (.iconst 0, 1) := by decide +kernel
theorem dX3_takeNumber_26 : decode cX3_takeNumber 26 = .ok (.istore_n 2, 1) := by decide +kernel
theorem dX3_takeNumber_27 : decode cX3_takeNumber 27 = .ok (.iload_n 2, 1) := by decide +kernel
theorem dX3_takeNumber_28 : decode cX3_takeNumber 28 = .ok (.iconst (-1), 1) := by decide +kernel
theorem dX3_takeNumber_29 : decode cX3_takeNumber 29 = .ok (.if_icmp .ne 18, 3) := by decide +kernel
theorem dX3_takeNumber_32 : decode cX3_takeNumber 32 = .ok (.aload_n 0, 1) := by decide +kernel
theorem dX3_takeNumber_33 : decode cX3_takeNumber 33 = .ok (.iconst 1, 1) := by decide +kernel
theorem dX3_takeNumber_34 : decode cX3_takeNumber 34 = .ok (.aload_n 0, 1) := by decide +kernel
theorem dX3_takeNumber_35 : decode cX3_takeNumber 35 = .ok (.getfield 12, 3) := by decide +kernel
theorem dX3_takeNumber_38 : decode cX3_takeNumber 38 = .ok (.getfield 87, 3) := by decide +kernel
theorem dX3_takeNumber_41 : decode cX3_takeNumber 41 = .ok (.invokevirtual 90, 3) := by decide +kernel
theorem dX3_takeNumber_44 : decode cX3_takeNumber 44 = .ok (.goto 15, 3) := by decide +kernel
theorem dX3_takeNumber_47 : decode cX3_takeNumber 47 = .ok (.iload_n 2, 1) := by decide +kernel
theorem dX3_takeNumber_48 : decode cX3_takeNumber 48 = .ok (.bipush (-2), 2) := by decide +kernel
theorem dX3_takeNumber_50 : decode cX3_takeNumber 50 = .ok (.if_icmp .ne 9, 3) := by decide +kernel
theorem dX3_takeNumber_53 : decode cX3_takeNumber 53 = .ok (.aload_n 0, 1) := by decide +kernel
theorem dX3_takeNumber_54 : decode cX3_takeNumber 54 = .ok (.iconst 4, 1) := by decide +kernel
theorem dX3_takeNumber_55 : decode cX3_takeNumber 55 = .ok (.iload_n 1, 1) := by decide +kernel
theorem dX3_takeNumber_56 : decode cX3_takeNumber 56 = .ok (.invokevirtual 90, 3) := by decide +kernel
theorem dX3_takeNumber_59 : decode cX3_takeNumber 59 = .ok (.iload_n 2, 1) := by decide +kernel
theorem dX3_takeNumber_60 : decode cX3_takeNumber 60 = .ok (.iconst 0, 1) := by decide +kernel
theorem dX3_takeNumber_61 : decode cX3_takeNumber 61 = .ok (.invokestatic 43, 3) := by decide +kernel
theorem dX3_takeNumber_64 : decode cX3_takeNumber 64 = .ok (.ireturn, 1) := by decide +kernel
theorem dX3_takeMark_0 : decode cX3_takeMark 0 = .ok (.iconst 0, 1) := by decide +kernel
theorem dX3_takeMark_1 : decode cX3_takeMark 1 = .ok (.istore_n 1, 1) := by decide +kernel
theorem dX3_takeMark_2 : decode cX3_takeMark 2 = .ok (.iload_n 1, 1) := by decide +kernel
theorem dX3_takeMark_3 : decode cX3_takeMark 3 = .ok (.getstatic 100, 3) := by decide +kernel
theorem dX3_takeMark_6 : decode cX3_takeMark 6 = .ok (.arraylength, 1) := by decide +kernel
theorem dX3_takeMark_7 : decode cX3_takeMark 7 = .ok (.if_icmp .ge 35, 3) := by decide +kernel
theorem dX3_takeMark_10 : decode cX3_takeMark 10 = .ok (.aload_n 0, 1) := by decide +kernel
theorem dX3_takeMark_11 : decode cX3_takeMark 11 = .ok (.getfield 12, 3) := by decide +kernel
theorem dX3_takeMark_14 : decode cX3_takeMark 14 = .ok (.getfield 94, 3) := by decide +kernel
theorem dX3_takeMark_17 : decode cX3_takeMark 17 = .ok (.istore_n 2, 1) := by decide +kernel
theorem dX3_takeMark_18 : decode cX3_takeMark 18 = .ok (.aload_n 0, 1) := by decide +kernel
theorem dX3_takeMark_19 : decode cX3_takeMark 19 = .ok (.invokevirtual 103, 3) := by decide +kernel
theorem dX3_takeMark_22 : decode cX3_takeMark 22 = .ok (.getstatic 100, 3) := by decide +kernel
theorem dX3_takeMark_25 : decode cX3_takeMark 25 = .ok (.iload_n 1, 1) := by decide +kernel
theorem dX3_takeMark_26 : decode cX3_takeMark 26 = .ok (.iaload, 1) := by decide +kernel
theorem dX3_takeMark_27 : decode cX3_takeMark 27 = .ok (.if_icmp .eq 9, 3) := by decide +kernel
theorem dX3_takeMark_30 : decode cX3_takeMark 30 = .ok (.aload_n 0, 1) := by decide +kernel
theorem dX3_takeMark_31 : decode cX3_takeMark 31 = .ok (.iconst 2, 1) := by decide +kernel
theorem dX3_takeMark_32 : decode cX3_takeMark 32 = .ok (.iload_n 2, 1) := by decide +kernel
theorem dX3_takeMark_33 : decode cX3_takeMark 33 = .ok (.invokevirtual 90, 3) := by decide +kernel
theorem dX3_takeMark_36 : decode cX3_takeMark 36 = .ok (.iinc 1 1, 3) := by decide +kernel
theorem dX3_takeMark_39 : decode cX3_takeMark 39 = .ok (.goto (-37), 3) := by decide +kernel
theorem dX3_takeMark_42 : decode cX3_takeMark 42 = .ok (.return_, 1) := by decide +kernel
theorem dX3_takeKind_0 : decode cX3_takeKind 0 = .ok (.aload_n 0, 1) := by decide +kernel
theorem dX3_takeKind_1 : decode cX3_takeKind 1 = .ok (.getfield 12, 3) := by decide +kernel
theorem dX3_takeKind_4 : decode cX3_takeKind 4 = .ok (.getfield 94, 3) := by decide +kernel
theorem dX3_takeKind_7 : decode cX3_takeKind 7 = .ok (.istore_n 1, 1) := by decide +kernel
theorem dX3_takeKind_8 : decode cX3_takeKind 8 = .ok (.aload_n 0, 1) := by decide +kernel
theorem dX3_takeKind_9 : decode cX3_takeKind 9 = .ok (.invokevirtual 103, 3) := by decide +kernel
theorem dX3_takeKind_12 : decode cX3_takeKind 12 = .ok (.istore_n 2, 1) := by decide +kernel
theorem dX3_takeKind_13 : decode cX3_takeKind 13 = .ok (.iload_n 2, 1) := by decide +kernel
theorem dX3_takeKind_14 : decode cX3_takeKind 14 = .ok (.ifCond .eq 14, 3) := by decide +kernel
theorem dX3_takeKind_17 : decode cX3_takeKind 17 = .ok (.iload_n 2, 1) := by decide +kernel
theorem dX3_takeKind_18 : decode cX3_takeKind 18 = .ok (.iconst 2, 1) := by decide +kernel
theorem dX3_takeKind_19 : decode cX3_takeKind 19 = .ok (.if_icmp .eq 9, 3) := by decide +kernel
theorem dX3_takeKind_22 : decode cX3_takeKind 22 = .ok (.aload_n 0, 1) := by decide +kernel
theorem dX3_takeKind_23 : decode cX3_takeKind 23 = .ok (.iconst 3, 1) := by decide +kernel
theorem dX3_takeKind_24 : decode cX3_takeKind 24 = .ok (.iload_n 1, 1) := by decide +kernel
theorem dX3_takeKind_25 : decode cX3_takeKind 25 = .ok (.invokevirtual 90, 3) := by decide +kernel
theorem dX3_takeKind_28 : decode cX3_takeKind 28 = .ok (.iload_n 2, 1) := by decide +kernel
theorem dX3_takeKind_29 : decode cX3_takeKind 29 = .ok (.ireturn, 1) := by decide +kernel
theorem dX3_takeNoTable_0 : decode cX3_takeNoTable 0 = .ok (.aload_n 0, 1) := by decide +kernel
theorem dX3_takeNoTable_1 : decode cX3_takeNoTable 1 = .ok (.getfield 12, 3) := by decide +kernel
theorem dX3_takeNoTable_4 : decode cX3_takeNoTable 4 = .ok (.getfield 94, 3) := by decide +kernel
theorem dX3_takeNoTable_7 : decode cX3_takeNoTable 7 = .ok (.istore_n 1, 1) := by decide +kernel
theorem dX3_takeNoTable_8 : decode cX3_takeNoTable 8 = .ok (.aload_n 0, 1) := by decide +kernel
theorem dX3_takeNoTable_9 : decode cX3_takeNoTable 9 = .ok (.invokevirtual 103, 3) := by decide +kernel
theorem dX3_takeNoTable_12 : decode cX3_takeNoTable 12 = .ok (.ifCond .eq 9, 3) := by decide +kernel
theorem dX3_takeNoTable_15 : decode cX3_takeNoTable 15 = .ok (.aload_n 0, 1) := by decide +kernel
theorem dX3_takeNoTable_16 : decode cX3_takeNoTable 16 = .ok (.iconst 3, 1) := by decide +kernel
theorem dX3_takeNoTable_17 : decode cX3_takeNoTable 17 = .ok (.iload_n 1, 1) := by decide +kernel
theorem dX3_takeNoTable_18 : decode cX3_takeNoTable 18 = .ok (.invokevirtual 90, 3) := by decide +kernel
theorem dX3_takeNoTable_21 : decode cX3_takeNoTable 21 = .ok (.return_, 1) := by decide +kernel
theorem dX3_takeTableHead_0 : decode cX3_takeTableHead 0 = .ok (.aload_n 0, 1) := by decide +kernel
theorem dX3_takeTableHead_1 : decode cX3_takeTableHead 1 = .ok (.getfield 12, 3) := by decide +kernel
theorem dX3_takeTableHead_4 : decode cX3_takeTableHead 4 = .ok (.getfield 94, 3) := by decide +kernel
theorem dX3_takeTableHead_7 : decode cX3_takeTableHead 7 = .ok (.istore_n 2, 1) := by decide +kernel
theorem dX3_takeTableHead_8 : decode cX3_takeTableHead 8 = .ok (.aload_n 0, 1) := by decide +kernel
theorem dX3_takeTableHead_9 : decode cX3_takeTableHead 9 = .ok (.invokevirtual 106, 3) := by decide +kernel
theorem dX3_takeTableHead_12 : decode cX3_takeTableHead 12 = .ok (.istore_n 3, 1) := by decide +kernel
theorem dX3_takeTableHead_13 : decode cX3_takeTableHead 13 = .ok (.iload_n 3, 1) := by decide +kernel
theorem dX3_takeTableHead_14 : decode cX3_takeTableHead 14 = .ok (.iconst 2, 1) := by decide +kernel
theorem dX3_takeTableHead_15 : decode cX3_takeTableHead 15 = .ok (.if_icmp .ge 10, 3) := by decide +kernel
theorem dX3_takeTableHead_18 : decode cX3_takeTableHead 18 = .ok (.aload_n 0, 1) := by decide +kernel
theorem dX3_takeTableHead_19 : decode cX3_takeTableHead 19 = .ok (.bipush 18, 2) := by decide +kernel
theorem dX3_takeTableHead_21 : decode cX3_takeTableHead 21 = .ok (.iload_n 2, 1) := by decide +kernel
theorem dX3_takeTableHead_22 : decode cX3_takeTableHead 22 = .ok (.invokevirtual 90, 3) := by decide +kernel
theorem dX3_takeTableHead_25 : decode cX3_takeTableHead 25 = .ok (.aload_n 0, 1) := by decide +kernel
theorem dX3_takeTableHead_26 : decode cX3_takeTableHead 26 = .ok (.getfield 12, 3) := by decide +kernel
theorem dX3_takeTableHead_29 : decode cX3_takeTableHead 29 = .ok (.getfield 94, 3) := by decide +kernel
theorem dX3_takeTableHead_32 : decode cX3_takeTableHead 32 = .ok (.istore_n 2, 1) := by decide +kernel
theorem dX3_takeTableHead_33 : decode cX3_takeTableHead 33 = .ok (.aload_n 1, 1) := by decide +kernel
theorem dX3_takeTableHead_34 : decode cX3_takeTableHead 34 = .ok (.aload_n 0, 1) := by decide +kernel
theorem dX3_takeTableHead_35 : decode cX3_takeTableHead 35 = .ok (.invokevirtual 103, 3) := by decide +kernel
theorem dX3_takeTableHead_38 : decode cX3_takeTableHead 38 = .ok (.putfield 109, 3) := by decide +kernel
theorem dX3_takeTableHead_41 : decode cX3_takeTableHead 41 = .ok (.aload_n 1, 1) := by decide +kernel
theorem dX3_takeTableHead_42 : decode cX3_takeTableHead 42 = .ok (.getfield 109, 3) := by decide +kernel
theorem dX3_takeTableHead_45 : decode cX3_takeTableHead 45 = .ok (.bipush 8, 2) := by decide +kernel
theorem dX3_takeTableHead_47 : decode cX3_takeTableHead 47 = .ok (.if_icmp .le 10, 3) := by decide +kernel
theorem dX3_takeTableHead_50 : decode cX3_takeTableHead 50 = .ok (.aload_n 0, 1) := by decide +kernel
theorem dX3_takeTableHead_51 : decode cX3_takeTableHead 51 = .ok (.bipush 18, 2) := by decide +kernel
theorem dX3_takeTableHead_53 : decode cX3_takeTableHead 53 = .ok (.iload_n 2, 1) := by decide +kernel
theorem dX3_takeTableHead_54 : decode cX3_takeTableHead 54 = .ok (.invokevirtual 90, 3) := by decide +kernel
theorem dX3_takeTableHead_57 : decode cX3_takeTableHead 57 = .ok (.aload_n 0, 1) := by decide +kernel
theorem dX3_takeTableHead_58 : decode cX3_takeTableHead 58 = .ok (.getfield 12, 3) := by decide +kernel
theorem dX3_takeTableHead_61 : decode cX3_takeTableHead 61 = .ok (.getfield 94, 3) := by decide +kernel
theorem dX3_takeTableHead_64 : decode cX3_takeTableHead 64 = .ok (.istore_n 2, 1) := by decide +kernel
theorem dX3_takeTableHead_65 : decode cX3_takeTableHead 65 = .ok (.aload_n 1, 1) := by decide +kernel
theorem dX3_takeTableHead_66 : decode cX3_takeTableHead 66 = .ok (.aload_n 0, 1) := by decide +kernel
theorem dX3_takeTableHead_67 : decode cX3_takeTableHead 67 = .ok (.invokevirtual 103, 3) := by decide +kernel
theorem dX3_takeTableHead_70 : decode cX3_takeTableHead 70 = .ok (.putfield 114, 3) := by decide +kernel
theorem dX3_takeTableHead_73 : decode cX3_takeTableHead 73 = .ok (.aload_n 1, 1) := by decide +kernel
theorem dX3_takeTableHead_74 : decode cX3_takeTableHead 74 = .ok (.getfield 114, 3) := by decide +kernel
theorem dX3_takeTableHead_77 : decode cX3_takeTableHead 77 = .ok (.iconst 4, 1) := by decide +kernel
theorem dX3_takeTableHead_78 : decode cX3_takeTableHead 78 = .ok (.if_icmp .le 10, 3) := by decide +kernel
theorem dX3_takeTableHead_81 : decode cX3_takeTableHead 81 = .ok (.aload_n 0, 1) := by decide +kernel
theorem dX3_takeTableHead_82 : decode cX3_takeTableHead 82 = .ok (.bipush 18, 2) := by decide +kernel
theorem dX3_takeTableHead_84 : decode cX3_takeTableHead 84 = .ok (.iload_n 2, 1) := by decide +kernel
theorem dX3_takeTableHead_85 : decode cX3_takeTableHead 85 = .ok (.invokevirtual 90, 3) := by decide +kernel
theorem dX3_takeTableHead_88 : decode cX3_takeTableHead 88 = .ok (.iload_n 3, 1) := by decide +kernel
theorem dX3_takeTableHead_89 : decode cX3_takeTableHead 89 = .ok (.iconst 2, 1) := by decide +kernel
theorem dX3_takeTableHead_90 : decode cX3_takeTableHead 90 = .ok (.isub, 1) := by decide +kernel
theorem dX3_takeTableHead_91 : decode cX3_takeTableHead 91 = .ok (.aload_n 0, 1) := by decide +kernel
theorem dX3_takeTableHead_92 : decode cX3_takeTableHead 92 = .ok (.getfield 12, 3) := by decide +kernel
theorem dX3_takeTableHead_95 : decode cX3_takeTableHead 95 = .ok (.invokevirtual 117, 3) := by decide +kernel
theorem dX3_takeTableHead_98 : decode cX3_takeTableHead 98 = .ok (.if_icmp .le 15, 3) := by decide +kernel
theorem dX3_takeTableHead_101 : decode cX3_takeTableHead 101 = .ok (.aload_n 0, 1) := by decide +kernel
theorem dX3_takeTableHead_102 : decode cX3_takeTableHead 102 = .ok (.iconst 1, 1) := by decide +kernel
theorem dX3_takeTableHead_103 : decode cX3_takeTableHead 103 = .ok (.aload_n 0, 1) := by decide +kernel
theorem dX3_takeTableHead_104 : decode cX3_takeTableHead 104 = .ok (.getfield 12, 3) := by decide +kernel
theorem dX3_takeTableHead_107 : decode cX3_takeTableHead 107 = .ok (.getfield 87, 3) := by decide +kernel
theorem dX3_takeTableHead_110 : decode cX3_takeTableHead 110 = .ok (.invokevirtual 90, 3) := by decide +kernel
theorem dX3_takeTableHead_113 : decode cX3_takeTableHead 113 = .ok (.aload_n 0, 1) := by decide +kernel
theorem dX3_takeTableHead_114 : decode cX3_takeTableHead 114 = .ok (.getfield 73, 3) := by decide +kernel
theorem dX3_takeTableHead_117 : decode cX3_takeTableHead 117 = .ok (.ifCond .ne 9, 3) := by decide +kernel
theorem dX3_takeTableHead_120 : decode cX3_takeTableHead 120 = .ok (.iload_n 3, 1) := by decide +kernel
theorem dX3_takeTableHead_121 : decode cX3_takeTableHead 121 = .ok (.iconst 2, 1) := by decide +kernel
theorem dX3_takeTableHead_122 : decode cX3_takeTableHead 122 = .ok (.isub, 1) := by decide +kernel
theorem dX3_takeTableHead_123 : decode cX3_takeTableHead 123 = .ok (.goto 4, 3) := by decide +kernel
theorem dX3_takeTableHead_126 : decode cX3_takeTableHead 126 = .ok (.iconst 0, 1) := by decide +kernel
theorem dX3_takeTableHead_127 : decode cX3_takeTableHead 127 = .ok (.ireturn, 1) := by decide +kernel
theorem dX3_skipTable_0 : decode cX3_skipTable 0 = .ok (.iload_n 2, 1) := by decide +kernel
theorem dX3_skipTable_1 : decode cX3_skipTable 1 = .ok (.ifCond .ne 16, 3) := by decide +kernel
theorem dX3_skipTable_4 : decode cX3_skipTable 4 = .ok (.aload_n 0, 1) := by decide +kernel
theorem dX3_skipTable_5 : decode cX3_skipTable 5 = .ok (.bipush 18, 2) := by decide +kernel
theorem dX3_skipTable_7 : decode cX3_skipTable 7 = .ok (.aload_n 0, 1) := by decide +kernel
theorem dX3_skipTable_8 : decode cX3_skipTable 8 = .ok (.getfield 12, 3) := by decide +kernel
theorem dX3_skipTable_11 : decode cX3_skipTable 11 = .ok (.getfield 94, 3) := by decide +kernel
theorem dX3_skipTable_14 : decode cX3_skipTable 14 = .ok (.invokevirtual 90, 3) := by decide +kernel
theorem dX3_skipTable_17 : decode cX3_skipTable 17 = .ok (.aload_n 0, 1) := by decide +kernel
theorem dX3_skipTable_18 : decode cX3_skipTable 18 = .ok (.getfield 12, 3) := by decide +kernel
theorem dX3_skipTable_21 : decode cX3_skipTable 21 = .ok (.dup, 1) := by decide +kernel
theorem dX3_skipTable_22 : decode cX3_skipTable 22 = .ok (.getfield 94, 3) := by decide +kernel
theorem dX3_skipTable_25 : decode cX3_skipTable 25 = .ok (.iload_n 1, 1) := by decide +kernel
theorem dX3_skipTable_26 : decode cX3_skipTable 26 = .ok (.iadd, 1) := by decide +kernel
theorem dX3_skipTable_27 : decode cX3_skipTable 27 = .ok (.putfield 94, 3) := by decide +kernel
theorem dX3_skipTable_30 : decode cX3_skipTable 30 = .ok (.return_, 1) := by decide +kernel
theorem dX3_readWindows_0 : decode cX3_readWindows 0 = .ok (.iconst 0, 1) := by decide +kernel
theorem dX3_readWindows_1 : decode cX3_readWindows 1 = .ok (.istore_n 2, 1) := by decide +kernel
theorem dX3_readWindows_2 : decode cX3_readWindows 2 = .ok (.iload_n 2, 1) := by decide +kernel
theorem dX3_readWindows_3 : decode cX3_readWindows 3 = .ok (.sipush 8000, 3) := by decide +kernel
theorem dX3_readWindows_6 : decode cX3_readWindows 6 = .ok (.if_icmp .ge 135, 3) := by decide +kernel
theorem dX3_readWindows_9 : decode cX3_readWindows 9 = .ok (.aload_n 0, 1) := by decide +kernel
theorem dX3_readWindows_10 : decode cX3_readWindows 10 = .ok (.getfield 73, 3) := by decide +kernel
theorem dX3_readWindows_13 : decode cX3_readWindows 13 = .ok (.ifCond .ne 128, 3) := by decide +kernel
theorem dX3_readWindows_16 : decode cX3_readWindows 16 = .ok (.aload_n 0, 1) := by decide +kernel
theorem dX3_readWindows_17 : decode cX3_readWindows 17 = .ok (.getfield 12, 3) := by decide +kernel
theorem dX3_readWindows_20 : decode cX3_readWindows 20 = .ok (.invokevirtual 117, 3) := by decide +kernel
theorem dX3_readWindows_23 : decode cX3_readWindows 23 = .ok (.ifCond .le 118, 3) := by decide +kernel
theorem dX3_readWindows_26 : decode cX3_readWindows 26 = .ok (.aload_n 0, 1) := by decide +kernel
theorem dX3_readWindows_27 : decode cX3_readWindows 27 = .ok (.getfield 30, 3) := by decide +kernel
theorem dX3_readWindows_30 : decode cX3_readWindows 30 = .ok (.aload_n 1, 1) := by decide +kernel
theorem dX3_readWindows_31 : decode cX3_readWindows 31 = .ok (.invokevirtual 120, 3) := by decide +kernel
theorem dX3_readWindows_34 : decode cX3_readWindows 34 = .ok (.aload_n 0, 1) := by decide +kernel
theorem dX3_readWindows_35 : decode cX3_readWindows 35 = .ok (.invokevirtual 124, 3) := by decide +kernel
theorem dX3_readWindows_38 : decode cX3_readWindows 38 = .ok (.aload_n 0, 1) := by decide +kernel
theorem dX3_readWindows_39 : decode cX3_readWindows 39 = .ok (.invokevirtual 127, 3) := by decide +kernel
theorem dX3_readWindows_42 : decode cX3_readWindows 42 = .ok (.aload_n 0, 1) := by decide +kernel
theorem dX3_readWindows_43 : decode cX3_readWindows 43 = .ok (.getfield 73, 3) := by decide +kernel
theorem dX3_readWindows_46 : decode cX3_readWindows 46 = .ok (.ifCond .ne 13, 3) := by decide +kernel
theorem dX3_readWindows_49 : decode cX3_readWindows 49 = .ok (.aload_n 0, 1) := by decide +kernel
theorem dX3_readWindows_50 : decode cX3_readWindows 50 = .ok (.getfield 21, 3) := by decide +kernel
theorem dX3_readWindows_53 : decode cX3_readWindows 53 = .ok (.invokevirtual 117, 3) := by decide +kernel
theorem dX3_readWindows_56 : decode cX3_readWindows 56 = .ok (.goto 4, 3) := by decide +kernel
theorem dX3_readWindows_59 : decode cX3_readWindows 59 = .ok (.iconst 0, 1) := by decide +kernel
theorem dX3_readWindows_60 : decode cX3_readWindows 60 = .ok (.istore_n 3, 1) := by decide +kernel
theorem dX3_readWindows_61 : decode cX3_readWindows 61 = .ok (.iconst 0, 1) := by decide +kernel
theorem dX3_readWindows_62 : decode cX3_readWindows 62 = .ok (.istore 4, 2) := by decide +kernel
theorem dX3_readWindows_64 : decode cX3_readWindows 64 = .ok (.iload 4, 2) := by decide +kernel
theorem dX3_readWindows_66 : decode cX3_readWindows 66 = .ok (.iload_n 3, 1) := by decide +kernel
theorem dX3_readWindows_67 : decode cX3_readWindows 67 = .ok (.if_icmp .ge 64, 3) := by decide +kernel
theorem dX3_readWindows_70 : decode cX3_readWindows 70 = .ok (.aload_n 0, 1) := by decide +kernel
theorem dX3_readWindows_71 : decode cX3_readWindows 71 = .ok (.getfield 73, 3) := by decide +kernel
theorem dX3_readWindows_74 : decode cX3_readWindows 74 = .ok (.ifCond .ne 57, 3) := by decide +kernel
theorem dX3_readWindows_77 : decode cX3_readWindows 77 = .ok (.aload_n 0, 1) := by decide +kernel
theorem dX3_readWindows_78 : decode cX3_readWindows 78 = .ok (.getfield 21, 3) := by decide +kernel
theorem dX3_readWindows_81 : decode cX3_readWindows 81 = .ok (.invokevirtual 117, 3) := by decide +kernel
theorem dX3_readWindows_84 : decode cX3_readWindows 84 = .ok (.ifCond .le 47, 3) := by decide +kernel
theorem dX3_readWindows_87 : decode cX3_readWindows 87 = .ok (.aload_n 0, 1) := by decide +kernel
theorem dX3_readWindows_88 : decode cX3_readWindows 88 = .ok (.getfield 21, 3) := by decide +kernel
theorem dX3_readWindows_91 : decode cX3_readWindows 91 = .ok (.getfield 94, 3) := by decide +kernel
theorem dX3_readWindows_94 : decode cX3_readWindows 94 = .ok (.istore 5, 2) := by decide +kernel
theorem dX3_readWindows_96 : decode cX3_readWindows 96 = .ok (.aload_n 0, 1) := by decide +kernel
theorem dX3_readWindows_97 : decode cX3_readWindows 97 = .ok (.getfield 21, 3) := by decide +kernel
theorem dX3_readWindows_100 : decode cX3_readWindows 100 = .ok (.invokevirtual 83, 3) := by decide +kernel
theorem dX3_readWindows_103 : decode cX3_readWindows 103 = .ok (.istore 6, 2) := by decide +kernel
theorem dX3_readWindows_105 : decode cX3_readWindows 105 = .ok (.aload_n 0, 1) := by decide +kernel
theorem dX3_readWindows_106 : decode cX3_readWindows 106 = .ok (.aload_n 1, 1) := by decide +kernel
theorem dX3_readWindows_107 : decode cX3_readWindows 107 = .ok (.iload 6, 2) := by decide +kernel
theorem dX3_readWindows_109 : decode cX3_readWindows 109 = .ok (.iconst 0, 1) := by decide +kernel
theorem dX3_readWindows_110 : decode cX3_readWindows 110 = .ok (.iload 5, 2) := by decide +kernel
theorem dX3_readWindows_112 : decode cX3_readWindows 112 = .ok (.invokevirtual 130, 3) := by decide +kernel
theorem dX3_readWindows_115 : decode cX3_readWindows 115 = .ok (.aload_n 0, 1) := by decide +kernel
theorem dX3_readWindows_116 : decode cX3_readWindows 116 = .ok (.aload_n 1, 1) := by decide +kernel
theorem dX3_readWindows_117 : decode cX3_readWindows 117 = .ok (.iload 6, 2) := by decide +kernel
theorem dX3_readWindows_119 : decode cX3_readWindows 119 = .ok (.iconst 1, 1) := by decide +kernel
theorem dX3_readWindows_120 : decode cX3_readWindows 120 = .ok (.iload 5, 2) := by decide +kernel
theorem dX3_readWindows_122 : decode cX3_readWindows 122 = .ok (.invokevirtual 130, 3) := by decide +kernel
theorem dX3_readWindows_125 : decode cX3_readWindows 125 = .ok (.iinc 4 1, 3) := by decide +kernel
theorem dX3_readWindows_128 : decode cX3_readWindows 128 = .ok (.goto (-64), 3) := by decide +kernel
theorem dX3_readWindows_131 : decode cX3_readWindows 131 = .ok (.aload_n 0, 1) := by decide +kernel
theorem dX3_readWindows_132 : decode cX3_readWindows 132 = .ok (.invokevirtual 134, 3) := by decide +kernel
theorem dX3_readWindows_135 : decode cX3_readWindows 135 = .ok (.iinc 2 1, 3) := by decide +kernel
theorem dX3_readWindows_138 : decode cX3_readWindows 138 = .ok (.goto (-136), 3) := by decide +kernel
theorem dX3_readWindows_141 : decode cX3_readWindows 141 = .ok (.return_, 1) := by decide +kernel
theorem dX3_takeSegment_0 : decode cX3_takeSegment 0 = .ok (.aload_n 0, 1) := by decide +kernel
theorem dX3_takeSegment_1 : decode cX3_takeSegment 1 = .ok (.getfield 12, 3) := by decide +kernel
theorem dX3_takeSegment_4 : decode cX3_takeSegment 4 = .ok (.getfield 94, 3) := by decide +kernel
theorem dX3_takeSegment_7 : decode cX3_takeSegment 7 = .ok (.istore_n 1, 1) := by decide +kernel
theorem dX3_takeSegment_8 : decode cX3_takeSegment 8 = .ok (.aload_n 0, 1) := by decide +kernel
theorem dX3_takeSegment_9 : decode cX3_takeSegment 9 = .ok (.aload_n 0, 1) := by decide +kernel
theorem dX3_takeSegment_10 : decode cX3_takeSegment 10 = .ok (.invokevirtual 103, 3) := by decide +kernel
theorem dX3_takeSegment_13 : decode cX3_takeSegment 13 = .ok (.putfield 137, 3) := by decide +kernel
theorem dX3_takeSegment_16 : decode cX3_takeSegment 16 = .ok (.aload_n 0, 1) := by decide +kernel
theorem dX3_takeSegment_17 : decode cX3_takeSegment 17 = .ok (.iconst 0, 1) := by decide +kernel
theorem dX3_takeSegment_18 : decode cX3_takeSegment 18 = .ok (.putfield 140, 3) := by decide +kernel
theorem dX3_takeSegment_21 : decode cX3_takeSegment 21 = .ok (.aload_n 0, 1) := by decide +kernel
theorem dX3_takeSegment_22 : decode cX3_takeSegment 22 = .ok (.iconst 0, 1) := by decide +kernel
theorem dX3_takeSegment_23 : decode cX3_takeSegment 23 = .ok (.putfield 143, 3) := by decide +kernel
theorem dX3_takeSegment_26 : decode cX3_takeSegment 26 = .ok (.aload_n 0, 1) := by decide +kernel
theorem dX3_takeSegment_27 : decode cX3_takeSegment 27 = .ok (.getfield 137, 3) := by decide +kernel
theorem dX3_takeSegment_30 : decode cX3_takeSegment 30 = .ok (.iconst 2, 1) := by decide +kernel
theorem dX3_takeSegment_31 : decode cX3_takeSegment 31 = .ok (.if_icmp .le 9, 3) := by decide +kernel
theorem dX3_takeSegment_34 : decode cX3_takeSegment 34 = .ok (.aload_n 0, 1) := by decide +kernel
theorem dX3_takeSegment_35 : decode cX3_takeSegment 35 = .ok (.iconst 5, 1) := by decide +kernel
theorem dX3_takeSegment_36 : decode cX3_takeSegment 36 = .ok (.iload_n 1, 1) := by decide +kernel
theorem dX3_takeSegment_37 : decode cX3_takeSegment 37 = .ok (.invokevirtual 90, 3) := by decide +kernel
theorem dX3_takeSegment_40 : decode cX3_takeSegment 40 = .ok (.aload_n 0, 1) := by decide +kernel
theorem dX3_takeSegment_41 : decode cX3_takeSegment 41 = .ok (.getfield 137, 3) := by decide +kernel
theorem dX3_takeSegment_44 : decode cX3_takeSegment 44 = .ok (.ifCond .ne 4, 3) := by decide +kernel
theorem dX3_takeSegment_47 : decode cX3_takeSegment 47 = .ok (.return_, 1) := by decide +kernel
theorem dX3_takeSegment_48 : decode cX3_takeSegment 48 = .ok (.aload_n 0, 1) := by decide +kernel
theorem dX3_takeSegment_49 : decode cX3_takeSegment 49 = .ok (.aload_n 0, 1) := by decide +kernel
theorem dX3_takeSegment_50 : decode cX3_takeSegment 50 = .ok (.invokevirtual 106, 3) := by decide +kernel
theorem dX3_takeSegment_53 : decode cX3_takeSegment 53 = .ok (.putfield 140, 3) := by decide +kernel
theorem dX3_takeSegment_56 : decode cX3_takeSegment 56 = .ok (.aload_n 0, 1) := by decide +kernel
theorem dX3_takeSegment_57 : decode cX3_takeSegment 57 = .ok (.getfield 12, 3) := by decide +kernel
theorem dX3_takeSegment_60 : decode cX3_takeSegment 60 = .ok (.getfield 94, 3) := by decide +kernel
theorem dX3_takeSegment_63 : decode cX3_takeSegment 63 = .ok (.istore_n 1, 1) := by decide +kernel
theorem dX3_takeSegment_64 : decode cX3_takeSegment 64 = .ok (.aload_n 0, 1) := by decide +kernel
theorem dX3_takeSegment_65 : decode cX3_takeSegment 65 = .ok (.aload_n 0, 1) := by decide +kernel
theorem dX3_takeSegment_66 : decode cX3_takeSegment 66 = .ok (.invokevirtual 106, 3) := by decide +kernel
theorem dX3_takeSegment_69 : decode cX3_takeSegment 69 = .ok (.putfield 143, 3) := by decide +kernel
theorem dX3_takeSegment_72 : decode cX3_takeSegment 72 = .ok (.aload_n 0, 1) := by decide +kernel
theorem dX3_takeSegment_73 : decode cX3_takeSegment 73 = .ok (.getfield 137, 3) := by decide +kernel
theorem dX3_takeSegment_76 : decode cX3_takeSegment 76 = .ok (.iconst 1, 1) := by decide +kernel
theorem dX3_takeSegment_77 : decode cX3_takeSegment 77 = .ok (.if_icmp .ne 13, 3) := by decide +kernel
theorem dX3_takeSegment_80 : decode cX3_takeSegment 80 = .ok (.aload_n 0, 1) := by decide +kernel
theorem dX3_takeSegment_81 : decode cX3_takeSegment 81 = .ok (.getfield 53, 3) := by decide +kernel
theorem dX3_takeSegment_84 : decode cX3_takeSegment 84 = .ok (.getfield 146, 3) := by decide +kernel
theorem dX3_takeSegment_87 : decode cX3_takeSegment 87 = .ok (.goto 10, 3) := by decide +kernel
theorem dX3_takeSegment_90 : decode cX3_takeSegment 90 = .ok (.aload_n 0, 1) := by decide +kernel
theorem dX3_takeSegment_91 : decode cX3_takeSegment 91 = .ok (.getfield 39, 3) := by decide +kernel
theorem dX3_takeSegment_94 : decode cX3_takeSegment 94 = .ok (.getfield 146, 3) := by decide +kernel
theorem dX3_takeSegment_97 : decode cX3_takeSegment 97 = .ok (.istore_n 2, 1) := by decide +kernel
theorem dX3_takeSegment_98 : decode cX3_takeSegment 98 = .ok (.aload_n 0, 1) := by decide +kernel
theorem dX3_takeSegment_99 : decode cX3_takeSegment 99 = .ok (.getfield 143, 3) := by decide +kernel
theorem dX3_takeSegment_102 : decode cX3_takeSegment 102 = .ok (.i2l, 1) := by decide +kernel
theorem dX3_takeSegment_103 : decode cX3_takeSegment 103 = .ok (.aload_n 0, 1) := by decide +kernel
theorem dX3_takeSegment_104 : decode cX3_takeSegment 104 = .ok (.getfield 140, 3) := by decide +kernel
theorem dX3_takeSegment_107 : decode cX3_takeSegment 107 = .ok (.i2l, 1) := by decide +kernel
theorem dX3_takeSegment_108 : decode cX3_takeSegment 108 = .ok (.ladd, 1) := by decide +kernel
theorem dX3_takeSegment_109 : decode cX3_takeSegment 109 = .ok (.iload_n 2, 1) := by decide +kernel
theorem dX3_takeSegment_110 : decode cX3_takeSegment 110 = .ok (.i2l, 1) := by decide +kernel
theorem dX3_takeSegment_111 : decode cX3_takeSegment 111 = .ok (.lcmp, 1) := by decide +kernel
theorem dX3_takeSegment_112 : decode cX3_takeSegment 112 = .ok (.ifCond .le 10, 3) := by decide +kernel
theorem dX3_takeSegment_115 : decode cX3_takeSegment 115 = .ok (.aload_n 0, 1) := by decide +kernel
theorem dX3_takeSegment_116 : decode cX3_takeSegment 116 = .ok (.bipush 6, 2) := by decide +kernel
theorem dX3_takeSegment_118 : decode cX3_takeSegment 118 = .ok (.iload_n 1, 1) := by decide +kernel
theorem dX3_takeSegment_119 : decode cX3_takeSegment 119 = .ok (.invokevirtual 90, 3) := by decide +kernel
theorem dX3_takeSegment_122 : decode cX3_takeSegment 122 = .ok (.return_, 1) := by decide +kernel
theorem dX3_takeSizes_0 : decode cX3_takeSizes 0 = .ok (.aload_n 0, 1) := by decide +kernel
theorem dX3_takeSizes_1 : decode cX3_takeSizes 1 = .ok (.getfield 12, 3) := by decide +kernel
theorem dX3_takeSizes_4 : decode cX3_takeSizes 4 = .ok (.getfield 94, 3) := by decide +kernel
theorem dX3_takeSizes_7 : decode cX3_takeSizes 7 = .ok (.istore_n 1, 1) := by decide +kernel
theorem dX3_takeSizes_8 : decode cX3_takeSizes 8 = .ok (.aload_n 0, 1) := by decide +kernel
theorem dX3_takeSizes_9 : decode cX3_takeSizes 9 = .ok (.invokevirtual 106, 3) := by decide +kernel
theorem dX3_takeSizes_12 : decode cX3_takeSizes 12 = .ok (.istore_n 2, 1) := by decide +kernel
theorem dX3_takeSizes_13 : decode cX3_takeSizes 13 = .ok (.aload_n 0, 1) := by decide +kernel
theorem dX3_takeSizes_14 : decode cX3_takeSizes 14 = .ok (.getfield 12, 3) := by decide +kernel
theorem dX3_takeSizes_17 : decode cX3_takeSizes 17 = .ok (.getfield 94, 3) := by decide +kernel
theorem dX3_takeSizes_20 : decode cX3_takeSizes 20 = .ok (.istore_n 3, 1) := by decide +kernel
theorem dX3_takeSizes_21 : decode cX3_takeSizes 21 = .ok (.aload_n 0, 1) := by decide +kernel
theorem dX3_takeSizes_22 : decode cX3_takeSizes 22 = .ok (.invokevirtual 106, 3) := by decide +kernel
theorem dX3_takeSizes_25 : decode cX3_takeSizes 25 = .ok (.istore 4, 2) := by decide +kernel
theorem dX3_takeSizes_27 : decode cX3_takeSizes 27 = .ok (.iload 4, 2) := by decide +kernel
theorem dX3_takeSizes_29 : decode cX3_takeSizes 29 = .ok (.aload_n 0, 1) := by decide +kernel
theorem dX3_takeSizes_30 : decode cX3_takeSizes 30 = .ok (.getfield 39, 3) := by decide +kernel
theorem dX3_takeSizes_33 : decode cX3_takeSizes 33 = .ok (.invokevirtual 149, 3) := by decide +kernel
theorem dX3_takeSizes_36 : decode cX3_takeSizes 36 = .ok (.if_icmp .le 10, 3) := by decide +kernel
theorem dX3_takeSizes_39 : decode cX3_takeSizes 39 = .ok (.aload_n 0, 1) := by decide +kernel
theorem dX3_takeSizes_40 : decode cX3_takeSizes 40 = .ok (.bipush 7, 2) := by decide +kernel
theorem dX3_takeSizes_42 : decode cX3_takeSizes 42 = .ok (.iload_n 3, 1) := by decide +kernel
theorem dX3_takeSizes_43 : decode cX3_takeSizes 43 = .ok (.invokevirtual 90, 3) := by decide +kernel
theorem dX3_takeSizes_46 : decode cX3_takeSizes 46 = .ok (.aload_n 0, 1) := by decide +kernel
theorem dX3_takeSizes_47 : decode cX3_takeSizes 47 = .ok (.getfield 12, 3) := by decide +kernel
theorem dX3_takeSizes_50 : decode cX3_takeSizes 50 = .ok (.getfield 94, 3) := by decide +kernel
theorem dX3_takeSizes_53 : decode cX3_takeSizes 53 = .ok (.istore 5, 2) := by decide +kernel
theorem dX3_takeSizes_55 : decode cX3_takeSizes 55 = .ok (.aload_n 0, 1) := by decide +kernel
theorem dX3_takeSizes_56 : decode cX3_takeSizes 56 = .ok (.invokevirtual 103, 3) := by decide +kernel
theorem dX3_takeSizes_59 : decode cX3_takeSizes 59 = .ok (.ifCond .eq 11, 3) := by decide +kernel
theorem dX3_takeSizes_62 : decode cX3_takeSizes 62 = .ok (.aload_n 0, 1) := by decide +kernel
theorem dX3_takeSizes_63 : decode cX3_takeSizes 63 = .ok (.bipush 9, 2) := by decide +kernel
theorem dX3_takeSizes_65 : decode cX3_takeSizes 65 = .ok (.iload 5, 2) := by decide +kernel
theorem dX3_takeSizes_67 : decode cX3_takeSizes 67 = .ok (.invokevirtual 90, 3) := by decide +kernel
theorem dX3_takeSizes_70 : decode cX3_takeSizes 70 = .ok (.aload_n 0, 1) := by decide +kernel
theorem dX3_takeSizes_71 : decode cX3_takeSizes 71 = .ok (.invokevirtual 106, 3) := by decide +kernel
theorem dX3_takeSizes_74 : decode cX3_takeSizes 74 = .ok (.istore 6, 2) := by decide +kernel
theorem dX3_takeSizes_76 : decode cX3_takeSizes 76 = .ok (.aload_n 0, 1) := by decide +kernel
theorem dX3_takeSizes_77 : decode cX3_takeSizes 77 = .ok (.invokevirtual 106, 3) := by decide +kernel
theorem dX3_takeSizes_80 : decode cX3_takeSizes 80 = .ok (.istore 7, 2) := by decide +kernel
theorem dX3_takeSizes_82 : decode cX3_takeSizes 82 = .ok (.aload_n 0, 1) := by decide +kernel
theorem dX3_takeSizes_83 : decode cX3_takeSizes 83 = .ok (.invokevirtual 106, 3) := by decide +kernel
theorem dX3_takeSizes_86 : decode cX3_takeSizes 86 = .ok (.istore 8, 2) := by decide +kernel
theorem dX3_takeSizes_88 : decode cX3_takeSizes 88 = .ok (.iload 6, 2) := by decide +kernel
theorem dX3_takeSizes_90 : decode cX3_takeSizes 90 = .ok (.i2l, 1) := by decide +kernel
theorem dX3_takeSizes_91 : decode cX3_takeSizes 91 = .ok (.iload 7, 2) := by decide +kernel
theorem dX3_takeSizes_93 : decode cX3_takeSizes 93 = .ok (.i2l, 1) := by decide +kernel
theorem dX3_takeSizes_94 : decode cX3_takeSizes 94 = .ok (.ladd, 1) := by decide +kernel
theorem dX3_takeSizes_95 : decode cX3_takeSizes 95 = .ok (.iload 8, 2) := by decide +kernel
theorem dX3_takeSizes_97 : decode cX3_takeSizes 97 = .ok (.i2l, 1) := by decide +kernel
theorem dX3_takeSizes_98 : decode cX3_takeSizes 98 = .ok (.ladd, 1) := by decide +kernel
theorem dX3_takeSizes_99 : decode cX3_takeSizes 99 = .ok (.lstore 9, 2) := by decide +kernel
theorem dX3_takeSizes_101 : decode cX3_takeSizes 101 = .ok (.iload_n 2, 1) := by decide +kernel
theorem dX3_takeSizes_102 : decode cX3_takeSizes 102 = .ok (.i2l, 1) := by decide +kernel
theorem dX3_takeSizes_103 : decode cX3_takeSizes 103 = .ok (.aload_n 0, 1) := by decide +kernel
theorem dX3_takeSizes_104 : decode cX3_takeSizes 104 = .ok (.getfield 12, 3) := by decide +kernel
theorem dX3_takeSizes_107 : decode cX3_takeSizes 107 = .ok (.getfield 94, 3) := by decide +kernel
theorem dX3_takeSizes_110 : decode cX3_takeSizes 110 = .ok (.iload_n 3, 1) := by decide +kernel
theorem dX3_takeSizes_111 : decode cX3_takeSizes 111 = .ok (.isub, 1) := by decide +kernel
theorem dX3_takeSizes_112 : decode cX3_takeSizes 112 = .ok (.i2l, 1) := by decide +kernel
theorem dX3_takeSizes_113 : decode cX3_takeSizes 113 = .ok (.lload 9, 2) := by decide +kernel
theorem dX3_takeSizes_115 : decode cX3_takeSizes 115 = .ok (.ladd, 1) := by decide +kernel
theorem dX3_takeSizes_116 : decode cX3_takeSizes 116 = .ok (.lcmp, 1) := by decide +kernel
theorem dX3_takeSizes_117 : decode cX3_takeSizes 117 = .ok (.ifCond .eq 10, 3) := by decide +kernel
theorem dX3_takeSizes_120 : decode cX3_takeSizes 120 = .ok (.aload_n 0, 1) := by decide +kernel
theorem dX3_takeSizes_121 : decode cX3_takeSizes 121 = .ok (.bipush 8, 2) := by decide +kernel
theorem dX3_takeSizes_123 : decode cX3_takeSizes 123 = .ok (.iload_n 1, 1) := by decide +kernel
theorem dX3_takeSizes_124 : decode cX3_takeSizes 124 = .ok (.invokevirtual 90, 3) := by decide +kernel
theorem dX3_takeSizes_127 : decode cX3_takeSizes 127 = .ok (.lload 9, 2) := by decide +kernel
theorem dX3_takeSizes_129 : decode cX3_takeSizes 129 = .ok (.aload_n 0, 1) := by decide +kernel
theorem dX3_takeSizes_130 : decode cX3_takeSizes 130 = .ok (.getfield 12, 3) := by decide +kernel
theorem dX3_takeSizes_133 : decode cX3_takeSizes 133 = .ok (.invokevirtual 117, 3) := by decide +kernel
theorem dX3_takeSizes_136 : decode cX3_takeSizes 136 = .ok (.i2l, 1) := by decide +kernel
theorem dX3_takeSizes_137 : decode cX3_takeSizes 137 = .ok (.lcmp, 1) := by decide +kernel
theorem dX3_takeSizes_138 : decode cX3_takeSizes 138 = .ok (.ifCond .le 15, 3) := by decide +kernel
theorem dX3_takeSizes_141 : decode cX3_takeSizes 141 = .ok (.aload_n 0, 1) := by decide +kernel
theorem dX3_takeSizes_142 : decode cX3_takeSizes 142 = .ok (.iconst 1, 1) := by decide +kernel
theorem dX3_takeSizes_143 : decode cX3_takeSizes 143 = .ok (.aload_n 0, 1) := by decide +kernel
theorem dX3_takeSizes_144 : decode cX3_takeSizes 144 = .ok (.getfield 12, 3) := by decide +kernel
theorem dX3_takeSizes_147 : decode cX3_takeSizes 147 = .ok (.getfield 87, 3) := by decide +kernel
theorem dX3_takeSizes_150 : decode cX3_takeSizes 150 = .ok (.invokevirtual 90, 3) := by decide +kernel
theorem dX3_takeSizes_153 : decode cX3_takeSizes 153 = .ok (.aload_n 0, 1) := by decide +kernel
theorem dX3_takeSizes_154 : decode cX3_takeSizes 154 = .ok (.getfield 73, 3) := by decide +kernel
theorem dX3_takeSizes_157 : decode cX3_takeSizes 157 = .ok (.ifCond .ne 126, 3) := by decide +kernel
theorem dX3_takeSizes_160 : decode cX3_takeSizes 160 = .ok (.aload_n 0, 1) := by decide +kernel
theorem dX3_takeSizes_161 : decode cX3_takeSizes 161 = .ok (.aload_n 0, 1) := by decide +kernel
theorem dX3_takeSizes_162 : decode cX3_takeSizes 162 = .ok (.getfield 39, 3) := by decide +kernel
theorem dX3_takeSizes_165 : decode cX3_takeSizes 165 = .ok (.getfield 146, 3) := by decide +kernel
theorem dX3_takeSizes_168 : decode cX3_takeSizes 168 = .ok (.putfield 152, 3) := by decide +kernel
theorem dX3_takeSizes_171 : decode cX3_takeSizes 171 = .ok (.aload_n 0, 1) := by decide +kernel
theorem dX3_takeSizes_172 : decode cX3_takeSizes 172 = .ok (.aload_n 0, 1) := by decide +kernel
theorem dX3_takeSizes_173 : decode cX3_takeSizes 173 = .ok (.getfield 39, 3) := by decide +kernel
theorem dX3_takeSizes_176 : decode cX3_takeSizes 176 = .ok (.getfield 146, 3) := by decide +kernel
theorem dX3_takeSizes_179 : decode cX3_takeSizes 179 = .ok (.iload 4, 2) := by decide +kernel
theorem dX3_takeSizes_181 : decode cX3_takeSizes 181 = .ok (.iadd, 1) := by decide +kernel
theorem dX3_takeSizes_182 : decode cX3_takeSizes 182 = .ok (.putfield 155, 3) := by decide +kernel
theorem dX3_takeSizes_185 : decode cX3_takeSizes 185 = .ok (.aload_n 0, 1) := by decide +kernel
theorem dX3_takeSizes_186 : decode cX3_takeSizes 186 = .ok (.getfield 18, 3) := by decide +kernel
theorem dX3_takeSizes_189 : decode cX3_takeSizes 189 = .ok (.aload_n 0, 1) := by decide +kernel
theorem dX3_takeSizes_190 : decode cX3_takeSizes 190 = .ok (.getfield 56, 3) := by decide +kernel
theorem dX3_takeSizes_193 : decode cX3_takeSizes 193 = .ok (.aload_n 0, 1) := by decide +kernel
theorem dX3_takeSizes_194 : decode cX3_takeSizes 194 = .ok (.getfield 12, 3) := by decide +kernel
theorem dX3_takeSizes_197 : decode cX3_takeSizes 197 = .ok (.getfield 94, 3) := by decide +kernel
theorem dX3_takeSizes_200 : decode cX3_takeSizes 200 = .ok (.aload_n 0, 1) := by decide +kernel
theorem dX3_takeSizes_201 : decode cX3_takeSizes 201 = .ok (.getfield 12, 3) := by decide +kernel
theorem dX3_takeSizes_204 : decode cX3_takeSizes 204 = .ok (.getfield 94, 3) := by decide +kernel
theorem dX3_takeSizes_207 : decode cX3_takeSizes 207 = .ok (.iload 6, 2) := by decide +kernel
theorem dX3_takeSizes_209 : decode cX3_takeSizes 209 = .ok (.iadd, 1) := by decide +kernel
theorem dX3_takeSizes_210 : decode cX3_takeSizes 210 = .ok (.invokevirtual 66, 3) := by decide +kernel
theorem dX3_takeSizes_213 : decode cX3_takeSizes 213 = .ok (.aload_n 0, 1) := by decide +kernel
theorem dX3_takeSizes_214 : decode cX3_takeSizes 214 = .ok (.getfield 21, 3) := by decide +kernel
theorem dX3_takeSizes_217 : decode cX3_takeSizes 217 = .ok (.aload_n 0, 1) := by decide +kernel
theorem dX3_takeSizes_218 : decode cX3_takeSizes 218 = .ok (.getfield 56, 3) := by decide +kernel
theorem dX3_takeSizes_221 : decode cX3_takeSizes 221 = .ok (.aload_n 0, 1) := by decide +kernel
theorem dX3_takeSizes_222 : decode cX3_takeSizes 222 = .ok (.getfield 18, 3) := by decide +kernel
theorem dX3_takeSizes_225 : decode cX3_takeSizes 225 = .ok (.getfield 87, 3) := by decide +kernel
theorem dX3_takeSizes_228 : decode cX3_takeSizes 228 = .ok (.aload_n 0, 1) := by decide +kernel
theorem dX3_takeSizes_229 : decode cX3_takeSizes 229 = .ok (.getfield 18, 3) := by decide +kernel
theorem dX3_takeSizes_232 : decode cX3_takeSizes 232 = .ok (.getfield 87, 3) := by decide +kernel
theorem dX3_takeSizes_235 : decode cX3_takeSizes 235 = .ok (.iload 7, 2) := by decide +kernel
theorem dX3_takeSizes_237 : decode cX3_takeSizes 237 = .ok (.iadd, 1) := by decide +kernel
theorem dX3_takeSizes_238 : decode cX3_takeSizes 238 = .ok (.invokevirtual 66, 3) := by decide +kernel
theorem dX3_takeSizes_241 : decode cX3_takeSizes 241 = .ok (.aload_n 0, 1) := by decide +kernel
theorem dX3_takeSizes_242 : decode cX3_takeSizes 242 = .ok (.getfield 24, 3) := by decide +kernel
theorem dX3_takeSizes_245 : decode cX3_takeSizes 245 = .ok (.aload_n 0, 1) := by decide +kernel
theorem dX3_takeSizes_246 : decode cX3_takeSizes 246 = .ok (.getfield 56, 3) := by decide +kernel
theorem dX3_takeSizes_249 : decode cX3_takeSizes 249 = .ok (.aload_n 0, 1) := by decide +kernel
theorem dX3_takeSizes_250 : decode cX3_takeSizes 250 = .ok (.getfield 21, 3) := by decide +kernel
theorem dX3_takeSizes_253 : decode cX3_takeSizes 253 = .ok (.getfield 87, 3) := by decide +kernel
theorem dX3_takeSizes_256 : decode cX3_takeSizes 256 = .ok (.aload_n 0, 1) := by decide +kernel
theorem dX3_takeSizes_257 : decode cX3_takeSizes 257 = .ok (.getfield 21, 3) := by decide +kernel
theorem dX3_takeSizes_260 : decode cX3_takeSizes 260 = .ok (.getfield 87, 3) := by decide +kernel
theorem dX3_takeSizes_263 : decode cX3_takeSizes 263 = .ok (.iload 8, 2) := by decide +kernel
theorem dX3_takeSizes_265 : decode cX3_takeSizes 265 = .ok (.iadd, 1) := by decide +kernel
theorem dX3_takeSizes_266 : decode cX3_takeSizes 266 = .ok (.invokevirtual 66, 3) := by decide +kernel
theorem dX3_takeSizes_269 : decode cX3_takeSizes 269 = .ok (.aload_n 0, 1) := by decide +kernel
theorem dX3_takeSizes_270 : decode cX3_takeSizes 270 = .ok (.getfield 12, 3) := by decide +kernel
theorem dX3_takeSizes_273 : decode cX3_takeSizes 273 = .ok (.aload_n 0, 1) := by decide +kernel
theorem dX3_takeSizes_274 : decode cX3_takeSizes 274 = .ok (.getfield 24, 3) := by decide +kernel
theorem dX3_takeSizes_277 : decode cX3_takeSizes 277 = .ok (.getfield 87, 3) := by decide +kernel
theorem dX3_takeSizes_280 : decode cX3_takeSizes 280 = .ok (.putfield 94, 3) := by decide +kernel
theorem dX3_takeSizes_283 : decode cX3_takeSizes 283 = .ok (.return_, 1) := by decide +kernel
theorem dX3_endWindow_0 : decode cX3_endWindow 0 = .ok (.aload_n 0, 1) := by decide +kernel
theorem dX3_endWindow_1 : decode cX3_endWindow 1 = .ok (.getfield 73, 3) := by decide +kernel
theorem dX3_endWindow_4 : decode cX3_endWindow 4 = .ok (.ifCond .eq 4, 3) := by decide +kernel
theorem dX3_endWindow_7 : decode cX3_endWindow 7 = .ok (.return_, 1) := by decide +kernel
theorem dX3_endWindow_8 : decode cX3_endWindow 8 = .ok (.aload_n 0, 1) := by decide +kernel
theorem dX3_endWindow_9 : decode cX3_endWindow 9 = .ok (.getfield 39, 3) := by decide +kernel
theorem dX3_endWindow_12 : decode cX3_endWindow 12 = .ok (.getfield 146, 3) := by decide +kernel
theorem dX3_endWindow_15 : decode cX3_endWindow 15 = .ok (.aload_n 0, 1) := by decide +kernel
theorem dX3_endWindow_16 : decode cX3_endWindow 16 = .ok (.getfield 155, 3) := by decide +kernel
theorem dX3_endWindow_19 : decode cX3_endWindow 19 = .ok (.if_icmp .ge 19, 3) := by decide +kernel
theorem dX3_endWindow_22 : decode cX3_endWindow 22 = .ok (.aload_n 0, 1) := by decide +kernel
theorem dX3_endWindow_23 : decode cX3_endWindow 23 = .ok (.bipush 16, 2) := by decide +kernel
theorem dX3_endWindow_25 : decode cX3_endWindow 25 = .ok (.aload_n 0, 1) := by decide +kernel
theorem dX3_endWindow_26 : decode cX3_endWindow 26 = .ok (.getfield 12, 3) := by decide +kernel
theorem dX3_endWindow_29 : decode cX3_endWindow 29 = .ok (.getfield 94, 3) := by decide +kernel
theorem dX3_endWindow_32 : decode cX3_endWindow 32 = .ok (.invokevirtual 90, 3) := by decide +kernel
theorem dX3_endWindow_35 : decode cX3_endWindow 35 = .ok (.goto 49, 3) := by decide +kernel
theorem dX3_endWindow_38 : decode cX3_endWindow 38 = .ok (.aload_n 0, 1) := by decide +kernel
theorem dX3_endWindow_39 : decode cX3_endWindow 39 = .ok (.getfield 18, 3) := by decide +kernel
theorem dX3_endWindow_42 : decode cX3_endWindow 42 = .ok (.invokevirtual 117, 3) := by decide +kernel
theorem dX3_endWindow_45 : decode cX3_endWindow 45 = .ok (.ifCond .gt 13, 3) := by decide +kernel
theorem dX3_endWindow_48 : decode cX3_endWindow 48 = .ok (.aload_n 0, 1) := by decide +kernel
theorem dX3_endWindow_49 : decode cX3_endWindow 49 = .ok (.getfield 24, 3) := by decide +kernel
theorem dX3_endWindow_52 : decode cX3_endWindow 52 = .ok (.invokevirtual 117, 3) := by decide +kernel
theorem dX3_endWindow_55 : decode cX3_endWindow 55 = .ok (.ifCond .le 19, 3) := by decide +kernel
theorem dX3_endWindow_58 : decode cX3_endWindow 58 = .ok (.aload_n 0, 1) := by decide +kernel
theorem dX3_endWindow_59 : decode cX3_endWindow 59 = .ok (.bipush 17, 2) := by decide +kernel
theorem dX3_endWindow_61 : decode cX3_endWindow 61 = .ok (.aload_n 0, 1) := by decide +kernel
theorem dX3_endWindow_62 : decode cX3_endWindow 62 = .ok (.getfield 12, 3) := by decide +kernel
theorem dX3_endWindow_65 : decode cX3_endWindow 65 = .ok (.getfield 94, 3) := by decide +kernel
theorem dX3_endWindow_68 : decode cX3_endWindow 68 = .ok (.invokevirtual 90, 3) := by decide +kernel
theorem dX3_endWindow_71 : decode cX3_endWindow 71 = .ok (.goto 13, 3) := by decide +kernel
theorem dX3_endWindow_74 : decode cX3_endWindow 74 = .ok (.aload_n 0, 1) := by decide +kernel
theorem dX3_endWindow_75 : decode cX3_endWindow 75 = .ok (.dup, 1) := by decide +kernel
theorem dX3_endWindow_76 : decode cX3_endWindow 76 = .ok (.getfield 80, 3) := by decide +kernel
theorem dX3_endWindow_79 : decode cX3_endWindow 79 = .ok (.iconst 1, 1) := by decide +kernel
theorem dX3_endWindow_80 : decode cX3_endWindow 80 = .ok (.iadd, 1) := by decide +kernel
theorem dX3_endWindow_81 : decode cX3_endWindow 81 = .ok (.putfield 80, 3) := by decide +kernel
theorem dX3_endWindow_84 : decode cX3_endWindow 84 = .ok (.return_, 1) := by decide +kernel
theorem dX3_runPart_0 : decode cX3_runPart 0 = .ok (.aload_n 1, 1) := by decide +kernel
theorem dX3_runPart_1 : decode cX3_runPart 1 = .ok (.iload_n 2, 1) := by decide +kernel
theorem dX3_runPart_2 : decode cX3_runPart 2 = .ok (.iload_n 3, 1) := by decide +kernel
theorem dX3_runPart_3 : decode cX3_runPart 3 = .ok (.invokevirtual 158, 3) := by decide +kernel
theorem dX3_runPart_6 : decode cX3_runPart 6 = .ok (.istore 5, 2) := by decide +kernel
theorem dX3_runPart_8 : decode cX3_runPart 8 = .ok (.aload_n 0, 1) := by decide +kernel
theorem dX3_runPart_9 : decode cX3_runPart 9 = .ok (.getfield 73, 3) := by decide +kernel
theorem dX3_runPart_12 : decode cX3_runPart 12 = .ok (.ifCond .ne 8, 3) := by decide +kernel
theorem dX3_runPart_15 : decode cX3_runPart 15 = .ok (.iload 5, 2) := by decide +kernel
theorem dX3_runPart_17 : decode cX3_runPart 17 = .ok (.ifCond .ne 4, 3) := by decide +kernel
theorem dX3_runPart_20 : decode cX3_runPart 20 = .ok (.return_, 1) := by decide +kernel
theorem dX3_runPart_21 : decode cX3_runPart 21 = .ok (.aload_n 1, 1) := by decide +kernel
theorem dX3_runPart_22 : decode cX3_runPart 22 = .ok (.iload_n 2, 1) := by decide +kernel
theorem dX3_runPart_23 : decode cX3_runPart 23 = .ok (.iload_n 3, 1) := by decide +kernel
theorem dX3_runPart_24 : decode cX3_runPart 24 = .ok (.invokevirtual 161, 3) := by decide +kernel
theorem dX3_runPart_27 : decode cX3_runPart 27 = .ok (.istore 6, 2) := by decide +kernel
theorem dX3_runPart_29 : decode cX3_runPart 29 = .ok (.iload 6, 2) := by decide +kernel
theorem dX3_runPart_31 : decode cX3_runPart 31 = .ok (.ifCond .ne 12, 3) := by decide +kernel
theorem dX3_runPart_34 : decode cX3_runPart 34 = .ok (.aload_n 0, 1) := by decide +kernel
theorem dX3_runPart_35 : decode cX3_runPart 35 = .ok (.getfield 21, 3) := by decide +kernel
theorem dX3_runPart_38 : decode cX3_runPart 38 = .ok (.invokevirtual 97, 3) := by decide +kernel
theorem dX3_runPart_41 : decode cX3_runPart 41 = .ok (.istore 6, 2) := by decide +kernel
theorem dX3_runPart_43 : decode cX3_runPart 43 = .ok (.iload 6, 2) := by decide +kernel
theorem dX3_runPart_45 : decode cX3_runPart 45 = .ok (.ifCond .ge 14, 3) := by decide +kernel
theorem dX3_runPart_48 : decode cX3_runPart 48 = .ok (.aload_n 0, 1) := by decide +kernel
theorem dX3_runPart_49 : decode cX3_runPart 49 = .ok (.bipush 11, 2) := by decide +kernel
theorem dX3_runPart_51 : decode cX3_runPart 51 = .ok (.iload 4, 2) := by decide +kernel
theorem dX3_runPart_53 : decode cX3_runPart 53 = .ok (.invokevirtual 90, 3) := by decide +kernel
theorem dX3_runPart_56 : decode cX3_runPart 56 = .ok (.goto 66, 3) := by decide +kernel
theorem dX3_runPart_59 : decode cX3_runPart 59 = .ok (.iload 6, 2) := by decide +kernel
theorem dX3_runPart_61 : decode cX3_runPart 61 = .ok (.aload_n 0, 1) := by decide +kernel
theorem dX3_runPart_62 : decode cX3_runPart 62 = .ok (.getfield 155, 3) := by decide +kernel
theorem dX3_runPart_65 : decode cX3_runPart 65 = .ok (.aload_n 0, 1) := by decide +kernel
theorem dX3_runPart_66 : decode cX3_runPart 66 = .ok (.getfield 39, 3) := by decide +kernel
theorem dX3_runPart_69 : decode cX3_runPart 69 = .ok (.getfield 146, 3) := by decide +kernel
theorem dX3_runPart_72 : decode cX3_runPart 72 = .ok (.isub, 1) := by decide +kernel
theorem dX3_runPart_73 : decode cX3_runPart 73 = .ok (.if_icmp .le 14, 3) := by decide +kernel
theorem dX3_runPart_76 : decode cX3_runPart 76 = .ok (.aload_n 0, 1) := by decide +kernel
theorem dX3_runPart_77 : decode cX3_runPart 77 = .ok (.bipush 15, 2) := by decide +kernel
theorem dX3_runPart_79 : decode cX3_runPart 79 = .ok (.iload 4, 2) := by decide +kernel
theorem dX3_runPart_81 : decode cX3_runPart 81 = .ok (.invokevirtual 90, 3) := by decide +kernel
theorem dX3_runPart_84 : decode cX3_runPart 84 = .ok (.goto 38, 3) := by decide +kernel
theorem dX3_runPart_87 : decode cX3_runPart 87 = .ok (.iload 5, 2) := by decide +kernel
theorem dX3_runPart_89 : decode cX3_runPart 89 = .ok (.iconst 3, 1) := by decide +kernel
theorem dX3_runPart_90 : decode cX3_runPart 90 = .ok (.if_icmp .ne 21, 3) := by decide +kernel
theorem dX3_runPart_93 : decode cX3_runPart 93 = .ok (.aload_n 0, 1) := by decide +kernel
theorem dX3_runPart_94 : decode cX3_runPart 94 = .ok (.iload 6, 2) := by decide +kernel
theorem dX3_runPart_96 : decode cX3_runPart 96 = .ok (.aload_n 1, 1) := by decide +kernel
theorem dX3_runPart_97 : decode cX3_runPart 97 = .ok (.iload_n 2, 1) := by decide +kernel
theorem dX3_runPart_98 : decode cX3_runPart 98 = .ok (.iload_n 3, 1) := by decide +kernel
theorem dX3_runPart_99 : decode cX3_runPart 99 = .ok (.invokevirtual 164, 3) := by decide +kernel
theorem dX3_runPart_102 : decode cX3_runPart 102 = .ok (.iload_n 2, 1) := by decide +kernel
theorem dX3_runPart_103 : decode cX3_runPart 103 = .ok (.iload 4, 2) := by decide +kernel
theorem dX3_runPart_105 : decode cX3_runPart 105 = .ok (.invokevirtual 167, 3) := by decide +kernel
theorem dX3_runPart_108 : decode cX3_runPart 108 = .ok (.goto 14, 3) := by decide +kernel
theorem dX3_runPart_111 : decode cX3_runPart 111 = .ok (.aload_n 0, 1) := by decide +kernel
theorem dX3_runPart_112 : decode cX3_runPart 112 = .ok (.iload 5, 2) := by decide +kernel
theorem dX3_runPart_114 : decode cX3_runPart 114 = .ok (.iload 6, 2) := by decide +kernel
theorem dX3_runPart_116 : decode cX3_runPart 116 = .ok (.iload_n 2, 1) := by decide +kernel
theorem dX3_runPart_117 : decode cX3_runPart 117 = .ok (.iload 4, 2) := by decide +kernel
theorem dX3_runPart_119 : decode cX3_runPart 119 = .ok (.invokevirtual 171, 3) := by decide +kernel
theorem dX3_runPart_122 : decode cX3_runPart 122 = .ok (.return_, 1) := by decide +kernel
theorem dX3_runData_0 : decode cX3_runData 0 = .ok (.aload_n 0, 1) := by decide +kernel
theorem dX3_runData_1 : decode cX3_runData 1 = .ok (.getfield 18, 3) := by decide +kernel
theorem dX3_runData_4 : decode cX3_runData 4 = .ok (.invokevirtual 117, 3) := by decide +kernel
theorem dX3_runData_7 : decode cX3_runData 7 = .ok (.iload_n 1, 1) := by decide +kernel
theorem dX3_runData_8 : decode cX3_runData 8 = .ok (.iconst 2, 1) := by decide +kernel
theorem dX3_runData_9 : decode cX3_runData 9 = .ok (.if_icmp .ne 7, 3) := by decide +kernel
theorem dX3_runData_12 : decode cX3_runData 12 = .ok (.iconst 1, 1) := by decide +kernel
theorem dX3_runData_13 : decode cX3_runData 13 = .ok (.goto 4, 3) := by decide +kernel
theorem dX3_runData_16 : decode cX3_runData 16 = .ok (.iload_n 2, 1) := by decide +kernel
theorem dX3_runData_17 : decode cX3_runData 17 = .ok (.if_icmp .ge 12, 3) := by decide +kernel
theorem dX3_runData_20 : decode cX3_runData 20 = .ok (.aload_n 0, 1) := by decide +kernel
theorem dX3_runData_21 : decode cX3_runData 21 = .ok (.bipush 12, 2) := by decide +kernel
theorem dX3_runData_23 : decode cX3_runData 23 = .ok (.iload 4, 2) := by decide +kernel
theorem dX3_runData_25 : decode cX3_runData 25 = .ok (.invokevirtual 90, 3) := by decide +kernel
theorem dX3_runData_28 : decode cX3_runData 28 = .ok (.return_, 1) := by decide +kernel
theorem dX3_runData_29 : decode cX3_runData 29 = .ok (.iload_n 1, 1) := by decide +kernel
theorem dX3_runData_30 : decode cX3_runData 30 = .ok (.iconst 2, 1) := by decide +kernel
theorem dX3_runData_31 : decode cX3_runData 31 = .ok (.if_icmp .ne 13, 3) := by decide +kernel
theorem dX3_runData_34 : decode cX3_runData 34 = .ok (.aload_n 0, 1) := by decide +kernel
theorem dX3_runData_35 : decode cX3_runData 35 = .ok (.getfield 18, 3) := by decide +kernel
theorem dX3_runData_38 : decode cX3_runData 38 = .ok (.invokevirtual 83, 3) := by decide +kernel
theorem dX3_runData_41 : decode cX3_runData 41 = .ok (.goto 4, 3) := by decide +kernel
theorem dX3_runData_44 : decode cX3_runData 44 = .ok (.iconst 0, 1) := by decide +kernel
theorem dX3_runData_45 : decode cX3_runData 45 = .ok (.istore 5, 2) := by decide +kernel
theorem dX3_runData_47 : decode cX3_runData 47 = .ok (.iconst 0, 1) := by decide +kernel
theorem dX3_runData_48 : decode cX3_runData 48 = .ok (.istore 6, 2) := by decide +kernel
theorem dX3_runData_50 : decode cX3_runData 50 = .ok (.iload 6, 2) := by decide +kernel
theorem dX3_runData_52 : decode cX3_runData 52 = .ok (.iload_n 2, 1) := by decide +kernel
theorem dX3_runData_53 : decode cX3_runData 53 = .ok (.if_icmp .ge 31, 3) := by decide +kernel
theorem dX3_runData_56 : decode cX3_runData 56 = .ok (.aload_n 0, 1) := by decide +kernel
theorem dX3_runData_57 : decode cX3_runData 57 = .ok (.iload_n 1, 1) := by decide +kernel
theorem dX3_runData_58 : decode cX3_runData 58 = .ok (.iconst 2, 1) := by decide +kernel
theorem dX3_runData_59 : decode cX3_runData 59 = .ok (.if_icmp .ne 8, 3) := by decide +kernel
theorem dX3_runData_62 : decode cX3_runData 62 = .ok (.iload 5, 2) := by decide +kernel
theorem dX3_runData_64 : decode cX3_runData 64 = .ok (.goto 10, 3) := by decide +kernel
theorem dX3_runData_67 : decode cX3_runData 67 = .ok (.aload_n 0, 1) := by decide +kernel
theorem dX3_runData_68 : decode cX3_runData 68 = .ok (.getfield 18, 3) := by decide +kernel
theorem dX3_runData_71 : decode cX3_runData 71 = .ok (.invokevirtual 83, 3) := by decide +kernel
theorem dX3_runData_74 : decode cX3_runData 74 = .ok (.iconst (-1), 1) := by decide +kernel
theorem dX3_runData_75 : decode cX3_runData 75 = .ok (.invokevirtual 174, 3) := by decide +kernel
theorem dX3_runData_78 : decode cX3_runData 78 = .ok (.iinc 6 1, 3) := by decide +kernel
theorem dX3_runData_81 : decode cX3_runData 81 = .ok (.goto (-31), 3) := by decide +kernel
theorem dX3_runData_84 : decode cX3_runData 84 = .ok (.aload_n 0, 1) := by decide +kernel
theorem dX3_runData_85 : decode cX3_runData 85 = .ok (.getfield 62, 3) := by decide +kernel
theorem dX3_runData_88 : decode cX3_runData 88 = .ok (.iload_n 1, 1) := by decide +kernel
theorem dX3_runData_89 : decode cX3_runData 89 = .ok (.iload_n 2, 1) := by decide +kernel
theorem dX3_runData_90 : decode cX3_runData 90 = .ok (.iconst 0, 1) := by decide +kernel
theorem dX3_runData_91 : decode cX3_runData 91 = .ok (.iconst 0, 1) := by decide +kernel
theorem dX3_runData_92 : decode cX3_runData 92 = .ok (.iload_n 3, 1) := by decide +kernel
theorem dX3_runData_93 : decode cX3_runData 93 = .ok (.aload_n 0, 1) := by decide +kernel
theorem dX3_runData_94 : decode cX3_runData 94 = .ok (.getfield 80, 3) := by decide +kernel
theorem dX3_runData_97 : decode cX3_runData 97 = .ok (.invokevirtual 177, 3) := by decide +kernel
theorem dX3_runData_100 : decode cX3_runData 100 = .ok (.return_, 1) := by decide +kernel
theorem dX3_runCopy_0 : decode cX3_runCopy 0 = .ok (.aload_n 0, 1) := by decide +kernel
theorem dX3_runCopy_1 : decode cX3_runCopy 1 = .ok (.getfield 140, 3) := by decide +kernel
theorem dX3_runCopy_4 : decode cX3_runCopy 4 = .ok (.aload_n 0, 1) := by decide +kernel
theorem dX3_runCopy_5 : decode cX3_runCopy 5 = .ok (.getfield 39, 3) := by decide +kernel
theorem dX3_runCopy_8 : decode cX3_runCopy 8 = .ok (.getfield 146, 3) := by decide +kernel
theorem dX3_runCopy_11 : decode cX3_runCopy 11 = .ok (.iadd, 1) := by decide +kernel
theorem dX3_runCopy_12 : decode cX3_runCopy 12 = .ok (.aload_n 0, 1) := by decide +kernel
theorem dX3_runCopy_13 : decode cX3_runCopy 13 = .ok (.getfield 152, 3) := by decide +kernel
theorem dX3_runCopy_16 : decode cX3_runCopy 16 = .ok (.isub, 1) := by decide +kernel
theorem dX3_runCopy_17 : decode cX3_runCopy 17 = .ok (.istore 5, 2) := by decide +kernel
theorem dX3_runCopy_19 : decode cX3_runCopy 19 = .ok (.aload_n 0, 1) := by decide +kernel
theorem dX3_runCopy_20 : decode cX3_runCopy 20 = .ok (.getfield 30, 3) := by decide +kernel
theorem dX3_runCopy_23 : decode cX3_runCopy 23 = .ok (.iload_n 2, 1) := by decide +kernel
theorem dX3_runCopy_24 : decode cX3_runCopy 24 = .ok (.invokevirtual 181, 3) := by decide +kernel
theorem dX3_runCopy_27 : decode cX3_runCopy 27 = .ok (.ifCond .eq 13, 3) := by decide +kernel
theorem dX3_runCopy_30 : decode cX3_runCopy 30 = .ok (.aload_n 0, 1) := by decide +kernel
theorem dX3_runCopy_31 : decode cX3_runCopy 31 = .ok (.getfield 24, 3) := by decide +kernel
theorem dX3_runCopy_34 : decode cX3_runCopy 34 = .ok (.invokevirtual 83, 3) := by decide +kernel
theorem dX3_runCopy_37 : decode cX3_runCopy 37 = .ok (.goto 10, 3) := by decide +kernel
theorem dX3_runCopy_40 : decode cX3_runCopy 40 = .ok (.aload_n 0, 1) := by decide +kernel
theorem dX3_runCopy_41 : decode cX3_runCopy 41 = .ok (.getfield 24, 3) := by decide +kernel
theorem dX3_runCopy_44 : decode cX3_runCopy 44 = .ok (.invokevirtual 97, 3) := by decide +kernel
theorem dX3_runCopy_47 : decode cX3_runCopy 47 = .ok (.istore 6, 2) := by decide +kernel
theorem dX3_runCopy_49 : decode cX3_runCopy 49 = .ok (.iload 6, 2) := by decide +kernel
theorem dX3_runCopy_51 : decode cX3_runCopy 51 = .ok (.i2l, 1) := by decide +kernel
theorem dX3_runCopy_52 : decode cX3_runCopy 52 = .ok (.lstore 7, 2) := by decide +kernel
theorem dX3_runCopy_54 : decode cX3_runCopy 54 = .ok (.aload_n 0, 1) := by decide +kernel
theorem dX3_runCopy_55 : decode cX3_runCopy 55 = .ok (.getfield 30, 3) := by decide +kernel
theorem dX3_runCopy_58 : decode cX3_runCopy 58 = .ok (.iload_n 2, 1) := by decide +kernel
theorem dX3_runCopy_59 : decode cX3_runCopy 59 = .ok (.invokevirtual 181, 3) := by decide +kernel
theorem dX3_runCopy_62 : decode cX3_runCopy 62 = .ok (.ifCond .eq 19, 3) := by decide +kernel
theorem dX3_runCopy_65 : decode cX3_runCopy 65 = .ok (.aload_n 0, 1) := by decide +kernel
theorem dX3_runCopy_66 : decode cX3_runCopy 66 = .ok (.getfield 30, 3) := by decide +kernel
theorem dX3_runCopy_69 : decode cX3_runCopy 69 = .ok (.iload_n 2, 1) := by decide +kernel
theorem dX3_runCopy_70 : decode cX3_runCopy 70 = .ok (.iload 6, 2) := by decide +kernel
theorem dX3_runCopy_72 : decode cX3_runCopy 72 = .ok (.invokevirtual 185, 3) := by decide +kernel
theorem dX3_runCopy_75 : decode cX3_runCopy 75 = .ok (.i2l, 1) := by decide +kernel
theorem dX3_runCopy_76 : decode cX3_runCopy 76 = .ok (.lstore 7, 2) := by decide +kernel
theorem dX3_runCopy_78 : decode cX3_runCopy 78 = .ok (.goto 40, 3) := by decide +kernel
theorem dX3_runCopy_81 : decode cX3_runCopy 81 = .ok (.iload_n 2, 1) := by decide +kernel
theorem dX3_runCopy_82 : decode cX3_runCopy 82 = .ok (.iconst 1, 1) := by decide +kernel
theorem dX3_runCopy_83 : decode cX3_runCopy 83 = .ok (.if_icmp .ne 15, 3) := by decide +kernel
theorem dX3_runCopy_86 : decode cX3_runCopy 86 = .ok (.iload 5, 2) := by decide +kernel
theorem dX3_runCopy_88 : decode cX3_runCopy 88 = .ok (.i2l, 1) := by decide +kernel
theorem dX3_runCopy_89 : decode cX3_runCopy 89 = .ok (.iload 6, 2) := by decide +kernel
theorem dX3_runCopy_91 : decode cX3_runCopy 91 = .ok (.i2l, 1) := by decide +kernel
theorem dX3_runCopy_92 : decode cX3_runCopy 92 = .ok (.lsub, 1) := by decide +kernel
theorem dX3_runCopy_93 : decode cX3_runCopy 93 = .ok (.lstore 7, 2) := by decide +kernel
theorem dX3_runCopy_95 : decode cX3_runCopy 95 = .ok (.goto 23, 3) := by decide +kernel
theorem dX3_runCopy_98 : decode cX3_runCopy 98 = .ok (.iload_n 2, 1) := by decide +kernel
theorem dX3_runCopy_99 : decode cX3_runCopy 99 = .ok (.iconst 1, 1) := by decide +kernel
theorem dX3_runCopy_100 : decode cX3_runCopy 100 = .ok (.if_icmp .le 18, 3) := by decide +kernel
theorem dX3_runCopy_103 : decode cX3_runCopy 103 = .ok (.aload_n 0, 1) := by decide +kernel
theorem dX3_runCopy_104 : decode cX3_runCopy 104 = .ok (.getfield 30, 3) := by decide +kernel
theorem dX3_runCopy_107 : decode cX3_runCopy 107 = .ok (.iload_n 2, 1) := by decide +kernel
theorem dX3_runCopy_108 : decode cX3_runCopy 108 = .ok (.invokevirtual 188, 3) := by decide +kernel
theorem dX3_runCopy_111 : decode cX3_runCopy 111 = .ok (.i2l, 1) := by decide +kernel
theorem dX3_runCopy_112 : decode cX3_runCopy 112 = .ok (.iload 6, 2) := by decide +kernel
theorem dX3_runCopy_114 : decode cX3_runCopy 114 = .ok (.i2l, 1) := by decide +kernel
theorem dX3_runCopy_115 : decode cX3_runCopy 115 = .ok (.ladd, 1) := by decide +kernel
theorem dX3_runCopy_116 : decode cX3_runCopy 116 = .ok (.lstore 7, 2) := by decide +kernel
theorem dX3_runCopy_118 : decode cX3_runCopy 118 = .ok (.iload 6, 2) := by decide +kernel
theorem dX3_runCopy_120 : decode cX3_runCopy 120 = .ok (.ifCond .lt 19, 3) := by decide +kernel
theorem dX3_runCopy_123 : decode cX3_runCopy 123 = .ok (.lload 7, 2) := by decide +kernel
theorem dX3_runCopy_125 : decode cX3_runCopy 125 = .ok (.lconst 0, 1) := by decide +kernel
theorem dX3_runCopy_126 : decode cX3_runCopy 126 = .ok (.lcmp, 1) := by decide +kernel
theorem dX3_runCopy_127 : decode cX3_runCopy 127 = .ok (.ifCond .lt 12, 3) := by decide +kernel
theorem dX3_runCopy_130 : decode cX3_runCopy 130 = .ok (.lload 7, 2) := by decide +kernel
theorem dX3_runCopy_132 : decode cX3_runCopy 132 = .ok (.iload 5, 2) := by decide +kernel
theorem dX3_runCopy_134 : decode cX3_runCopy 134 = .ok (.i2l, 1) := by decide +kernel
theorem dX3_runCopy_135 : decode cX3_runCopy 135 = .ok (.lcmp, 1) := by decide +kernel
theorem dX3_runCopy_136 : decode cX3_runCopy 136 = .ok (.ifCond .lt 12, 3) := by decide +kernel
theorem dX3_runCopy_139 : decode cX3_runCopy 139 = .ok (.aload_n 0, 1) := by decide +kernel
theorem dX3_runCopy_140 : decode cX3_runCopy 140 = .ok (.bipush 13, 2) := by decide +kernel
theorem dX3_runCopy_142 : decode cX3_runCopy 142 = .ok (.iload 4, 2) := by decide +kernel
theorem dX3_runCopy_144 : decode cX3_runCopy 144 = .ok (.invokevirtual 90, 3) := by decide +kernel
theorem dX3_runCopy_147 : decode cX3_runCopy 147 = .ok (.return_, 1) := by decide +kernel
theorem dX3_runCopy_148 : decode cX3_runCopy 148 = .ok (.lload 7, 2) := by decide +kernel
theorem dX3_runCopy_150 : decode cX3_runCopy 150 = .ok (.l2i, 1) := by decide +kernel
theorem dX3_runCopy_151 : decode cX3_runCopy 151 = .ok (.istore 9, 2) := by decide +kernel
theorem dX3_runCopy_153 : decode cX3_runCopy 153 = .ok (.aload_n 0, 1) := by decide +kernel
theorem dX3_runCopy_154 : decode cX3_runCopy 154 = .ok (.getfield 30, 3) := by decide +kernel
theorem dX3_runCopy_157 : decode cX3_runCopy 157 = .ok (.iload 9, 2) := by decide +kernel
theorem dX3_runCopy_159 : decode cX3_runCopy 159 = .ok (.invokevirtual 192, 3) := by decide +kernel
theorem dX3_runCopy_162 : decode cX3_runCopy 162 = .ok (.iconst 0, 1) := by decide +kernel
theorem dX3_runCopy_163 : decode cX3_runCopy 163 = .ok (.istore 10, 2) := by decide +kernel
theorem dX3_runCopy_165 : decode cX3_runCopy 165 = .ok (.iload 10, 2) := by decide +kernel
theorem dX3_runCopy_167 : decode cX3_runCopy 167 = .ok (.iload_n 1, 1) := by decide +kernel
theorem dX3_runCopy_168 : decode cX3_runCopy 168 = .ok (.if_icmp .ge 18, 3) := by decide +kernel
theorem dX3_runCopy_171 : decode cX3_runCopy 171 = .ok (.aload_n 0, 1) := by decide +kernel
theorem dX3_runCopy_172 : decode cX3_runCopy 172 = .ok (.iload 9, 2) := by decide +kernel
theorem dX3_runCopy_174 : decode cX3_runCopy 174 = .ok (.iload 10, 2) := by decide +kernel
theorem dX3_runCopy_176 : decode cX3_runCopy 176 = .ok (.iadd, 1) := by decide +kernel
theorem dX3_runCopy_177 : decode cX3_runCopy 177 = .ok (.invokevirtual 195, 3) := by decide +kernel
theorem dX3_runCopy_180 : decode cX3_runCopy 180 = .ok (.iinc 10 1, 3) := by decide +kernel
theorem dX3_runCopy_183 : decode cX3_runCopy 183 = .ok (.goto (-18), 3) := by decide +kernel
theorem dX3_runCopy_186 : decode cX3_runCopy 186 = .ok (.aload_n 0, 1) := by decide +kernel
theorem dX3_runCopy_187 : decode cX3_runCopy 187 = .ok (.getfield 62, 3) := by decide +kernel
theorem dX3_runCopy_190 : decode cX3_runCopy 190 = .ok (.iconst 3, 1) := by decide +kernel
theorem dX3_runCopy_191 : decode cX3_runCopy 191 = .ok (.iload_n 1, 1) := by decide +kernel
theorem dX3_runCopy_192 : decode cX3_runCopy 192 = .ok (.iload 9, 2) := by decide +kernel
theorem dX3_runCopy_194 : decode cX3_runCopy 194 = .ok (.iload_n 2, 1) := by decide +kernel
theorem dX3_runCopy_195 : decode cX3_runCopy 195 = .ok (.iload_n 3, 1) := by decide +kernel
theorem dX3_runCopy_196 : decode cX3_runCopy 196 = .ok (.aload_n 0, 1) := by decide +kernel
theorem dX3_runCopy_197 : decode cX3_runCopy 197 = .ok (.getfield 80, 3) := by decide +kernel
theorem dX3_runCopy_200 : decode cX3_runCopy 200 = .ok (.invokevirtual 177, 3) := by decide +kernel
theorem dX3_runCopy_203 : decode cX3_runCopy 203 = .ok (.return_, 1) := by decide +kernel
theorem dX3_makeFrom_0 : decode cX3_makeFrom 0 = .ok (.aload_n 0, 1) := by decide +kernel
theorem dX3_makeFrom_1 : decode cX3_makeFrom 1 = .ok (.getfield 143, 3) := by decide +kernel
theorem dX3_makeFrom_4 : decode cX3_makeFrom 4 = .ok (.iload_n 1, 1) := by decide +kernel
theorem dX3_makeFrom_5 : decode cX3_makeFrom 5 = .ok (.iadd, 1) := by decide +kernel
theorem dX3_makeFrom_6 : decode cX3_makeFrom 6 = .ok (.istore_n 2, 1) := by decide +kernel
theorem dX3_makeFrom_7 : decode cX3_makeFrom 7 = .ok (.iload_n 1, 1) := by decide +kernel
theorem dX3_makeFrom_8 : decode cX3_makeFrom 8 = .ok (.aload_n 0, 1) := by decide +kernel
theorem dX3_makeFrom_9 : decode cX3_makeFrom 9 = .ok (.getfield 140, 3) := by decide +kernel
theorem dX3_makeFrom_12 : decode cX3_makeFrom 12 = .ok (.if_icmp .ge 25, 3) := by decide +kernel
theorem dX3_makeFrom_15 : decode cX3_makeFrom 15 = .ok (.aload_n 0, 1) := by decide +kernel
theorem dX3_makeFrom_16 : decode cX3_makeFrom 16 = .ok (.getfield 137, 3) := by decide +kernel
theorem dX3_makeFrom_19 : decode cX3_makeFrom 19 = .ok (.iconst 1, 1) := by decide +kernel
theorem dX3_makeFrom_20 : decode cX3_makeFrom 20 = .ok (.if_icmp .ne 17, 3) := by decide +kernel
theorem dX3_makeFrom_23 : decode cX3_makeFrom 23 = .ok (.aload_n 0, 1) := by decide +kernel
theorem dX3_makeFrom_24 : decode cX3_makeFrom 24 = .ok (.aload_n 0, 1) := by decide +kernel
theorem dX3_makeFrom_25 : decode cX3_makeFrom 25 = .ok (.getfield 53, 3) := by decide +kernel
theorem dX3_makeFrom_28 : decode cX3_makeFrom 28 = .ok (.iload_n 2, 1) := by decide +kernel
theorem dX3_makeFrom_29 : decode cX3_makeFrom 29 = .ok (.invokevirtual 198, 3) := by decide +kernel
theorem dX3_makeFrom_32 : decode cX3_makeFrom 32 = .ok (.iload_n 2, 1) := by decide +kernel
theorem dX3_makeFrom_33 : decode cX3_makeFrom 33 = .ok (.invokevirtual 174, 3) := by decide +kernel
theorem dX3_makeFrom_36 : decode cX3_makeFrom 36 = .ok (.return_, 1) := by decide +kernel
theorem dX3_makeFrom_37 : decode cX3_makeFrom 37 = .ok (.iload_n 1, 1) := by decide +kernel
theorem dX3_makeFrom_38 : decode cX3_makeFrom 38 = .ok (.aload_n 0, 1) := by decide +kernel
theorem dX3_makeFrom_39 : decode cX3_makeFrom 39 = .ok (.getfield 140, 3) := by decide +kernel
theorem dX3_makeFrom_42 : decode cX3_makeFrom 42 = .ok (.if_icmp .lt 15, 3) := by decide +kernel
theorem dX3_makeFrom_45 : decode cX3_makeFrom 45 = .ok (.aload_n 0, 1) := by decide +kernel
theorem dX3_makeFrom_46 : decode cX3_makeFrom 46 = .ok (.getfield 152, 3) := by decide +kernel
theorem dX3_makeFrom_49 : decode cX3_makeFrom 49 = .ok (.iload_n 1, 1) := by decide +kernel
theorem dX3_makeFrom_50 : decode cX3_makeFrom 50 = .ok (.iadd, 1) := by decide +kernel
theorem dX3_makeFrom_51 : decode cX3_makeFrom 51 = .ok (.aload_n 0, 1) := by decide +kernel
theorem dX3_makeFrom_52 : decode cX3_makeFrom 52 = .ok (.getfield 140, 3) := by decide +kernel
theorem dX3_makeFrom_55 : decode cX3_makeFrom 55 = .ok (.isub, 1) := by decide +kernel
theorem dX3_makeFrom_56 : decode cX3_makeFrom 56 = .ok (.istore_n 2, 1) := by decide +kernel
theorem dX3_makeFrom_57 : decode cX3_makeFrom 57 = .ok (.aload_n 0, 1) := by decide +kernel
theorem dX3_makeFrom_58 : decode cX3_makeFrom 58 = .ok (.getfield 39, 3) := by decide +kernel
theorem dX3_makeFrom_61 : decode cX3_makeFrom 61 = .ok (.iload_n 2, 1) := by decide +kernel
theorem dX3_makeFrom_62 : decode cX3_makeFrom 62 = .ok (.invokevirtual 200, 3) := by decide +kernel
theorem dX3_makeFrom_65 : decode cX3_makeFrom 65 = .ok (.ifCond .eq 21, 3) := by decide +kernel
theorem dX3_makeFrom_68 : decode cX3_makeFrom 68 = .ok (.aload_n 0, 1) := by decide +kernel
theorem dX3_makeFrom_69 : decode cX3_makeFrom 69 = .ok (.aload_n 0, 1) := by decide +kernel
theorem dX3_makeFrom_70 : decode cX3_makeFrom 70 = .ok (.getfield 39, 3) := by decide +kernel
theorem dX3_makeFrom_73 : decode cX3_makeFrom 73 = .ok (.iload_n 2, 1) := by decide +kernel
theorem dX3_makeFrom_74 : decode cX3_makeFrom 74 = .ok (.invokevirtual 198, 3) := by decide +kernel
theorem dX3_makeFrom_77 : decode cX3_makeFrom 77 = .ok (.aload_n 0, 1) := by decide +kernel
theorem dX3_makeFrom_78 : decode cX3_makeFrom 78 = .ok (.getfield 49, 3) := by decide +kernel
theorem dX3_makeFrom_81 : decode cX3_makeFrom 81 = .ok (.iload_n 2, 1) := by decide +kernel
theorem dX3_makeFrom_82 : decode cX3_makeFrom 82 = .ok (.iaload, 1) := by decide +kernel
theorem dX3_makeFrom_83 : decode cX3_makeFrom 83 = .ok (.invokevirtual 174, 3) := by decide +kernel
theorem dX3_makeFrom_86 : decode cX3_makeFrom 86 = .ok (.return_, 1) := by decide +kernel
theorem dX3_make_0 : decode cX3_make 0 = .ok (.aload_n 0, 1) := by decide +kernel
theorem dX3_make_1 : decode cX3_make 1 = .ok (.getfield 39, 3) := by decide +kernel
theorem dX3_make_4 : decode cX3_make 4 = .ok (.getfield 146, 3) := by decide +kernel
theorem dX3_make_7 : decode cX3_make 7 = .ok (.istore_n 3, 1) := by decide +kernel
theorem dX3_make_8 : decode cX3_make 8 = .ok (.iload_n 3, 1) := by decide +kernel
theorem dX3_make_9 : decode cX3_make 9 = .ok (.aload_n 0, 1) := by decide +kernel
theorem dX3_make_10 : decode cX3_make 10 = .ok (.getfield 49, 3) := by decide +kernel
theorem dX3_make_13 : decode cX3_make 13 = .ok (.arraylength, 1) := by decide +kernel
theorem dX3_make_14 : decode cX3_make 14 = .ok (.if_icmp .ge 30, 3) := by decide +kernel
theorem dX3_make_17 : decode cX3_make 17 = .ok (.aload_n 0, 1) := by decide +kernel
theorem dX3_make_18 : decode cX3_make 18 = .ok (.getfield 49, 3) := by decide +kernel
theorem dX3_make_21 : decode cX3_make 21 = .ok (.iload_n 3, 1) := by decide +kernel
theorem dX3_make_22 : decode cX3_make 22 = .ok (.iload_n 2, 1) := by decide +kernel
theorem dX3_make_23 : decode cX3_make 23 = .ok (.iastore, 1) := by decide +kernel
theorem dX3_make_24 : decode cX3_make 24 = .ok (.aload_n 0, 1) := by decide +kernel
theorem dX3_make_25 : decode cX3_make 25 = .ok (.getfield 39, 3) := by decide +kernel
theorem dX3_make_28 : decode cX3_make 28 = .ok (.getfield 203, 3) := by decide +kernel
theorem dX3_make_31 : decode cX3_make 31 = .ok (.iload_n 3, 1) := by decide +kernel
theorem dX3_make_32 : decode cX3_make 32 = .ok (.iload_n 1, 1) := by decide +kernel
theorem dX3_make_33 : decode cX3_make 33 = .ok (.iastore, 1) := by decide +kernel
theorem dX3_make_34 : decode cX3_make 34 = .ok (.aload_n 0, 1) := by decide +kernel
theorem dX3_make_35 : decode cX3_make 35 = .ok (.getfield 39, 3) := by decide +kernel
theorem dX3_make_38 : decode cX3_make 38 = .ok (.iload_n 3, 1) := by decide +kernel
theorem dX3_make_39 : decode cX3_make 39 = .ok (.iconst 1, 1) := by decide +kernel
theorem dX3_make_40 : decode cX3_make 40 = .ok (.iadd, 1) := by decide +kernel
theorem dX3_make_41 : decode cX3_make 41 = .ok (.putfield 146, 3) := by decide +kernel
theorem dX3_make_44 : decode cX3_make 44 = .ok (.return_, 1) := by decide +kernel
theorem dX3_traceBack_0 : decode cX3_traceBack 0 = .ok (.iconst 0, 1) := by decide +kernel
theorem dX3_traceBack_1 : decode cX3_traceBack 1 = .ok (.istore_n 3, 1) := by decide +kernel
theorem dX3_traceBack_2 : decode cX3_traceBack 2 = .ok (.iload_n 3, 1) := by decide +kernel
theorem dX3_traceBack_3 : decode cX3_traceBack 3 = .ok (.aload_n 0, 1) := by decide +kernel
theorem dX3_traceBack_4 : decode cX3_traceBack 4 = .ok (.getfield 39, 3) := by decide +kernel
theorem dX3_traceBack_7 : decode cX3_traceBack 7 = .ok (.getfield 146, 3) := by decide +kernel
theorem dX3_traceBack_10 : decode cX3_traceBack 10 = .ok (.if_icmp .ge 61, 3) := by decide +kernel
theorem dX3_traceBack_13 : decode cX3_traceBack 13 = .ok (.aload_n 0, 1) := by decide +kernel
theorem dX3_traceBack_14 : decode cX3_traceBack 14 = .ok (.getfield 49, 3) := by decide +kernel
theorem dX3_traceBack_17 : decode cX3_traceBack 17 = .ok (.iload_n 3, 1) := by decide +kernel
theorem dX3_traceBack_18 : decode cX3_traceBack 18 = .ok (.iaload, 1) := by decide +kernel
theorem dX3_traceBack_19 : decode cX3_traceBack 19 = .ok (.istore 4, 2) := by decide +kernel
theorem dX3_traceBack_21 : decode cX3_traceBack 21 = .ok (.iload 4, 2) := by decide +kernel
theorem dX3_traceBack_23 : decode cX3_traceBack 23 = .ok (.ifCond .lt 20, 3) := by decide +kernel
theorem dX3_traceBack_26 : decode cX3_traceBack 26 = .ok (.iload 4, 2) := by decide +kernel
theorem dX3_traceBack_28 : decode cX3_traceBack 28 = .ok (.iload_n 2, 1) := by decide +kernel
theorem dX3_traceBack_29 : decode cX3_traceBack 29 = .ok (.if_icmp .ge 14, 3) := by decide +kernel
theorem dX3_traceBack_32 : decode cX3_traceBack 32 = .ok (.iload 4, 2) := by decide +kernel
theorem dX3_traceBack_34 : decode cX3_traceBack 34 = .ok (.aload_n 1, 1) := by decide +kernel
theorem dX3_traceBack_35 : decode cX3_traceBack 35 = .ok (.arraylength, 1) := by decide +kernel
theorem dX3_traceBack_36 : decode cX3_traceBack 36 = .ok (.if_icmp .ge 7, 3) := by decide +kernel
theorem dX3_traceBack_39 : decode cX3_traceBack 39 = .ok (.iconst 1, 1) := by decide +kernel
theorem dX3_traceBack_40 : decode cX3_traceBack 40 = .ok (.goto 4, 3) := by decide +kernel
theorem dX3_traceBack_43 : decode cX3_traceBack 43 = .ok (.iconst 0, 1) := by decide +kernel
theorem dX3_traceBack_44 : decode cX3_traceBack 44 = .ok (.istore 5, 2) := by decide +kernel
theorem dX3_traceBack_46 : decode cX3_traceBack 46 = .ok (.aload_n 0, 1) := by decide +kernel
theorem dX3_traceBack_47 : decode cX3_traceBack 47 = .ok (.getfield 49, 3) := by decide +kernel
theorem dX3_traceBack_50 : decode cX3_traceBack 50 = .ok (.iload_n 3, 1) := by decide +kernel
theorem dX3_traceBack_51 : decode cX3_traceBack 51 = .ok (.iload 5, 2) := by decide +kernel
theorem dX3_traceBack_53 : decode cX3_traceBack 53 = .ok (.ifCond .eq 10, 3) := by decide +kernel
theorem dX3_traceBack_56 : decode cX3_traceBack 56 = .ok (.aload_n 1, 1) := by decide +kernel
theorem dX3_traceBack_57 : decode cX3_traceBack 57 = .ok (.iload 4, 2) := by decide +kernel
theorem dX3_traceBack_59 : decode cX3_traceBack 59 = .ok (.iaload, 1) := by decide +kernel
theorem dX3_traceBack_60 : decode cX3_traceBack 60 = .ok (.goto 4, 3) := by decide +kernel
theorem dX3_traceBack_63 : decode cX3_traceBack 63 = .ok (.iconst (-1), 1) := by decide +kernel
theorem dX3_traceBack_64 : decode cX3_traceBack 64 = .ok (.iastore, 1) := by decide +kernel
theorem dX3_traceBack_65 : decode cX3_traceBack 65 = .ok (.iinc 3 1, 3) := by decide +kernel
theorem dX3_traceBack_68 : decode cX3_traceBack 68 = .ok (.goto (-66), 3) := by decide +kernel
theorem dX3_traceBack_71 : decode cX3_traceBack 71 = .ok (.return_, 1) := by decide +kernel
theorem dX4_init_0 : decode cX4_init 0 = .ok (.aload_n 0, 1) := by decide +kernel
theorem dX4_init_1 : decode cX4_init 1 = .ok (.invokespecial 3, 3) := by decide +kernel
theorem dX4_init_4 : decode cX4_init 4 = .ok (.aload_n 0, 1) := by decide +kernel
theorem dX4_init_5 : decode cX4_init 5 = .ok (.iload_n 1, 1) := by decide +kernel
theorem dX4_init_6 : decode cX4_init 6 = .ok (.iconst 0, 1) := by decide +kernel
theorem dX4_init_7 : decode cX4_init 7 = .ok (.invokestatic 9, 3) := by decide +kernel
theorem dX4_init_10 : decode cX4_init 10 = .ok (.newarray .int, 2) := by decide +kernel
theorem dX4_init_12 : decode cX4_init 12 = .ok (.putfield 15, 3) := by decide +kernel
theorem dX4_init_15 : decode cX4_init 15 = .ok (.return_, 1) := by decide +kernel
theorem dX4_makeEmpty_0 : decode cX4_makeEmpty 0 = .ok (.aload_n 0, 1) := by decide +kernel
theorem dX4_makeEmpty_1 : decode cX4_makeEmpty 1 = .ok (.iconst 0, 1) := by decide +kernel
theorem dX4_makeEmpty_2 : decode cX4_makeEmpty 2 = .ok (.putfield 21, 3) := by decide +kernel
theorem dX4_makeEmpty_5 : decode cX4_makeEmpty 5 = .ok (.aload_n 0, 1) := by decide +kernel
theorem dX4_makeEmpty_6 : decode cX4_makeEmpty 6 = .ok (.iconst 0, 1) := by decide +kernel
theorem dX4_makeEmpty_7 : decode cX4_makeEmpty 7 = .ok (.putfield 25, 3) := by decide +kernel
theorem dX4_makeEmpty_10 : decode cX4_makeEmpty 10 = .ok (.return_, 1) := by decide +kernel
theorem dX4_room_0 : decode cX4_room 0 = .ok (.aload_n 0, 1) := by decide +kernel
theorem dX4_room_1 : decode cX4_room 1 = .ok (.getfield 15, 3) := by decide +kernel
theorem dX4_room_4 : decode cX4_room 4 = .ok (.arraylength, 1) := by decide +kernel
theorem dX4_room_5 : decode cX4_room 5 = .ok (.aload_n 0, 1) := by decide +kernel
theorem dX4_room_6 : decode cX4_room 6 = .ok (.getfield 21, 3) := by decide +kernel
theorem dX4_room_9 : decode cX4_room 9 = .ok (.isub, 1) := by decide +kernel
theorem dX4_room_10 : decode cX4_room 10 = .ok (.ireturn, 1) := by decide +kernel
theorem dX4_has_0 : decode cX4_has 0 = .ok (.iload_n 1, 1) := by decide +kernel
theorem dX4_has_1 : decode cX4_has 1 = .ok (.ifCond .lt 15, 3) := by decide +kernel
theorem dX4_has_4 : decode cX4_has 4 = .ok (.iload_n 1, 1) := by decide +kernel
theorem dX4_has_5 : decode cX4_has 5 = .ok (.aload_n 0, 1) := by decide +kernel
theorem dX4_has_6 : decode cX4_has 6 = .ok (.getfield 21, 3) := by decide +kernel
theorem dX4_has_9 : decode cX4_has 9 = .ok (.if_icmp .ge 7, 3) := by decide +kernel
theorem dX4_has_12 : decode cX4_has 12 = .ok (.iconst 1, 1) := by decide +kernel
theorem dX4_has_13 : decode cX4_has 13 = .ok (.goto 4, 3) := by decide +kernel
theorem dX4_has_16 : decode cX4_has 16 = .ok (.iconst 0, 1) := by decide +kernel
theorem dX4_has_17 : decode cX4_has 17 = .ok (.ireturn, 1) := by decide +kernel
theorem dX4_at_0 : decode cX4_at 0 = .ok (.iload_n 1, 1) := by decide +kernel
theorem dX4_at_1 : decode cX4_at 1 = .ok (.ifCond .lt 20, 3) := by decide +kernel
theorem dX4_at_4 : decode cX4_at 4 = .ok (.iload_n 1, 1) := by decide +kernel
theorem dX4_at_5 : decode cX4_at 5 = .ok (.aload_n 0, 1) := by decide +kernel
theorem dX4_at_6 : decode cX4_at 6 = .ok (.getfield 21, 3) := by decide +kernel
theorem dX4_at_9 : decode cX4_at 9 = .ok (.if_icmp .ge 12, 3) := by decide +kernel
theorem dX4_at_12 : decode cX4_at 12 = .ok (.aload_n 0, 1) := by decide +kernel
theorem dX4_at_13 : decode cX4_at 13 = .ok (.getfield 15, 3) := by decide +kernel
theorem dX4_at_16 : decode cX4_at 16 = .ok (.iload_n 1, 1) := by decide +kernel
theorem dX4_at_17 : decode cX4_at 17 = .ok (.iaload, 1) := by decide +kernel
theorem dX4_at_18 : decode cX4_at 18 = .ok (.goto 4, 3) := by decide +kernel
theorem dX4_at_21 : decode cX4_at 21 = .ok (.iconst 0, 1) := by decide +kernel
theorem dX4_at_22 : decode cX4_at 22 = .ok (.ireturn, 1) := by decide +kernel
theorem dX4_replace_0 : decode cX4_replace 0 = .ok (.aload_n 0, 1) := by decide +kernel
theorem dX4_replace_1 : decode cX4_replace 1 = .ok (.iload_n 1, 1) := by decide +kernel
theorem dX4_replace_2 : decode cX4_replace 2 = .ok (.invokevirtual 29, 3) := by decide +kernel
theorem dX4_replace_5 : decode cX4_replace 5 = .ok (.ifCond .ne 5, 3) := by decide +kernel
theorem dX4_replace_8 : decode cX4_replace 8 = .ok (.iconst (-1), 1) := by decide +kernel
theorem dX4_replace_9 : decode cX4_replace 9 = .ok (.ireturn, 1) := by decide +kernel
theorem dX4_replace_10 : decode cX4_replace 10 = .ok (.iload_n 2, 1) := by decide +kernel
theorem dX4_replace_11 : decode cX4_replace 11 = .ok (.ifCond .lt 10, 3) := by decide +kernel
theorem dX4_replace_14 : decode cX4_replace 14 = .ok (.iload_n 2, 1) := by decide +kernel
theorem dX4_replace_15 : decode cX4_replace 15 = .ok (.sipush 255, 3) := by decide +kernel
theorem dX4_replace_18 : decode cX4_replace 18 = .ok (.if_icmp .le 6, 3) := by decide +kernel
theorem dX4_replace_21 : decode cX4_replace 21 = .ok (.bipush (-2), 2) := by decide +kernel
theorem dX4_replace_23 : decode cX4_replace 23 = .ok (.ireturn, 1) := by decide +kernel
theorem dX4_replace_24 : decode cX4_replace 24 = .ok (.aload_n 0, 1) := by decide +kernel
theorem dX4_replace_25 : decode cX4_replace 25 = .ok (.getfield 15, 3) := by decide +kernel
theorem dX4_replace_28 : decode cX4_replace 28 = .ok (.iload_n 1, 1) := by decide +kernel
theorem dX4_replace_29 : decode cX4_replace 29 = .ok (.iaload, 1) := by decide +kernel
theorem dX4_replace_30 : decode cX4_replace 30 = .ok (.istore_n 3, 1) := by decide +kernel
theorem dX4_replace_31 : decode cX4_replace 31 = .ok (.aload_n 0, 1) := by decide +kernel
theorem dX4_replace_32 : decode cX4_replace 32 = .ok (.getfield 15, 3) := by decide +kernel
theorem dX4_replace_35 : decode cX4_replace 35 = .ok (.iload_n 1, 1) := by decide +kernel
theorem dX4_replace_36 : decode cX4_replace 36 = .ok (.iload_n 2, 1) := by decide +kernel
theorem dX4_replace_37 : decode cX4_replace 37 = .ok (.iastore, 1) := by decide +kernel
theorem dX4_replace_38 : decode cX4_replace 38 = .ok (.iload_n 3, 1) := by decide +kernel
theorem dX4_replace_39 : decode cX4_replace 39 = .ok (.ireturn, 1) := by decide +kernel
theorem dX4_put_0 : decode cX4_put 0 = .ok (.aload_n 0, 1) := by decide +kernel
theorem dX4_put_1 : decode cX4_put 1 = .ok (.getfield 21, 3) := by decide +kernel
theorem dX4_put_4 : decode cX4_put 4 = .ok (.aload_n 0, 1) := by decide +kernel
theorem dX4_put_5 : decode cX4_put 5 = .ok (.getfield 15, 3) := by decide +kernel
theorem dX4_put_8 : decode cX4_put 8 = .ok (.arraylength, 1) := by decide +kernel
theorem dX4_put_9 : decode cX4_put 9 = .ok (.if_icmp .ge 26, 3) := by decide +kernel
theorem dX4_put_12 : decode cX4_put 12 = .ok (.aload_n 0, 1) := by decide +kernel
theorem dX4_put_13 : decode cX4_put 13 = .ok (.getfield 15, 3) := by decide +kernel
theorem dX4_put_16 : decode cX4_put 16 = .ok (.aload_n 0, 1) := by decide +kernel
theorem dX4_put_17 : decode cX4_put 17 = .ok (.getfield 21, 3) := by decide +kernel
theorem dX4_put_20 : decode cX4_put 20 = .ok (.iload_n 1, 1) := by decide +kernel
theorem dX4_put_21 : decode cX4_put 21 = .ok (.iastore, 1) := by decide +kernel
theorem dX4_put_22 : decode cX4_put 22 = .ok (.aload_n 0, 1) := by decide +kernel
theorem dX4_put_23 : decode cX4_put 23 = .ok (.dup, 1) := by decide +kernel
theorem dX4_put_24 : decode cX4_put 24 = .ok (.getfield 21, 3) := by decide +kernel
theorem dX4_put_27 : decode cX4_put 27 = .ok (.iconst 1, 1) := by decide +kernel
theorem dX4_put_28 : decode cX4_put 28 = .ok (.iadd, 1) := by decide +kernel
theorem dX4_put_29 : decode cX4_put 29 = .ok (.putfield 21, 3) := by decide +kernel
theorem dX4_put_32 : decode cX4_put 32 = .ok (.goto 8, 3) := by decide +kernel
theorem dX4_put_35 : decode cX4_put 35 = .ok (.aload_n 0, 1) := by decide +kernel
theorem dX4_put_36 : decode cX4_put 36 = .ok (.iconst 1, 1) := by decide +kernel
theorem dX4_put_37 : decode cX4_put 37 = .ok (.putfield 25, 3) := by decide +kernel
theorem dX4_put_40 : decode cX4_put 40 = .ok (.return_, 1) := by decide +kernel
theorem dX4_putNumber_0 : decode cX4_putNumber 0 = .ok (.bipush 7, 2) := by decide +kernel
theorem dX4_putNumber_2 : decode cX4_putNumber 2 = .ok (.iload_n 1, 1) := by decide +kernel
theorem dX4_putNumber_3 : decode cX4_putNumber 3 = .ok (.invokestatic 33, 3) := by decide +kernel
theorem dX4_putNumber_6 : decode cX4_putNumber 6 = .ok (.iconst 1, 1) := by decide +kernel
theorem dX4_putNumber_7 : decode cX4_putNumber 7 = .ok (.isub, 1) := by decide +kernel
theorem dX4_putNumber_8 : decode cX4_putNumber 8 = .ok (.imul, 1) := by decide +kernel
theorem dX4_putNumber_9 : decode cX4_putNumber 9 = .ok (.istore_n 2, 1) := by decide +kernel
theorem dX4_putNumber_10 : decode cX4_putNumber 10 = .ok (.iload_n 2, 1) := by decide +kernel
theorem dX4_putNumber_11 : decode cX4_putNumber 11 = .ok (.ifCond .le 23, 3) := by decide +kernel
theorem dX4_putNumber_14 : decode cX4_putNumber 14 = .ok (.aload_n 0, 1) := by decide +kernel
theorem dX4_putNumber_15 : decode cX4_putNumber 15 = .ok (.sipush 128, 3) := by decide +kernel
theorem dX4_putNumber_18 : decode cX4_putNumber 18 = .ok (.iload_n 1, 1) := by decide +kernel
theorem dX4_putNumber_19 : decode cX4_putNumber 19 = .ok (.iload_n 2, 1) := by decide +kernel
theorem dX4_putNumber_20 : decode cX4_putNumber 20 = .ok (.iushr, 1) := by decide +kernel
theorem dX4_putNumber_21 : decode cX4_putNumber 21 = .ok (.bipush 127, 2) := by decide +kernel
theorem dX4_putNumber_23 : decode cX4_putNumber 23 = .ok (.iand, 1) := by decide +kernel
theorem dX4_putNumber_24 : decode cX4_putNumber 24 = .ok (.ior, 1) := by decide +kernel
theorem dX4_putNumber_25 : decode cX4_putNumber 25 = .ok (.invokevirtual 37, 3) := by decide +kernel
theorem dX4_putNumber_28 : decode cX4_putNumber 28 = .ok (.iinc 2 (-7), 3) := by decide +kernel
theorem dX4_putNumber_31 : decode cX4_putNumber 31 = .ok (.goto (-21), 3) := by decide +kernel
theorem dX4_putNumber_34 : decode cX4_putNumber 34 = .ok (.aload_n 0, 1) := by decide +kernel
theorem dX4_putNumber_35 : decode cX4_putNumber 35 = .ok (.iload_n 1, 1) := by decide +kernel
theorem dX4_putNumber_36 : decode cX4_putNumber 36 = .ok (.bipush 127, 2) := by decide +kernel
theorem dX4_putNumber_38 : decode cX4_putNumber 38 = .ok (.iand, 1) := by decide +kernel
theorem dX4_putNumber_39 : decode cX4_putNumber 39 = .ok (.invokevirtual 37, 3) := by decide +kernel
theorem dX4_putNumber_42 : decode cX4_putNumber 42 = .ok (.return_, 1) := by decide +kernel
theorem dX4_putMark_0 : decode cX4_putMark 0 = .ok (.iconst 0, 1) := by decide +kernel
theorem dX4_putMark_1 : decode cX4_putMark 1 = .ok (.istore_n 2, 1) := by decide +kernel
theorem dX4_putMark_2 : decode cX4_putMark 2 = .ok (.iload_n 2, 1) := by decide +kernel
theorem dX4_putMark_3 : decode cX4_putMark 3 = .ok (.getstatic 41, 3) := by decide +kernel
theorem dX4_putMark_6 : decode cX4_putMark 6 = .ok (.arraylength, 1) := by decide +kernel
theorem dX4_putMark_7 : decode cX4_putMark 7 = .ok (.if_icmp .ge 18, 3) := by decide +kernel
theorem dX4_putMark_10 : decode cX4_putMark 10 = .ok (.aload_n 0, 1) := by decide +kernel
theorem dX4_putMark_11 : decode cX4_putMark 11 = .ok (.getstatic 41, 3) := by decide +kernel
theorem dX4_putMark_14 : decode cX4_putMark 14 = .ok (.iload_n 2, 1) := by decide +kernel
theorem dX4_putMark_15 : decode cX4_putMark 15 = .ok (.iaload, 1) := by decide +kernel
theorem dX4_putMark_16 : decode cX4_putMark 16 = .ok (.invokevirtual 37, 3) := by decide +kernel
theorem dX4_putMark_19 : decode cX4_putMark 19 = .ok (.iinc 2 1, 3) := by decide +kernel
theorem dX4_putMark_22 : decode cX4_putMark 22 = .ok (.goto (-20), 3) := by decide +kernel
theorem dX4_putMark_25 : decode cX4_putMark 25 = .ok (.aload_n 0, 1) := by decide +kernel
theorem dX4_putMark_26 : decode cX4_putMark 26 = .ok (.iload_n 1, 1) := by decide +kernel
theorem dX4_putMark_27 : decode cX4_putMark 27 = .ok (.invokevirtual 37, 3) := by decide +kernel
theorem dX4_putMark_30 : decode cX4_putMark 30 = .ok (.return_, 1) := by decide +kernel
theorem dX4_putAll_0 : decode cX4_putAll 0 = .ok (.aload_n 1, 1) := by decide +kernel
theorem dX4_putAll_1 : decode cX4_putAll 1 = .ok (.getfield 21, 3) := by decide +kernel
theorem dX4_putAll_4 : decode cX4_putAll 4 = .ok (.aload_n 0, 1) := by decide +kernel
theorem dX4_putAll_5 : decode cX4_putAll 5 = .ok (.invokevirtual 44, 3) := by decide +kernel
theorem dX4_putAll_8 : decode cX4_putAll 8 = .ok (.invokestatic 48, 3) := by decide +kernel
theorem dX4_putAll_11 : decode cX4_putAll 11 = .ok (.istore_n 2, 1) := by decide +kernel
theorem dX4_putAll_12 : decode cX4_putAll 12 = .ok (.aload_n 1, 1) := by decide +kernel
theorem dX4_putAll_13 : decode cX4_putAll 13 = .ok (.getfield 15, 3) := by decide +kernel
theorem dX4_putAll_16 : decode cX4_putAll 16 = .ok (.iconst 0, 1) := by decide +kernel
theorem dX4_putAll_17 : decode cX4_putAll 17 = .ok (.aload_n 0, 1) := by decide +kernel
theorem dX4_putAll_18 : decode cX4_putAll 18 = .ok (.getfield 15, 3) := by decide +kernel
theorem dX4_putAll_21 : decode cX4_putAll 21 = .ok (.aload_n 0, 1) := by decide +kernel
theorem dX4_putAll_22 : decode cX4_putAll 22 = .ok (.getfield 21, 3) := by decide +kernel
theorem dX4_putAll_25 : decode cX4_putAll 25 = .ok (.iload_n 2, 1) := by decide +kernel
theorem dX4_putAll_26 : decode cX4_putAll 26 = .ok (.invokestatic 51, 3) := by decide +kernel
theorem dX4_putAll_29 : decode cX4_putAll 29 = .ok (.aload_n 0, 1) := by decide +kernel
theorem dX4_putAll_30 : decode cX4_putAll 30 = .ok (.dup, 1) := by decide +kernel
theorem dX4_putAll_31 : decode cX4_putAll 31 = .ok (.getfield 21, 3) := by decide +kernel
theorem dX4_putAll_34 : decode cX4_putAll 34 = .ok (.iload_n 2, 1) := by decide +kernel
theorem dX4_putAll_35 : decode cX4_putAll 35 = .ok (.iadd, 1) := by decide +kernel
theorem dX4_putAll_36 : decode cX4_putAll 36 = .ok (.putfield 21, 3) := by decide +kernel
theorem dX4_putAll_39 : decode cX4_putAll 39 = .ok (.aload_n 0, 1) := by decide +kernel
theorem dX4_putAll_40 : decode cX4_putAll 40 = .ok (.aload_n 0, 1) := by decide +kernel
theorem dX4_putAll_41 : decode cX4_putAll 41 = .ok (.getfield 25, 3) := by decide +kernel
theorem dX4_putAll_44 : decode cX4_putAll 44 = .ok (.ifCond .ne 18, 3) := by decide +kernel
theorem dX4_putAll_47 : decode cX4_putAll 47 = .ok (.iload_n 2, 1) := by decide +kernel
theorem dX4_putAll_48 : decode cX4_putAll 48 = .ok (.aload_n 1, 1) := by decide +kernel
theorem dX4_putAll_49 : decode cX4_putAll 49 = .ok (.getfield 21, 3) := by decide +kernel
theorem dX4_putAll_52 : decode cX4_putAll 52 = .ok (.if_icmp .lt 10, 3) := by decide +kernel
theorem dX4_putAll_55 : decode cX4_putAll 55 = .ok (.aload_n 1, 1) := by decide +kernel
theorem dX4_putAll_56 : decode cX4_putAll 56 = .ok (.getfield 25, 3) := by decide +kernel
theorem dX4_putAll_59 : decode cX4_putAll 59 = .ok (.ifCond .eq 7, 3) := by decide +kernel
theorem dX4_putAll_62 : decode cX4_putAll 62 = .ok (.iconst 1, 1) := by decide +kernel
theorem dX4_putAll_63 : decode cX4_putAll 63 = .ok (.goto 4, 3) := by decide +kernel
theorem dX4_putAll_66 : decode cX4_putAll 66 = .ok (.iconst 0, 1) := by decide +kernel
theorem dX4_putAll_67 : decode cX4_putAll 67 = .ok (.putfield 25, 3) := by decide +kernel
theorem dX4_putAll_70 : decode cX4_putAll 70 = .ok (.return_, 1) := by decide +kernel
theorem dX5_init_0 : decode cX5_init 0 = .ok (.aload_n 0, 1) := by decide +kernel
theorem dX5_init_1 : decode cX5_init 1 = .ok (.invokespecial 1, 3) := by decide +kernel
theorem dX5_init_4 : decode cX5_init 4 = .ok (.aload_n 0, 1) := by decide +kernel
theorem dX5_init_5 : decode cX5_init 5 = .ok (.iload_n 1, 1) := by decide +kernel
theorem dX5_init_6 : decode cX5_init 6 = .ok (.iconst 0, 1) := by decide +kernel
theorem dX5_init_7 : decode cX5_init 7 = .ok (.invokestatic 7, 3) := by decide +kernel
theorem dX5_init_10 : decode cX5_init 10 = .ok (.putfield 13, 3) := by decide +kernel
theorem dX5_init_13 : decode cX5_init 13 = .ok (.aload_n 0, 1) := by decide +kernel
theorem dX5_init_14 : decode cX5_init 14 = .ok (.aload_n 0, 1) := by decide +kernel
theorem dX5_init_15 : decode cX5_init 15 = .ok (.getfield 13, 3) := by decide +kernel
theorem dX5_init_18 : decode cX5_init 18 = .ok (.bipush 6, 2) := by decide +kernel
theorem dX5_init_20 : decode cX5_init 20 = .ok (.imul, 1) := by decide +kernel
theorem dX5_init_21 : decode cX5_init 21 = .ok (.newarray .int, 2) := by decide +kernel
theorem dX5_init_23 : decode cX5_init 23 = .ok (.putfield 19, 3) := by decide +kernel
theorem dX5_init_26 : decode cX5_init 26 = .ok (.return_, 1) := by decide +kernel
theorem dX5_makeEmpty_0 : decode cX5_makeEmpty 0 = .ok (.aload_n 0, 1) := by decide +kernel
theorem dX5_makeEmpty_1 : decode cX5_makeEmpty 1 = .ok (.iconst 0, 1) := by decide +kernel
theorem dX5_makeEmpty_2 : decode cX5_makeEmpty 2 = .ok (.putfield 23, 3) := by decide +kernel
theorem dX5_makeEmpty_5 : decode cX5_makeEmpty 5 = .ok (.return_, 1) := by decide +kernel
theorem dX5_has_0 : decode cX5_has 0 = .ok (.iload_n 1, 1) := by decide +kernel
theorem dX5_has_1 : decode cX5_has 1 = .ok (.ifCond .lt 23, 3) := by decide +kernel
theorem dX5_has_4 : decode cX5_has 4 = .ok (.iload_n 1, 1) := by decide +kernel
theorem dX5_has_5 : decode cX5_has 5 = .ok (.aload_n 0, 1) := by decide +kernel
theorem dX5_has_6 : decode cX5_has 6 = .ok (.getfield 23, 3) := by decide +kernel
theorem dX5_has_9 : decode cX5_has 9 = .ok (.if_icmp .ge 15, 3) := by decide +kernel
theorem dX5_has_12 : decode cX5_has 12 = .ok (.iload_n 1, 1) := by decide +kernel
theorem dX5_has_13 : decode cX5_has 13 = .ok (.aload_n 0, 1) := by decide +kernel
theorem dX5_has_14 : decode cX5_has 14 = .ok (.getfield 13, 3) := by decide +kernel
theorem dX5_has_17 : decode cX5_has 17 = .ok (.if_icmp .ge 7, 3) := by decide +kernel
theorem dX5_has_20 : decode cX5_has 20 = .ok (.iconst 1, 1) := by decide +kernel
theorem dX5_has_21 : decode cX5_has 21 = .ok (.goto 4, 3) := by decide +kernel
theorem dX5_has_24 : decode cX5_has 24 = .ok (.iconst 0, 1) := by decide +kernel
theorem dX5_has_25 : decode cX5_has 25 = .ok (.ireturn, 1) := by decide +kernel
theorem dX5_at_0 : decode cX5_at 0 = .ok (.aload_n 0, 1) := by decide +kernel
theorem dX5_at_1 : decode cX5_at 1 = .ok (.iload_n 1, 1) := by decide +kernel
theorem dX5_at_2 : decode cX5_at 2 = .ok (.invokevirtual 26, 3) := by decide +kernel
theorem dX5_at_5 : decode cX5_at 5 = .ok (.ifCond .eq 27, 3) := by decide +kernel
theorem dX5_at_8 : decode cX5_at 8 = .ok (.iload_n 2, 1) := by decide +kernel
theorem dX5_at_9 : decode cX5_at 9 = .ok (.ifCond .lt 23, 3) := by decide +kernel
theorem dX5_at_12 : decode cX5_at 12 = .ok (.iload_n 2, 1) := by decide +kernel
theorem dX5_at_13 : decode cX5_at 13 = .ok (.bipush 6, 2) := by decide +kernel
theorem dX5_at_15 : decode cX5_at 15 = .ok (.if_icmp .ge 17, 3) := by decide +kernel
theorem dX5_at_18 : decode cX5_at 18 = .ok (.aload_n 0, 1) := by decide +kernel
theorem dX5_at_19 : decode cX5_at 19 = .ok (.getfield 19, 3) := by decide +kernel
theorem dX5_at_22 : decode cX5_at 22 = .ok (.iload_n 1, 1) := by decide +kernel
theorem dX5_at_23 : decode cX5_at 23 = .ok (.bipush 6, 2) := by decide +kernel
theorem dX5_at_25 : decode cX5_at 25 = .ok (.imul, 1) := by decide +kernel
theorem dX5_at_26 : decode cX5_at 26 = .ok (.iload_n 2, 1) := by decide +kernel
theorem dX5_at_27 : decode cX5_at 27 = .ok (.iadd, 1) := by decide +kernel
theorem dX5_at_28 : decode cX5_at 28 = .ok (.iaload, 1) := by decide +kernel
theorem dX5_at_29 : decode cX5_at 29 = .ok (.goto 4, 3) := by decide +kernel
theorem dX5_at_32 : decode cX5_at 32 = .ok (.iconst 0, 1) := by decide +kernel
theorem dX5_at_33 : decode cX5_at 33 = .ok (.ireturn, 1) := by decide +kernel
theorem dX5_put_0 : decode cX5_put 0 = .ok (.aload_n 0, 1) := by decide +kernel
theorem dX5_put_1 : decode cX5_put 1 = .ok (.getfield 23, 3) := by decide +kernel
theorem dX5_put_4 : decode cX5_put 4 = .ok (.aload_n 0, 1) := by decide +kernel
theorem dX5_put_5 : decode cX5_put 5 = .ok (.getfield 13, 3) := by decide +kernel
theorem dX5_put_8 : decode cX5_put 8 = .ok (.if_icmp .ge 75, 3) := by decide +kernel
theorem dX5_put_11 : decode cX5_put 11 = .ok (.aload_n 0, 1) := by decide +kernel
theorem dX5_put_12 : decode cX5_put 12 = .ok (.getfield 23, 3) := by decide +kernel
theorem dX5_put_15 : decode cX5_put 15 = .ok (.bipush 6, 2) := by decide +kernel
theorem dX5_put_17 : decode cX5_put 17 = .ok (.imul, 1) := by decide +kernel
theorem dX5_put_18 : decode cX5_put 18 = .ok (.istore 7, 2) := by decide +kernel
theorem dX5_put_20 : decode cX5_put 20 = .ok (.aload_n 0, 1) := by decide +kernel
theorem dX5_put_21 : decode cX5_put 21 = .ok (.getfield 19, 3) := by decide +kernel
theorem dX5_put_24 : decode cX5_put 24 = .ok (.iload 7, 2) := by decide +kernel
theorem dX5_put_26 : decode cX5_put 26 = .ok (.iconst 0, 1) := by decide +kernel
theorem dX5_put_27 : decode cX5_put 27 = .ok (.iadd, 1) := by decide +kernel
theorem dX5_put_28 : decode cX5_put 28 = .ok (.iload_n 1, 1) := by decide +kernel
theorem dX5_put_29 : decode cX5_put 29 = .ok (.iastore, 1) := by decide +kernel
theorem dX5_put_30 : decode cX5_put 30 = .ok (.aload_n 0, 1) := by decide +kernel
theorem dX5_put_31 : decode cX5_put 31 = .ok (.getfield 19, 3) := by decide +kernel
theorem dX5_put_34 : decode cX5_put 34 = .ok (.iload 7, 2) := by decide +kernel
theorem dX5_put_36 : decode cX5_put 36 = .ok (.iconst 1, 1) := by decide +kernel
theorem dX5_put_37 : decode cX5_put 37 = .ok (.iadd, 1) := by decide +kernel
theorem dX5_put_38 : decode cX5_put 38 = .ok (.iload_n 2, 1) := by decide +kernel
theorem dX5_put_39 : decode cX5_put 39 = .ok (.iastore, 1) := by decide +kernel
theorem dX5_put_40 : decode cX5_put 40 = .ok (.aload_n 0, 1) := by decide +kernel
theorem dX5_put_41 : decode cX5_put 41 = .ok (.getfield 19, 3) := by decide +kernel
theorem dX5_put_44 : decode cX5_put 44 = .ok (.iload 7, 2) := by decide +kernel
theorem dX5_put_46 : decode cX5_put 46 = .ok (.iconst 2, 1) := by decide +kernel
theorem dX5_put_47 : decode cX5_put 47 = .ok (.iadd, 1) := by decide +kernel
theorem dX5_put_48 : decode cX5_put 48 = .ok (.iload_n 3, 1) := by decide +kernel
theorem dX5_put_49 : decode cX5_put 49 = .ok (.iastore, 1) := by decide +kernel
theorem dX5_put_50 : decode cX5_put 50 = .ok (.aload_n 0, 1) := by decide +kernel
theorem dX5_put_51 : decode cX5_put 51 = .ok (.getfield 19, 3) := by decide +kernel
theorem dX5_put_54 : decode cX5_put 54 = .ok (.iload 7, 2) := by decide +kernel
theorem dX5_put_56 : decode cX5_put 56 = .ok (.iconst 3, 1) := by decide +kernel
theorem dX5_put_57 : decode cX5_put 57 = .ok (.iadd, 1) := by decide +kernel
theorem dX5_put_58 : decode cX5_put 58 = .ok (.iload 4, 2) := by decide +kernel
theorem dX5_put_60 : decode cX5_put 60 = .ok (.iastore, 1) := by decide +kernel
theorem dX5_put_61 : decode cX5_put 61 = .ok (.aload_n 0, 1) := by decide +kernel
theorem dX5_put_62 : decode cX5_put 62 = .ok (.getfield 19, 3) := by decide +kernel
theorem dX5_put_65 : decode cX5_put 65 = .ok (.iload 7, 2) := by decide +kernel
theorem dX5_put_67 : decode cX5_put 67 = .ok (.iconst 4, 1) := by decide +kernel
theorem dX5_put_68 : decode cX5_put 68 = .ok (.iadd, 1) := by decide +kernel
theorem dX5_put_69 : decode cX5_put 69 = .ok (.iload 5, 2) := by decide +kernel
theorem dX5_put_71 : decode cX5_put 71 = .ok (.iastore, 1) := by decide +kernel
theorem dX5_put_72 : decode cX5_put 72 = .ok (.aload_n 0, 1) := by decide +kernel
theorem dX5_put_73 : decode cX5_put 73 = .ok (.getfield 19, 3) := by decide +kernel
theorem dX5_put_76 : decode cX5_put 76 = .ok (.iload 7, 2) := by decide +kernel
theorem dX5_put_78 : decode cX5_put 78 = .ok (.iconst 5, 1) := by decide +kernel
theorem dX5_put_79 : decode cX5_put 79 = .ok (.iadd, 1) := by decide +kernel
theorem dX5_put_80 : decode cX5_put 80 = .ok (.iload 6, 2) := by decide +kernel
theorem dX5_put_82 : decode cX5_put 82 = .ok (.iastore, 1) := by decide +kernel
theorem dX5_put_83 : decode cX5_put 83 = .ok (.aload_n 0, 1) := by decide +kernel
theorem dX5_put_84 : decode cX5_put 84 = .ok (.dup, 1) := by decide +kernel
theorem dX5_put_85 : decode cX5_put 85 = .ok (.getfield 23, 3) := by decide +kernel
theorem dX5_put_88 : decode cX5_put 88 = .ok (.iconst 1, 1) := by decide +kernel
theorem dX5_put_89 : decode cX5_put 89 = .ok (.iadd, 1) := by decide +kernel
theorem dX5_put_90 : decode cX5_put 90 = .ok (.putfield 23, 3) := by decide +kernel
theorem dX5_put_93 : decode cX5_put 93 = .ok (.return_, 1) := by decide +kernel
theorem dX5_setCode_0 : decode cX5_setCode 0 = .ok (.aload_n 0, 1) := by decide +kernel
theorem dX5_setCode_1 : decode cX5_setCode 1 = .ok (.iload_n 1, 1) := by decide +kernel
theorem dX5_setCode_2 : decode cX5_setCode 2 = .ok (.invokevirtual 26, 3) := by decide +kernel
theorem dX5_setCode_5 : decode cX5_setCode 5 = .ok (.ifCond .eq 15, 3) := by decide +kernel
theorem dX5_setCode_8 : decode cX5_setCode 8 = .ok (.aload_n 0, 1) := by decide +kernel
theorem dX5_setCode_9 : decode cX5_setCode 9 = .ok (.getfield 19, 3) := by decide +kernel
theorem dX5_setCode_12 : decode cX5_setCode 12 = .ok (.iload_n 1, 1) := by decide +kernel
theorem dX5_setCode_13 : decode cX5_setCode 13 = .ok (.bipush 6, 2) := by decide +kernel
theorem dX5_setCode_15 : decode cX5_setCode 15 = .ok (.imul, 1) := by decide +kernel
theorem dX5_setCode_16 : decode cX5_setCode 16 = .ok (.iconst 4, 1) := by decide +kernel
theorem dX5_setCode_17 : decode cX5_setCode 17 = .ok (.iadd, 1) := by decide +kernel
theorem dX5_setCode_18 : decode cX5_setCode 18 = .ok (.iload_n 2, 1) := by decide +kernel
theorem dX5_setCode_19 : decode cX5_setCode 19 = .ok (.iastore, 1) := by decide +kernel
theorem dX5_setCode_20 : decode cX5_setCode 20 = .ok (.return_, 1) := by decide +kernel
theorem dX6_init_0 : decode cX6_init 0 = .ok (.aload_n 0, 1) := by decide +kernel
theorem dX6_init_1 : decode cX6_init 1 = .ok (.invokespecial 3, 3) := by decide +kernel
theorem dX6_init_4 : decode cX6_init 4 = .ok (.aload_n 0, 1) := by decide +kernel
theorem dX6_init_5 : decode cX6_init 5 = .ok (.new 9, 3) := by decide +kernel
theorem dX6_init_8 : decode cX6_init 8 = .ok (.dup, 1) := by decide +kernel
theorem dX6_init_9 : decode cX6_init 9 = .ok (.sipush 1536, 3) := by decide +kernel
theorem dX6_init_12 : decode cX6_init 12 = .ok (.invokespecial 11, 3) := by decide +kernel
theorem dX6_init_15 : decode cX6_init 15 = .ok (.putfield 14, 3) := by decide +kernel
theorem dX6_init_18 : decode cX6_init 18 = .ok (.aload_n 0, 1) := by decide +kernel
theorem dX6_init_19 : decode cX6_init 19 = .ok (.sipush 256, 3) := by decide +kernel
theorem dX6_init_22 : decode cX6_init 22 = .ok (.newarray .int, 2) := by decide +kernel
theorem dX6_init_24 : decode cX6_init 24 = .ok (.putfield 20, 3) := by decide +kernel
theorem dX6_init_27 : decode cX6_init 27 = .ok (.aload_n 0, 1) := by decide +kernel
theorem dX6_init_28 : decode cX6_init 28 = .ok (.sipush 256, 3) := by decide +kernel
theorem dX6_init_31 : decode cX6_init 31 = .ok (.newarray .int, 2) := by decide +kernel
theorem dX6_init_33 : decode cX6_init 33 = .ok (.putfield 24, 3) := by decide +kernel
theorem dX6_init_36 : decode cX6_init 36 = .ok (.return_, 1) := by decide +kernel
theorem dX6_kindOf_0 : decode cX6_kindOf 0 = .ok (.aload_n 0, 1) := by decide +kernel
theorem dX6_kindOf_1 : decode cX6_kindOf 1 = .ok (.getfield 14, 3) := by decide +kernel
theorem dX6_kindOf_4 : decode cX6_kindOf 4 = .ok (.iload_n 2, 1) := by decide +kernel
theorem dX6_kindOf_5 : decode cX6_kindOf 5 = .ok (.sipush 256, 3) := by decide +kernel
theorem dX6_kindOf_8 : decode cX6_kindOf 8 = .ok (.imul, 1) := by decide +kernel
theorem dX6_kindOf_9 : decode cX6_kindOf 9 = .ok (.iload_n 1, 1) := by decide +kernel
theorem dX6_kindOf_10 : decode cX6_kindOf 10 = .ok (.iadd, 1) := by decide +kernel
theorem dX6_kindOf_11 : decode cX6_kindOf 11 = .ok (.invokevirtual 27, 3) := by decide +kernel
theorem dX6_kindOf_14 : decode cX6_kindOf 14 = .ok (.ireturn, 1) := by decide +kernel
theorem dX6_sizeOf_0 : decode cX6_sizeOf 0 = .ok (.aload_n 0, 1) := by decide +kernel
theorem dX6_sizeOf_1 : decode cX6_sizeOf 1 = .ok (.getfield 14, 3) := by decide +kernel
theorem dX6_sizeOf_4 : decode cX6_sizeOf 4 = .ok (.sipush 512, 3) := by decide +kernel
theorem dX6_sizeOf_7 : decode cX6_sizeOf 7 = .ok (.iload_n 2, 1) := by decide +kernel
theorem dX6_sizeOf_8 : decode cX6_sizeOf 8 = .ok (.sipush 256, 3) := by decide +kernel
theorem dX6_sizeOf_11 : decode cX6_sizeOf 11 = .ok (.imul, 1) := by decide +kernel
theorem dX6_sizeOf_12 : decode cX6_sizeOf 12 = .ok (.iadd, 1) := by decide +kernel
theorem dX6_sizeOf_13 : decode cX6_sizeOf 13 = .ok (.iload_n 1, 1) := by decide +kernel
theorem dX6_sizeOf_14 : decode cX6_sizeOf 14 = .ok (.iadd, 1) := by decide +kernel
theorem dX6_sizeOf_15 : decode cX6_sizeOf 15 = .ok (.invokevirtual 27, 3) := by decide +kernel
theorem dX6_sizeOf_18 : decode cX6_sizeOf 18 = .ok (.ireturn, 1) := by decide +kernel
theorem dX6_modeOf_0 : decode cX6_modeOf 0 = .ok (.aload_n 0, 1) := by decide +kernel
theorem dX6_modeOf_1 : decode cX6_modeOf 1 = .ok (.getfield 14, 3) := by decide +kernel
theorem dX6_modeOf_4 : decode cX6_modeOf 4 = .ok (.sipush 1024, 3) := by decide +kernel
theorem dX6_modeOf_7 : decode cX6_modeOf 7 = .ok (.iload_n 2, 1) := by decide +kernel
theorem dX6_modeOf_8 : decode cX6_modeOf 8 = .ok (.sipush 256, 3) := by decide +kernel
theorem dX6_modeOf_11 : decode cX6_modeOf 11 = .ok (.imul, 1) := by decide +kernel
theorem dX6_modeOf_12 : decode cX6_modeOf 12 = .ok (.iadd, 1) := by decide +kernel
theorem dX6_modeOf_13 : decode cX6_modeOf 13 = .ok (.iload_n 1, 1) := by decide +kernel
theorem dX6_modeOf_14 : decode cX6_modeOf 14 = .ok (.iadd, 1) := by decide +kernel
theorem dX6_modeOf_15 : decode cX6_modeOf 15 = .ok (.invokevirtual 27, 3) := by decide +kernel
theorem dX6_modeOf_18 : decode cX6_modeOf 18 = .ok (.ireturn, 1) := by decide +kernel
theorem dX6_isRight_0 : decode cX6_isRight 0 = .ok (.iconst 0, 1) := by decide +kernel
theorem dX6_isRight_1 : decode cX6_isRight 1 = .ok (.istore_n 1, 1) := by decide +kernel
theorem dX6_isRight_2 : decode cX6_isRight 2 = .ok (.iload_n 1, 1) := by decide +kernel
theorem dX6_isRight_3 : decode cX6_isRight 3 = .ok (.sipush 512, 3) := by decide +kernel
theorem dX6_isRight_6 : decode cX6_isRight 6 = .ok (.if_icmp .ge 56, 3) := by decide +kernel
theorem dX6_isRight_9 : decode cX6_isRight 9 = .ok (.aload_n 0, 1) := by decide +kernel
theorem dX6_isRight_10 : decode cX6_isRight 10 = .ok (.getfield 14, 3) := by decide +kernel
theorem dX6_isRight_13 : decode cX6_isRight 13 = .ok (.iload_n 1, 1) := by decide +kernel
theorem dX6_isRight_14 : decode cX6_isRight 14 = .ok (.invokevirtual 27, 3) := by decide +kernel
theorem dX6_isRight_17 : decode cX6_isRight 17 = .ok (.istore_n 2, 1) := by decide +kernel
theorem dX6_isRight_18 : decode cX6_isRight 18 = .ok (.iload_n 2, 1) := by decide +kernel
theorem dX6_isRight_19 : decode cX6_isRight 19 = .ok (.iconst 3, 1) := by decide +kernel
theorem dX6_isRight_20 : decode cX6_isRight 20 = .ok (.if_icmp .gt 34, 3) := by decide +kernel
theorem dX6_isRight_23 : decode cX6_isRight 23 = .ok (.iload_n 2, 1) := by decide +kernel
theorem dX6_isRight_24 : decode cX6_isRight 24 = .ok (.iconst 3, 1) := by decide +kernel
theorem dX6_isRight_25 : decode cX6_isRight 25 = .ok (.if_icmp .ne 31, 3) := by decide +kernel
theorem dX6_isRight_28 : decode cX6_isRight 28 = .ok (.aload_n 0, 1) := by decide +kernel
theorem dX6_isRight_29 : decode cX6_isRight 29 = .ok (.getfield 14, 3) := by decide +kernel
theorem dX6_isRight_32 : decode cX6_isRight 32 = .ok (.sipush 1024, 3) := by decide +kernel
theorem dX6_isRight_35 : decode cX6_isRight 35 = .ok (.iload_n 1, 1) := by decide +kernel
theorem dX6_isRight_36 : decode cX6_isRight 36 = .ok (.iadd, 1) := by decide +kernel
theorem dX6_isRight_37 : decode cX6_isRight 37 = .ok (.invokevirtual 27, 3) := by decide +kernel
theorem dX6_isRight_40 : decode cX6_isRight 40 = .ok (.aload_n 0, 1) := by decide +kernel
theorem dX6_isRight_41 : decode cX6_isRight 41 = .ok (.getfield 31, 3) := by decide +kernel
theorem dX6_isRight_44 : decode cX6_isRight 44 = .ok (.aload_n 0, 1) := by decide +kernel
theorem dX6_isRight_45 : decode cX6_isRight 45 = .ok (.getfield 35, 3) := by decide +kernel
theorem dX6_isRight_48 : decode cX6_isRight 48 = .ok (.iadd, 1) := by decide +kernel
theorem dX6_isRight_49 : decode cX6_isRight 49 = .ok (.iconst 2, 1) := by decide +kernel
theorem dX6_isRight_50 : decode cX6_isRight 50 = .ok (.iadd, 1) := by decide +kernel
theorem dX6_isRight_51 : decode cX6_isRight 51 = .ok (.if_icmp .lt 5, 3) := by decide +kernel
theorem dX6_isRight_54 : decode cX6_isRight 54 = .ok (.iconst 0, 1) := by decide +kernel
theorem dX6_isRight_55 : decode cX6_isRight 55 = .ok (.ireturn, 1) := by decide +kernel
theorem dX6_isRight_56 : decode cX6_isRight 56 = .ok (.iinc 1 1, 3) := by decide +kernel
theorem dX6_isRight_59 : decode cX6_isRight 59 = .ok (.goto (-57), 3) := by decide +kernel
theorem dX6_isRight_62 : decode cX6_isRight 62 = .ok (.iconst 1, 1) := by decide +kernel
theorem dX6_isRight_63 : decode cX6_isRight 63 = .ok (.ireturn, 1) := by decide +kernel
theorem dX6_becomeFirst_0 : decode cX6_becomeFirst 0 = .ok (.aload_n 0, 1) := by decide +kernel
theorem dX6_becomeFirst_1 : decode cX6_becomeFirst 1 = .ok (.iconst 4, 1) := by decide +kernel
theorem dX6_becomeFirst_2 : decode cX6_becomeFirst 2 = .ok (.putfield 31, 3) := by decide +kernel
theorem dX6_becomeFirst_5 : decode cX6_becomeFirst 5 = .ok (.aload_n 0, 1) := by decide +kernel
theorem dX6_becomeFirst_6 : decode cX6_becomeFirst 6 = .ok (.iconst 3, 1) := by decide +kernel
theorem dX6_becomeFirst_7 : decode cX6_becomeFirst 7 = .ok (.putfield 35, 3) := by decide +kernel
theorem dX6_becomeFirst_10 : decode cX6_becomeFirst 10 = .ok (.aload_n 0, 1) := by decide +kernel
theorem dX6_becomeFirst_11 : decode cX6_becomeFirst 11 = .ok (.getfield 14, 3) := by decide +kernel
theorem dX6_becomeFirst_14 : decode cX6_becomeFirst 14 = .ok (.sipush 1536, 3) := by decide +kernel
theorem dX6_becomeFirst_17 : decode cX6_becomeFirst 17 = .ok (.putfield 38, 3) := by decide +kernel
theorem dX6_becomeFirst_20 : decode cX6_becomeFirst 20 = .ok (.aload_n 0, 1) := by decide +kernel
theorem dX6_becomeFirst_21 : decode cX6_becomeFirst 21 = .ok (.getfield 14, 3) := by decide +kernel
theorem dX6_becomeFirst_24 : decode cX6_becomeFirst 24 = .ok (.getfield 41, 3) := by decide +kernel
theorem dX6_becomeFirst_27 : decode cX6_becomeFirst 27 = .ok (.iconst 0, 1) := by decide +kernel
theorem dX6_becomeFirst_28 : decode cX6_becomeFirst 28 = .ok (.invokestatic 44, 3) := by decide +kernel
theorem dX6_becomeFirst_31 : decode cX6_becomeFirst 31 = .ok (.aload_n 0, 1) := by decide +kernel
theorem dX6_becomeFirst_32 : decode cX6_becomeFirst 32 = .ok (.iconst 0, 1) := by decide +kernel
theorem dX6_becomeFirst_33 : decode cX6_becomeFirst 33 = .ok (.iconst 0, 1) := by decide +kernel
theorem dX6_becomeFirst_34 : decode cX6_becomeFirst 34 = .ok (.iconst 2, 1) := by decide +kernel
theorem dX6_becomeFirst_35 : decode cX6_becomeFirst 35 = .ok (.iconst 0, 1) := by decide +kernel
theorem dX6_becomeFirst_36 : decode cX6_becomeFirst 36 = .ok (.iconst 0, 1) := by decide +kernel
theorem dX6_becomeFirst_37 : decode cX6_becomeFirst 37 = .ok (.invokevirtual 50, 3) := by decide +kernel
theorem dX6_becomeFirst_40 : decode cX6_becomeFirst 40 = .ok (.iconst 0, 1) := by decide +kernel
theorem dX6_becomeFirst_41 : decode cX6_becomeFirst 41 = .ok (.istore_n 1, 1) := by decide +kernel
theorem dX6_becomeFirst_42 : decode cX6_becomeFirst 42 = .ok (.iload_n 1, 1) := by decide +kernel
theorem dX6_becomeFirst_43 : decode cX6_becomeFirst 43 = .ok (.bipush 17, 2) := by decide +kernel
theorem dX6_becomeFirst_45 : decode cX6_becomeFirst 45 = .ok (.if_icmp .gt 20, 3) := by decide +kernel
theorem dX6_becomeFirst_48 : decode cX6_becomeFirst 48 = .ok (.aload_n 0, 1) := by decide +kernel
theorem dX6_becomeFirst_49 : decode cX6_becomeFirst 49 = .ok (.iconst 1, 1) := by decide +kernel
theorem dX6_becomeFirst_50 : decode cX6_becomeFirst 50 = .ok (.iload_n 1, 1) := by decide +kernel
theorem dX6_becomeFirst_51 : decode cX6_becomeFirst 51 = .ok (.iadd, 1) := by decide +kernel
theorem dX6_becomeFirst_52 : decode cX6_becomeFirst 52 = .ok (.iconst 0, 1) := by decide +kernel
theorem dX6_becomeFirst_53 : decode cX6_becomeFirst 53 = .ok (.iconst 1, 1) := by decide +kernel
theorem dX6_becomeFirst_54 : decode cX6_becomeFirst 54 = .ok (.iload_n 1, 1) := by decide +kernel
theorem dX6_becomeFirst_55 : decode cX6_becomeFirst 55 = .ok (.iconst 0, 1) := by decide +kernel
theorem dX6_becomeFirst_56 : decode cX6_becomeFirst 56 = .ok (.invokevirtual 50, 3) := by decide +kernel
theorem dX6_becomeFirst_59 : decode cX6_becomeFirst 59 = .ok (.iinc 1 1, 3) := by decide +kernel
theorem dX6_becomeFirst_62 : decode cX6_becomeFirst 62 = .ok (.goto (-20), 3) := by decide +kernel
theorem dX6_becomeFirst_65 : decode cX6_becomeFirst 65 = .ok (.bipush 19, 2) := by decide +kernel
theorem dX6_becomeFirst_67 : decode cX6_becomeFirst 67 = .ok (.istore_n 1, 1) := by decide +kernel
theorem dX6_becomeFirst_68 : decode cX6_becomeFirst 68 = .ok (.iconst 0, 1) := by decide +kernel
theorem dX6_becomeFirst_69 : decode cX6_becomeFirst 69 = .ok (.istore_n 2, 1) := by decide +kernel
theorem dX6_becomeFirst_70 : decode cX6_becomeFirst 70 = .ok (.iload_n 2, 1) := by decide +kernel
theorem dX6_becomeFirst_71 : decode cX6_becomeFirst 71 = .ok (.bipush 8, 2) := by decide +kernel
theorem dX6_becomeFirst_73 : decode cX6_becomeFirst 73 = .ok (.if_icmp .gt 48, 3) := by decide +kernel
theorem dX6_becomeFirst_76 : decode cX6_becomeFirst 76 = .ok (.aload_n 0, 1) := by decide +kernel
theorem dX6_becomeFirst_77 : decode cX6_becomeFirst 77 = .ok (.iload_n 1, 1) := by decide +kernel
theorem dX6_becomeFirst_78 : decode cX6_becomeFirst 78 = .ok (.iconst 0, 1) := by decide +kernel
theorem dX6_becomeFirst_79 : decode cX6_becomeFirst 79 = .ok (.iconst 3, 1) := by decide +kernel
theorem dX6_becomeFirst_80 : decode cX6_becomeFirst 80 = .ok (.iconst 0, 1) := by decide +kernel
theorem dX6_becomeFirst_81 : decode cX6_becomeFirst 81 = .ok (.iload_n 2, 1) := by decide +kernel
theorem dX6_becomeFirst_82 : decode cX6_becomeFirst 82 = .ok (.invokevirtual 50, 3) := by decide +kernel
theorem dX6_becomeFirst_85 : decode cX6_becomeFirst 85 = .ok (.iconst 4, 1) := by decide +kernel
theorem dX6_becomeFirst_86 : decode cX6_becomeFirst 86 = .ok (.istore_n 3, 1) := by decide +kernel
theorem dX6_becomeFirst_87 : decode cX6_becomeFirst 87 = .ok (.iload_n 3, 1) := by decide +kernel
theorem dX6_becomeFirst_88 : decode cX6_becomeFirst 88 = .ok (.bipush 18, 2) := by decide +kernel
theorem dX6_becomeFirst_90 : decode cX6_becomeFirst 90 = .ok (.if_icmp .gt 22, 3) := by decide +kernel
theorem dX6_becomeFirst_93 : decode cX6_becomeFirst 93 = .ok (.aload_n 0, 1) := by decide +kernel
theorem dX6_becomeFirst_94 : decode cX6_becomeFirst 94 = .ok (.iload_n 1, 1) := by decide +kernel
theorem dX6_becomeFirst_95 : decode cX6_becomeFirst 95 = .ok (.iload_n 3, 1) := by decide +kernel
theorem dX6_becomeFirst_96 : decode cX6_becomeFirst 96 = .ok (.iadd, 1) := by decide +kernel
theorem dX6_becomeFirst_97 : decode cX6_becomeFirst 97 = .ok (.iconst 3, 1) := by decide +kernel
theorem dX6_becomeFirst_98 : decode cX6_becomeFirst 98 = .ok (.isub, 1) := by decide +kernel
theorem dX6_becomeFirst_99 : decode cX6_becomeFirst 99 = .ok (.iconst 0, 1) := by decide +kernel
theorem dX6_becomeFirst_100 : decode cX6_becomeFirst 100 = .ok (.iconst 3, 1) := by decide +kernel
theorem dX6_becomeFirst_101 : decode cX6_becomeFirst 101 = .ok (.iload_n 3, 1) := by decide +kernel
theorem dX6_becomeFirst_102 : decode cX6_becomeFirst 102 = .ok (.iload_n 2, 1) := by decide +kernel
theorem dX6_becomeFirst_103 : decode cX6_becomeFirst 103 = .ok (.invokevirtual 50, 3) := by decide +kernel
theorem dX6_becomeFirst_106 : decode cX6_becomeFirst 106 = .ok (.iinc 3 1, 3) := by decide +kernel
theorem dX6_becomeFirst_109 : decode cX6_becomeFirst 109 = .ok (.goto (-22), 3) := by decide +kernel
theorem dX6_becomeFirst_112 : decode cX6_becomeFirst 112 = .ok (.iinc 1 16, 3) := by decide +kernel
theorem dX6_becomeFirst_115 : decode cX6_becomeFirst 115 = .ok (.iinc 2 1, 3) := by decide +kernel
theorem dX6_becomeFirst_118 : decode cX6_becomeFirst 118 = .ok (.goto (-48), 3) := by decide +kernel
theorem dX6_becomeFirst_121 : decode cX6_becomeFirst 121 = .ok (.aload_n 0, 1) := by decide +kernel
theorem dX6_becomeFirst_122 : decode cX6_becomeFirst 122 = .ok (.iload_n 1, 1) := by decide +kernel
theorem dX6_becomeFirst_123 : decode cX6_becomeFirst 123 = .ok (.invokevirtual 54, 3) := by decide +kernel
theorem dX6_becomeFirst_126 : decode cX6_becomeFirst 126 = .ok (.return_, 1) := by decide +kernel
theorem dX6_setFirstPairs_0 : decode cX6_setFirstPairs 0 = .ok (.iload_n 1, 1) := by decide +kernel
theorem dX6_setFirstPairs_1 : decode cX6_setFirstPairs 1 = .ok (.istore_n 2, 1) := by decide +kernel
theorem dX6_setFirstPairs_2 : decode cX6_setFirstPairs 2 = .ok (.iconst 0, 1) := by decide +kernel
theorem dX6_setFirstPairs_3 : decode cX6_setFirstPairs 3 = .ok (.istore_n 3, 1) := by decide +kernel
theorem dX6_setFirstPairs_4 : decode cX6_setFirstPairs 4 = .ok (.iload_n 3, 1) := by decide +kernel
theorem dX6_setFirstPairs_5 : decode cX6_setFirstPairs 5 = .ok (.bipush 8, 2) := by decide +kernel
theorem dX6_setFirstPairs_7 : decode cX6_setFirstPairs 7 = .ok (.if_icmp .gt 76, 3) := by decide +kernel
theorem dX6_setFirstPairs_10 : decode cX6_setFirstPairs 10 = .ok (.iload_n 3, 1) := by decide +kernel
theorem dX6_setFirstPairs_11 : decode cX6_setFirstPairs 11 = .ok (.iconst 5, 1) := by decide +kernel
theorem dX6_setFirstPairs_12 : decode cX6_setFirstPairs 12 = .ok (.if_icmp .gt 8, 3) := by decide +kernel
theorem dX6_setFirstPairs_15 : decode cX6_setFirstPairs 15 = .ok (.bipush 6, 2) := by decide +kernel
theorem dX6_setFirstPairs_17 : decode cX6_setFirstPairs 17 = .ok (.goto 4, 3) := by decide +kernel
theorem dX6_setFirstPairs_20 : decode cX6_setFirstPairs 20 = .ok (.iconst 4, 1) := by decide +kernel
theorem dX6_setFirstPairs_21 : decode cX6_setFirstPairs 21 = .ok (.istore 4, 2) := by decide +kernel
theorem dX6_setFirstPairs_23 : decode cX6_setFirstPairs 23 = .ok (.iconst 1, 1) := by decide +kernel
theorem dX6_setFirstPairs_24 : decode cX6_setFirstPairs 24 = .ok (.istore 5, 2) := by decide +kernel
theorem dX6_setFirstPairs_26 : decode cX6_setFirstPairs 26 = .ok (.iload 5, 2) := by decide +kernel
theorem dX6_setFirstPairs_28 : decode cX6_setFirstPairs 28 = .ok (.iconst 4, 1) := by decide +kernel
theorem dX6_setFirstPairs_29 : decode cX6_setFirstPairs 29 = .ok (.if_icmp .gt 48, 3) := by decide +kernel
theorem dX6_setFirstPairs_32 : decode cX6_setFirstPairs 32 = .ok (.iconst 4, 1) := by decide +kernel
theorem dX6_setFirstPairs_33 : decode cX6_setFirstPairs 33 = .ok (.istore 6, 2) := by decide +kernel
theorem dX6_setFirstPairs_35 : decode cX6_setFirstPairs 35 = .ok (.iload 6, 2) := by decide +kernel
theorem dX6_setFirstPairs_37 : decode cX6_setFirstPairs 37 = .ok (.iload 4, 2) := by decide +kernel
theorem dX6_setFirstPairs_39 : decode cX6_setFirstPairs 39 = .ok (.if_icmp .gt 32, 3) := by decide +kernel
theorem dX6_setFirstPairs_42 : decode cX6_setFirstPairs 42 = .ok (.aload_n 0, 1) := by decide +kernel
theorem dX6_setFirstPairs_43 : decode cX6_setFirstPairs 43 = .ok (.iload_n 2, 1) := by decide +kernel
theorem dX6_setFirstPairs_44 : decode cX6_setFirstPairs 44 = .ok (.iconst 0, 1) := by decide +kernel
theorem dX6_setFirstPairs_45 : decode cX6_setFirstPairs 45 = .ok (.iconst 1, 1) := by decide +kernel
theorem dX6_setFirstPairs_46 : decode cX6_setFirstPairs 46 = .ok (.iload 5, 2) := by decide +kernel
theorem dX6_setFirstPairs_48 : decode cX6_setFirstPairs 48 = .ok (.iconst 0, 1) := by decide +kernel
theorem dX6_setFirstPairs_49 : decode cX6_setFirstPairs 49 = .ok (.invokevirtual 50, 3) := by decide +kernel
theorem dX6_setFirstPairs_52 : decode cX6_setFirstPairs 52 = .ok (.aload_n 0, 1) := by decide +kernel
theorem dX6_setFirstPairs_53 : decode cX6_setFirstPairs 53 = .ok (.iload_n 2, 1) := by decide +kernel
theorem dX6_setFirstPairs_54 : decode cX6_setFirstPairs 54 = .ok (.iconst 1, 1) := by decide +kernel
theorem dX6_setFirstPairs_55 : decode cX6_setFirstPairs 55 = .ok (.iconst 3, 1) := by decide +kernel
theorem dX6_setFirstPairs_56 : decode cX6_setFirstPairs 56 = .ok (.iload 6, 2) := by decide +kernel
theorem dX6_setFirstPairs_58 : decode cX6_setFirstPairs 58 = .ok (.iload_n 3, 1) := by decide +kernel
theorem dX6_setFirstPairs_59 : decode cX6_setFirstPairs 59 = .ok (.invokevirtual 50, 3) := by decide +kernel
theorem dX6_setFirstPairs_62 : decode cX6_setFirstPairs 62 = .ok (.iinc 2 1, 3) := by decide +kernel
theorem dX6_setFirstPairs_65 : decode cX6_setFirstPairs 65 = .ok (.iinc 6 1, 3) := by decide +kernel
theorem dX6_setFirstPairs_68 : decode cX6_setFirstPairs 68 = .ok (.goto (-33), 3) := by decide +kernel
theorem dX6_setFirstPairs_71 : decode cX6_setFirstPairs 71 = .ok (.iinc 5 1, 3) := by decide +kernel
theorem dX6_setFirstPairs_74 : decode cX6_setFirstPairs 74 = .ok (.goto (-48), 3) := by decide +kernel
theorem dX6_setFirstPairs_77 : decode cX6_setFirstPairs 77 = .ok (.iinc 3 1, 3) := by decide +kernel
theorem dX6_setFirstPairs_80 : decode cX6_setFirstPairs 80 = .ok (.goto (-76), 3) := by decide +kernel
theorem dX6_setFirstPairs_83 : decode cX6_setFirstPairs 83 = .ok (.iconst 0, 1) := by decide +kernel
theorem dX6_setFirstPairs_84 : decode cX6_setFirstPairs 84 = .ok (.istore_n 3, 1) := by decide +kernel
theorem dX6_setFirstPairs_85 : decode cX6_setFirstPairs 85 = .ok (.iload_n 3, 1) := by decide +kernel
theorem dX6_setFirstPairs_86 : decode cX6_setFirstPairs 86 = .ok (.bipush 8, 2) := by decide +kernel
theorem dX6_setFirstPairs_88 : decode cX6_setFirstPairs 88 = .ok (.if_icmp .gt 30, 3) := by decide +kernel
theorem dX6_setFirstPairs_91 : decode cX6_setFirstPairs 91 = .ok (.aload_n 0, 1) := by decide +kernel
theorem dX6_setFirstPairs_92 : decode cX6_setFirstPairs 92 = .ok (.iload_n 2, 1) := by decide +kernel
theorem dX6_setFirstPairs_93 : decode cX6_setFirstPairs 93 = .ok (.iconst 0, 1) := by decide +kernel
theorem dX6_setFirstPairs_94 : decode cX6_setFirstPairs 94 = .ok (.iconst 3, 1) := by decide +kernel
theorem dX6_setFirstPairs_95 : decode cX6_setFirstPairs 95 = .ok (.iconst 4, 1) := by decide +kernel
theorem dX6_setFirstPairs_96 : decode cX6_setFirstPairs 96 = .ok (.iload_n 3, 1) := by decide +kernel
theorem dX6_setFirstPairs_97 : decode cX6_setFirstPairs 97 = .ok (.invokevirtual 50, 3) := by decide +kernel
theorem dX6_setFirstPairs_100 : decode cX6_setFirstPairs 100 = .ok (.aload_n 0, 1) := by decide +kernel
theorem dX6_setFirstPairs_101 : decode cX6_setFirstPairs 101 = .ok (.iload_n 2, 1) := by decide +kernel
theorem dX6_setFirstPairs_102 : decode cX6_setFirstPairs 102 = .ok (.iconst 1, 1) := by decide +kernel
theorem dX6_setFirstPairs_103 : decode cX6_setFirstPairs 103 = .ok (.iconst 1, 1) := by decide +kernel
theorem dX6_setFirstPairs_104 : decode cX6_setFirstPairs 104 = .ok (.iconst 1, 1) := by decide +kernel
theorem dX6_setFirstPairs_105 : decode cX6_setFirstPairs 105 = .ok (.iconst 0, 1) := by decide +kernel
theorem dX6_setFirstPairs_106 : decode cX6_setFirstPairs 106 = .ok (.invokevirtual 50, 3) := by decide +kernel
theorem dX6_setFirstPairs_109 : decode cX6_setFirstPairs 109 = .ok (.iinc 2 1, 3) := by decide +kernel
theorem dX6_setFirstPairs_112 : decode cX6_setFirstPairs 112 = .ok (.iinc 3 1, 3) := by decide +kernel
theorem dX6_setFirstPairs_115 : decode cX6_setFirstPairs 115 = .ok (.goto (-30), 3) := by decide +kernel
theorem dX6_setFirstPairs_118 : decode cX6_setFirstPairs 118 = .ok (.return_, 1) := by decide +kernel
theorem dX6_setPart_0 : decode cX6_setPart 0 = .ok (.aload_n 0, 1) := by decide +kernel
theorem dX6_setPart_1 : decode cX6_setPart 1 = .ok (.getfield 14, 3) := by decide +kernel
theorem dX6_setPart_4 : decode cX6_setPart 4 = .ok (.iload_n 2, 1) := by decide +kernel
theorem dX6_setPart_5 : decode cX6_setPart 5 = .ok (.sipush 256, 3) := by decide +kernel
theorem dX6_setPart_8 : decode cX6_setPart 8 = .ok (.imul, 1) := by decide +kernel
theorem dX6_setPart_9 : decode cX6_setPart 9 = .ok (.iload_n 1, 1) := by decide +kernel
theorem dX6_setPart_10 : decode cX6_setPart 10 = .ok (.iadd, 1) := by decide +kernel
theorem dX6_setPart_11 : decode cX6_setPart 11 = .ok (.iload_n 3, 1) := by decide +kernel
theorem dX6_setPart_12 : decode cX6_setPart 12 = .ok (.invokevirtual 57, 3) := by decide +kernel
theorem dX6_setPart_15 : decode cX6_setPart 15 = .ok (.pop, 1) := by decide +kernel
theorem dX6_setPart_16 : decode cX6_setPart 16 = .ok (.aload_n 0, 1) := by decide +kernel
theorem dX6_setPart_17 : decode cX6_setPart 17 = .ok (.getfield 14, 3) := by decide +kernel
theorem dX6_setPart_20 : decode cX6_setPart 20 = .ok (.sipush 512, 3) := by decide +kernel
theorem dX6_setPart_23 : decode cX6_setPart 23 = .ok (.iload_n 2, 1) := by decide +kernel
theorem dX6_setPart_24 : decode cX6_setPart 24 = .ok (.sipush 256, 3) := by decide +kernel
theorem dX6_setPart_27 : decode cX6_setPart 27 = .ok (.imul, 1) := by decide +kernel
theorem dX6_setPart_28 : decode cX6_setPart 28 = .ok (.iadd, 1) := by decide +kernel
theorem dX6_setPart_29 : decode cX6_setPart 29 = .ok (.iload_n 1, 1) := by decide +kernel
theorem dX6_setPart_30 : decode cX6_setPart 30 = .ok (.iadd, 1) := by decide +kernel
theorem dX6_setPart_31 : decode cX6_setPart 31 = .ok (.iload 4, 2) := by decide +kernel
theorem dX6_setPart_33 : decode cX6_setPart 33 = .ok (.invokevirtual 57, 3) := by decide +kernel
theorem dX6_setPart_36 : decode cX6_setPart 36 = .ok (.pop, 1) := by decide +kernel
theorem dX6_setPart_37 : decode cX6_setPart 37 = .ok (.aload_n 0, 1) := by decide +kernel
theorem dX6_setPart_38 : decode cX6_setPart 38 = .ok (.getfield 14, 3) := by decide +kernel
theorem dX6_setPart_41 : decode cX6_setPart 41 = .ok (.sipush 1024, 3) := by decide +kernel
theorem dX6_setPart_44 : decode cX6_setPart 44 = .ok (.iload_n 2, 1) := by decide +kernel
theorem dX6_setPart_45 : decode cX6_setPart 45 = .ok (.sipush 256, 3) := by decide +kernel
theorem dX6_setPart_48 : decode cX6_setPart 48 = .ok (.imul, 1) := by decide +kernel
theorem dX6_setPart_49 : decode cX6_setPart 49 = .ok (.iadd, 1) := by decide +kernel
theorem dX6_setPart_50 : decode cX6_setPart 50 = .ok (.iload_n 1, 1) := by decide +kernel
theorem dX6_setPart_51 : decode cX6_setPart 51 = .ok (.iadd, 1) := by decide +kernel
theorem dX6_setPart_52 : decode cX6_setPart 52 = .ok (.iload 5, 2) := by decide +kernel
theorem dX6_setPart_54 : decode cX6_setPart 54 = .ok (.invokevirtual 57, 3) := by decide +kernel
theorem dX6_setPart_57 : decode cX6_setPart 57 = .ok (.pop, 1) := by decide +kernel
theorem dX6_setPart_58 : decode cX6_setPart 58 = .ok (.return_, 1) := by decide +kernel
theorem dX6_sortCodes_0 : decode cX6_sortCodes 0 = .ok (.aload_n 0, 1) := by decide +kernel
theorem dX6_sortCodes_1 : decode cX6_sortCodes 1 = .ok (.getfield 20, 3) := by decide +kernel
theorem dX6_sortCodes_4 : decode cX6_sortCodes 4 = .ok (.iconst (-1), 1) := by decide +kernel
theorem dX6_sortCodes_5 : decode cX6_sortCodes 5 = .ok (.invokestatic 44, 3) := by decide +kernel
theorem dX6_sortCodes_8 : decode cX6_sortCodes 8 = .ok (.sipush 255, 3) := by decide +kernel
theorem dX6_sortCodes_11 : decode cX6_sortCodes 11 = .ok (.istore_n 1, 1) := by decide +kernel
theorem dX6_sortCodes_12 : decode cX6_sortCodes 12 = .ok (.iload_n 1, 1) := by decide +kernel
theorem dX6_sortCodes_13 : decode cX6_sortCodes 13 = .ok (.ifCond .lt 50, 3) := by decide +kernel
theorem dX6_sortCodes_16 : decode cX6_sortCodes 16 = .ok (.aload_n 0, 1) := by decide +kernel
theorem dX6_sortCodes_17 : decode cX6_sortCodes 17 = .ok (.iload_n 1, 1) := by decide +kernel
theorem dX6_sortCodes_18 : decode cX6_sortCodes 18 = .ok (.iconst 0, 1) := by decide +kernel
theorem dX6_sortCodes_19 : decode cX6_sortCodes 19 = .ok (.invokevirtual 61, 3) := by decide +kernel
theorem dX6_sortCodes_22 : decode cX6_sortCodes 22 = .ok (.aload_n 0, 1) := by decide +kernel
theorem dX6_sortCodes_23 : decode cX6_sortCodes 23 = .ok (.iload_n 1, 1) := by decide +kernel
theorem dX6_sortCodes_24 : decode cX6_sortCodes 24 = .ok (.iconst 0, 1) := by decide +kernel
theorem dX6_sortCodes_25 : decode cX6_sortCodes 25 = .ok (.invokevirtual 64, 3) := by decide +kernel
theorem dX6_sortCodes_28 : decode cX6_sortCodes 28 = .ok (.aload_n 0, 1) := by decide +kernel
theorem dX6_sortCodes_29 : decode cX6_sortCodes 29 = .ok (.iload_n 1, 1) := by decide +kernel
theorem dX6_sortCodes_30 : decode cX6_sortCodes 30 = .ok (.iconst 0, 1) := by decide +kernel
theorem dX6_sortCodes_31 : decode cX6_sortCodes 31 = .ok (.invokevirtual 67, 3) := by decide +kernel
theorem dX6_sortCodes_34 : decode cX6_sortCodes 34 = .ok (.invokestatic 70, 3) := by decide +kernel
theorem dX6_sortCodes_37 : decode cX6_sortCodes 37 = .ok (.istore_n 2, 1) := by decide +kernel
theorem dX6_sortCodes_38 : decode cX6_sortCodes 38 = .ok (.aload_n 0, 1) := by decide +kernel
theorem dX6_sortCodes_39 : decode cX6_sortCodes 39 = .ok (.getfield 24, 3) := by decide +kernel
theorem dX6_sortCodes_42 : decode cX6_sortCodes 42 = .ok (.iload_n 1, 1) := by decide +kernel
theorem dX6_sortCodes_43 : decode cX6_sortCodes 43 = .ok (.aload_n 0, 1) := by decide +kernel
theorem dX6_sortCodes_44 : decode cX6_sortCodes 44 = .ok (.getfield 20, 3) := by decide +kernel
theorem dX6_sortCodes_47 : decode cX6_sortCodes 47 = .ok (.iload_n 2, 1) := by decide +kernel
theorem dX6_sortCodes_48 : decode cX6_sortCodes 48 = .ok (.iaload, 1) := by decide +kernel
theorem dX6_sortCodes_49 : decode cX6_sortCodes 49 = .ok (.iastore, 1) := by decide +kernel
theorem dX6_sortCodes_50 : decode cX6_sortCodes 50 = .ok (.aload_n 0, 1) := by decide +kernel
theorem dX6_sortCodes_51 : decode cX6_sortCodes 51 = .ok (.getfield 20, 3) := by decide +kernel
theorem dX6_sortCodes_54 : decode cX6_sortCodes 54 = .ok (.iload_n 2, 1) := by decide +kernel
theorem dX6_sortCodes_55 : decode cX6_sortCodes 55 = .ok (.iload_n 1, 1) := by decide +kernel
theorem dX6_sortCodes_56 : decode cX6_sortCodes 56 = .ok (.iastore, 1) := by decide +kernel
theorem dX6_sortCodes_57 : decode cX6_sortCodes 57 = .ok (.iinc 1 (-1), 3) := by decide +kernel
theorem dX6_sortCodes_60 : decode cX6_sortCodes 60 = .ok (.goto (-48), 3) := by decide +kernel
theorem dX6_sortCodes_63 : decode cX6_sortCodes 63 = .ok (.return_, 1) := by decide +kernel
theorem dX6_chainOf_0 : decode cX6_chainOf 0 = .ok (.iload_n 0, 1) := by decide +kernel
theorem dX6_chainOf_1 : decode cX6_chainOf 1 = .ok (.iconst 3, 1) := by decide +kernel
theorem dX6_chainOf_2 : decode cX6_chainOf 2 = .ok (.if_icmp .ne 15, 3) := by decide +kernel
theorem dX6_chainOf_5 : decode cX6_chainOf 5 = .ok (.bipush 64, 2) := by decide +kernel
theorem dX6_chainOf_7 : decode cX6_chainOf 7 = .ok (.iload_n 1, 1) := by decide +kernel
theorem dX6_chainOf_8 : decode cX6_chainOf 8 = .ok (.iadd, 1) := by decide +kernel
theorem dX6_chainOf_9 : decode cX6_chainOf 9 = .ok (.bipush 19, 2) := by decide +kernel
theorem dX6_chainOf_11 : decode cX6_chainOf 11 = .ok (.iload_n 2, 1) := by decide +kernel
theorem dX6_chainOf_12 : decode cX6_chainOf 12 = .ok (.imul, 1) := by decide +kernel
theorem dX6_chainOf_13 : decode cX6_chainOf 13 = .ok (.iadd, 1) := by decide +kernel
theorem dX6_chainOf_14 : decode cX6_chainOf 14 = .ok (.goto 10, 3) := by decide +kernel
theorem dX6_chainOf_17 : decode cX6_chainOf 17 = .ok (.sipush 128, 3) := by decide +kernel
theorem dX6_chainOf_20 : decode cX6_chainOf 20 = .ok (.iload_n 0, 1) := by decide +kernel
theorem dX6_chainOf_21 : decode cX6_chainOf 21 = .ok (.imul, 1) := by decide +kernel
theorem dX6_chainOf_22 : decode cX6_chainOf 22 = .ok (.iload_n 1, 1) := by decide +kernel
theorem dX6_chainOf_23 : decode cX6_chainOf 23 = .ok (.iadd, 1) := by decide +kernel
theorem dX6_chainOf_24 : decode cX6_chainOf 24 = .ok (.sipush 255, 3) := by decide +kernel
theorem dX6_chainOf_27 : decode cX6_chainOf 27 = .ok (.iand, 1) := by decide +kernel
theorem dX6_chainOf_28 : decode cX6_chainOf 28 = .ok (.ireturn, 1) := by decide +kernel
theorem dX6_pairFor_0 : decode cX6_pairFor 0 = .ok (.aload_n 1, 1) := by decide +kernel
theorem dX6_pairFor_1 : decode cX6_pairFor 1 = .ok (.iload_n 2, 1) := by decide +kernel
theorem dX6_pairFor_2 : decode cX6_pairFor 2 = .ok (.iconst 0, 1) := by decide +kernel
theorem dX6_pairFor_3 : decode cX6_pairFor 3 = .ok (.invokevirtual 76, 3) := by decide +kernel
theorem dX6_pairFor_6 : decode cX6_pairFor 6 = .ok (.istore_n 3, 1) := by decide +kernel
theorem dX6_pairFor_7 : decode cX6_pairFor 7 = .ok (.aload_n 1, 1) := by decide +kernel
theorem dX6_pairFor_8 : decode cX6_pairFor 8 = .ok (.iload_n 2, 1) := by decide +kernel
theorem dX6_pairFor_9 : decode cX6_pairFor 9 = .ok (.iconst 1, 1) := by decide +kernel
theorem dX6_pairFor_10 : decode cX6_pairFor 10 = .ok (.invokevirtual 76, 3) := by decide +kernel
theorem dX6_pairFor_13 : decode cX6_pairFor 13 = .ok (.istore 4, 2) := by decide +kernel
theorem dX6_pairFor_15 : decode cX6_pairFor 15 = .ok (.aload_n 1, 1) := by decide +kernel
theorem dX6_pairFor_16 : decode cX6_pairFor 16 = .ok (.iload_n 2, 1) := by decide +kernel
theorem dX6_pairFor_17 : decode cX6_pairFor 17 = .ok (.iconst 3, 1) := by decide +kernel
theorem dX6_pairFor_18 : decode cX6_pairFor 18 = .ok (.invokevirtual 76, 3) := by decide +kernel
theorem dX6_pairFor_21 : decode cX6_pairFor 21 = .ok (.istore 5, 2) := by decide +kernel
theorem dX6_pairFor_23 : decode cX6_pairFor 23 = .ok (.aload_n 1, 1) := by decide +kernel
theorem dX6_pairFor_24 : decode cX6_pairFor 24 = .ok (.iload_n 2, 1) := by decide +kernel
theorem dX6_pairFor_25 : decode cX6_pairFor 25 = .ok (.iconst 1, 1) := by decide +kernel
theorem dX6_pairFor_26 : decode cX6_pairFor 26 = .ok (.iadd, 1) := by decide +kernel
theorem dX6_pairFor_27 : decode cX6_pairFor 27 = .ok (.iconst 0, 1) := by decide +kernel
theorem dX6_pairFor_28 : decode cX6_pairFor 28 = .ok (.invokevirtual 76, 3) := by decide +kernel
theorem dX6_pairFor_31 : decode cX6_pairFor 31 = .ok (.istore 6, 2) := by decide +kernel
theorem dX6_pairFor_33 : decode cX6_pairFor 33 = .ok (.aload_n 1, 1) := by decide +kernel
theorem dX6_pairFor_34 : decode cX6_pairFor 34 = .ok (.iload_n 2, 1) := by decide +kernel
theorem dX6_pairFor_35 : decode cX6_pairFor 35 = .ok (.iconst 1, 1) := by decide +kernel
theorem dX6_pairFor_36 : decode cX6_pairFor 36 = .ok (.iadd, 1) := by decide +kernel
theorem dX6_pairFor_37 : decode cX6_pairFor 37 = .ok (.iconst 1, 1) := by decide +kernel
theorem dX6_pairFor_38 : decode cX6_pairFor 38 = .ok (.invokevirtual 76, 3) := by decide +kernel
theorem dX6_pairFor_41 : decode cX6_pairFor 41 = .ok (.istore 7, 2) := by decide +kernel
theorem dX6_pairFor_43 : decode cX6_pairFor 43 = .ok (.aload_n 1, 1) := by decide +kernel
theorem dX6_pairFor_44 : decode cX6_pairFor 44 = .ok (.iload_n 2, 1) := by decide +kernel
theorem dX6_pairFor_45 : decode cX6_pairFor 45 = .ok (.iconst 1, 1) := by decide +kernel
theorem dX6_pairFor_46 : decode cX6_pairFor 46 = .ok (.iadd, 1) := by decide +kernel
theorem dX6_pairFor_47 : decode cX6_pairFor 47 = .ok (.iconst 3, 1) := by decide +kernel
theorem dX6_pairFor_48 : decode cX6_pairFor 48 = .ok (.invokevirtual 76, 3) := by decide +kernel
theorem dX6_pairFor_51 : decode cX6_pairFor 51 = .ok (.istore 8, 2) := by decide +kernel
theorem dX6_pairFor_53 : decode cX6_pairFor 53 = .ok (.aload_n 0, 1) := by decide +kernel
theorem dX6_pairFor_54 : decode cX6_pairFor 54 = .ok (.getfield 20, 3) := by decide +kernel
theorem dX6_pairFor_57 : decode cX6_pairFor 57 = .ok (.iload_n 3, 1) := by decide +kernel
theorem dX6_pairFor_58 : decode cX6_pairFor 58 = .ok (.iload 4, 2) := by decide +kernel
theorem dX6_pairFor_60 : decode cX6_pairFor 60 = .ok (.iload 5, 2) := by decide +kernel
theorem dX6_pairFor_62 : decode cX6_pairFor 62 = .ok (.invokestatic 70, 3) := by decide +kernel
theorem dX6_pairFor_65 : decode cX6_pairFor 65 = .ok (.iaload, 1) := by decide +kernel
theorem dX6_pairFor_66 : decode cX6_pairFor 66 = .ok (.istore 9, 2) := by decide +kernel
theorem dX6_pairFor_68 : decode cX6_pairFor 68 = .ok (.iconst 0, 1) := by decide +kernel
theorem dX6_pairFor_69 : decode cX6_pairFor 69 = .ok (.istore 10, 2) := by decide +kernel
theorem dX6_pairFor_71 : decode cX6_pairFor 71 = .ok (.iload 10, 2) := by decide +kernel
theorem dX6_pairFor_73 : decode cX6_pairFor 73 = .ok (.sipush 256, 3) := by decide +kernel
theorem dX6_pairFor_76 : decode cX6_pairFor 76 = .ok (.if_icmp .ge 57, 3) := by decide +kernel
theorem dX6_pairFor_79 : decode cX6_pairFor 79 = .ok (.iload 9, 2) := by decide +kernel
theorem dX6_pairFor_81 : decode cX6_pairFor 81 = .ok (.ifCond .lt 52, 3) := by decide +kernel
theorem dX6_pairFor_84 : decode cX6_pairFor 84 = .ok (.aload_n 0, 1) := by decide +kernel
theorem dX6_pairFor_85 : decode cX6_pairFor 85 = .ok (.iload 9, 2) := by decide +kernel
theorem dX6_pairFor_87 : decode cX6_pairFor 87 = .ok (.iconst 1, 1) := by decide +kernel
theorem dX6_pairFor_88 : decode cX6_pairFor 88 = .ok (.iload 6, 2) := by decide +kernel
theorem dX6_pairFor_90 : decode cX6_pairFor 90 = .ok (.iload 7, 2) := by decide +kernel
theorem dX6_pairFor_92 : decode cX6_pairFor 92 = .ok (.iload 8, 2) := by decide +kernel
theorem dX6_pairFor_94 : decode cX6_pairFor 94 = .ok (.invokevirtual 78, 3) := by decide +kernel
theorem dX6_pairFor_97 : decode cX6_pairFor 97 = .ok (.ifCond .eq 21, 3) := by decide +kernel
theorem dX6_pairFor_100 : decode cX6_pairFor 100 = .ok (.aload_n 0, 1) := by decide +kernel
theorem dX6_pairFor_101 : decode cX6_pairFor 101 = .ok (.iload 9, 2) := by decide +kernel
theorem dX6_pairFor_103 : decode cX6_pairFor 103 = .ok (.iconst 0, 1) := by decide +kernel
theorem dX6_pairFor_104 : decode cX6_pairFor 104 = .ok (.iload_n 3, 1) := by decide +kernel
theorem dX6_pairFor_105 : decode cX6_pairFor 105 = .ok (.iload 4, 2) := by decide +kernel
theorem dX6_pairFor_107 : decode cX6_pairFor 107 = .ok (.iload 5, 2) := by decide +kernel
theorem dX6_pairFor_109 : decode cX6_pairFor 109 = .ok (.invokevirtual 78, 3) := by decide +kernel
theorem dX6_pairFor_112 : decode cX6_pairFor 112 = .ok (.ifCond .eq 6, 3) := by decide +kernel
theorem dX6_pairFor_115 : decode cX6_pairFor 115 = .ok (.iload 9, 2) := by decide +kernel
theorem dX6_pairFor_117 : decode cX6_pairFor 117 = .ok (.ireturn, 1) := by decide +kernel
theorem dX6_pairFor_118 : decode cX6_pairFor 118 = .ok (.aload_n 0, 1) := by decide +kernel
theorem dX6_pairFor_119 : decode cX6_pairFor 119 = .ok (.getfield 24, 3) := by decide +kernel
theorem dX6_pairFor_122 : decode cX6_pairFor 122 = .ok (.iload 9, 2) := by decide +kernel
theorem dX6_pairFor_124 : decode cX6_pairFor 124 = .ok (.iaload, 1) := by decide +kernel
theorem dX6_pairFor_125 : decode cX6_pairFor 125 = .ok (.istore 9, 2) := by decide +kernel
theorem dX6_pairFor_127 : decode cX6_pairFor 127 = .ok (.iinc 10 1, 3) := by decide +kernel
theorem dX6_pairFor_130 : decode cX6_pairFor 130 = .ok (.goto (-59), 3) := by decide +kernel
theorem dX6_pairFor_133 : decode cX6_pairFor 133 = .ok (.iconst (-1), 1) := by decide +kernel
theorem dX6_pairFor_134 : decode cX6_pairFor 134 = .ok (.ireturn, 1) := by decide +kernel
theorem dX6_singleFor_0 : decode cX6_singleFor 0 = .ok (.aload_n 0, 1) := by decide +kernel
theorem dX6_singleFor_1 : decode cX6_singleFor 1 = .ok (.getfield 20, 3) := by decide +kernel
theorem dX6_singleFor_4 : decode cX6_singleFor 4 = .ok (.iload_n 1, 1) := by decide +kernel
theorem dX6_singleFor_5 : decode cX6_singleFor 5 = .ok (.iload_n 2, 1) := by decide +kernel
theorem dX6_singleFor_6 : decode cX6_singleFor 6 = .ok (.iload_n 3, 1) := by decide +kernel
theorem dX6_singleFor_7 : decode cX6_singleFor 7 = .ok (.invokestatic 70, 3) := by decide +kernel
theorem dX6_singleFor_10 : decode cX6_singleFor 10 = .ok (.iaload, 1) := by decide +kernel
theorem dX6_singleFor_11 : decode cX6_singleFor 11 = .ok (.istore 4, 2) := by decide +kernel
theorem dX6_singleFor_13 : decode cX6_singleFor 13 = .ok (.iconst 0, 1) := by decide +kernel
theorem dX6_singleFor_14 : decode cX6_singleFor 14 = .ok (.istore 5, 2) := by decide +kernel
theorem dX6_singleFor_16 : decode cX6_singleFor 16 = .ok (.iload 5, 2) := by decide +kernel
theorem dX6_singleFor_18 : decode cX6_singleFor 18 = .ok (.sipush 256, 3) := by decide +kernel
theorem dX6_singleFor_21 : decode cX6_singleFor 21 = .ok (.if_icmp .ge 49, 3) := by decide +kernel
theorem dX6_singleFor_24 : decode cX6_singleFor 24 = .ok (.iload 4, 2) := by decide +kernel
theorem dX6_singleFor_26 : decode cX6_singleFor 26 = .ok (.ifCond .lt 44, 3) := by decide +kernel
theorem dX6_singleFor_29 : decode cX6_singleFor 29 = .ok (.aload_n 0, 1) := by decide +kernel
theorem dX6_singleFor_30 : decode cX6_singleFor 30 = .ok (.iload 4, 2) := by decide +kernel
theorem dX6_singleFor_32 : decode cX6_singleFor 32 = .ok (.iconst 1, 1) := by decide +kernel
theorem dX6_singleFor_33 : decode cX6_singleFor 33 = .ok (.invokevirtual 61, 3) := by decide +kernel
theorem dX6_singleFor_36 : decode cX6_singleFor 36 = .ok (.ifCond .ne 19, 3) := by decide +kernel
theorem dX6_singleFor_39 : decode cX6_singleFor 39 = .ok (.aload_n 0, 1) := by decide +kernel
theorem dX6_singleFor_40 : decode cX6_singleFor 40 = .ok (.iload 4, 2) := by decide +kernel
theorem dX6_singleFor_42 : decode cX6_singleFor 42 = .ok (.iconst 0, 1) := by decide +kernel
theorem dX6_singleFor_43 : decode cX6_singleFor 43 = .ok (.iload_n 1, 1) := by decide +kernel
theorem dX6_singleFor_44 : decode cX6_singleFor 44 = .ok (.iload_n 2, 1) := by decide +kernel
theorem dX6_singleFor_45 : decode cX6_singleFor 45 = .ok (.iload_n 3, 1) := by decide +kernel
theorem dX6_singleFor_46 : decode cX6_singleFor 46 = .ok (.invokevirtual 78, 3) := by decide +kernel
theorem dX6_singleFor_49 : decode cX6_singleFor 49 = .ok (.ifCond .eq 6, 3) := by decide +kernel
theorem dX6_singleFor_52 : decode cX6_singleFor 52 = .ok (.iload 4, 2) := by decide +kernel
theorem dX6_singleFor_54 : decode cX6_singleFor 54 = .ok (.ireturn, 1) := by decide +kernel
theorem dX6_singleFor_55 : decode cX6_singleFor 55 = .ok (.aload_n 0, 1) := by decide +kernel
theorem dX6_singleFor_56 : decode cX6_singleFor 56 = .ok (.getfield 24, 3) := by decide +kernel
theorem dX6_singleFor_59 : decode cX6_singleFor 59 = .ok (.iload 4, 2) := by decide +kernel
theorem dX6_singleFor_61 : decode cX6_singleFor 61 = .ok (.iaload, 1) := by decide +kernel
theorem dX6_singleFor_62 : decode cX6_singleFor 62 = .ok (.istore 4, 2) := by decide +kernel
theorem dX6_singleFor_64 : decode cX6_singleFor 64 = .ok (.iinc 5 1, 3) := by decide +kernel
theorem dX6_singleFor_67 : decode cX6_singleFor 67 = .ok (.goto (-51), 3) := by decide +kernel
theorem dX6_singleFor_70 : decode cX6_singleFor 70 = .ok (.iconst (-1), 1) := by decide +kernel
theorem dX6_singleFor_71 : decode cX6_singleFor 71 = .ok (.ireturn, 1) := by decide +kernel
theorem dX6_fits_0 : decode cX6_fits 0 = .ok (.aload_n 0, 1) := by decide +kernel
theorem dX6_fits_1 : decode cX6_fits 1 = .ok (.iload_n 1, 1) := by decide +kernel
theorem dX6_fits_2 : decode cX6_fits 2 = .ok (.iload_n 2, 1) := by decide +kernel
theorem dX6_fits_3 : decode cX6_fits 3 = .ok (.invokevirtual 61, 3) := by decide +kernel
theorem dX6_fits_6 : decode cX6_fits 6 = .ok (.iload_n 3, 1) := by decide +kernel
theorem dX6_fits_7 : decode cX6_fits 7 = .ok (.if_icmp .ne 34, 3) := by decide +kernel
theorem dX6_fits_10 : decode cX6_fits 10 = .ok (.aload_n 0, 1) := by decide +kernel
theorem dX6_fits_11 : decode cX6_fits 11 = .ok (.iload_n 1, 1) := by decide +kernel
theorem dX6_fits_12 : decode cX6_fits 12 = .ok (.iload_n 2, 1) := by decide +kernel
theorem dX6_fits_13 : decode cX6_fits 13 = .ok (.invokevirtual 64, 3) := by decide +kernel
theorem dX6_fits_16 : decode cX6_fits 16 = .ok (.iload 4, 2) := by decide +kernel
theorem dX6_fits_18 : decode cX6_fits 18 = .ok (.if_icmp .ne 23, 3) := by decide +kernel
theorem dX6_fits_21 : decode cX6_fits 21 = .ok (.iload_n 3, 1) := by decide +kernel
theorem dX6_fits_22 : decode cX6_fits 22 = .ok (.iconst 3, 1) := by decide +kernel
theorem dX6_fits_23 : decode cX6_fits 23 = .ok (.if_icmp .ne 14, 3) := by decide +kernel
theorem dX6_fits_26 : decode cX6_fits 26 = .ok (.aload_n 0, 1) := by decide +kernel
theorem dX6_fits_27 : decode cX6_fits 27 = .ok (.iload_n 1, 1) := by decide +kernel
theorem dX6_fits_28 : decode cX6_fits 28 = .ok (.iload_n 2, 1) := by decide +kernel
theorem dX6_fits_29 : decode cX6_fits 29 = .ok (.invokevirtual 67, 3) := by decide +kernel
theorem dX6_fits_32 : decode cX6_fits 32 = .ok (.iload 5, 2) := by decide +kernel
theorem dX6_fits_34 : decode cX6_fits 34 = .ok (.if_icmp .ne 7, 3) := by decide +kernel
theorem dX6_fits_37 : decode cX6_fits 37 = .ok (.iconst 1, 1) := by decide +kernel
theorem dX6_fits_38 : decode cX6_fits 38 = .ok (.goto 4, 3) := by decide +kernel
theorem dX6_fits_41 : decode cX6_fits 41 = .ok (.iconst 0, 1) := by decide +kernel
theorem dX6_fits_42 : decode cX6_fits 42 = .ok (.ireturn, 1) := by decide +kernel
