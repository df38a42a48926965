theorem dX7_init_0 : decode cX7_init 0 = .ok (.aload_n 0, 1) := by decide +kernel
theorem dX7_init_1 : decode cX7_init 1 = .ok (.invokespecial 3, 3) := by decide +kernel
theorem dX7_init_4 : decode cX7_init 4 = .ok (.aload_n 0, 1) := by decide +kernel
theorem dX7_init_5 : decode cX7_init 5 = .ok (.new 9, 3) := by decide +kernel
theorem dX7_init_8 : decode cX7_init 8 = .ok (.dup, 1) := by decide +kernel
theorem dX7_init_9 : decode cX7_init 9 = .ok (.sipush 4000, 3) := by decide +kernel
theorem dX7_init_12 : decode cX7_init 12 = .ok (.invokespecial 11, 3) := by decide +kernel
theorem dX7_init_15 : decode cX7_init 15 = .ok (.putfield 14, 3) := by decide +kernel
theorem dX7_init_18 : decode cX7_init 18 = .ok (.aload_n 0, 1) := by decide +kernel
theorem dX7_init_19 : decode cX7_init 19 = .ok (.new 9, 3) := by decide +kernel
theorem dX7_init_22 : decode cX7_init 22 = .ok (.dup, 1) := by decide +kernel
theorem dX7_init_23 : decode cX7_init 23 = .ok (.sipush 4000, 3) := by decide +kernel
theorem dX7_init_26 : decode cX7_init 26 = .ok (.invokespecial 11, 3) := by decide +kernel
theorem dX7_init_29 : decode cX7_init 29 = .ok (.putfield 20, 3) := by decide +kernel
theorem dX7_init_32 : decode cX7_init 32 = .ok (.aload_n 0, 1) := by decide +kernel
theorem dX7_init_33 : decode cX7_init 33 = .ok (.new 9, 3) := by decide +kernel
theorem dX7_init_36 : decode cX7_init 36 = .ok (.dup, 1) := by decide +kernel
theorem dX7_init_37 : decode cX7_init 37 = .ok (.sipush 4000, 3) := by decide +kernel
theorem dX7_init_40 : decode cX7_init 40 = .ok (.invokespecial 11, 3) := by decide +kernel
theorem dX7_init_43 : decode cX7_init 43 = .ok (.putfield 23, 3) := by decide +kernel
theorem dX7_init_46 : decode cX7_init 46 = .ok (.aload_n 0, 1) := by decide +kernel
theorem dX7_init_47 : decode cX7_init 47 = .ok (.new 26, 3) := by decide +kernel
theorem dX7_init_50 : decode cX7_init 50 = .ok (.dup, 1) := by decide +kernel
theorem dX7_init_51 : decode cX7_init 51 = .ok (.invokespecial 28, 3) := by decide +kernel
theorem dX7_init_54 : decode cX7_init 54 = .ok (.putfield 29, 3) := by decide +kernel
theorem dX7_init_57 : decode cX7_init 57 = .ok (.aload_n 0, 1) := by decide +kernel
theorem dX7_init_58 : decode cX7_init 58 = .ok (.new 33, 3) := by decide +kernel
theorem dX7_init_61 : decode cX7_init 61 = .ok (.dup, 1) := by decide +kernel
theorem dX7_init_62 : decode cX7_init 62 = .ok (.invokespecial 35, 3) := by decide +kernel
theorem dX7_init_65 : decode cX7_init 65 = .ok (.putfield 36, 3) := by decide +kernel
theorem dX7_init_68 : decode cX7_init 68 = .ok (.aload_n 0, 1) := by decide +kernel
theorem dX7_init_69 : decode cX7_init 69 = .ok (.aload_n 0, 1) := by decide +kernel
theorem dX7_init_70 : decode cX7_init 70 = .ok (.getfield 14, 3) := by decide +kernel
theorem dX7_init_73 : decode cX7_init 73 = .ok (.putfield 40, 3) := by decide +kernel
theorem dX7_init_76 : decode cX7_init 76 = .ok (.aload_n 0, 1) := by decide +kernel
theorem dX7_init_77 : decode cX7_init 77 = .ok (.new 43, 3) := by decide +kernel
theorem dX7_init_80 : decode cX7_init 80 = .ok (.dup, 1) := by decide +kernel
theorem dX7_init_81 : decode cX7_init 81 = .ok (.iconst 0, 1) := by decide +kernel
theorem dX7_init_82 : decode cX7_init 82 = .ok (.invokespecial 45, 3) := by decide +kernel
theorem dX7_init_85 : decode cX7_init 85 = .ok (.putfield 46, 3) := by decide +kernel
theorem dX7_init_88 : decode cX7_init 88 = .ok (.return_, 1) := by decide +kernel
theorem dX7_begin_0 : decode cX7_begin 0 = .ok (.aload_n 0, 1) := by decide +kernel
theorem dX7_begin_1 : decode cX7_begin 1 = .ok (.aload_n 1, 1) := by decide +kernel
theorem dX7_begin_2 : decode cX7_begin 2 = .ok (.putfield 40, 3) := by decide +kernel
theorem dX7_begin_5 : decode cX7_begin 5 = .ok (.aload_n 0, 1) := by decide +kernel
theorem dX7_begin_6 : decode cX7_begin 6 = .ok (.aload_n 2, 1) := by decide +kernel
theorem dX7_begin_7 : decode cX7_begin 7 = .ok (.putfield 46, 3) := by decide +kernel
theorem dX7_begin_10 : decode cX7_begin 10 = .ok (.aload_n 0, 1) := by decide +kernel
theorem dX7_begin_11 : decode cX7_begin 11 = .ok (.iconst 0, 1) := by decide +kernel
theorem dX7_begin_12 : decode cX7_begin 12 = .ok (.putfield 50, 3) := by decide +kernel
theorem dX7_begin_15 : decode cX7_begin 15 = .ok (.aload_n 0, 1) := by decide +kernel
theorem dX7_begin_16 : decode cX7_begin 16 = .ok (.iconst 0, 1) := by decide +kernel
theorem dX7_begin_17 : decode cX7_begin 17 = .ok (.putfield 54, 3) := by decide +kernel
theorem dX7_begin_20 : decode cX7_begin 20 = .ok (.return_, 1) := by decide +kernel
theorem dX7_putWindows_0 : decode cX7_putWindows 0 = .ok (.iload 4, 2) := by decide +kernel
theorem dX7_putWindows_2 : decode cX7_putWindows 2 = .ok (.ifCond .le 13, 3) := by decide +kernel
theorem dX7_putWindows_5 : decode cX7_putWindows 5 = .ok (.aload_n 0, 1) := by decide +kernel
theorem dX7_putWindows_6 : decode cX7_putWindows 6 = .ok (.getfield 36, 3) := by decide +kernel
theorem dX7_putWindows_9 : decode cX7_putWindows 9 = .ok (.aload_n 2, 1) := by decide +kernel
theorem dX7_putWindows_10 : decode cX7_putWindows 10 = .ok (.iload 5, 2) := by decide +kernel
theorem dX7_putWindows_12 : decode cX7_putWindows 12 = .ok (.invokevirtual 58, 3) := by decide +kernel
theorem dX7_putWindows_15 : decode cX7_putWindows 15 = .ok (.iconst 0, 1) := by decide +kernel
theorem dX7_putWindows_16 : decode cX7_putWindows 16 = .ok (.istore 7, 2) := by decide +kernel
theorem dX7_putWindows_18 : decode cX7_putWindows 18 = .ok (.iload 7, 2) := by decide +kernel
theorem dX7_putWindows_20 : decode cX7_putWindows 20 = .ok (.aload_n 3, 1) := by decide +kernel
theorem dX7_putWindows_21 : decode cX7_putWindows 21 = .ok (.getfield 62, 3) := by decide +kernel
theorem dX7_putWindows_24 : decode cX7_putWindows 24 = .ok (.if_icmp .ge 132, 3) := by decide +kernel
theorem dX7_putWindows_27 : decode cX7_putWindows 27 = .ok (.aload_n 0, 1) := by decide +kernel
theorem dX7_putWindows_28 : decode cX7_putWindows 28 = .ok (.getfield 54, 3) := by decide +kernel
theorem dX7_putWindows_31 : decode cX7_putWindows 31 = .ok (.ifCond .ne 125, 3) := by decide +kernel
theorem dX7_putWindows_34 : decode cX7_putWindows 34 = .ok (.iload 7, 2) := by decide +kernel
theorem dX7_putWindows_36 : decode cX7_putWindows 36 = .ok (.iload 6, 2) := by decide +kernel
theorem dX7_putWindows_38 : decode cX7_putWindows 38 = .ok (.iadd, 1) := by decide +kernel
theorem dX7_putWindows_39 : decode cX7_putWindows 39 = .ok (.aload_n 3, 1) := by decide +kernel
theorem dX7_putWindows_40 : decode cX7_putWindows 40 = .ok (.getfield 62, 3) := by decide +kernel
theorem dX7_putWindows_43 : decode cX7_putWindows 43 = .ok (.invokestatic 65, 3) := by decide +kernel
theorem dX7_putWindows_46 : decode cX7_putWindows 46 = .ok (.istore 8, 2) := by decide +kernel
theorem dX7_putWindows_48 : decode cX7_putWindows 48 = .ok (.iload 5, 2) := by decide +kernel
theorem dX7_putWindows_50 : decode cX7_putWindows 50 = .ok (.iconst 2, 1) := by decide +kernel
theorem dX7_putWindows_51 : decode cX7_putWindows 51 = .ok (.if_icmp .ne 8, 3) := by decide +kernel
theorem dX7_putWindows_54 : decode cX7_putWindows 54 = .ok (.iload 7, 2) := by decide +kernel
theorem dX7_putWindows_56 : decode cX7_putWindows 56 = .ok (.goto 4, 3) := by decide +kernel
theorem dX7_putWindows_59 : decode cX7_putWindows 59 = .ok (.iconst 0, 1) := by decide +kernel
theorem dX7_putWindows_60 : decode cX7_putWindows 60 = .ok (.istore 9, 2) := by decide +kernel
theorem dX7_putWindows_62 : decode cX7_putWindows 62 = .ok (.aload_n 0, 1) := by decide +kernel
theorem dX7_putWindows_63 : decode cX7_putWindows 63 = .ok (.aload_n 1, 1) := by decide +kernel
theorem dX7_putWindows_64 : decode cX7_putWindows 64 = .ok (.iload 5, 2) := by decide +kernel
theorem dX7_putWindows_66 : decode cX7_putWindows 66 = .ok (.iload 5, 2) := by decide +kernel
theorem dX7_putWindows_68 : decode cX7_putWindows 68 = .ok (.iconst 1, 1) := by decide +kernel
theorem dX7_putWindows_69 : decode cX7_putWindows 69 = .ok (.if_icmp .ne 10, 3) := by decide +kernel
theorem dX7_putWindows_72 : decode cX7_putWindows 72 = .ok (.aload_n 2, 1) := by decide +kernel
theorem dX7_putWindows_73 : decode cX7_putWindows 73 = .ok (.getfield 62, 3) := by decide +kernel
theorem dX7_putWindows_76 : decode cX7_putWindows 76 = .ok (.goto 5, 3) := by decide +kernel
theorem dX7_putWindows_79 : decode cX7_putWindows 79 = .ok (.iload 9, 2) := by decide +kernel
theorem dX7_putWindows_81 : decode cX7_putWindows 81 = .ok (.invokevirtual 71, 3) := by decide +kernel
theorem dX7_putWindows_84 : decode cX7_putWindows 84 = .ok (.iload 4, 2) := by decide +kernel
theorem dX7_putWindows_86 : decode cX7_putWindows 86 = .ok (.ifCond .le 33, 3) := by decide +kernel
theorem dX7_putWindows_89 : decode cX7_putWindows 89 = .ok (.aload_n 0, 1) := by decide +kernel
theorem dX7_putWindows_90 : decode cX7_putWindows 90 = .ok (.getfield 36, 3) := by decide +kernel
theorem dX7_putWindows_93 : decode cX7_putWindows 93 = .ok (.aload_n 0, 1) := by decide +kernel
theorem dX7_putWindows_94 : decode cX7_putWindows 94 = .ok (.getfield 75, 3) := by decide +kernel
theorem dX7_putWindows_97 : decode cX7_putWindows 97 = .ok (.aload_n 3, 1) := by decide +kernel
theorem dX7_putWindows_98 : decode cX7_putWindows 98 = .ok (.iload 7, 2) := by decide +kernel
theorem dX7_putWindows_100 : decode cX7_putWindows 100 = .ok (.iload 8, 2) := by decide +kernel
theorem dX7_putWindows_102 : decode cX7_putWindows 102 = .ok (.invokevirtual 78, 3) := by decide +kernel
theorem dX7_putWindows_105 : decode cX7_putWindows 105 = .ok (.aload_n 0, 1) := by decide +kernel
theorem dX7_putWindows_106 : decode cX7_putWindows 106 = .ok (.aload_n 3, 1) := by decide +kernel
theorem dX7_putWindows_107 : decode cX7_putWindows 107 = .ok (.iload 7, 2) := by decide +kernel
theorem dX7_putWindows_109 : decode cX7_putWindows 109 = .ok (.iload 8, 2) := by decide +kernel
theorem dX7_putWindows_111 : decode cX7_putWindows 111 = .ok (.iload 4, 2) := by decide +kernel
theorem dX7_putWindows_113 : decode cX7_putWindows 113 = .ok (.invokevirtual 81, 3) := by decide +kernel
theorem dX7_putWindows_116 : decode cX7_putWindows 116 = .ok (.goto 12, 3) := by decide +kernel
theorem dX7_putWindows_119 : decode cX7_putWindows 119 = .ok (.aload_n 0, 1) := by decide +kernel
theorem dX7_putWindows_120 : decode cX7_putWindows 120 = .ok (.aload_n 3, 1) := by decide +kernel
theorem dX7_putWindows_121 : decode cX7_putWindows 121 = .ok (.iload 7, 2) := by decide +kernel
theorem dX7_putWindows_123 : decode cX7_putWindows 123 = .ok (.iload 8, 2) := by decide +kernel
theorem dX7_putWindows_125 : decode cX7_putWindows 125 = .ok (.invokevirtual 85, 3) := by decide +kernel
theorem dX7_putWindows_128 : decode cX7_putWindows 128 = .ok (.aload_n 0, 1) := by decide +kernel
theorem dX7_putWindows_129 : decode cX7_putWindows 129 = .ok (.aload_n 1, 1) := by decide +kernel
theorem dX7_putWindows_130 : decode cX7_putWindows 130 = .ok (.invokevirtual 89, 3) := by decide +kernel
theorem dX7_putWindows_133 : decode cX7_putWindows 133 = .ok (.aload_n 0, 1) := by decide +kernel
theorem dX7_putWindows_134 : decode cX7_putWindows 134 = .ok (.iload 8, 2) := by decide +kernel
theorem dX7_putWindows_136 : decode cX7_putWindows 136 = .ok (.iload 7, 2) := by decide +kernel
theorem dX7_putWindows_138 : decode cX7_putWindows 138 = .ok (.isub, 1) := by decide +kernel
theorem dX7_putWindows_139 : decode cX7_putWindows 139 = .ok (.invokevirtual 93, 3) := by decide +kernel
theorem dX7_putWindows_142 : decode cX7_putWindows 142 = .ok (.iload 7, 2) := by decide +kernel
theorem dX7_putWindows_144 : decode cX7_putWindows 144 = .ok (.iload 6, 2) := by decide +kernel
theorem dX7_putWindows_146 : decode cX7_putWindows 146 = .ok (.iconst 1, 1) := by decide +kernel
theorem dX7_putWindows_147 : decode cX7_putWindows 147 = .ok (.invokestatic 96, 3) := by decide +kernel
theorem dX7_putWindows_150 : decode cX7_putWindows 150 = .ok (.iadd, 1) := by decide +kernel
theorem dX7_putWindows_151 : decode cX7_putWindows 151 = .ok (.istore 7, 2) := by decide +kernel
theorem dX7_putWindows_153 : decode cX7_putWindows 153 = .ok (.goto (-135), 3) := by decide +kernel
theorem dX7_putWindows_156 : decode cX7_putWindows 156 = .ok (.return_, 1) := by decide +kernel
theorem dX7_putTraced_0 : decode cX7_putTraced 0 = .ok (.aload_n 3, 1) := by decide +kernel
theorem dX7_putTraced_1 : decode cX7_putTraced 1 = .ok (.getfield 62, 3) := by decide +kernel
theorem dX7_putTraced_4 : decode cX7_putTraced 4 = .ok (.ifCond .ne 4, 3) := by decide +kernel
theorem dX7_putTraced_7 : decode cX7_putTraced 7 = .ok (.return_, 1) := by decide +kernel
theorem dX7_putTraced_8 : decode cX7_putTraced 8 = .ok (.aload_n 0, 1) := by decide +kernel
theorem dX7_putTraced_9 : decode cX7_putTraced 9 = .ok (.aload_n 1, 1) := by decide +kernel
theorem dX7_putTraced_10 : decode cX7_putTraced 10 = .ok (.iconst 1, 1) := by decide +kernel
theorem dX7_putTraced_11 : decode cX7_putTraced 11 = .ok (.iload_n 2, 1) := by decide +kernel
theorem dX7_putTraced_12 : decode cX7_putTraced 12 = .ok (.invokevirtual 71, 3) := by decide +kernel
theorem dX7_putTraced_15 : decode cX7_putTraced 15 = .ok (.iconst 0, 1) := by decide +kernel
theorem dX7_putTraced_16 : decode cX7_putTraced 16 = .ok (.istore 5, 2) := by decide +kernel
theorem dX7_putTraced_18 : decode cX7_putTraced 18 = .ok (.iconst 0, 1) := by decide +kernel
theorem dX7_putTraced_19 : decode cX7_putTraced 19 = .ok (.istore 6, 2) := by decide +kernel
theorem dX7_putTraced_21 : decode cX7_putTraced 21 = .ok (.iconst 0, 1) := by decide +kernel
theorem dX7_putTraced_22 : decode cX7_putTraced 22 = .ok (.istore 7, 2) := by decide +kernel
theorem dX7_putTraced_24 : decode cX7_putTraced 24 = .ok (.iload 7, 2) := by decide +kernel
theorem dX7_putTraced_26 : decode cX7_putTraced 26 = .ok (.aload_n 3, 1) := by decide +kernel
theorem dX7_putTraced_27 : decode cX7_putTraced 27 = .ok (.getfield 62, 3) := by decide +kernel
theorem dX7_putTraced_30 : decode cX7_putTraced 30 = .ok (.if_icmp .ge 82, 3) := by decide +kernel
theorem dX7_putTraced_33 : decode cX7_putTraced 33 = .ok (.iload 6, 2) := by decide +kernel
theorem dX7_putTraced_35 : decode cX7_putTraced 35 = .ok (.aload_n 3, 1) := by decide +kernel
theorem dX7_putTraced_36 : decode cX7_putTraced 36 = .ok (.getfield 62, 3) := by decide +kernel
theorem dX7_putTraced_39 : decode cX7_putTraced 39 = .ok (.if_icmp .ge 73, 3) := by decide +kernel
theorem dX7_putTraced_42 : decode cX7_putTraced 42 = .ok (.iload 6, 2) := by decide +kernel
theorem dX7_putTraced_44 : decode cX7_putTraced 44 = .ok (.aload_n 3, 1) := by decide +kernel
theorem dX7_putTraced_45 : decode cX7_putTraced 45 = .ok (.getfield 62, 3) := by decide +kernel
theorem dX7_putTraced_48 : decode cX7_putTraced 48 = .ok (.aload 4, 2) := by decide +kernel
theorem dX7_putTraced_50 : decode cX7_putTraced 50 = .ok (.invokestatic 99, 3) := by decide +kernel
theorem dX7_putTraced_53 : decode cX7_putTraced 53 = .ok (.istore 8, 2) := by decide +kernel
theorem dX7_putTraced_55 : decode cX7_putTraced 55 = .ok (.iload 8, 2) := by decide +kernel
theorem dX7_putTraced_57 : decode cX7_putTraced 57 = .ok (.iconst 4, 1) := by decide +kernel
theorem dX7_putTraced_58 : decode cX7_putTraced 58 = .ok (.if_icmp .lt 37, 3) := by decide +kernel
theorem dX7_putTraced_61 : decode cX7_putTraced 61 = .ok (.aload_n 0, 1) := by decide +kernel
theorem dX7_putTraced_62 : decode cX7_putTraced 62 = .ok (.aload_n 3, 1) := by decide +kernel
theorem dX7_putTraced_63 : decode cX7_putTraced 63 = .ok (.iload 5, 2) := by decide +kernel
theorem dX7_putTraced_65 : decode cX7_putTraced 65 = .ok (.iload 6, 2) := by decide +kernel
theorem dX7_putTraced_67 : decode cX7_putTraced 67 = .ok (.invokevirtual 85, 3) := by decide +kernel
theorem dX7_putTraced_70 : decode cX7_putTraced 70 = .ok (.aload_n 0, 1) := by decide +kernel
theorem dX7_putTraced_71 : decode cX7_putTraced 71 = .ok (.aload 4, 2) := by decide +kernel
theorem dX7_putTraced_73 : decode cX7_putTraced 73 = .ok (.iload 6, 2) := by decide +kernel
theorem dX7_putTraced_75 : decode cX7_putTraced 75 = .ok (.iaload, 1) := by decide +kernel
theorem dX7_putTraced_76 : decode cX7_putTraced 76 = .ok (.iload 8, 2) := by decide +kernel
theorem dX7_putTraced_78 : decode cX7_putTraced 78 = .ok (.aload_n 0, 1) := by decide +kernel
theorem dX7_putTraced_79 : decode cX7_putTraced 79 = .ok (.getfield 75, 3) := by decide +kernel
theorem dX7_putTraced_82 : decode cX7_putTraced 82 = .ok (.iload 6, 2) := by decide +kernel
theorem dX7_putTraced_84 : decode cX7_putTraced 84 = .ok (.iadd, 1) := by decide +kernel
theorem dX7_putTraced_85 : decode cX7_putTraced 85 = .ok (.invokevirtual 103, 3) := by decide +kernel
theorem dX7_putTraced_88 : decode cX7_putTraced 88 = .ok (.iload 6, 2) := by decide +kernel
theorem dX7_putTraced_90 : decode cX7_putTraced 90 = .ok (.iload 8, 2) := by decide +kernel
theorem dX7_putTraced_92 : decode cX7_putTraced 92 = .ok (.iadd, 1) := by decide +kernel
theorem dX7_putTraced_93 : decode cX7_putTraced 93 = .ok (.istore 5, 2) := by decide +kernel
theorem dX7_putTraced_95 : decode cX7_putTraced 95 = .ok (.iload 6, 2) := by decide +kernel
theorem dX7_putTraced_97 : decode cX7_putTraced 97 = .ok (.iload 8, 2) := by decide +kernel
theorem dX7_putTraced_99 : decode cX7_putTraced 99 = .ok (.iconst 1, 1) := by decide +kernel
theorem dX7_putTraced_100 : decode cX7_putTraced 100 = .ok (.invokestatic 96, 3) := by decide +kernel
theorem dX7_putTraced_103 : decode cX7_putTraced 103 = .ok (.iadd, 1) := by decide +kernel
theorem dX7_putTraced_104 : decode cX7_putTraced 104 = .ok (.istore 6, 2) := by decide +kernel
theorem dX7_putTraced_106 : decode cX7_putTraced 106 = .ok (.iinc 7 1, 3) := by decide +kernel
theorem dX7_putTraced_109 : decode cX7_putTraced 109 = .ok (.goto (-85), 3) := by decide +kernel
theorem dX7_putTraced_112 : decode cX7_putTraced 112 = .ok (.aload_n 0, 1) := by decide +kernel
theorem dX7_putTraced_113 : decode cX7_putTraced 113 = .ok (.aload_n 3, 1) := by decide +kernel
theorem dX7_putTraced_114 : decode cX7_putTraced 114 = .ok (.iload 5, 2) := by decide +kernel
theorem dX7_putTraced_116 : decode cX7_putTraced 116 = .ok (.aload_n 3, 1) := by decide +kernel
theorem dX7_putTraced_117 : decode cX7_putTraced 117 = .ok (.getfield 62, 3) := by decide +kernel
theorem dX7_putTraced_120 : decode cX7_putTraced 120 = .ok (.invokevirtual 85, 3) := by decide +kernel
theorem dX7_putTraced_123 : decode cX7_putTraced 123 = .ok (.aload_n 0, 1) := by decide +kernel
theorem dX7_putTraced_124 : decode cX7_putTraced 124 = .ok (.aload_n 1, 1) := by decide +kernel
theorem dX7_putTraced_125 : decode cX7_putTraced 125 = .ok (.invokevirtual 89, 3) := by decide +kernel
theorem dX7_putTraced_128 : decode cX7_putTraced 128 = .ok (.aload_n 0, 1) := by decide +kernel
theorem dX7_putTraced_129 : decode cX7_putTraced 129 = .ok (.aload_n 3, 1) := by decide +kernel
theorem dX7_putTraced_130 : decode cX7_putTraced 130 = .ok (.getfield 62, 3) := by decide +kernel
theorem dX7_putTraced_133 : decode cX7_putTraced 133 = .ok (.invokevirtual 93, 3) := by decide +kernel
theorem dX7_putTraced_136 : decode cX7_putTraced 136 = .ok (.return_, 1) := by decide +kernel
theorem dX7_tracedAt_0 : decode cX7_tracedAt 0 = .ok (.iload_n 1, 1) := by decide +kernel
theorem dX7_tracedAt_1 : decode cX7_tracedAt 1 = .ok (.aload_n 2, 1) := by decide +kernel
theorem dX7_tracedAt_2 : decode cX7_tracedAt 2 = .ok (.arraylength, 1) := by decide +kernel
theorem dX7_tracedAt_3 : decode cX7_tracedAt 3 = .ok (.invokestatic 65, 3) := by decide +kernel
theorem dX7_tracedAt_6 : decode cX7_tracedAt 6 = .ok (.iload_n 0, 1) := by decide +kernel
theorem dX7_tracedAt_7 : decode cX7_tracedAt 7 = .ok (.isub, 1) := by decide +kernel
theorem dX7_tracedAt_8 : decode cX7_tracedAt 8 = .ok (.istore_n 3, 1) := by decide +kernel
theorem dX7_tracedAt_9 : decode cX7_tracedAt 9 = .ok (.iload_n 3, 1) := by decide +kernel
theorem dX7_tracedAt_10 : decode cX7_tracedAt 10 = .ok (.ifCond .le 9, 3) := by decide +kernel
theorem dX7_tracedAt_13 : decode cX7_tracedAt 13 = .ok (.aload_n 2, 1) := by decide +kernel
theorem dX7_tracedAt_14 : decode cX7_tracedAt 14 = .ok (.iload_n 0, 1) := by decide +kernel
theorem dX7_tracedAt_15 : decode cX7_tracedAt 15 = .ok (.iaload, 1) := by decide +kernel
theorem dX7_tracedAt_16 : decode cX7_tracedAt 16 = .ok (.ifCond .ge 5, 3) := by decide +kernel
theorem dX7_tracedAt_19 : decode cX7_tracedAt 19 = .ok (.iconst 0, 1) := by decide +kernel
theorem dX7_tracedAt_20 : decode cX7_tracedAt 20 = .ok (.ireturn, 1) := by decide +kernel
theorem dX7_tracedAt_21 : decode cX7_tracedAt 21 = .ok (.iconst 1, 1) := by decide +kernel
theorem dX7_tracedAt_22 : decode cX7_tracedAt 22 = .ok (.istore 4, 2) := by decide +kernel
theorem dX7_tracedAt_24 : decode cX7_tracedAt 24 = .ok (.iload 4, 2) := by decide +kernel
theorem dX7_tracedAt_26 : decode cX7_tracedAt 26 = .ok (.iload_n 3, 1) := by decide +kernel
theorem dX7_tracedAt_27 : decode cX7_tracedAt 27 = .ok (.if_icmp .ge 24, 3) := by decide +kernel
theorem dX7_tracedAt_30 : decode cX7_tracedAt 30 = .ok (.aload_n 2, 1) := by decide +kernel
theorem dX7_tracedAt_31 : decode cX7_tracedAt 31 = .ok (.iload_n 0, 1) := by decide +kernel
theorem dX7_tracedAt_32 : decode cX7_tracedAt 32 = .ok (.iload 4, 2) := by decide +kernel
theorem dX7_tracedAt_34 : decode cX7_tracedAt 34 = .ok (.iadd, 1) := by decide +kernel
theorem dX7_tracedAt_35 : decode cX7_tracedAt 35 = .ok (.iaload, 1) := by decide +kernel
theorem dX7_tracedAt_36 : decode cX7_tracedAt 36 = .ok (.aload_n 2, 1) := by decide +kernel
theorem dX7_tracedAt_37 : decode cX7_tracedAt 37 = .ok (.iload_n 0, 1) := by decide +kernel
theorem dX7_tracedAt_38 : decode cX7_tracedAt 38 = .ok (.iaload, 1) := by decide +kernel
theorem dX7_tracedAt_39 : decode cX7_tracedAt 39 = .ok (.iload 4, 2) := by decide +kernel
theorem dX7_tracedAt_41 : decode cX7_tracedAt 41 = .ok (.iadd, 1) := by decide +kernel
theorem dX7_tracedAt_42 : decode cX7_tracedAt 42 = .ok (.if_icmp .ne 9, 3) := by decide +kernel
theorem dX7_tracedAt_45 : decode cX7_tracedAt 45 = .ok (.iinc 4 1, 3) := by decide +kernel
theorem dX7_tracedAt_48 : decode cX7_tracedAt 48 = .ok (.goto (-24), 3) := by decide +kernel
theorem dX7_tracedAt_51 : decode cX7_tracedAt 51 = .ok (.iload 4, 2) := by decide +kernel
theorem dX7_tracedAt_53 : decode cX7_tracedAt 53 = .ok (.ireturn, 1) := by decide +kernel
theorem dX7_openWindow_0 : decode cX7_openWindow 0 = .ok (.aload_n 0, 1) := by decide +kernel
theorem dX7_openWindow_1 : decode cX7_openWindow 1 = .ok (.iload_n 3, 1) := by decide +kernel
theorem dX7_openWindow_2 : decode cX7_openWindow 2 = .ok (.ifCond .ne 7, 3) := by decide +kernel
theorem dX7_openWindow_5 : decode cX7_openWindow 5 = .ok (.iconst 0, 1) := by decide +kernel
theorem dX7_openWindow_6 : decode cX7_openWindow 6 = .ok (.goto 4, 3) := by decide +kernel
theorem dX7_openWindow_9 : decode cX7_openWindow 9 = .ok (.iload_n 2, 1) := by decide +kernel
theorem dX7_openWindow_10 : decode cX7_openWindow 10 = .ok (.putfield 107, 3) := by decide +kernel
theorem dX7_openWindow_13 : decode cX7_openWindow 13 = .ok (.aload_n 0, 1) := by decide +kernel
theorem dX7_openWindow_14 : decode cX7_openWindow 14 = .ok (.iload_n 3, 1) := by decide +kernel
theorem dX7_openWindow_15 : decode cX7_openWindow 15 = .ok (.putfield 75, 3) := by decide +kernel
theorem dX7_openWindow_18 : decode cX7_openWindow 18 = .ok (.aload_n 0, 1) := by decide +kernel
theorem dX7_openWindow_19 : decode cX7_openWindow 19 = .ok (.aload_n 0, 1) := by decide +kernel
theorem dX7_openWindow_20 : decode cX7_openWindow 20 = .ok (.getfield 46, 3) := by decide +kernel
theorem dX7_openWindow_23 : decode cX7_openWindow 23 = .ok (.getfield 110, 3) := by decide +kernel
theorem dX7_openWindow_26 : decode cX7_openWindow 26 = .ok (.putfield 111, 3) := by decide +kernel
theorem dX7_openWindow_29 : decode cX7_openWindow 29 = .ok (.aload_n 0, 1) := by decide +kernel
theorem dX7_openWindow_30 : decode cX7_openWindow 30 = .ok (.getfield 14, 3) := by decide +kernel
theorem dX7_openWindow_33 : decode cX7_openWindow 33 = .ok (.invokevirtual 114, 3) := by decide +kernel
theorem dX7_openWindow_36 : decode cX7_openWindow 36 = .ok (.aload_n 0, 1) := by decide +kernel
theorem dX7_openWindow_37 : decode cX7_openWindow 37 = .ok (.getfield 20, 3) := by decide +kernel
theorem dX7_openWindow_40 : decode cX7_openWindow 40 = .ok (.invokevirtual 114, 3) := by decide +kernel
theorem dX7_openWindow_43 : decode cX7_openWindow 43 = .ok (.aload_n 0, 1) := by decide +kernel
theorem dX7_openWindow_44 : decode cX7_openWindow 44 = .ok (.getfield 23, 3) := by decide +kernel
theorem dX7_openWindow_47 : decode cX7_openWindow 47 = .ok (.invokevirtual 114, 3) := by decide +kernel
theorem dX7_openWindow_50 : decode cX7_openWindow 50 = .ok (.aload_n 0, 1) := by decide +kernel
theorem dX7_openWindow_51 : decode cX7_openWindow 51 = .ok (.getfield 29, 3) := by decide +kernel
theorem dX7_openWindow_54 : decode cX7_openWindow 54 = .ok (.aload_n 1, 1) := by decide +kernel
theorem dX7_openWindow_55 : decode cX7_openWindow 55 = .ok (.invokevirtual 117, 3) := by decide +kernel
theorem dX7_openWindow_58 : decode cX7_openWindow 58 = .ok (.return_, 1) := by decide +kernel
theorem dX7_choose_0 : decode cX7_choose 0 = .ok (.iload_n 2, 1) := by decide +kernel
theorem dX7_choose_1 : decode cX7_choose 1 = .ok (.istore 5, 2) := by decide +kernel
theorem dX7_choose_3 : decode cX7_choose 3 = .ok (.iload_n 2, 1) := by decide +kernel
theorem dX7_choose_4 : decode cX7_choose 4 = .ok (.istore 6, 2) := by decide +kernel
theorem dX7_choose_6 : decode cX7_choose 6 = .ok (.iload_n 2, 1) := by decide +kernel
theorem dX7_choose_7 : decode cX7_choose 7 = .ok (.istore 7, 2) := by decide +kernel
theorem dX7_choose_9 : decode cX7_choose 9 = .ok (.iload 7, 2) := by decide +kernel
theorem dX7_choose_11 : decode cX7_choose 11 = .ok (.iload_n 3, 1) := by decide +kernel
theorem dX7_choose_12 : decode cX7_choose 12 = .ok (.if_icmp .ge 184, 3) := by decide +kernel
theorem dX7_choose_15 : decode cX7_choose 15 = .ok (.iload 6, 2) := by decide +kernel
theorem dX7_choose_17 : decode cX7_choose 17 = .ok (.iload_n 3, 1) := by decide +kernel
theorem dX7_choose_18 : decode cX7_choose 18 = .ok (.if_icmp .ge 178, 3) := by decide +kernel
theorem dX7_choose_21 : decode cX7_choose 21 = .ok (.aload_n 0, 1) := by decide +kernel
theorem dX7_choose_22 : decode cX7_choose 22 = .ok (.getfield 75, 3) := by decide +kernel
theorem dX7_choose_25 : decode cX7_choose 25 = .ok (.iload 6, 2) := by decide +kernel
theorem dX7_choose_27 : decode cX7_choose 27 = .ok (.iadd, 1) := by decide +kernel
theorem dX7_choose_28 : decode cX7_choose 28 = .ok (.iload_n 2, 1) := by decide +kernel
theorem dX7_choose_29 : decode cX7_choose 29 = .ok (.isub, 1) := by decide +kernel
theorem dX7_choose_30 : decode cX7_choose 30 = .ok (.istore 8, 2) := by decide +kernel
theorem dX7_choose_32 : decode cX7_choose 32 = .ok (.aload_n 0, 1) := by decide +kernel
theorem dX7_choose_33 : decode cX7_choose 33 = .ok (.getfield 36, 3) := by decide +kernel
theorem dX7_choose_36 : decode cX7_choose 36 = .ok (.iload 8, 2) := by decide +kernel
theorem dX7_choose_38 : decode cX7_choose 38 = .ok (.invokevirtual 119, 3) := by decide +kernel
theorem dX7_choose_41 : decode cX7_choose 41 = .ok (.istore 9, 2) := by decide +kernel
theorem dX7_choose_43 : decode cX7_choose 43 = .ok (.aload_n 0, 1) := by decide +kernel
theorem dX7_choose_44 : decode cX7_choose 44 = .ok (.getfield 36, 3) := by decide +kernel
theorem dX7_choose_47 : decode cX7_choose 47 = .ok (.iload 8, 2) := by decide +kernel
theorem dX7_choose_49 : decode cX7_choose 49 = .ok (.invokevirtual 123, 3) := by decide +kernel
theorem dX7_choose_52 : decode cX7_choose 52 = .ok (.istore 10, 2) := by decide +kernel
theorem dX7_choose_54 : decode cX7_choose 54 = .ok (.aload_n 0, 1) := by decide +kernel
theorem dX7_choose_55 : decode cX7_choose 55 = .ok (.getfield 36, 3) := by decide +kernel
theorem dX7_choose_58 : decode cX7_choose 58 = .ok (.getfield 126, 3) := by decide +kernel
theorem dX7_choose_61 : decode cX7_choose 61 = .ok (.istore 11, 2) := by decide +kernel
theorem dX7_choose_63 : decode cX7_choose 63 = .ok (.iload 9, 2) := by decide +kernel
theorem dX7_choose_65 : decode cX7_choose 65 = .ok (.bipush 6, 2) := by decide +kernel
theorem dX7_choose_67 : decode cX7_choose 67 = .ok (.if_icmp .lt 14, 3) := by decide +kernel
theorem dX7_choose_70 : decode cX7_choose 70 = .ok (.iload 9, 2) := by decide +kernel
theorem dX7_choose_72 : decode cX7_choose 72 = .ok (.iload 10, 2) := by decide +kernel
theorem dX7_choose_74 : decode cX7_choose 74 = .ok (.if_icmp .lt 7, 3) := by decide +kernel
theorem dX7_choose_77 : decode cX7_choose 77 = .ok (.iconst 1, 1) := by decide +kernel
theorem dX7_choose_78 : decode cX7_choose 78 = .ok (.goto 4, 3) := by decide +kernel
theorem dX7_choose_81 : decode cX7_choose 81 = .ok (.iconst 0, 1) := by decide +kernel
theorem dX7_choose_82 : decode cX7_choose 82 = .ok (.istore 12, 2) := by decide +kernel
theorem dX7_choose_84 : decode cX7_choose 84 = .ok (.iload 12, 2) := by decide +kernel
theorem dX7_choose_86 : decode cX7_choose 86 = .ok (.ifCond .eq 38, 3) := by decide +kernel
theorem dX7_choose_89 : decode cX7_choose 89 = .ok (.aload_n 0, 1) := by decide +kernel
theorem dX7_choose_90 : decode cX7_choose 90 = .ok (.aload_n 1, 1) := by decide +kernel
theorem dX7_choose_91 : decode cX7_choose 91 = .ok (.iload 5, 2) := by decide +kernel
theorem dX7_choose_93 : decode cX7_choose 93 = .ok (.iload 6, 2) := by decide +kernel
theorem dX7_choose_95 : decode cX7_choose 95 = .ok (.invokevirtual 85, 3) := by decide +kernel
theorem dX7_choose_98 : decode cX7_choose 98 = .ok (.aload_n 0, 1) := by decide +kernel
theorem dX7_choose_99 : decode cX7_choose 99 = .ok (.aload_n 1, 1) := by decide +kernel
theorem dX7_choose_100 : decode cX7_choose 100 = .ok (.iload 6, 2) := by decide +kernel
theorem dX7_choose_102 : decode cX7_choose 102 = .ok (.invokevirtual 129, 3) := by decide +kernel
theorem dX7_choose_105 : decode cX7_choose 105 = .ok (.iload 9, 2) := by decide +kernel
theorem dX7_choose_107 : decode cX7_choose 107 = .ok (.invokevirtual 132, 3) := by decide +kernel
theorem dX7_choose_110 : decode cX7_choose 110 = .ok (.iload 6, 2) := by decide +kernel
theorem dX7_choose_112 : decode cX7_choose 112 = .ok (.iload 9, 2) := by decide +kernel
theorem dX7_choose_114 : decode cX7_choose 114 = .ok (.iadd, 1) := by decide +kernel
theorem dX7_choose_115 : decode cX7_choose 115 = .ok (.istore 6, 2) := by decide +kernel
theorem dX7_choose_117 : decode cX7_choose 117 = .ok (.iload 6, 2) := by decide +kernel
theorem dX7_choose_119 : decode cX7_choose 119 = .ok (.istore 5, 2) := by decide +kernel
theorem dX7_choose_121 : decode cX7_choose 121 = .ok (.goto 69, 3) := by decide +kernel
theorem dX7_choose_124 : decode cX7_choose 124 = .ok (.iload 10, 2) := by decide +kernel
theorem dX7_choose_126 : decode cX7_choose 126 = .ok (.iconst 4, 1) := by decide +kernel
theorem dX7_choose_127 : decode cX7_choose 127 = .ok (.if_icmp .lt 27, 3) := by decide +kernel
theorem dX7_choose_130 : decode cX7_choose 130 = .ok (.iload 4, 2) := by decide +kernel
theorem dX7_choose_132 : decode cX7_choose 132 = .ok (.iconst 2, 1) := by decide +kernel
theorem dX7_choose_133 : decode cX7_choose 133 = .ok (.if_icmp .ne 27, 3) := by decide +kernel
theorem dX7_choose_136 : decode cX7_choose 136 = .ok (.aload_n 0, 1) := by decide +kernel
theorem dX7_choose_137 : decode cX7_choose 137 = .ok (.getfield 36, 3) := by decide +kernel
theorem dX7_choose_140 : decode cX7_choose 140 = .ok (.iload 8, 2) := by decide +kernel
theorem dX7_choose_142 : decode cX7_choose 142 = .ok (.iconst 1, 1) := by decide +kernel
theorem dX7_choose_143 : decode cX7_choose 143 = .ok (.iadd, 1) := by decide +kernel
theorem dX7_choose_144 : decode cX7_choose 144 = .ok (.invokevirtual 123, 3) := by decide +kernel
theorem dX7_choose_147 : decode cX7_choose 147 = .ok (.iload 10, 2) := by decide +kernel
theorem dX7_choose_149 : decode cX7_choose 149 = .ok (.iconst 2, 1) := by decide +kernel
theorem dX7_choose_150 : decode cX7_choose 150 = .ok (.iadd, 1) := by decide +kernel
theorem dX7_choose_151 : decode cX7_choose 151 = .ok (.if_icmp .lt 9, 3) := by decide +kernel
theorem dX7_choose_154 : decode cX7_choose 154 = .ok (.iinc 6 1, 3) := by decide +kernel
theorem dX7_choose_157 : decode cX7_choose 157 = .ok (.goto 33, 3) := by decide +kernel
theorem dX7_choose_160 : decode cX7_choose 160 = .ok (.aload_n 0, 1) := by decide +kernel
theorem dX7_choose_161 : decode cX7_choose 161 = .ok (.aload_n 1, 1) := by decide +kernel
theorem dX7_choose_162 : decode cX7_choose 162 = .ok (.iload 5, 2) := by decide +kernel
theorem dX7_choose_164 : decode cX7_choose 164 = .ok (.iload 6, 2) := by decide +kernel
theorem dX7_choose_166 : decode cX7_choose 166 = .ok (.invokevirtual 85, 3) := by decide +kernel
theorem dX7_choose_169 : decode cX7_choose 169 = .ok (.aload_n 0, 1) := by decide +kernel
theorem dX7_choose_170 : decode cX7_choose 170 = .ok (.iload 11, 2) := by decide +kernel
theorem dX7_choose_172 : decode cX7_choose 172 = .ok (.iload 10, 2) := by decide +kernel
theorem dX7_choose_174 : decode cX7_choose 174 = .ok (.iload 8, 2) := by decide +kernel
theorem dX7_choose_176 : decode cX7_choose 176 = .ok (.invokevirtual 103, 3) := by decide +kernel
theorem dX7_choose_179 : decode cX7_choose 179 = .ok (.iload 6, 2) := by decide +kernel
theorem dX7_choose_181 : decode cX7_choose 181 = .ok (.iload 10, 2) := by decide +kernel
theorem dX7_choose_183 : decode cX7_choose 183 = .ok (.iadd, 1) := by decide +kernel
theorem dX7_choose_184 : decode cX7_choose 184 = .ok (.istore 6, 2) := by decide +kernel
theorem dX7_choose_186 : decode cX7_choose 186 = .ok (.iload 6, 2) := by decide +kernel
theorem dX7_choose_188 : decode cX7_choose 188 = .ok (.istore 5, 2) := by decide +kernel
theorem dX7_choose_190 : decode cX7_choose 190 = .ok (.iinc 7 1, 3) := by decide +kernel
theorem dX7_choose_193 : decode cX7_choose 193 = .ok (.goto (-184), 3) := by decide +kernel
theorem dX7_choose_196 : decode cX7_choose 196 = .ok (.aload_n 0, 1) := by decide +kernel
theorem dX7_choose_197 : decode cX7_choose 197 = .ok (.aload_n 1, 1) := by decide +kernel
theorem dX7_choose_198 : decode cX7_choose 198 = .ok (.iload 5, 2) := by decide +kernel
theorem dX7_choose_200 : decode cX7_choose 200 = .ok (.iload_n 3, 1) := by decide +kernel
theorem dX7_choose_201 : decode cX7_choose 201 = .ok (.invokevirtual 85, 3) := by decide +kernel
theorem dX7_choose_204 : decode cX7_choose 204 = .ok (.return_, 1) := by decide +kernel
theorem dX7_putAdd_0 : decode cX7_putAdd 0 = .ok (.iload_n 2, 1) := by decide +kernel
theorem dX7_putAdd_1 : decode cX7_putAdd 1 = .ok (.iload_n 3, 1) := by decide +kernel
theorem dX7_putAdd_2 : decode cX7_putAdd 2 = .ok (.if_icmp .lt 4, 3) := by decide +kernel
theorem dX7_putAdd_5 : decode cX7_putAdd 5 = .ok (.return_, 1) := by decide +kernel
theorem dX7_putAdd_6 : decode cX7_putAdd 6 = .ok (.iload_n 2, 1) := by decide +kernel
theorem dX7_putAdd_7 : decode cX7_putAdd 7 = .ok (.istore 4, 2) := by decide +kernel
theorem dX7_putAdd_9 : decode cX7_putAdd 9 = .ok (.iload 4, 2) := by decide +kernel
theorem dX7_putAdd_11 : decode cX7_putAdd 11 = .ok (.iload_n 3, 1) := by decide +kernel
theorem dX7_putAdd_12 : decode cX7_putAdd 12 = .ok (.if_icmp .ge 22, 3) := by decide +kernel
theorem dX7_putAdd_15 : decode cX7_putAdd 15 = .ok (.aload_n 0, 1) := by decide +kernel
theorem dX7_putAdd_16 : decode cX7_putAdd 16 = .ok (.getfield 14, 3) := by decide +kernel
theorem dX7_putAdd_19 : decode cX7_putAdd 19 = .ok (.aload_n 1, 1) := by decide +kernel
theorem dX7_putAdd_20 : decode cX7_putAdd 20 = .ok (.iload 4, 2) := by decide +kernel
theorem dX7_putAdd_22 : decode cX7_putAdd 22 = .ok (.invokevirtual 129, 3) := by decide +kernel
theorem dX7_putAdd_25 : decode cX7_putAdd 25 = .ok (.invokevirtual 136, 3) := by decide +kernel
theorem dX7_putAdd_28 : decode cX7_putAdd 28 = .ok (.iinc 4 1, 3) := by decide +kernel
theorem dX7_putAdd_31 : decode cX7_putAdd 31 = .ok (.goto (-22), 3) := by decide +kernel
theorem dX7_putAdd_34 : decode cX7_putAdd 34 = .ok (.aload_n 0, 1) := by decide +kernel
theorem dX7_putAdd_35 : decode cX7_putAdd 35 = .ok (.getfield 46, 3) := by decide +kernel
theorem dX7_putAdd_38 : decode cX7_putAdd 38 = .ok (.iconst 1, 1) := by decide +kernel
theorem dX7_putAdd_39 : decode cX7_putAdd 39 = .ok (.iload_n 3, 1) := by decide +kernel
theorem dX7_putAdd_40 : decode cX7_putAdd 40 = .ok (.iload_n 2, 1) := by decide +kernel
theorem dX7_putAdd_41 : decode cX7_putAdd 41 = .ok (.isub, 1) := by decide +kernel
theorem dX7_putAdd_42 : decode cX7_putAdd 42 = .ok (.iconst 0, 1) := by decide +kernel
theorem dX7_putAdd_43 : decode cX7_putAdd 43 = .ok (.iconst 0, 1) := by decide +kernel
theorem dX7_putAdd_44 : decode cX7_putAdd 44 = .ok (.iconst 0, 1) := by decide +kernel
theorem dX7_putAdd_45 : decode cX7_putAdd 45 = .ok (.aload_n 0, 1) := by decide +kernel
theorem dX7_putAdd_46 : decode cX7_putAdd 46 = .ok (.getfield 50, 3) := by decide +kernel
theorem dX7_putAdd_49 : decode cX7_putAdd 49 = .ok (.invokevirtual 139, 3) := by decide +kernel
theorem dX7_putAdd_52 : decode cX7_putAdd 52 = .ok (.return_, 1) := by decide +kernel
theorem dX7_putRun_0 : decode cX7_putRun 0 = .ok (.aload_n 0, 1) := by decide +kernel
theorem dX7_putRun_1 : decode cX7_putRun 1 = .ok (.getfield 14, 3) := by decide +kernel
theorem dX7_putRun_4 : decode cX7_putRun 4 = .ok (.iload_n 1, 1) := by decide +kernel
theorem dX7_putRun_5 : decode cX7_putRun 5 = .ok (.invokevirtual 136, 3) := by decide +kernel
theorem dX7_putRun_8 : decode cX7_putRun 8 = .ok (.aload_n 0, 1) := by decide +kernel
theorem dX7_putRun_9 : decode cX7_putRun 9 = .ok (.getfield 46, 3) := by decide +kernel
theorem dX7_putRun_12 : decode cX7_putRun 12 = .ok (.iconst 2, 1) := by decide +kernel
theorem dX7_putRun_13 : decode cX7_putRun 13 = .ok (.iload_n 2, 1) := by decide +kernel
theorem dX7_putRun_14 : decode cX7_putRun 14 = .ok (.iconst 0, 1) := by decide +kernel
theorem dX7_putRun_15 : decode cX7_putRun 15 = .ok (.iconst 0, 1) := by decide +kernel
theorem dX7_putRun_16 : decode cX7_putRun 16 = .ok (.iconst 0, 1) := by decide +kernel
theorem dX7_putRun_17 : decode cX7_putRun 17 = .ok (.aload_n 0, 1) := by decide +kernel
theorem dX7_putRun_18 : decode cX7_putRun 18 = .ok (.getfield 50, 3) := by decide +kernel
theorem dX7_putRun_21 : decode cX7_putRun 21 = .ok (.invokevirtual 139, 3) := by decide +kernel
theorem dX7_putRun_24 : decode cX7_putRun 24 = .ok (.return_, 1) := by decide +kernel
theorem dX7_putCopy_0 : decode cX7_putCopy 0 = .ok (.aload_n 0, 1) := by decide +kernel
theorem dX7_putCopy_1 : decode cX7_putCopy 1 = .ok (.getfield 29, 3) := by decide +kernel
theorem dX7_putCopy_4 : decode cX7_putCopy 4 = .ok (.iload_n 1, 1) := by decide +kernel
theorem dX7_putCopy_5 : decode cX7_putCopy 5 = .ok (.iload_n 3, 1) := by decide +kernel
theorem dX7_putCopy_6 : decode cX7_putCopy 6 = .ok (.invokevirtual 142, 3) := by decide +kernel
theorem dX7_putCopy_9 : decode cX7_putCopy 9 = .ok (.istore 4, 2) := by decide +kernel
theorem dX7_putCopy_11 : decode cX7_putCopy 11 = .ok (.aload_n 0, 1) := by decide +kernel
theorem dX7_putCopy_12 : decode cX7_putCopy 12 = .ok (.getfield 29, 3) := by decide +kernel
theorem dX7_putCopy_15 : decode cX7_putCopy 15 = .ok (.aload_n 0, 1) := by decide +kernel
theorem dX7_putCopy_16 : decode cX7_putCopy 16 = .ok (.getfield 23, 3) := by decide +kernel
theorem dX7_putCopy_19 : decode cX7_putCopy 19 = .ok (.iload 4, 2) := by decide +kernel
theorem dX7_putCopy_21 : decode cX7_putCopy 21 = .ok (.iload_n 1, 1) := by decide +kernel
theorem dX7_putCopy_22 : decode cX7_putCopy 22 = .ok (.iload_n 3, 1) := by decide +kernel
theorem dX7_putCopy_23 : decode cX7_putCopy 23 = .ok (.invokevirtual 145, 3) := by decide +kernel
theorem dX7_putCopy_26 : decode cX7_putCopy 26 = .ok (.aload_n 0, 1) := by decide +kernel
theorem dX7_putCopy_27 : decode cX7_putCopy 27 = .ok (.getfield 29, 3) := by decide +kernel
theorem dX7_putCopy_30 : decode cX7_putCopy 30 = .ok (.iload_n 1, 1) := by decide +kernel
theorem dX7_putCopy_31 : decode cX7_putCopy 31 = .ok (.invokevirtual 148, 3) := by decide +kernel
theorem dX7_putCopy_34 : decode cX7_putCopy 34 = .ok (.aload_n 0, 1) := by decide +kernel
theorem dX7_putCopy_35 : decode cX7_putCopy 35 = .ok (.getfield 46, 3) := by decide +kernel
theorem dX7_putCopy_38 : decode cX7_putCopy 38 = .ok (.iconst 3, 1) := by decide +kernel
theorem dX7_putCopy_39 : decode cX7_putCopy 39 = .ok (.iload_n 2, 1) := by decide +kernel
theorem dX7_putCopy_40 : decode cX7_putCopy 40 = .ok (.iload_n 1, 1) := by decide +kernel
theorem dX7_putCopy_41 : decode cX7_putCopy 41 = .ok (.iload 4, 2) := by decide +kernel
theorem dX7_putCopy_43 : decode cX7_putCopy 43 = .ok (.iconst 0, 1) := by decide +kernel
theorem dX7_putCopy_44 : decode cX7_putCopy 44 = .ok (.aload_n 0, 1) := by decide +kernel
theorem dX7_putCopy_45 : decode cX7_putCopy 45 = .ok (.getfield 50, 3) := by decide +kernel
theorem dX7_putCopy_48 : decode cX7_putCopy 48 = .ok (.invokevirtual 139, 3) := by decide +kernel
theorem dX7_putCopy_51 : decode cX7_putCopy 51 = .ok (.return_, 1) := by decide +kernel
theorem dX7_chooseCodes_0 : decode cX7_chooseCodes 0 = .ok (.aload_n 0, 1) := by decide +kernel
theorem dX7_chooseCodes_1 : decode cX7_chooseCodes 1 = .ok (.getfield 111, 3) := by decide +kernel
theorem dX7_chooseCodes_4 : decode cX7_chooseCodes 4 = .ok (.istore_n 2, 1) := by decide +kernel
theorem dX7_chooseCodes_5 : decode cX7_chooseCodes 5 = .ok (.iload_n 2, 1) := by decide +kernel
theorem dX7_chooseCodes_6 : decode cX7_chooseCodes 6 = .ok (.aload_n 0, 1) := by decide +kernel
theorem dX7_chooseCodes_7 : decode cX7_chooseCodes 7 = .ok (.getfield 46, 3) := by decide +kernel
theorem dX7_chooseCodes_10 : decode cX7_chooseCodes 10 = .ok (.getfield 110, 3) := by decide +kernel
theorem dX7_chooseCodes_13 : decode cX7_chooseCodes 13 = .ok (.if_icmp .ge 80, 3) := by decide +kernel
theorem dX7_chooseCodes_16 : decode cX7_chooseCodes 16 = .ok (.iload_n 2, 1) := by decide +kernel
theorem dX7_chooseCodes_17 : decode cX7_chooseCodes 17 = .ok (.iconst 1, 1) := by decide +kernel
theorem dX7_chooseCodes_18 : decode cX7_chooseCodes 18 = .ok (.iadd, 1) := by decide +kernel
theorem dX7_chooseCodes_19 : decode cX7_chooseCodes 19 = .ok (.aload_n 0, 1) := by decide +kernel
theorem dX7_chooseCodes_20 : decode cX7_chooseCodes 20 = .ok (.getfield 46, 3) := by decide +kernel
theorem dX7_chooseCodes_23 : decode cX7_chooseCodes 23 = .ok (.getfield 110, 3) := by decide +kernel
theorem dX7_chooseCodes_26 : decode cX7_chooseCodes 26 = .ok (.if_icmp .ge 15, 3) := by decide +kernel
theorem dX7_chooseCodes_29 : decode cX7_chooseCodes 29 = .ok (.aload_n 1, 1) := by decide +kernel
theorem dX7_chooseCodes_30 : decode cX7_chooseCodes 30 = .ok (.aload_n 0, 1) := by decide +kernel
theorem dX7_chooseCodes_31 : decode cX7_chooseCodes 31 = .ok (.getfield 46, 3) := by decide +kernel
theorem dX7_chooseCodes_34 : decode cX7_chooseCodes 34 = .ok (.iload_n 2, 1) := by decide +kernel
theorem dX7_chooseCodes_35 : decode cX7_chooseCodes 35 = .ok (.invokevirtual 151, 3) := by decide +kernel
theorem dX7_chooseCodes_38 : decode cX7_chooseCodes 38 = .ok (.goto 4, 3) := by decide +kernel
theorem dX7_chooseCodes_41 : decode cX7_chooseCodes 41 = .ok (.iconst (-1), 1) := by decide +kernel
theorem dX7_chooseCodes_42 : decode cX7_chooseCodes 42 = .ok (.istore_n 3, 1) := by decide +kernel
theorem dX7_chooseCodes_43 : decode cX7_chooseCodes 43 = .ok (.iload_n 3, 1) := by decide +kernel
theorem dX7_chooseCodes_44 : decode cX7_chooseCodes 44 = .ok (.ifCond .lt 37, 3) := by decide +kernel
theorem dX7_chooseCodes_47 : decode cX7_chooseCodes 47 = .ok (.aload_n 0, 1) := by decide +kernel
theorem dX7_chooseCodes_48 : decode cX7_chooseCodes 48 = .ok (.getfield 20, 3) := by decide +kernel
theorem dX7_chooseCodes_51 : decode cX7_chooseCodes 51 = .ok (.iload_n 3, 1) := by decide +kernel
theorem dX7_chooseCodes_52 : decode cX7_chooseCodes 52 = .ok (.invokevirtual 136, 3) := by decide +kernel
theorem dX7_chooseCodes_55 : decode cX7_chooseCodes 55 = .ok (.aload_n 0, 1) := by decide +kernel
theorem dX7_chooseCodes_56 : decode cX7_chooseCodes 56 = .ok (.getfield 46, 3) := by decide +kernel
theorem dX7_chooseCodes_59 : decode cX7_chooseCodes 59 = .ok (.iload_n 2, 1) := by decide +kernel
theorem dX7_chooseCodes_60 : decode cX7_chooseCodes 60 = .ok (.iload_n 3, 1) := by decide +kernel
theorem dX7_chooseCodes_61 : decode cX7_chooseCodes 61 = .ok (.invokevirtual 157, 3) := by decide +kernel
theorem dX7_chooseCodes_64 : decode cX7_chooseCodes 64 = .ok (.aload_n 0, 1) := by decide +kernel
theorem dX7_chooseCodes_65 : decode cX7_chooseCodes 65 = .ok (.getfield 46, 3) := by decide +kernel
theorem dX7_chooseCodes_68 : decode cX7_chooseCodes 68 = .ok (.iload_n 2, 1) := by decide +kernel
theorem dX7_chooseCodes_69 : decode cX7_chooseCodes 69 = .ok (.iconst 1, 1) := by decide +kernel
theorem dX7_chooseCodes_70 : decode cX7_chooseCodes 70 = .ok (.iadd, 1) := by decide +kernel
theorem dX7_chooseCodes_71 : decode cX7_chooseCodes 71 = .ok (.iload_n 3, 1) := by decide +kernel
theorem dX7_chooseCodes_72 : decode cX7_chooseCodes 72 = .ok (.invokevirtual 157, 3) := by decide +kernel
theorem dX7_chooseCodes_75 : decode cX7_chooseCodes 75 = .ok (.iinc 2 1, 3) := by decide +kernel
theorem dX7_chooseCodes_78 : decode cX7_chooseCodes 78 = .ok (.goto 9, 3) := by decide +kernel
theorem dX7_chooseCodes_81 : decode cX7_chooseCodes 81 = .ok (.aload_n 0, 1) := by decide +kernel
theorem dX7_chooseCodes_82 : decode cX7_chooseCodes 82 = .ok (.aload_n 1, 1) := by decide +kernel
theorem dX7_chooseCodes_83 : decode cX7_chooseCodes 83 = .ok (.iload_n 2, 1) := by decide +kernel
theorem dX7_chooseCodes_84 : decode cX7_chooseCodes 84 = .ok (.invokevirtual 160, 3) := by decide +kernel
theorem dX7_chooseCodes_87 : decode cX7_chooseCodes 87 = .ok (.iinc 2 1, 3) := by decide +kernel
theorem dX7_chooseCodes_90 : decode cX7_chooseCodes 90 = .ok (.goto (-85), 3) := by decide +kernel
theorem dX7_chooseCodes_93 : decode cX7_chooseCodes 93 = .ok (.return_, 1) := by decide +kernel
theorem dX7_chooseSingle_0 : decode cX7_chooseSingle 0 = .ok (.aload_n 0, 1) := by decide +kernel
theorem dX7_chooseSingle_1 : decode cX7_chooseSingle 1 = .ok (.getfield 46, 3) := by decide +kernel
theorem dX7_chooseSingle_4 : decode cX7_chooseSingle 4 = .ok (.iload_n 2, 1) := by decide +kernel
theorem dX7_chooseSingle_5 : decode cX7_chooseSingle 5 = .ok (.iconst 0, 1) := by decide +kernel
theorem dX7_chooseSingle_6 : decode cX7_chooseSingle 6 = .ok (.invokevirtual 164, 3) := by decide +kernel
theorem dX7_chooseSingle_9 : decode cX7_chooseSingle 9 = .ok (.istore_n 3, 1) := by decide +kernel
theorem dX7_chooseSingle_10 : decode cX7_chooseSingle 10 = .ok (.aload_n 0, 1) := by decide +kernel
theorem dX7_chooseSingle_11 : decode cX7_chooseSingle 11 = .ok (.getfield 46, 3) := by decide +kernel
theorem dX7_chooseSingle_14 : decode cX7_chooseSingle 14 = .ok (.iload_n 2, 1) := by decide +kernel
theorem dX7_chooseSingle_15 : decode cX7_chooseSingle 15 = .ok (.iconst 1, 1) := by decide +kernel
theorem dX7_chooseSingle_16 : decode cX7_chooseSingle 16 = .ok (.invokevirtual 164, 3) := by decide +kernel
theorem dX7_chooseSingle_19 : decode cX7_chooseSingle 19 = .ok (.istore 4, 2) := by decide +kernel
theorem dX7_chooseSingle_21 : decode cX7_chooseSingle 21 = .ok (.aload_n 0, 1) := by decide +kernel
theorem dX7_chooseSingle_22 : decode cX7_chooseSingle 22 = .ok (.getfield 46, 3) := by decide +kernel
theorem dX7_chooseSingle_25 : decode cX7_chooseSingle 25 = .ok (.iload_n 2, 1) := by decide +kernel
theorem dX7_chooseSingle_26 : decode cX7_chooseSingle 26 = .ok (.iconst 3, 1) := by decide +kernel
theorem dX7_chooseSingle_27 : decode cX7_chooseSingle 27 = .ok (.invokevirtual 164, 3) := by decide +kernel
theorem dX7_chooseSingle_30 : decode cX7_chooseSingle 30 = .ok (.istore 5, 2) := by decide +kernel
theorem dX7_chooseSingle_32 : decode cX7_chooseSingle 32 = .ok (.aload_n 1, 1) := by decide +kernel
theorem dX7_chooseSingle_33 : decode cX7_chooseSingle 33 = .ok (.iload_n 3, 1) := by decide +kernel
theorem dX7_chooseSingle_34 : decode cX7_chooseSingle 34 = .ok (.iload 4, 2) := by decide +kernel
theorem dX7_chooseSingle_36 : decode cX7_chooseSingle 36 = .ok (.iload 5, 2) := by decide +kernel
theorem dX7_chooseSingle_38 : decode cX7_chooseSingle 38 = .ok (.invokevirtual 166, 3) := by decide +kernel
theorem dX7_chooseSingle_41 : decode cX7_chooseSingle 41 = .ok (.istore 6, 2) := by decide +kernel
theorem dX7_chooseSingle_43 : decode cX7_chooseSingle 43 = .ok (.iload 6, 2) := by decide +kernel
theorem dX7_chooseSingle_45 : decode cX7_chooseSingle 45 = .ok (.ifCond .lt 7, 3) := by decide +kernel
theorem dX7_chooseSingle_48 : decode cX7_chooseSingle 48 = .ok (.iconst 1, 1) := by decide +kernel
theorem dX7_chooseSingle_49 : decode cX7_chooseSingle 49 = .ok (.goto 4, 3) := by decide +kernel
theorem dX7_chooseSingle_52 : decode cX7_chooseSingle 52 = .ok (.iconst 0, 1) := by decide +kernel
theorem dX7_chooseSingle_53 : decode cX7_chooseSingle 53 = .ok (.istore 7, 2) := by decide +kernel
theorem dX7_chooseSingle_55 : decode cX7_chooseSingle 55 = .ok (.iload 7, 2) := by decide +kernel
theorem dX7_chooseSingle_57 : decode cX7_chooseSingle 57 = .ok (.ifCond .ne 13, 3) := by decide +kernel
theorem dX7_chooseSingle_60 : decode cX7_chooseSingle 60 = .ok (.aload_n 1, 1) := by decide +kernel
theorem dX7_chooseSingle_61 : decode cX7_chooseSingle 61 = .ok (.iload_n 3, 1) := by decide +kernel
theorem dX7_chooseSingle_62 : decode cX7_chooseSingle 62 = .ok (.iconst 0, 1) := by decide +kernel
theorem dX7_chooseSingle_63 : decode cX7_chooseSingle 63 = .ok (.iload 5, 2) := by decide +kernel
theorem dX7_chooseSingle_65 : decode cX7_chooseSingle 65 = .ok (.invokevirtual 166, 3) := by decide +kernel
theorem dX7_chooseSingle_68 : decode cX7_chooseSingle 68 = .ok (.istore 6, 2) := by decide +kernel
theorem dX7_chooseSingle_70 : decode cX7_chooseSingle 70 = .ok (.iload 6, 2) := by decide +kernel
theorem dX7_chooseSingle_72 : decode cX7_chooseSingle 72 = .ok (.ifCond .ge 9, 3) := by decide +kernel
theorem dX7_chooseSingle_75 : decode cX7_chooseSingle 75 = .ok (.aload_n 0, 1) := by decide +kernel
theorem dX7_chooseSingle_76 : decode cX7_chooseSingle 76 = .ok (.iconst 1, 1) := by decide +kernel
theorem dX7_chooseSingle_77 : decode cX7_chooseSingle 77 = .ok (.putfield 54, 3) := by decide +kernel
theorem dX7_chooseSingle_80 : decode cX7_chooseSingle 80 = .ok (.return_, 1) := by decide +kernel
theorem dX7_chooseSingle_81 : decode cX7_chooseSingle 81 = .ok (.aload_n 0, 1) := by decide +kernel
theorem dX7_chooseSingle_82 : decode cX7_chooseSingle 82 = .ok (.getfield 20, 3) := by decide +kernel
theorem dX7_chooseSingle_85 : decode cX7_chooseSingle 85 = .ok (.iload 6, 2) := by decide +kernel
theorem dX7_chooseSingle_87 : decode cX7_chooseSingle 87 = .ok (.invokevirtual 136, 3) := by decide +kernel
theorem dX7_chooseSingle_90 : decode cX7_chooseSingle 90 = .ok (.aload_n 0, 1) := by decide +kernel
theorem dX7_chooseSingle_91 : decode cX7_chooseSingle 91 = .ok (.getfield 46, 3) := by decide +kernel
theorem dX7_chooseSingle_94 : decode cX7_chooseSingle 94 = .ok (.iload_n 2, 1) := by decide +kernel
theorem dX7_chooseSingle_95 : decode cX7_chooseSingle 95 = .ok (.iload 6, 2) := by decide +kernel
theorem dX7_chooseSingle_97 : decode cX7_chooseSingle 97 = .ok (.invokevirtual 157, 3) := by decide +kernel
theorem dX7_chooseSingle_100 : decode cX7_chooseSingle 100 = .ok (.iload 7, 2) := by decide +kernel
theorem dX7_chooseSingle_102 : decode cX7_chooseSingle 102 = .ok (.ifCond .ne 12, 3) := by decide +kernel
theorem dX7_chooseSingle_105 : decode cX7_chooseSingle 105 = .ok (.aload_n 0, 1) := by decide +kernel
theorem dX7_chooseSingle_106 : decode cX7_chooseSingle 106 = .ok (.getfield 20, 3) := by decide +kernel
theorem dX7_chooseSingle_109 : decode cX7_chooseSingle 109 = .ok (.iload 4, 2) := by decide +kernel
theorem dX7_chooseSingle_111 : decode cX7_chooseSingle 111 = .ok (.invokevirtual 170, 3) := by decide +kernel
theorem dX7_chooseSingle_114 : decode cX7_chooseSingle 114 = .ok (.return_, 1) := by decide +kernel
theorem dX7_closeWindow_0 : decode cX7_closeWindow 0 = .ok (.aload_n 0, 1) := by decide +kernel
theorem dX7_closeWindow_1 : decode cX7_closeWindow 1 = .ok (.getfield 40, 3) := by decide +kernel
theorem dX7_closeWindow_4 : decode cX7_closeWindow 4 = .ok (.aload_n 0, 1) := by decide +kernel
theorem dX7_closeWindow_5 : decode cX7_closeWindow 5 = .ok (.getfield 107, 3) := by decide +kernel
theorem dX7_closeWindow_8 : decode cX7_closeWindow 8 = .ok (.invokevirtual 136, 3) := by decide +kernel
theorem dX7_closeWindow_11 : decode cX7_closeWindow 11 = .ok (.aload_n 0, 1) := by decide +kernel
theorem dX7_closeWindow_12 : decode cX7_closeWindow 12 = .ok (.getfield 107, 3) := by decide +kernel
theorem dX7_closeWindow_15 : decode cX7_closeWindow 15 = .ok (.ifCond .eq 22, 3) := by decide +kernel
theorem dX7_closeWindow_18 : decode cX7_closeWindow 18 = .ok (.aload_n 0, 1) := by decide +kernel
theorem dX7_closeWindow_19 : decode cX7_closeWindow 19 = .ok (.getfield 40, 3) := by decide +kernel
theorem dX7_closeWindow_22 : decode cX7_closeWindow 22 = .ok (.aload_n 0, 1) := by decide +kernel
theorem dX7_closeWindow_23 : decode cX7_closeWindow 23 = .ok (.getfield 75, 3) := by decide +kernel
theorem dX7_closeWindow_26 : decode cX7_closeWindow 26 = .ok (.invokevirtual 170, 3) := by decide +kernel
theorem dX7_closeWindow_29 : decode cX7_closeWindow 29 = .ok (.aload_n 0, 1) := by decide +kernel
theorem dX7_closeWindow_30 : decode cX7_closeWindow 30 = .ok (.getfield 40, 3) := by decide +kernel
theorem dX7_closeWindow_33 : decode cX7_closeWindow 33 = .ok (.iconst 0, 1) := by decide +kernel
theorem dX7_closeWindow_34 : decode cX7_closeWindow 34 = .ok (.invokevirtual 170, 3) := by decide +kernel
theorem dX7_closeWindow_37 : decode cX7_closeWindow 37 = .ok (.aload_n 0, 1) := by decide +kernel
theorem dX7_closeWindow_38 : decode cX7_closeWindow 38 = .ok (.getfield 14, 3) := by decide +kernel
theorem dX7_closeWindow_41 : decode cX7_closeWindow 41 = .ok (.getfield 62, 3) := by decide +kernel
theorem dX7_closeWindow_44 : decode cX7_closeWindow 44 = .ok (.invokestatic 173, 3) := by decide +kernel
theorem dX7_closeWindow_47 : decode cX7_closeWindow 47 = .ok (.aload_n 0, 1) := by decide +kernel
theorem dX7_closeWindow_48 : decode cX7_closeWindow 48 = .ok (.getfield 20, 3) := by decide +kernel
theorem dX7_closeWindow_51 : decode cX7_closeWindow 51 = .ok (.getfield 62, 3) := by decide +kernel
theorem dX7_closeWindow_54 : decode cX7_closeWindow 54 = .ok (.invokestatic 173, 3) := by decide +kernel
theorem dX7_closeWindow_57 : decode cX7_closeWindow 57 = .ok (.iadd, 1) := by decide +kernel
theorem dX7_closeWindow_58 : decode cX7_closeWindow 58 = .ok (.aload_n 0, 1) := by decide +kernel
theorem dX7_closeWindow_59 : decode cX7_closeWindow 59 = .ok (.getfield 23, 3) := by decide +kernel
theorem dX7_closeWindow_62 : decode cX7_closeWindow 62 = .ok (.getfield 62, 3) := by decide +kernel
theorem dX7_closeWindow_65 : decode cX7_closeWindow 65 = .ok (.invokestatic 173, 3) := by decide +kernel
theorem dX7_closeWindow_68 : decode cX7_closeWindow 68 = .ok (.iadd, 1) := by decide +kernel
theorem dX7_closeWindow_69 : decode cX7_closeWindow 69 = .ok (.istore_n 2, 1) := by decide +kernel
theorem dX7_closeWindow_70 : decode cX7_closeWindow 70 = .ok (.aload_n 0, 1) := by decide +kernel
theorem dX7_closeWindow_71 : decode cX7_closeWindow 71 = .ok (.getfield 14, 3) := by decide +kernel
theorem dX7_closeWindow_74 : decode cX7_closeWindow 74 = .ok (.getfield 62, 3) := by decide +kernel
theorem dX7_closeWindow_77 : decode cX7_closeWindow 77 = .ok (.aload_n 0, 1) := by decide +kernel
theorem dX7_closeWindow_78 : decode cX7_closeWindow 78 = .ok (.getfield 20, 3) := by decide +kernel
theorem dX7_closeWindow_81 : decode cX7_closeWindow 81 = .ok (.getfield 62, 3) := by decide +kernel
theorem dX7_closeWindow_84 : decode cX7_closeWindow 84 = .ok (.iadd, 1) := by decide +kernel
theorem dX7_closeWindow_85 : decode cX7_closeWindow 85 = .ok (.aload_n 0, 1) := by decide +kernel
theorem dX7_closeWindow_86 : decode cX7_closeWindow 86 = .ok (.getfield 23, 3) := by decide +kernel
theorem dX7_closeWindow_89 : decode cX7_closeWindow 89 = .ok (.getfield 62, 3) := by decide +kernel
theorem dX7_closeWindow_92 : decode cX7_closeWindow 92 = .ok (.iadd, 1) := by decide +kernel
theorem dX7_closeWindow_93 : decode cX7_closeWindow 93 = .ok (.istore_n 3, 1) := by decide +kernel
theorem dX7_closeWindow_94 : decode cX7_closeWindow 94 = .ok (.aload_n 0, 1) := by decide +kernel
theorem dX7_closeWindow_95 : decode cX7_closeWindow 95 = .ok (.getfield 40, 3) := by decide +kernel
theorem dX7_closeWindow_98 : decode cX7_closeWindow 98 = .ok (.iload_n 1, 1) := by decide +kernel
theorem dX7_closeWindow_99 : decode cX7_closeWindow 99 = .ok (.invokestatic 173, 3) := by decide +kernel
theorem dX7_closeWindow_102 : decode cX7_closeWindow 102 = .ok (.iconst 1, 1) := by decide +kernel
theorem dX7_closeWindow_103 : decode cX7_closeWindow 103 = .ok (.iadd, 1) := by decide +kernel
theorem dX7_closeWindow_104 : decode cX7_closeWindow 104 = .ok (.iload_n 2, 1) := by decide +kernel
theorem dX7_closeWindow_105 : decode cX7_closeWindow 105 = .ok (.iadd, 1) := by decide +kernel
theorem dX7_closeWindow_106 : decode cX7_closeWindow 106 = .ok (.iload_n 3, 1) := by decide +kernel
theorem dX7_closeWindow_107 : decode cX7_closeWindow 107 = .ok (.iadd, 1) := by decide +kernel
theorem dX7_closeWindow_108 : decode cX7_closeWindow 108 = .ok (.invokevirtual 170, 3) := by decide +kernel
theorem dX7_closeWindow_111 : decode cX7_closeWindow 111 = .ok (.aload_n 0, 1) := by decide +kernel
theorem dX7_closeWindow_112 : decode cX7_closeWindow 112 = .ok (.getfield 40, 3) := by decide +kernel
theorem dX7_closeWindow_115 : decode cX7_closeWindow 115 = .ok (.iload_n 1, 1) := by decide +kernel
theorem dX7_closeWindow_116 : decode cX7_closeWindow 116 = .ok (.invokevirtual 170, 3) := by decide +kernel
theorem dX7_closeWindow_119 : decode cX7_closeWindow 119 = .ok (.aload_n 0, 1) := by decide +kernel
theorem dX7_closeWindow_120 : decode cX7_closeWindow 120 = .ok (.getfield 40, 3) := by decide +kernel
theorem dX7_closeWindow_123 : decode cX7_closeWindow 123 = .ok (.iconst 0, 1) := by decide +kernel
theorem dX7_closeWindow_124 : decode cX7_closeWindow 124 = .ok (.invokevirtual 136, 3) := by decide +kernel
theorem dX7_closeWindow_127 : decode cX7_closeWindow 127 = .ok (.aload_n 0, 1) := by decide +kernel
theorem dX7_closeWindow_128 : decode cX7_closeWindow 128 = .ok (.getfield 40, 3) := by decide +kernel
theorem dX7_closeWindow_131 : decode cX7_closeWindow 131 = .ok (.aload_n 0, 1) := by decide +kernel
theorem dX7_closeWindow_132 : decode cX7_closeWindow 132 = .ok (.getfield 14, 3) := by decide +kernel
theorem dX7_closeWindow_135 : decode cX7_closeWindow 135 = .ok (.getfield 62, 3) := by decide +kernel
theorem dX7_closeWindow_138 : decode cX7_closeWindow 138 = .ok (.invokevirtual 170, 3) := by decide +kernel
theorem dX7_closeWindow_141 : decode cX7_closeWindow 141 = .ok (.aload_n 0, 1) := by decide +kernel
theorem dX7_closeWindow_142 : decode cX7_closeWindow 142 = .ok (.getfield 40, 3) := by decide +kernel
theorem dX7_closeWindow_145 : decode cX7_closeWindow 145 = .ok (.aload_n 0, 1) := by decide +kernel
theorem dX7_closeWindow_146 : decode cX7_closeWindow 146 = .ok (.getfield 20, 3) := by decide +kernel
theorem dX7_closeWindow_149 : decode cX7_closeWindow 149 = .ok (.getfield 62, 3) := by decide +kernel
theorem dX7_closeWindow_152 : decode cX7_closeWindow 152 = .ok (.invokevirtual 170, 3) := by decide +kernel
theorem dX7_closeWindow_155 : decode cX7_closeWindow 155 = .ok (.aload_n 0, 1) := by decide +kernel
theorem dX7_closeWindow_156 : decode cX7_closeWindow 156 = .ok (.getfield 40, 3) := by decide +kernel
theorem dX7_closeWindow_159 : decode cX7_closeWindow 159 = .ok (.aload_n 0, 1) := by decide +kernel
theorem dX7_closeWindow_160 : decode cX7_closeWindow 160 = .ok (.getfield 23, 3) := by decide +kernel
theorem dX7_closeWindow_163 : decode cX7_closeWindow 163 = .ok (.getfield 62, 3) := by decide +kernel
theorem dX7_closeWindow_166 : decode cX7_closeWindow 166 = .ok (.invokevirtual 170, 3) := by decide +kernel
theorem dX7_closeWindow_169 : decode cX7_closeWindow 169 = .ok (.aload_n 0, 1) := by decide +kernel
theorem dX7_closeWindow_170 : decode cX7_closeWindow 170 = .ok (.getfield 40, 3) := by decide +kernel
theorem dX7_closeWindow_173 : decode cX7_closeWindow 173 = .ok (.aload_n 0, 1) := by decide +kernel
theorem dX7_closeWindow_174 : decode cX7_closeWindow 174 = .ok (.getfield 14, 3) := by decide +kernel
theorem dX7_closeWindow_177 : decode cX7_closeWindow 177 = .ok (.invokevirtual 176, 3) := by decide +kernel
theorem dX7_closeWindow_180 : decode cX7_closeWindow 180 = .ok (.aload_n 0, 1) := by decide +kernel
theorem dX7_closeWindow_181 : decode cX7_closeWindow 181 = .ok (.getfield 40, 3) := by decide +kernel
theorem dX7_closeWindow_184 : decode cX7_closeWindow 184 = .ok (.aload_n 0, 1) := by decide +kernel
theorem dX7_closeWindow_185 : decode cX7_closeWindow 185 = .ok (.getfield 20, 3) := by decide +kernel
theorem dX7_closeWindow_188 : decode cX7_closeWindow 188 = .ok (.invokevirtual 176, 3) := by decide +kernel
theorem dX7_closeWindow_191 : decode cX7_closeWindow 191 = .ok (.aload_n 0, 1) := by decide +kernel
theorem dX7_closeWindow_192 : decode cX7_closeWindow 192 = .ok (.getfield 40, 3) := by decide +kernel
theorem dX7_closeWindow_195 : decode cX7_closeWindow 195 = .ok (.aload_n 0, 1) := by decide +kernel
theorem dX7_closeWindow_196 : decode cX7_closeWindow 196 = .ok (.getfield 23, 3) := by decide +kernel
theorem dX7_closeWindow_199 : decode cX7_closeWindow 199 = .ok (.invokevirtual 176, 3) := by decide +kernel
theorem dX7_closeWindow_202 : decode cX7_closeWindow 202 = .ok (.aload_n 0, 1) := by decide +kernel
theorem dX7_closeWindow_203 : decode cX7_closeWindow 203 = .ok (.dup, 1) := by decide +kernel
theorem dX7_closeWindow_204 : decode cX7_closeWindow 204 = .ok (.getfield 50, 3) := by decide +kernel
theorem dX7_closeWindow_207 : decode cX7_closeWindow 207 = .ok (.iconst 1, 1) := by decide +kernel
theorem dX7_closeWindow_208 : decode cX7_closeWindow 208 = .ok (.iadd, 1) := by decide +kernel
theorem dX7_closeWindow_209 : decode cX7_closeWindow 209 = .ok (.putfield 50, 3) := by decide +kernel
theorem dX7_closeWindow_212 : decode cX7_closeWindow 212 = .ok (.return_, 1) := by decide +kernel
theorem dX8_init_0 : decode cX8_init 0 = .ok (.aload_n 0, 1) := by decide +kernel
theorem dX8_init_1 : decode cX8_init 1 = .ok (.invokespecial 3, 3) := by decide +kernel
theorem dX8_init_4 : decode cX8_init 4 = .ok (.aload_n 0, 1) := by decide +kernel
theorem dX8_init_5 : decode cX8_init 5 = .ok (.iconst 4, 1) := by decide +kernel
theorem dX8_init_6 : decode cX8_init 6 = .ok (.anewarray 9, 3) := by decide +kernel
theorem dX8_init_9 : decode cX8_init 9 = .ok (.putfield 11, 3) := by decide +kernel
theorem dX8_init_12 : decode cX8_init 12 = .ok (.aload_n 0, 1) := by decide +kernel
theorem dX8_init_13 : decode cX8_init 13 = .ok (.new 9, 3) := by decide +kernel
theorem dX8_init_16 : decode cX8_init 16 = .ok (.dup, 1) := by decide +kernel
theorem dX8_init_17 : decode cX8_init 17 = .ok (.sipush 8000, 3) := by decide +kernel
theorem dX8_init_20 : decode cX8_init 20 = .ok (.invokespecial 15, 3) := by decide +kernel
theorem dX8_init_23 : decode cX8_init 23 = .ok (.putfield 18, 3) := by decide +kernel
theorem dX8_init_26 : decode cX8_init 26 = .ok (.aload_n 0, 1) := by decide +kernel
theorem dX8_init_27 : decode cX8_init 27 = .ok (.new 9, 3) := by decide +kernel
theorem dX8_init_30 : decode cX8_init 30 = .ok (.dup, 1) := by decide +kernel
theorem dX8_init_31 : decode cX8_init 31 = .ok (.sipush 4000, 3) := by decide +kernel
theorem dX8_init_34 : decode cX8_init 34 = .ok (.invokespecial 15, 3) := by decide +kernel
theorem dX8_init_37 : decode cX8_init 37 = .ok (.putfield 22, 3) := by decide +kernel
theorem dX8_init_40 : decode cX8_init 40 = .ok (.aload_n 0, 1) := by decide +kernel
theorem dX8_init_41 : decode cX8_init 41 = .ok (.new 9, 3) := by decide +kernel
theorem dX8_init_44 : decode cX8_init 44 = .ok (.dup, 1) := by decide +kernel
theorem dX8_init_45 : decode cX8_init 45 = .ok (.sipush 4000, 3) := by decide +kernel
theorem dX8_init_48 : decode cX8_init 48 = .ok (.invokespecial 15, 3) := by decide +kernel
theorem dX8_init_51 : decode cX8_init 51 = .ok (.putfield 25, 3) := by decide +kernel
theorem dX8_init_54 : decode cX8_init 54 = .ok (.aload_n 0, 1) := by decide +kernel
theorem dX8_init_55 : decode cX8_init 55 = .ok (.sipush 4000, 3) := by decide +kernel
theorem dX8_init_58 : decode cX8_init 58 = .ok (.newarray .int, 2) := by decide +kernel
theorem dX8_init_60 : decode cX8_init 60 = .ok (.putfield 28, 3) := by decide +kernel
theorem dX8_init_63 : decode cX8_init 63 = .ok (.aload_n 0, 1) := by decide +kernel
theorem dX8_init_64 : decode cX8_init 64 = .ok (.new 32, 3) := by decide +kernel
theorem dX8_init_67 : decode cX8_init 67 = .ok (.dup, 1) := by decide +kernel
theorem dX8_init_68 : decode cX8_init 68 = .ok (.invokespecial 34, 3) := by decide +kernel
theorem dX8_init_71 : decode cX8_init 71 = .ok (.putfield 35, 3) := by decide +kernel
theorem dX8_init_74 : decode cX8_init 74 = .ok (.aload_n 0, 1) := by decide +kernel
theorem dX8_init_75 : decode cX8_init 75 = .ok (.new 32, 3) := by decide +kernel
theorem dX8_init_78 : decode cX8_init 78 = .ok (.dup, 1) := by decide +kernel
theorem dX8_init_79 : decode cX8_init 79 = .ok (.invokespecial 34, 3) := by decide +kernel
theorem dX8_init_82 : decode cX8_init 82 = .ok (.putfield 39, 3) := by decide +kernel
theorem dX8_init_85 : decode cX8_init 85 = .ok (.aload_n 0, 1) := by decide +kernel
theorem dX8_init_86 : decode cX8_init 86 = .ok (.new 32, 3) := by decide +kernel
theorem dX8_init_89 : decode cX8_init 89 = .ok (.dup, 1) := by decide +kernel
theorem dX8_init_90 : decode cX8_init 90 = .ok (.invokespecial 34, 3) := by decide +kernel
theorem dX8_init_93 : decode cX8_init 93 = .ok (.putfield 42, 3) := by decide +kernel
theorem dX8_init_96 : decode cX8_init 96 = .ok (.aload_n 0, 1) := by decide +kernel
theorem dX8_init_97 : decode cX8_init 97 = .ok (.new 45, 3) := by decide +kernel
theorem dX8_init_100 : decode cX8_init 100 = .ok (.dup, 1) := by decide +kernel
theorem dX8_init_101 : decode cX8_init 101 = .ok (.sipush 4000, 3) := by decide +kernel
theorem dX8_init_104 : decode cX8_init 104 = .ok (.invokespecial 47, 3) := by decide +kernel
theorem dX8_init_107 : decode cX8_init 107 = .ok (.putfield 48, 3) := by decide +kernel
theorem dX8_init_110 : decode cX8_init 110 = .ok (.aload_n 0, 1) := by decide +kernel
theorem dX8_init_111 : decode cX8_init 111 = .ok (.new 45, 3) := by decide +kernel
theorem dX8_init_114 : decode cX8_init 114 = .ok (.dup, 1) := by decide +kernel
theorem dX8_init_115 : decode cX8_init 115 = .ok (.sipush 1536, 3) := by decide +kernel
theorem dX8_init_118 : decode cX8_init 118 = .ok (.invokespecial 47, 3) := by decide +kernel
theorem dX8_init_121 : decode cX8_init 121 = .ok (.putfield 52, 3) := by decide +kernel
theorem dX8_init_124 : decode cX8_init 124 = .ok (.aload_n 0, 1) := by decide +kernel
theorem dX8_init_125 : decode cX8_init 125 = .ok (.new 55, 3) := by decide +kernel
theorem dX8_init_128 : decode cX8_init 128 = .ok (.dup, 1) := by decide +kernel
theorem dX8_init_129 : decode cX8_init 129 = .ok (.invokespecial 57, 3) := by decide +kernel
theorem dX8_init_132 : decode cX8_init 132 = .ok (.putfield 58, 3) := by decide +kernel
theorem dX8_init_135 : decode cX8_init 135 = .ok (.aload_n 0, 1) := by decide +kernel
theorem dX8_init_136 : decode cX8_init 136 = .ok (.new 62, 3) := by decide +kernel
theorem dX8_init_139 : decode cX8_init 139 = .ok (.dup, 1) := by decide +kernel
theorem dX8_init_140 : decode cX8_init 140 = .ok (.sipush 4000, 3) := by decide +kernel
theorem dX8_init_143 : decode cX8_init 143 = .ok (.invokespecial 64, 3) := by decide +kernel
theorem dX8_init_146 : decode cX8_init 146 = .ok (.putfield 65, 3) := by decide +kernel
theorem dX8_init_149 : decode cX8_init 149 = .ok (.aload_n 0, 1) := by decide +kernel
theorem dX8_init_150 : decode cX8_init 150 = .ok (.new 62, 3) := by decide +kernel
theorem dX8_init_153 : decode cX8_init 153 = .ok (.dup, 1) := by decide +kernel
theorem dX8_init_154 : decode cX8_init 154 = .ok (.sipush 4000, 3) := by decide +kernel
theorem dX8_init_157 : decode cX8_init 157 = .ok (.invokespecial 64, 3) := by decide +kernel
theorem dX8_init_160 : decode cX8_init 160 = .ok (.putfield 69, 3) := by decide +kernel
theorem dX8_init_163 : decode cX8_init 163 = .ok (.aload_n 0, 1) := by decide +kernel
theorem dX8_init_164 : decode cX8_init 164 = .ok (.getfield 11, 3) := by decide +kernel
theorem dX8_init_167 : decode cX8_init 167 = .ok (.iconst 0, 1) := by decide +kernel
theorem dX8_init_168 : decode cX8_init 168 = .ok (.new 9, 3) := by decide +kernel
theorem dX8_init_171 : decode cX8_init 171 = .ok (.dup, 1) := by decide +kernel
theorem dX8_init_172 : decode cX8_init 172 = .ok (.sipush 4000, 3) := by decide +kernel
theorem dX8_init_175 : decode cX8_init 175 = .ok (.invokespecial 15, 3) := by decide +kernel
theorem dX8_init_178 : decode cX8_init 178 = .ok (.aastore, 1) := by decide +kernel
theorem dX8_init_179 : decode cX8_init 179 = .ok (.aload_n 0, 1) := by decide +kernel
theorem dX8_init_180 : decode cX8_init 180 = .ok (.getfield 11, 3) := by decide +kernel
theorem dX8_init_183 : decode cX8_init 183 = .ok (.iconst 1, 1) := by decide +kernel
theorem dX8_init_184 : decode cX8_init 184 = .ok (.new 9, 3) := by decide +kernel
theorem dX8_init_187 : decode cX8_init 187 = .ok (.dup, 1) := by decide +kernel
theorem dX8_init_188 : decode cX8_init 188 = .ok (.sipush 4000, 3) := by decide +kernel
theorem dX8_init_191 : decode cX8_init 191 = .ok (.invokespecial 15, 3) := by decide +kernel
theorem dX8_init_194 : decode cX8_init 194 = .ok (.aastore, 1) := by decide +kernel
theorem dX8_init_195 : decode cX8_init 195 = .ok (.aload_n 0, 1) := by decide +kernel
theorem dX8_init_196 : decode cX8_init 196 = .ok (.getfield 11, 3) := by decide +kernel
theorem dX8_init_199 : decode cX8_init 199 = .ok (.iconst 2, 1) := by decide +kernel
theorem dX8_init_200 : decode cX8_init 200 = .ok (.new 9, 3) := by decide +kernel
theorem dX8_init_203 : decode cX8_init 203 = .ok (.dup, 1) := by decide +kernel
theorem dX8_init_204 : decode cX8_init 204 = .ok (.sipush 8000, 3) := by decide +kernel
theorem dX8_init_207 : decode cX8_init 207 = .ok (.invokespecial 15, 3) := by decide +kernel
theorem dX8_init_210 : decode cX8_init 210 = .ok (.aastore, 1) := by decide +kernel
theorem dX8_init_211 : decode cX8_init 211 = .ok (.aload_n 0, 1) := by decide +kernel
theorem dX8_init_212 : decode cX8_init 212 = .ok (.getfield 11, 3) := by decide +kernel
theorem dX8_init_215 : decode cX8_init 215 = .ok (.iconst 3, 1) := by decide +kernel
theorem dX8_init_216 : decode cX8_init 216 = .ok (.new 9, 3) := by decide +kernel
theorem dX8_init_219 : decode cX8_init 219 = .ok (.dup, 1) := by decide +kernel
theorem dX8_init_220 : decode cX8_init 220 = .ok (.sipush 8000, 3) := by decide +kernel
theorem dX8_init_223 : decode cX8_init 223 = .ok (.invokespecial 15, 3) := by decide +kernel
theorem dX8_init_226 : decode cX8_init 226 = .ok (.aastore, 1) := by decide +kernel
theorem dX8_init_227 : decode cX8_init 227 = .ok (.aload_n 0, 1) := by decide +kernel
theorem dX8_init_228 : decode cX8_init 228 = .ok (.getfield 35, 3) := by decide +kernel
theorem dX8_init_231 : decode cX8_init 231 = .ok (.invokevirtual 72, 3) := by decide +kernel
theorem dX8_init_234 : decode cX8_init 234 = .ok (.aload_n 0, 1) := by decide +kernel
theorem dX8_init_235 : decode cX8_init 235 = .ok (.getfield 35, 3) := by decide +kernel
theorem dX8_init_238 : decode cX8_init 238 = .ok (.invokevirtual 75, 3) := by decide +kernel
theorem dX8_init_241 : decode cX8_init 241 = .ok (.aload_n 0, 1) := by decide +kernel
theorem dX8_init_242 : decode cX8_init 242 = .ok (.getfield 39, 3) := by decide +kernel
theorem dX8_init_245 : decode cX8_init 245 = .ok (.invokevirtual 72, 3) := by decide +kernel
theorem dX8_init_248 : decode cX8_init 248 = .ok (.return_, 1) := by decide +kernel
theorem dX8_feed_0 : decode cX8_feed 0 = .ok (.iload_n 1, 1) := by decide +kernel
theorem dX8_feed_1 : decode cX8_feed 1 = .ok (.invokestatic 78, 3) := by decide +kernel
theorem dX8_feed_4 : decode cX8_feed 4 = .ok (.ifCond .eq 15, 3) := by decide +kernel
theorem dX8_feed_7 : decode cX8_feed 7 = .ok (.iload 4, 2) := by decide +kernel
theorem dX8_feed_9 : decode cX8_feed 9 = .ok (.ifCond .lt 10, 3) := by decide +kernel
theorem dX8_feed_12 : decode cX8_feed 12 = .ok (.iload 4, 2) := by decide +kernel
theorem dX8_feed_14 : decode cX8_feed 14 = .ok (.bipush 8, 2) := by decide +kernel
theorem dX8_feed_16 : decode cX8_feed 16 = .ok (.if_icmp .le 6, 3) := by decide +kernel
theorem dX8_feed_19 : decode cX8_feed 19 = .ok (.bipush (-2), 2) := by decide +kernel
theorem dX8_feed_21 : decode cX8_feed 21 = .ok (.ireturn, 1) := by decide +kernel
theorem dX8_feed_22 : decode cX8_feed 22 = .ok (.aload_n 0, 1) := by decide +kernel
theorem dX8_feed_23 : decode cX8_feed 23 = .ok (.getfield 11, 3) := by decide +kernel
theorem dX8_feed_26 : decode cX8_feed 26 = .ok (.iload_n 1, 1) := by decide +kernel
theorem dX8_feed_27 : decode cX8_feed 27 = .ok (.aaload, 1) := by decide +kernel
theorem dX8_feed_28 : decode cX8_feed 28 = .ok (.astore 5, 2) := by decide +kernel
theorem dX8_feed_30 : decode cX8_feed 30 = .ok (.iload 4, 2) := by decide +kernel
theorem dX8_feed_32 : decode cX8_feed 32 = .ok (.ifCond .ne 10, 3) := by decide +kernel
theorem dX8_feed_35 : decode cX8_feed 35 = .ok (.aload 5, 2) := by decide +kernel
theorem dX8_feed_37 : decode cX8_feed 37 = .ok (.invokevirtual 82, 3) := by decide +kernel
theorem dX8_feed_40 : decode cX8_feed 40 = .ok (.iconst 0, 1) := by decide +kernel
theorem dX8_feed_41 : decode cX8_feed 41 = .ok (.ireturn, 1) := by decide +kernel
theorem dX8_feed_42 : decode cX8_feed 42 = .ok (.iload 4, 2) := by decide +kernel
theorem dX8_feed_44 : decode cX8_feed 44 = .ok (.aload 5, 2) := by decide +kernel
theorem dX8_feed_46 : decode cX8_feed 46 = .ok (.invokevirtual 85, 3) := by decide +kernel
theorem dX8_feed_49 : decode cX8_feed 49 = .ok (.if_icmp .le 6, 3) := by decide +kernel
theorem dX8_feed_52 : decode cX8_feed 52 = .ok (.bipush (-4), 2) := by decide +kernel
theorem dX8_feed_54 : decode cX8_feed 54 = .ok (.ireturn, 1) := by decide +kernel
theorem dX8_feed_55 : decode cX8_feed 55 = .ok (.iload 4, 2) := by decide +kernel
theorem dX8_feed_57 : decode cX8_feed 57 = .ok (.iconst 1, 1) := by decide +kernel
theorem dX8_feed_58 : decode cX8_feed 58 = .ok (.isub, 1) := by decide +kernel
theorem dX8_feed_59 : decode cX8_feed 59 = .ok (.istore 6, 2) := by decide +kernel
theorem dX8_feed_61 : decode cX8_feed 61 = .ok (.iload 6, 2) := by decide +kernel
theorem dX8_feed_63 : decode cX8_feed 63 = .ok (.ifCond .lt 26, 3) := by decide +kernel
theorem dX8_feed_66 : decode cX8_feed 66 = .ok (.aload 5, 2) := by decide +kernel
theorem dX8_feed_68 : decode cX8_feed 68 = .ok (.lload_n 2, 1) := by decide +kernel
theorem dX8_feed_69 : decode cX8_feed 69 = .ok (.bipush 8, 2) := by decide +kernel
theorem dX8_feed_71 : decode cX8_feed 71 = .ok (.iload 6, 2) := by decide +kernel
theorem dX8_feed_73 : decode cX8_feed 73 = .ok (.imul, 1) := by decide +kernel
theorem dX8_feed_74 : decode cX8_feed 74 = .ok (.lushr, 1) := by decide +kernel
theorem dX8_feed_75 : decode cX8_feed 75 = .ok (.l2i, 1) := by decide +kernel
theorem dX8_feed_76 : decode cX8_feed 76 = .ok (.sipush 255, 3) := by decide +kernel
theorem dX8_feed_79 : decode cX8_feed 79 = .ok (.iand, 1) := by decide +kernel
theorem dX8_feed_80 : decode cX8_feed 80 = .ok (.invokevirtual 89, 3) := by decide +kernel
theorem dX8_feed_83 : decode cX8_feed 83 = .ok (.iinc 6 (-1), 3) := by decide +kernel
theorem dX8_feed_86 : decode cX8_feed 86 = .ok (.goto (-25), 3) := by decide +kernel
theorem dX8_feed_89 : decode cX8_feed 89 = .ok (.aload 5, 2) := by decide +kernel
theorem dX8_feed_91 : decode cX8_feed 91 = .ok (.getfield 92, 3) := by decide +kernel
theorem dX8_feed_94 : decode cX8_feed 94 = .ok (.ireturn, 1) := by decide +kernel
theorem dX8_fill_0 : decode cX8_fill 0 = .ok (.iload_n 1, 1) := by decide +kernel
theorem dX8_fill_1 : decode cX8_fill 1 = .ok (.invokestatic 78, 3) := by decide +kernel
theorem dX8_fill_4 : decode cX8_fill 4 = .ok (.ifCond .eq 16, 3) := by decide +kernel
theorem dX8_fill_7 : decode cX8_fill 7 = .ok (.iload_n 2, 1) := by decide +kernel
theorem dX8_fill_8 : decode cX8_fill 8 = .ok (.ifCond .lt 12, 3) := by decide +kernel
theorem dX8_fill_11 : decode cX8_fill 11 = .ok (.iload_n 2, 1) := by decide +kernel
theorem dX8_fill_12 : decode cX8_fill 12 = .ok (.iconst 3, 1) := by decide +kernel
theorem dX8_fill_13 : decode cX8_fill 13 = .ok (.if_icmp .gt 7, 3) := by decide +kernel
theorem dX8_fill_16 : decode cX8_fill 16 = .ok (.iload_n 3, 1) := by decide +kernel
theorem dX8_fill_17 : decode cX8_fill 17 = .ok (.ifCond .ge 6, 3) := by decide +kernel
theorem dX8_fill_20 : decode cX8_fill 20 = .ok (.bipush (-2), 2) := by decide +kernel
theorem dX8_fill_22 : decode cX8_fill 22 = .ok (.ireturn, 1) := by decide +kernel
theorem dX8_fill_23 : decode cX8_fill 23 = .ok (.aload_n 0, 1) := by decide +kernel
theorem dX8_fill_24 : decode cX8_fill 24 = .ok (.getfield 11, 3) := by decide +kernel
theorem dX8_fill_27 : decode cX8_fill 27 = .ok (.iload_n 1, 1) := by decide +kernel
theorem dX8_fill_28 : decode cX8_fill 28 = .ok (.aaload, 1) := by decide +kernel
theorem dX8_fill_29 : decode cX8_fill 29 = .ok (.astore 5, 2) := by decide +kernel
theorem dX8_fill_31 : decode cX8_fill 31 = .ok (.iload_n 3, 1) := by decide +kernel
theorem dX8_fill_32 : decode cX8_fill 32 = .ok (.aload 5, 2) := by decide +kernel
theorem dX8_fill_34 : decode cX8_fill 34 = .ok (.invokevirtual 85, 3) := by decide +kernel
theorem dX8_fill_37 : decode cX8_fill 37 = .ok (.if_icmp .le 6, 3) := by decide +kernel
theorem dX8_fill_40 : decode cX8_fill 40 = .ok (.bipush (-4), 2) := by decide +kernel
theorem dX8_fill_42 : decode cX8_fill 42 = .ok (.ireturn, 1) := by decide +kernel
theorem dX8_fill_43 : decode cX8_fill 43 = .ok (.iload 4, 2) := by decide +kernel
theorem dX8_fill_45 : decode cX8_fill 45 = .ok (.istore 6, 2) := by decide +kernel
theorem dX8_fill_47 : decode cX8_fill 47 = .ok (.iconst 0, 1) := by decide +kernel
theorem dX8_fill_48 : decode cX8_fill 48 = .ok (.istore 7, 2) := by decide +kernel
theorem dX8_fill_50 : decode cX8_fill 50 = .ok (.iload 7, 2) := by decide +kernel
theorem dX8_fill_52 : decode cX8_fill 52 = .ok (.iload_n 3, 1) := by decide +kernel
theorem dX8_fill_53 : decode cX8_fill 53 = .ok (.if_icmp .ge 35, 3) := by decide +kernel
theorem dX8_fill_56 : decode cX8_fill 56 = .ok (.iload 6, 2) := by decide +kernel
theorem dX8_fill_58 : decode cX8_fill 58 = .ok (.ldc 96, 2) := by decide +kernel
theorem dX8_fill_60 : decode cX8_fill 60 = .ok (.imul, 1) := by decide +kernel
theorem dX8_fill_61 : decode cX8_fill 61 = .ok (.ldc 97, 2) := by decide +kernel
theorem dX8_fill_63 : decode cX8_fill 63 = .ok (.iadd, 1) := by decide +kernel
theorem dX8_fill_64 : decode cX8_fill 64 = .ok (.istore 6, 2) := by decide +kernel
theorem dX8_fill_66 : decode cX8_fill 66 = .ok (.aload 5, 2) := by decide +kernel
theorem dX8_fill_68 : decode cX8_fill 68 = .ok (.aload 5, 2) := by decide +kernel
theorem dX8_fill_70 : decode cX8_fill 70 = .ok (.iload_n 2, 1) := by decide +kernel
theorem dX8_fill_71 : decode cX8_fill 71 = .ok (.iload 6, 2) := by decide +kernel
theorem dX8_fill_73 : decode cX8_fill 73 = .ok (.bipush 24, 2) := by decide +kernel
theorem dX8_fill_75 : decode cX8_fill 75 = .ok (.iushr, 1) := by decide +kernel
theorem dX8_fill_76 : decode cX8_fill 76 = .ok (.invokestatic 98, 3) := by decide +kernel
theorem dX8_fill_79 : decode cX8_fill 79 = .ok (.invokevirtual 89, 3) := by decide +kernel
theorem dX8_fill_82 : decode cX8_fill 82 = .ok (.iinc 7 1, 3) := by decide +kernel
theorem dX8_fill_85 : decode cX8_fill 85 = .ok (.goto (-35), 3) := by decide +kernel
theorem dX8_fill_88 : decode cX8_fill 88 = .ok (.aload 5, 2) := by decide +kernel
theorem dX8_fill_90 : decode cX8_fill 90 = .ok (.getfield 92, 3) := by decide +kernel
theorem dX8_fill_93 : decode cX8_fill 93 = .ok (.ireturn, 1) := by decide +kernel
theorem dX8_ruled_0 : decode cX8_ruled 0 = .ok (.aload_n 0, 1) := by decide +kernel
theorem dX8_ruled_1 : decode cX8_ruled 1 = .ok (.getfield 92, 3) := by decide +kernel
theorem dX8_ruled_4 : decode cX8_ruled 4 = .ok (.istore_n 3, 1) := by decide +kernel
theorem dX8_ruled_5 : decode cX8_ruled 5 = .ok (.iload_n 1, 1) := by decide +kernel
theorem dX8_ruled_6 : decode cX8_ruled 6 = .ok (.iconst 1, 1) := by decide +kernel
theorem dX8_ruled_7 : decode cX8_ruled 7 = .ok (.if_icmp .ne 10, 3) := by decide +kernel
theorem dX8_ruled_10 : decode cX8_ruled 10 = .ok (.bipush 97, 2) := by decide +kernel
theorem dX8_ruled_12 : decode cX8_ruled 12 = .ok (.iload_n 2, 1) := by decide +kernel
theorem dX8_ruled_13 : decode cX8_ruled 13 = .ok (.iconst 4, 1) := by decide +kernel
theorem dX8_ruled_14 : decode cX8_ruled 14 = .ok (.irem, 1) := by decide +kernel
theorem dX8_ruled_15 : decode cX8_ruled 15 = .ok (.iadd, 1) := by decide +kernel
theorem dX8_ruled_16 : decode cX8_ruled 16 = .ok (.ireturn, 1) := by decide +kernel
theorem dX8_ruled_17 : decode cX8_ruled 17 = .ok (.iload_n 1, 1) := by decide +kernel
theorem dX8_ruled_18 : decode cX8_ruled 18 = .ok (.iconst 2, 1) := by decide +kernel
theorem dX8_ruled_19 : decode cX8_ruled 19 = .ok (.if_icmp .ne 25, 3) := by decide +kernel
theorem dX8_ruled_22 : decode cX8_ruled 22 = .ok (.iload_n 3, 1) := by decide +kernel
theorem dX8_ruled_23 : decode cX8_ruled 23 = .ok (.bipush 17, 2) := by decide +kernel
theorem dX8_ruled_25 : decode cX8_ruled 25 = .ok (.if_icmp .lt 19, 3) := by decide +kernel
theorem dX8_ruled_28 : decode cX8_ruled 28 = .ok (.iload_n 2, 1) := by decide +kernel
theorem dX8_ruled_29 : decode cX8_ruled 29 = .ok (.sipush 240, 3) := by decide +kernel
theorem dX8_ruled_32 : decode cX8_ruled 32 = .ok (.if_icmp .ge 12, 3) := by decide +kernel
theorem dX8_ruled_35 : decode cX8_ruled 35 = .ok (.aload_n 0, 1) := by decide +kernel
theorem dX8_ruled_36 : decode cX8_ruled 36 = .ok (.iload_n 3, 1) := by decide +kernel
theorem dX8_ruled_37 : decode cX8_ruled 37 = .ok (.bipush 17, 2) := by decide +kernel
theorem dX8_ruled_39 : decode cX8_ruled 39 = .ok (.isub, 1) := by decide +kernel
theorem dX8_ruled_40 : decode cX8_ruled 40 = .ok (.invokevirtual 102, 3) := by decide +kernel
theorem dX8_ruled_43 : decode cX8_ruled 43 = .ok (.ireturn, 1) := by decide +kernel
theorem dX8_ruled_44 : decode cX8_ruled 44 = .ok (.iload_n 1, 1) := by decide +kernel
theorem dX8_ruled_45 : decode cX8_ruled 45 = .ok (.iconst 3, 1) := by decide +kernel
theorem dX8_ruled_46 : decode cX8_ruled 46 = .ok (.if_icmp .ne 23, 3) := by decide +kernel
theorem dX8_ruled_49 : decode cX8_ruled 49 = .ok (.iload_n 3, 1) := by decide +kernel
theorem dX8_ruled_50 : decode cX8_ruled 50 = .ok (.iconst 1, 1) := by decide +kernel
theorem dX8_ruled_51 : decode cX8_ruled 51 = .ok (.if_icmp .lt 18, 3) := by decide +kernel
theorem dX8_ruled_54 : decode cX8_ruled 54 = .ok (.iload_n 2, 1) := by decide +kernel
theorem dX8_ruled_55 : decode cX8_ruled 55 = .ok (.sipush 230, 3) := by decide +kernel
theorem dX8_ruled_58 : decode cX8_ruled 58 = .ok (.if_icmp .ge 11, 3) := by decide +kernel
theorem dX8_ruled_61 : decode cX8_ruled 61 = .ok (.aload_n 0, 1) := by decide +kernel
theorem dX8_ruled_62 : decode cX8_ruled 62 = .ok (.iload_n 3, 1) := by decide +kernel
theorem dX8_ruled_63 : decode cX8_ruled 63 = .ok (.iconst 1, 1) := by decide +kernel
theorem dX8_ruled_64 : decode cX8_ruled 64 = .ok (.isub, 1) := by decide +kernel
theorem dX8_ruled_65 : decode cX8_ruled 65 = .ok (.invokevirtual 102, 3) := by decide +kernel
theorem dX8_ruled_68 : decode cX8_ruled 68 = .ok (.ireturn, 1) := by decide +kernel
theorem dX8_ruled_69 : decode cX8_ruled 69 = .ok (.iload_n 2, 1) := by decide +kernel
theorem dX8_ruled_70 : decode cX8_ruled 70 = .ok (.ireturn, 1) := by decide +kernel
theorem dX8_copy_0 : decode cX8_copy 0 = .ok (.iload_n 1, 1) := by decide +kernel
theorem dX8_copy_1 : decode cX8_copy 1 = .ok (.invokestatic 78, 3) := by decide +kernel
theorem dX8_copy_4 : decode cX8_copy 4 = .ok (.ifCond .eq 11, 3) := by decide +kernel
theorem dX8_copy_7 : decode cX8_copy 7 = .ok (.iload 4, 2) := by decide +kernel
theorem dX8_copy_9 : decode cX8_copy 9 = .ok (.invokestatic 78, 3) := by decide +kernel
theorem dX8_copy_12 : decode cX8_copy 12 = .ok (.ifCond .ne 6, 3) := by decide +kernel
theorem dX8_copy_15 : decode cX8_copy 15 = .ok (.bipush (-2), 2) := by decide +kernel
theorem dX8_copy_17 : decode cX8_copy 17 = .ok (.ireturn, 1) := by decide +kernel
theorem dX8_copy_18 : decode cX8_copy 18 = .ok (.iload_n 2, 1) := by decide +kernel
theorem dX8_copy_19 : decode cX8_copy 19 = .ok (.ifCond .lt 26, 3) := by decide +kernel
theorem dX8_copy_22 : decode cX8_copy 22 = .ok (.iload_n 3, 1) := by decide +kernel
theorem dX8_copy_23 : decode cX8_copy 23 = .ok (.ifCond .lt 22, 3) := by decide +kernel
theorem dX8_copy_26 : decode cX8_copy 26 = .ok (.iload_n 2, 1) := by decide +kernel
theorem dX8_copy_27 : decode cX8_copy 27 = .ok (.i2l, 1) := by decide +kernel
theorem dX8_copy_28 : decode cX8_copy 28 = .ok (.iload_n 3, 1) := by decide +kernel
theorem dX8_copy_29 : decode cX8_copy 29 = .ok (.i2l, 1) := by decide +kernel
theorem dX8_copy_30 : decode cX8_copy 30 = .ok (.ladd, 1) := by decide +kernel
theorem dX8_copy_31 : decode cX8_copy 31 = .ok (.aload_n 0, 1) := by decide +kernel
theorem dX8_copy_32 : decode cX8_copy 32 = .ok (.getfield 11, 3) := by decide +kernel
theorem dX8_copy_35 : decode cX8_copy 35 = .ok (.iload_n 1, 1) := by decide +kernel
theorem dX8_copy_36 : decode cX8_copy 36 = .ok (.aaload, 1) := by decide +kernel
theorem dX8_copy_37 : decode cX8_copy 37 = .ok (.getfield 92, 3) := by decide +kernel
theorem dX8_copy_40 : decode cX8_copy 40 = .ok (.i2l, 1) := by decide +kernel
theorem dX8_copy_41 : decode cX8_copy 41 = .ok (.lcmp, 1) := by decide +kernel
theorem dX8_copy_42 : decode cX8_copy 42 = .ok (.ifCond .le 6, 3) := by decide +kernel
theorem dX8_copy_45 : decode cX8_copy 45 = .ok (.bipush (-2), 2) := by decide +kernel
theorem dX8_copy_47 : decode cX8_copy 47 = .ok (.ireturn, 1) := by decide +kernel
theorem dX8_copy_48 : decode cX8_copy 48 = .ok (.iload_n 3, 1) := by decide +kernel
theorem dX8_copy_49 : decode cX8_copy 49 = .ok (.aload_n 0, 1) := by decide +kernel
theorem dX8_copy_50 : decode cX8_copy 50 = .ok (.getfield 11, 3) := by decide +kernel
theorem dX8_copy_53 : decode cX8_copy 53 = .ok (.iload 4, 2) := by decide +kernel
theorem dX8_copy_55 : decode cX8_copy 55 = .ok (.aaload, 1) := by decide +kernel
theorem dX8_copy_56 : decode cX8_copy 56 = .ok (.invokevirtual 85, 3) := by decide +kernel
theorem dX8_copy_59 : decode cX8_copy 59 = .ok (.if_icmp .le 6, 3) := by decide +kernel
theorem dX8_copy_62 : decode cX8_copy 62 = .ok (.bipush (-4), 2) := by decide +kernel
theorem dX8_copy_64 : decode cX8_copy 64 = .ok (.ireturn, 1) := by decide +kernel
theorem dX8_copy_65 : decode cX8_copy 65 = .ok (.iconst 0, 1) := by decide +kernel
theorem dX8_copy_66 : decode cX8_copy 66 = .ok (.istore 5, 2) := by decide +kernel
theorem dX8_copy_68 : decode cX8_copy 68 = .ok (.iload 5, 2) := by decide +kernel
theorem dX8_copy_70 : decode cX8_copy 70 = .ok (.iload_n 3, 1) := by decide +kernel
theorem dX8_copy_71 : decode cX8_copy 71 = .ok (.if_icmp .ge 32, 3) := by decide +kernel
theorem dX8_copy_74 : decode cX8_copy 74 = .ok (.aload_n 0, 1) := by decide +kernel
theorem dX8_copy_75 : decode cX8_copy 75 = .ok (.getfield 11, 3) := by decide +kernel
theorem dX8_copy_78 : decode cX8_copy 78 = .ok (.iload 4, 2) := by decide +kernel
theorem dX8_copy_80 : decode cX8_copy 80 = .ok (.aaload, 1) := by decide +kernel
theorem dX8_copy_81 : decode cX8_copy 81 = .ok (.aload_n 0, 1) := by decide +kernel
theorem dX8_copy_82 : decode cX8_copy 82 = .ok (.getfield 11, 3) := by decide +kernel
theorem dX8_copy_85 : decode cX8_copy 85 = .ok (.iload_n 1, 1) := by decide +kernel
theorem dX8_copy_86 : decode cX8_copy 86 = .ok (.aaload, 1) := by decide +kernel
theorem dX8_copy_87 : decode cX8_copy 87 = .ok (.iload_n 2, 1) := by decide +kernel
theorem dX8_copy_88 : decode cX8_copy 88 = .ok (.iload 5, 2) := by decide +kernel
theorem dX8_copy_90 : decode cX8_copy 90 = .ok (.iadd, 1) := by decide +kernel
theorem dX8_copy_91 : decode cX8_copy 91 = .ok (.invokevirtual 102, 3) := by decide +kernel
theorem dX8_copy_94 : decode cX8_copy 94 = .ok (.invokevirtual 89, 3) := by decide +kernel
theorem dX8_copy_97 : decode cX8_copy 97 = .ok (.iinc 5 1, 3) := by decide +kernel
theorem dX8_copy_100 : decode cX8_copy 100 = .ok (.goto (-32), 3) := by decide +kernel
theorem dX8_copy_103 : decode cX8_copy 103 = .ok (.aload_n 0, 1) := by decide +kernel
theorem dX8_copy_104 : decode cX8_copy 104 = .ok (.getfield 11, 3) := by decide +kernel
theorem dX8_copy_107 : decode cX8_copy 107 = .ok (.iload 4, 2) := by decide +kernel
theorem dX8_copy_109 : decode cX8_copy 109 = .ok (.aaload, 1) := by decide +kernel
theorem dX8_copy_110 : decode cX8_copy 110 = .ok (.getfield 92, 3) := by decide +kernel
theorem dX8_copy_113 : decode cX8_copy 113 = .ok (.ireturn, 1) := by decide +kernel
theorem dX8_alter_0 : decode cX8_alter 0 = .ok (.iload_n 1, 1) := by decide +kernel
theorem dX8_alter_1 : decode cX8_alter 1 = .ok (.invokestatic 78, 3) := by decide +kernel
theorem dX8_alter_4 : decode cX8_alter 4 = .ok (.ifCond .ne 5, 3) := by decide +kernel
theorem dX8_alter_7 : decode cX8_alter 7 = .ok (.iconst (-1), 1) := by decide +kernel
theorem dX8_alter_8 : decode cX8_alter 8 = .ok (.ireturn, 1) := by decide +kernel
theorem dX8_alter_9 : decode cX8_alter 9 = .ok (.aload_n 0, 1) := by decide +kernel
theorem dX8_alter_10 : decode cX8_alter 10 = .ok (.getfield 11, 3) := by decide +kernel
theorem dX8_alter_13 : decode cX8_alter 13 = .ok (.iload_n 1, 1) := by decide +kernel
theorem dX8_alter_14 : decode cX8_alter 14 = .ok (.aaload, 1) := by decide +kernel
theorem dX8_alter_15 : decode cX8_alter 15 = .ok (.iload_n 2, 1) := by decide +kernel
theorem dX8_alter_16 : decode cX8_alter 16 = .ok (.iload_n 3, 1) := by decide +kernel
theorem dX8_alter_17 : decode cX8_alter 17 = .ok (.invokevirtual 106, 3) := by decide +kernel
theorem dX8_alter_20 : decode cX8_alter 20 = .ok (.ireturn, 1) := by decide +kernel
theorem dX8_cut_0 : decode cX8_cut 0 = .ok (.iload_n 1, 1) := by decide +kernel
theorem dX8_cut_1 : decode cX8_cut 1 = .ok (.invokestatic 78, 3) := by decide +kernel
theorem dX8_cut_4 : decode cX8_cut 4 = .ok (.ifCond .eq 20, 3) := by decide +kernel
theorem dX8_cut_7 : decode cX8_cut 7 = .ok (.iload_n 2, 1) := by decide +kernel
theorem dX8_cut_8 : decode cX8_cut 8 = .ok (.ifCond .lt 16, 3) := by decide +kernel
theorem dX8_cut_11 : decode cX8_cut 11 = .ok (.iload_n 2, 1) := by decide +kernel
theorem dX8_cut_12 : decode cX8_cut 12 = .ok (.aload_n 0, 1) := by decide +kernel
theorem dX8_cut_13 : decode cX8_cut 13 = .ok (.getfield 11, 3) := by decide +kernel
theorem dX8_cut_16 : decode cX8_cut 16 = .ok (.iload_n 1, 1) := by decide +kernel
theorem dX8_cut_17 : decode cX8_cut 17 = .ok (.aaload, 1) := by decide +kernel
theorem dX8_cut_18 : decode cX8_cut 18 = .ok (.getfield 92, 3) := by decide +kernel
theorem dX8_cut_21 : decode cX8_cut 21 = .ok (.if_icmp .le 6, 3) := by decide +kernel
theorem dX8_cut_24 : decode cX8_cut 24 = .ok (.bipush (-2), 2) := by decide +kernel
theorem dX8_cut_26 : decode cX8_cut 26 = .ok (.ireturn, 1) := by decide +kernel
theorem dX8_cut_27 : decode cX8_cut 27 = .ok (.aload_n 0, 1) := by decide +kernel
theorem dX8_cut_28 : decode cX8_cut 28 = .ok (.getfield 11, 3) := by decide +kernel
theorem dX8_cut_31 : decode cX8_cut 31 = .ok (.iload_n 1, 1) := by decide +kernel
theorem dX8_cut_32 : decode cX8_cut 32 = .ok (.aaload, 1) := by decide +kernel
theorem dX8_cut_33 : decode cX8_cut 33 = .ok (.getfield 92, 3) := by decide +kernel
theorem dX8_cut_36 : decode cX8_cut 36 = .ok (.istore_n 3, 1) := by decide +kernel
theorem dX8_cut_37 : decode cX8_cut 37 = .ok (.aload_n 0, 1) := by decide +kernel
theorem dX8_cut_38 : decode cX8_cut 38 = .ok (.getfield 11, 3) := by decide +kernel
theorem dX8_cut_41 : decode cX8_cut 41 = .ok (.iload_n 1, 1) := by decide +kernel
theorem dX8_cut_42 : decode cX8_cut 42 = .ok (.aaload, 1) := by decide +kernel
theorem dX8_cut_43 : decode cX8_cut 43 = .ok (.iload_n 2, 1) := by decide +kernel
theorem dX8_cut_44 : decode cX8_cut 44 = .ok (.putfield 92, 3) := by decide +kernel
theorem dX8_cut_47 : decode cX8_cut 47 = .ok (.iload_n 3, 1) := by decide +kernel
theorem dX8_cut_48 : decode cX8_cut 48 = .ok (.ireturn, 1) := by decide +kernel
theorem dX8_length_0 : decode cX8_length 0 = .ok (.iload_n 1, 1) := by decide +kernel
theorem dX8_length_1 : decode cX8_length 1 = .ok (.invokestatic 78, 3) := by decide +kernel
theorem dX8_length_4 : decode cX8_length 4 = .ok (.ifCond .eq 15, 3) := by decide +kernel
theorem dX8_length_7 : decode cX8_length 7 = .ok (.aload_n 0, 1) := by decide +kernel
theorem dX8_length_8 : decode cX8_length 8 = .ok (.getfield 11, 3) := by decide +kernel
theorem dX8_length_11 : decode cX8_length 11 = .ok (.iload_n 1, 1) := by decide +kernel
theorem dX8_length_12 : decode cX8_length 12 = .ok (.aaload, 1) := by decide +kernel
theorem dX8_length_13 : decode cX8_length 13 = .ok (.getfield 92, 3) := by decide +kernel
theorem dX8_length_16 : decode cX8_length 16 = .ok (.goto 4, 3) := by decide +kernel
theorem dX8_length_19 : decode cX8_length 19 = .ok (.iconst (-1), 1) := by decide +kernel
theorem dX8_length_20 : decode cX8_length 20 = .ok (.ireturn, 1) := by decide +kernel
theorem dX8_octet_0 : decode cX8_octet 0 = .ok (.iload_n 1, 1) := by decide +kernel
theorem dX8_octet_1 : decode cX8_octet 1 = .ok (.invokestatic 78, 3) := by decide +kernel
theorem dX8_octet_4 : decode cX8_octet 4 = .ok (.ifCond .eq 29, 3) := by decide +kernel
theorem dX8_octet_7 : decode cX8_octet 7 = .ok (.aload_n 0, 1) := by decide +kernel
theorem dX8_octet_8 : decode cX8_octet 8 = .ok (.getfield 11, 3) := by decide +kernel
theorem dX8_octet_11 : decode cX8_octet 11 = .ok (.iload_n 1, 1) := by decide +kernel
theorem dX8_octet_12 : decode cX8_octet 12 = .ok (.aaload, 1) := by decide +kernel
theorem dX8_octet_13 : decode cX8_octet 13 = .ok (.iload_n 2, 1) := by decide +kernel
theorem dX8_octet_14 : decode cX8_octet 14 = .ok (.invokevirtual 110, 3) := by decide +kernel
theorem dX8_octet_17 : decode cX8_octet 17 = .ok (.ifCond .eq 16, 3) := by decide +kernel
theorem dX8_octet_20 : decode cX8_octet 20 = .ok (.aload_n 0, 1) := by decide +kernel
theorem dX8_octet_21 : decode cX8_octet 21 = .ok (.getfield 11, 3) := by decide +kernel
theorem dX8_octet_24 : decode cX8_octet 24 = .ok (.iload_n 1, 1) := by decide +kernel
theorem dX8_octet_25 : decode cX8_octet 25 = .ok (.aaload, 1) := by decide +kernel
theorem dX8_octet_26 : decode cX8_octet 26 = .ok (.iload_n 2, 1) := by decide +kernel
theorem dX8_octet_27 : decode cX8_octet 27 = .ok (.invokevirtual 102, 3) := by decide +kernel
theorem dX8_octet_30 : decode cX8_octet 30 = .ok (.goto 4, 3) := by decide +kernel
theorem dX8_octet_33 : decode cX8_octet 33 = .ok (.iconst (-1), 1) := by decide +kernel
theorem dX8_octet_34 : decode cX8_octet 34 = .ok (.ireturn, 1) := by decide +kernel
theorem dX8_tableOctet_0 : decode cX8_tableOctet 0 = .ok (.aload_n 0, 1) := by decide +kernel
theorem dX8_tableOctet_1 : decode cX8_tableOctet 1 = .ok (.getfield 39, 3) := by decide +kernel
theorem dX8_tableOctet_4 : decode cX8_tableOctet 4 = .ok (.getfield 113, 3) := by decide +kernel
theorem dX8_tableOctet_7 : decode cX8_tableOctet 7 = .ok (.iload_n 1, 1) := by decide +kernel
theorem dX8_tableOctet_8 : decode cX8_tableOctet 8 = .ok (.iload_n 2, 1) := by decide +kernel
theorem dX8_tableOctet_9 : decode cX8_tableOctet 9 = .ok (.invokevirtual 106, 3) := by decide +kernel
theorem dX8_tableOctet_12 : decode cX8_tableOctet 12 = .ok (.ireturn, 1) := by decide +kernel
theorem dX8_caches_0 : decode cX8_caches 0 = .ok (.iload_n 1, 1) := by decide +kernel
theorem dX8_caches_1 : decode cX8_caches 1 = .ok (.ifCond .lt 18, 3) := by decide +kernel
theorem dX8_caches_4 : decode cX8_caches 4 = .ok (.iload_n 1, 1) := by decide +kernel
theorem dX8_caches_5 : decode cX8_caches 5 = .ok (.bipush 8, 2) := by decide +kernel
theorem dX8_caches_7 : decode cX8_caches 7 = .ok (.if_icmp .gt 12, 3) := by decide +kernel
theorem dX8_caches_10 : decode cX8_caches 10 = .ok (.iload_n 2, 1) := by decide +kernel
theorem dX8_caches_11 : decode cX8_caches 11 = .ok (.ifCond .lt 8, 3) := by decide +kernel
theorem dX8_caches_14 : decode cX8_caches 14 = .ok (.iload_n 2, 1) := by decide +kernel
theorem dX8_caches_15 : decode cX8_caches 15 = .ok (.iconst 4, 1) := by decide +kernel
theorem dX8_caches_16 : decode cX8_caches 16 = .ok (.if_icmp .le 6, 3) := by decide +kernel
theorem dX8_caches_19 : decode cX8_caches 19 = .ok (.bipush (-2), 2) := by decide +kernel
theorem dX8_caches_21 : decode cX8_caches 21 = .ok (.ireturn, 1) := by decide +kernel
theorem dX8_caches_22 : decode cX8_caches 22 = .ok (.aload_n 0, 1) := by decide +kernel
theorem dX8_caches_23 : decode cX8_caches 23 = .ok (.getfield 39, 3) := by decide +kernel
theorem dX8_caches_26 : decode cX8_caches 26 = .ok (.iload_n 1, 1) := by decide +kernel
theorem dX8_caches_27 : decode cX8_caches 27 = .ok (.putfield 116, 3) := by decide +kernel
theorem dX8_caches_30 : decode cX8_caches 30 = .ok (.aload_n 0, 1) := by decide +kernel
theorem dX8_caches_31 : decode cX8_caches 31 = .ok (.getfield 39, 3) := by decide +kernel
theorem dX8_caches_34 : decode cX8_caches 34 = .ok (.iload_n 2, 1) := by decide +kernel
theorem dX8_caches_35 : decode cX8_caches 35 = .ok (.putfield 119, 3) := by decide +kernel
theorem dX8_caches_38 : decode cX8_caches 38 = .ok (.iconst 1, 1) := by decide +kernel
theorem dX8_caches_39 : decode cX8_caches 39 = .ok (.ireturn, 1) := by decide +kernel
theorem dX8_code_0 : decode cX8_code 0 = .ok (.iload_n 1, 1) := by decide +kernel
theorem dX8_code_1 : decode cX8_code 1 = .ok (.ifCond .lt 8, 3) := by decide +kernel
theorem dX8_code_4 : decode cX8_code 4 = .ok (.iload_n 1, 1) := by decide +kernel
theorem dX8_code_5 : decode cX8_code 5 = .ok (.iconst 1, 1) := by decide +kernel
theorem dX8_code_6 : decode cX8_code 6 = .ok (.if_icmp .le 5, 3) := by decide +kernel
theorem dX8_code_9 : decode cX8_code 9 = .ok (.iconst (-1), 1) := by decide +kernel
theorem dX8_code_10 : decode cX8_code 10 = .ok (.ireturn, 1) := by decide +kernel
theorem dX8_code_11 : decode cX8_code 11 = .ok (.iload_n 1, 1) := by decide +kernel
theorem dX8_code_12 : decode cX8_code 12 = .ok (.ifCond .ne 10, 3) := by decide +kernel
theorem dX8_code_15 : decode cX8_code 15 = .ok (.aload_n 0, 1) := by decide +kernel
theorem dX8_code_16 : decode cX8_code 16 = .ok (.getfield 35, 3) := by decide +kernel
theorem dX8_code_19 : decode cX8_code 19 = .ok (.goto 7, 3) := by decide +kernel
theorem dX8_code_22 : decode cX8_code 22 = .ok (.aload_n 0, 1) := by decide +kernel
theorem dX8_code_23 : decode cX8_code 23 = .ok (.getfield 39, 3) := by decide +kernel
theorem dX8_code_26 : decode cX8_code 26 = .ok (.astore_n 3, 1) := by decide +kernel
theorem dX8_code_27 : decode cX8_code 27 = .ok (.iload_n 2, 1) := by decide +kernel
theorem dX8_code_28 : decode cX8_code 28 = .ok (.iconst (-1), 1) := by decide +kernel
theorem dX8_code_29 : decode cX8_code 29 = .ok (.if_icmp .ne 16, 3) := by decide +kernel
theorem dX8_code_32 : decode cX8_code 32 = .ok (.aload_n 3, 1) := by decide +kernel
theorem dX8_code_33 : decode cX8_code 33 = .ok (.invokevirtual 122, 3) := by decide +kernel
theorem dX8_code_36 : decode cX8_code 36 = .ok (.ifCond .eq 7, 3) := by decide +kernel
theorem dX8_code_39 : decode cX8_code 39 = .ok (.iconst 1, 1) := by decide +kernel
theorem dX8_code_40 : decode cX8_code 40 = .ok (.goto 4, 3) := by decide +kernel
theorem dX8_code_43 : decode cX8_code 43 = .ok (.iconst 0, 1) := by decide +kernel
theorem dX8_code_44 : decode cX8_code 44 = .ok (.ireturn, 1) := by decide +kernel
theorem dX8_code_45 : decode cX8_code 45 = .ok (.aload_n 3, 1) := by decide +kernel
theorem dX8_code_46 : decode cX8_code 46 = .ok (.getfield 113, 3) := by decide +kernel
theorem dX8_code_49 : decode cX8_code 49 = .ok (.iload_n 2, 1) := by decide +kernel
theorem dX8_code_50 : decode cX8_code 50 = .ok (.invokevirtual 110, 3) := by decide +kernel
theorem dX8_code_53 : decode cX8_code 53 = .ok (.ifCond .eq 14, 3) := by decide +kernel
theorem dX8_code_56 : decode cX8_code 56 = .ok (.aload_n 3, 1) := by decide +kernel
theorem dX8_code_57 : decode cX8_code 57 = .ok (.getfield 113, 3) := by decide +kernel
theorem dX8_code_60 : decode cX8_code 60 = .ok (.iload_n 2, 1) := by decide +kernel
theorem dX8_code_61 : decode cX8_code 61 = .ok (.invokevirtual 102, 3) := by decide +kernel
theorem dX8_code_64 : decode cX8_code 64 = .ok (.goto 4, 3) := by decide +kernel
theorem dX8_code_67 : decode cX8_code 67 = .ok (.iconst (-1), 1) := by decide +kernel
theorem dX8_code_68 : decode cX8_code 68 = .ok (.ireturn, 1) := by decide +kernel
theorem dX8_write_0 : decode cX8_write 0 = .ok (.iload_n 1, 1) := by decide +kernel
theorem dX8_write_1 : decode cX8_write 1 = .ok (.ifCond .lt 30, 3) := by decide +kernel
theorem dX8_write_4 : decode cX8_write 4 = .ok (.iload_n 1, 1) := by decide +kernel
theorem dX8_write_5 : decode cX8_write 5 = .ok (.iconst 2, 1) := by decide +kernel
theorem dX8_write_6 : decode cX8_write 6 = .ok (.if_icmp .gt 25, 3) := by decide +kernel
theorem dX8_write_9 : decode cX8_write 9 = .ok (.iload_n 2, 1) := by decide +kernel
theorem dX8_write_10 : decode cX8_write 10 = .ok (.ifCond .lt 21, 3) := by decide +kernel
theorem dX8_write_13 : decode cX8_write 13 = .ok (.iload_n 2, 1) := by decide +kernel
theorem dX8_write_14 : decode cX8_write 14 = .ok (.iconst 2, 1) := by decide +kernel
theorem dX8_write_15 : decode cX8_write 15 = .ok (.if_icmp .gt 16, 3) := by decide +kernel
theorem dX8_write_18 : decode cX8_write 18 = .ok (.iload_n 3, 1) := by decide +kernel
theorem dX8_write_19 : decode cX8_write 19 = .ok (.bipush 50, 2) := by decide +kernel
theorem dX8_write_21 : decode cX8_write 21 = .ok (.if_icmp .lt 10, 3) := by decide +kernel
theorem dX8_write_24 : decode cX8_write 24 = .ok (.iload_n 3, 1) := by decide +kernel
theorem dX8_write_25 : decode cX8_write 25 = .ok (.sipush 4000, 3) := by decide +kernel
theorem dX8_write_28 : decode cX8_write 28 = .ok (.if_icmp .le 6, 3) := by decide +kernel
theorem dX8_write_31 : decode cX8_write 31 = .ok (.bipush (-2), 2) := by decide +kernel
theorem dX8_write_33 : decode cX8_write 33 = .ok (.ireturn, 1) := by decide +kernel
theorem dX8_write_34 : decode cX8_write 34 = .ok (.iload 4, 2) := by decide +kernel
theorem dX8_write_36 : decode cX8_write 36 = .ok (.ifCond .eq 16, 3) := by decide +kernel
theorem dX8_write_39 : decode cX8_write 39 = .ok (.aload_n 0, 1) := by decide +kernel
theorem dX8_write_40 : decode cX8_write 40 = .ok (.getfield 39, 3) := by decide +kernel
theorem dX8_write_43 : decode cX8_write 43 = .ok (.invokevirtual 122, 3) := by decide +kernel
theorem dX8_write_46 : decode cX8_write 46 = .ok (.ifCond .ne 6, 3) := by decide +kernel
theorem dX8_write_49 : decode cX8_write 49 = .ok (.bipush (-2), 2) := by decide +kernel
theorem dX8_write_51 : decode cX8_write 51 = .ok (.ireturn, 1) := by decide +kernel
theorem dX8_write_52 : decode cX8_write 52 = .ok (.iload 4, 2) := by decide +kernel
theorem dX8_write_54 : decode cX8_write 54 = .ok (.ifCond .eq 49, 3) := by decide +kernel
theorem dX8_write_57 : decode cX8_write 57 = .ok (.aload_n 0, 1) := by decide +kernel
theorem dX8_write_58 : decode cX8_write 58 = .ok (.aload_n 0, 1) := by decide +kernel
theorem dX8_write_59 : decode cX8_write 59 = .ok (.getfield 22, 3) := by decide +kernel
theorem dX8_write_62 : decode cX8_write 62 = .ok (.iconst 0, 1) := by decide +kernel
theorem dX8_write_63 : decode cX8_write 63 = .ok (.invokevirtual 126, 3) := by decide +kernel
theorem dX8_write_66 : decode cX8_write 66 = .ok (.aload_n 0, 1) := by decide +kernel
theorem dX8_write_67 : decode cX8_write 67 = .ok (.getfield 58, 3) := by decide +kernel
theorem dX8_write_70 : decode cX8_write 70 = .ok (.aload_n 0, 1) := by decide +kernel
theorem dX8_write_71 : decode cX8_write 71 = .ok (.getfield 35, 3) := by decide +kernel
theorem dX8_write_74 : decode cX8_write 74 = .ok (.aload_n 0, 1) := by decide +kernel
theorem dX8_write_75 : decode cX8_write 75 = .ok (.getfield 35, 3) := by decide +kernel
theorem dX8_write_78 : decode cX8_write 78 = .ok (.getfield 113, 3) := by decide +kernel
theorem dX8_write_81 : decode cX8_write 81 = .ok (.aload_n 0, 1) := by decide +kernel
theorem dX8_write_82 : decode cX8_write 82 = .ok (.getfield 39, 3) := by decide +kernel
theorem dX8_write_85 : decode cX8_write 85 = .ok (.getfield 113, 3) := by decide +kernel
theorem dX8_write_88 : decode cX8_write 88 = .ok (.iconst 1, 1) := by decide +kernel
theorem dX8_write_89 : decode cX8_write 89 = .ok (.iconst 1, 1) := by decide +kernel
theorem dX8_write_90 : decode cX8_write 90 = .ok (.sipush 1536, 3) := by decide +kernel
theorem dX8_write_93 : decode cX8_write 93 = .ok (.invokevirtual 130, 3) := by decide +kernel
theorem dX8_write_96 : decode cX8_write 96 = .ok (.aload_n 0, 1) := by decide +kernel
theorem dX8_write_97 : decode cX8_write 97 = .ok (.getfield 39, 3) := by decide +kernel
theorem dX8_write_100 : decode cX8_write 100 = .ok (.invokevirtual 75, 3) := by decide +kernel
theorem dX8_write_103 : decode cX8_write 103 = .ok (.aload_n 0, 1) := by decide +kernel
theorem dX8_write_104 : decode cX8_write 104 = .ok (.aload_n 0, 1) := by decide +kernel
theorem dX8_write_105 : decode cX8_write 105 = .ok (.getfield 18, 3) := by decide +kernel
theorem dX8_write_108 : decode cX8_write 108 = .ok (.iload 4, 2) := by decide +kernel
theorem dX8_write_110 : decode cX8_write 110 = .ok (.ifCond .eq 7, 3) := by decide +kernel
theorem dX8_write_113 : decode cX8_write 113 = .ok (.iconst 2, 1) := by decide +kernel
theorem dX8_write_114 : decode cX8_write 114 = .ok (.goto 4, 3) := by decide +kernel
theorem dX8_write_117 : decode cX8_write 117 = .ok (.iconst 0, 1) := by decide +kernel
theorem dX8_write_118 : decode cX8_write 118 = .ok (.invokevirtual 126, 3) := by decide +kernel
theorem dX8_write_121 : decode cX8_write 121 = .ok (.iload 4, 2) := by decide +kernel
theorem dX8_write_123 : decode cX8_write 123 = .ok (.ifCond .eq 7, 3) := by decide +kernel
theorem dX8_write_126 : decode cX8_write 126 = .ok (.aload_n 0, 1) := by decide +kernel
theorem dX8_write_127 : decode cX8_write 127 = .ok (.invokevirtual 134, 3) := by decide +kernel
theorem dX8_write_130 : decode cX8_write 130 = .ok (.aload_n 0, 1) := by decide +kernel
theorem dX8_write_131 : decode cX8_write 131 = .ok (.getfield 58, 3) := by decide +kernel
theorem dX8_write_134 : decode cX8_write 134 = .ok (.iload 4, 2) := by decide +kernel
theorem dX8_write_136 : decode cX8_write 136 = .ok (.ifCond .eq 10, 3) := by decide +kernel
theorem dX8_write_139 : decode cX8_write 139 = .ok (.aload_n 0, 1) := by decide +kernel
theorem dX8_write_140 : decode cX8_write 140 = .ok (.getfield 39, 3) := by decide +kernel
theorem dX8_write_143 : decode cX8_write 143 = .ok (.goto 7, 3) := by decide +kernel
theorem dX8_write_146 : decode cX8_write 146 = .ok (.aload_n 0, 1) := by decide +kernel
theorem dX8_write_147 : decode cX8_write 147 = .ok (.getfield 35, 3) := by decide +kernel
theorem dX8_write_150 : decode cX8_write 150 = .ok (.aload_n 0, 1) := by decide +kernel
theorem dX8_write_151 : decode cX8_write 151 = .ok (.getfield 11, 3) := by decide +kernel
theorem dX8_write_154 : decode cX8_write 154 = .ok (.iconst 0, 1) := by decide +kernel
theorem dX8_write_155 : decode cX8_write 155 = .ok (.aaload, 1) := by decide +kernel
theorem dX8_write_156 : decode cX8_write 156 = .ok (.aload_n 0, 1) := by decide +kernel
theorem dX8_write_157 : decode cX8_write 157 = .ok (.getfield 11, 3) := by decide +kernel
theorem dX8_write_160 : decode cX8_write 160 = .ok (.iconst 1, 1) := by decide +kernel
theorem dX8_write_161 : decode cX8_write 161 = .ok (.aaload, 1) := by decide +kernel
theorem dX8_write_162 : decode cX8_write 162 = .ok (.iload_n 1, 1) := by decide +kernel
theorem dX8_write_163 : decode cX8_write 163 = .ok (.iload_n 2, 1) := by decide +kernel
theorem dX8_write_164 : decode cX8_write 164 = .ok (.iload_n 3, 1) := by decide +kernel
theorem dX8_write_165 : decode cX8_write 165 = .ok (.invokevirtual 130, 3) := by decide +kernel
theorem dX8_write_168 : decode cX8_write 168 = .ok (.aload_n 0, 1) := by decide +kernel
theorem dX8_write_169 : decode cX8_write 169 = .ok (.getfield 58, 3) := by decide +kernel
theorem dX8_write_172 : decode cX8_write 172 = .ok (.getfield 137, 3) := by decide +kernel
theorem dX8_write_175 : decode cX8_write 175 = .ok (.ifCond .eq 6, 3) := by decide +kernel
theorem dX8_write_178 : decode cX8_write 178 = .ok (.bipush (-5), 2) := by decide +kernel
theorem dX8_write_180 : decode cX8_write 180 = .ok (.ireturn, 1) := by decide +kernel
theorem dX8_write_181 : decode cX8_write 181 = .ok (.aload_n 0, 1) := by decide +kernel
theorem dX8_write_182 : decode cX8_write 182 = .ok (.getfield 18, 3) := by decide +kernel
theorem dX8_write_185 : decode cX8_write 185 = .ok (.getfield 141, 3) := by decide +kernel
theorem dX8_write_188 : decode cX8_write 188 = .ok (.ifCond .eq 8, 3) := by decide +kernel
theorem dX8_write_191 : decode cX8_write 191 = .ok (.bipush (-4), 2) := by decide +kernel
theorem dX8_write_193 : decode cX8_write 193 = .ok (.goto 7, 3) := by decide +kernel
theorem dX8_write_196 : decode cX8_write 196 = .ok (.aload_n 0, 1) := by decide +kernel
theorem dX8_write_197 : decode cX8_write 197 = .ok (.invokevirtual 144, 3) := by decide +kernel
theorem dX8_write_200 : decode cX8_write 200 = .ok (.ireturn, 1) := by decide +kernel
theorem dX8_startWriting_0 : decode cX8_startWriting 0 = .ok (.aload_n 1, 1) := by decide +kernel
theorem dX8_startWriting_1 : decode cX8_startWriting 1 = .ok (.invokevirtual 82, 3) := by decide +kernel
theorem dX8_startWriting_4 : decode cX8_startWriting 4 = .ok (.aload_n 1, 1) := by decide +kernel
theorem dX8_startWriting_5 : decode cX8_startWriting 5 = .ok (.iload_n 2, 1) := by decide +kernel
theorem dX8_startWriting_6 : decode cX8_startWriting 6 = .ok (.invokevirtual 147, 3) := by decide +kernel
theorem dX8_startWriting_9 : decode cX8_startWriting 9 = .ok (.aload_n 0, 1) := by decide +kernel
theorem dX8_startWriting_10 : decode cX8_startWriting 10 = .ok (.getfield 69, 3) := by decide +kernel
theorem dX8_startWriting_13 : decode cX8_startWriting 13 = .ok (.invokevirtual 150, 3) := by decide +kernel
theorem dX8_startWriting_16 : decode cX8_startWriting 16 = .ok (.aload_n 0, 1) := by decide +kernel
theorem dX8_startWriting_17 : decode cX8_startWriting 17 = .ok (.getfield 58, 3) := by decide +kernel
theorem dX8_startWriting_20 : decode cX8_startWriting 20 = .ok (.aload_n 1, 1) := by decide +kernel
theorem dX8_startWriting_21 : decode cX8_startWriting 21 = .ok (.aload_n 0, 1) := by decide +kernel
theorem dX8_startWriting_22 : decode cX8_startWriting 22 = .ok (.getfield 69, 3) := by decide +kernel
theorem dX8_startWriting_25 : decode cX8_startWriting 25 = .ok (.invokevirtual 151, 3) := by decide +kernel
theorem dX8_startWriting_28 : decode cX8_startWriting 28 = .ok (.return_, 1) := by decide +kernel
theorem dX8_putTableData_0 : decode cX8_putTableData 0 = .ok (.aload_n 0, 1) := by decide +kernel
theorem dX8_putTableData_1 : decode cX8_putTableData 1 = .ok (.getfield 18, 3) := by decide +kernel
theorem dX8_putTableData_4 : decode cX8_putTableData 4 = .ok (.iconst 2, 1) := by decide +kernel
theorem dX8_putTableData_5 : decode cX8_putTableData 5 = .ok (.aload_n 0, 1) := by decide +kernel
theorem dX8_putTableData_6 : decode cX8_putTableData 6 = .ok (.getfield 22, 3) := by decide +kernel
theorem dX8_putTableData_9 : decode cX8_putTableData 9 = .ok (.getfield 92, 3) := by decide +kernel
theorem dX8_putTableData_12 : decode cX8_putTableData 12 = .ok (.iadd, 1) := by decide +kernel
theorem dX8_putTableData_13 : decode cX8_putTableData 13 = .ok (.invokevirtual 155, 3) := by decide +kernel
theorem dX8_putTableData_16 : decode cX8_putTableData 16 = .ok (.aload_n 0, 1) := by decide +kernel
theorem dX8_putTableData_17 : decode cX8_putTableData 17 = .ok (.getfield 18, 3) := by decide +kernel
theorem dX8_putTableData_20 : decode cX8_putTableData 20 = .ok (.aload_n 0, 1) := by decide +kernel
theorem dX8_putTableData_21 : decode cX8_putTableData 21 = .ok (.getfield 39, 3) := by decide +kernel
theorem dX8_putTableData_24 : decode cX8_putTableData 24 = .ok (.getfield 116, 3) := by decide +kernel
theorem dX8_putTableData_27 : decode cX8_putTableData 27 = .ok (.invokevirtual 89, 3) := by decide +kernel
theorem dX8_putTableData_30 : decode cX8_putTableData 30 = .ok (.aload_n 0, 1) := by decide +kernel
theorem dX8_putTableData_31 : decode cX8_putTableData 31 = .ok (.getfield 18, 3) := by decide +kernel
theorem dX8_putTableData_34 : decode cX8_putTableData 34 = .ok (.aload_n 0, 1) := by decide +kernel
theorem dX8_putTableData_35 : decode cX8_putTableData 35 = .ok (.getfield 39, 3) := by decide +kernel
theorem dX8_putTableData_38 : decode cX8_putTableData 38 = .ok (.getfield 119, 3) := by decide +kernel
theorem dX8_putTableData_41 : decode cX8_putTableData 41 = .ok (.invokevirtual 89, 3) := by decide +kernel
theorem dX8_putTableData_44 : decode cX8_putTableData 44 = .ok (.aload_n 0, 1) := by decide +kernel
theorem dX8_putTableData_45 : decode cX8_putTableData 45 = .ok (.getfield 18, 3) := by decide +kernel
theorem dX8_putTableData_48 : decode cX8_putTableData 48 = .ok (.aload_n 0, 1) := by decide +kernel
theorem dX8_putTableData_49 : decode cX8_putTableData 49 = .ok (.getfield 22, 3) := by decide +kernel
theorem dX8_putTableData_52 : decode cX8_putTableData 52 = .ok (.invokevirtual 158, 3) := by decide +kernel
theorem dX8_putTableData_55 : decode cX8_putTableData 55 = .ok (.return_, 1) := by decide +kernel
theorem dX8_takeWritten_0 : decode cX8_takeWritten 0 = .ok (.aload_n 0, 1) := by decide +kernel
theorem dX8_takeWritten_1 : decode cX8_takeWritten 1 = .ok (.getfield 11, 3) := by decide +kernel
theorem dX8_takeWritten_4 : decode cX8_takeWritten 4 = .ok (.iconst 2, 1) := by decide +kernel
theorem dX8_takeWritten_5 : decode cX8_takeWritten 5 = .ok (.aaload, 1) := by decide +kernel
theorem dX8_takeWritten_6 : decode cX8_takeWritten 6 = .ok (.invokevirtual 82, 3) := by decide +kernel
theorem dX8_takeWritten_9 : decode cX8_takeWritten 9 = .ok (.aload_n 0, 1) := by decide +kernel
theorem dX8_takeWritten_10 : decode cX8_takeWritten 10 = .ok (.getfield 11, 3) := by decide +kernel
theorem dX8_takeWritten_13 : decode cX8_takeWritten 13 = .ok (.iconst 2, 1) := by decide +kernel
theorem dX8_takeWritten_14 : decode cX8_takeWritten 14 = .ok (.aaload, 1) := by decide +kernel
theorem dX8_takeWritten_15 : decode cX8_takeWritten 15 = .ok (.aload_n 0, 1) := by decide +kernel
theorem dX8_takeWritten_16 : decode cX8_takeWritten 16 = .ok (.getfield 18, 3) := by decide +kernel
theorem dX8_takeWritten_19 : decode cX8_takeWritten 19 = .ok (.invokevirtual 158, 3) := by decide +kernel
theorem dX8_takeWritten_22 : decode cX8_takeWritten 22 = .ok (.aload_n 0, 1) := by decide +kernel
theorem dX8_takeWritten_23 : decode cX8_takeWritten 23 = .ok (.invokevirtual 162, 3) := by decide +kernel
theorem dX8_takeWritten_26 : decode cX8_takeWritten 26 = .ok (.aload_n 0, 1) := by decide +kernel
theorem dX8_takeWritten_27 : decode cX8_takeWritten 27 = .ok (.getfield 11, 3) := by decide +kernel
theorem dX8_takeWritten_30 : decode cX8_takeWritten 30 = .ok (.iconst 2, 1) := by decide +kernel
theorem dX8_takeWritten_31 : decode cX8_takeWritten 31 = .ok (.aaload, 1) := by decide +kernel
theorem dX8_takeWritten_32 : decode cX8_takeWritten 32 = .ok (.getfield 92, 3) := by decide +kernel
theorem dX8_takeWritten_35 : decode cX8_takeWritten 35 = .ok (.ireturn, 1) := by decide +kernel
theorem dX8_tellSpareSteps_0 : decode cX8_tellSpareSteps 0 = .ok (.aload_n 0, 1) := by decide +kernel
theorem dX8_tellSpareSteps_1 : decode cX8_tellSpareSteps 1 = .ok (.getfield 65, 3) := by decide +kernel
theorem dX8_tellSpareSteps_4 : decode cX8_tellSpareSteps 4 = .ok (.astore_n 1, 1) := by decide +kernel
theorem dX8_tellSpareSteps_5 : decode cX8_tellSpareSteps 5 = .ok (.aload_n 0, 1) := by decide +kernel
theorem dX8_tellSpareSteps_6 : decode cX8_tellSpareSteps 6 = .ok (.aload_n 0, 1) := by decide +kernel
theorem dX8_tellSpareSteps_7 : decode cX8_tellSpareSteps 7 = .ok (.getfield 69, 3) := by decide +kernel
theorem dX8_tellSpareSteps_10 : decode cX8_tellSpareSteps 10 = .ok (.putfield 65, 3) := by decide +kernel
theorem dX8_tellSpareSteps_13 : decode cX8_tellSpareSteps 13 = .ok (.aload_n 0, 1) := by decide +kernel
theorem dX8_tellSpareSteps_14 : decode cX8_tellSpareSteps 14 = .ok (.aload_n 1, 1) := by decide +kernel
theorem dX8_tellSpareSteps_15 : decode cX8_tellSpareSteps 15 = .ok (.putfield 69, 3) := by decide +kernel
theorem dX8_tellSpareSteps_18 : decode cX8_tellSpareSteps 18 = .ok (.return_, 1) := by decide +kernel
theorem dX8_read_0 : decode cX8_read 0 = .ok (.aload_n 0, 1) := by decide +kernel
theorem dX8_read_1 : decode cX8_read 1 = .ok (.aload_n 0, 1) := by decide +kernel
theorem dX8_read_2 : decode cX8_read 2 = .ok (.getfield 11, 3) := by decide +kernel
theorem dX8_read_5 : decode cX8_read 5 = .ok (.iconst 0, 1) := by decide +kernel
theorem dX8_read_6 : decode cX8_read 6 = .ok (.aaload, 1) := by decide +kernel
theorem dX8_read_7 : decode cX8_read 7 = .ok (.aload_n 0, 1) := by decide +kernel
theorem dX8_read_8 : decode cX8_read 8 = .ok (.getfield 11, 3) := by decide +kernel
theorem dX8_read_11 : decode cX8_read 11 = .ok (.iconst 2, 1) := by decide +kernel
theorem dX8_read_12 : decode cX8_read 12 = .ok (.aaload, 1) := by decide +kernel
theorem dX8_read_13 : decode cX8_read 13 = .ok (.invokevirtual 165, 3) := by decide +kernel
theorem dX8_read_16 : decode cX8_read 16 = .ok (.aload_n 0, 1) := by decide +kernel
theorem dX8_read_17 : decode cX8_read 17 = .ok (.aload_n 0, 1) := by decide +kernel
theorem dX8_read_18 : decode cX8_read 18 = .ok (.getfield 69, 3) := by decide +kernel
theorem dX8_read_21 : decode cX8_read 21 = .ok (.getfield 169, 3) := by decide +kernel
theorem dX8_read_24 : decode cX8_read 24 = .ok (.invokevirtual 170, 3) := by decide +kernel
theorem dX8_read_27 : decode cX8_read 27 = .ok (.aload_n 0, 1) := by decide +kernel
theorem dX8_read_28 : decode cX8_read 28 = .ok (.invokevirtual 162, 3) := by decide +kernel
theorem dX8_read_31 : decode cX8_read 31 = .ok (.aload_n 0, 1) := by decide +kernel
theorem dX8_read_32 : decode cX8_read 32 = .ok (.getfield 48, 3) := by decide +kernel
theorem dX8_read_35 : decode cX8_read 35 = .ok (.getfield 173, 3) := by decide +kernel
theorem dX8_read_38 : decode cX8_read 38 = .ok (.ifCond .eq 14, 3) := by decide +kernel
theorem dX8_read_41 : decode cX8_read 41 = .ok (.bipush (-10), 2) := by decide +kernel
theorem dX8_read_43 : decode cX8_read 43 = .ok (.aload_n 0, 1) := by decide +kernel
theorem dX8_read_44 : decode cX8_read 44 = .ok (.getfield 48, 3) := by decide +kernel
theorem dX8_read_47 : decode cX8_read 47 = .ok (.getfield 173, 3) := by decide +kernel
theorem dX8_read_50 : decode cX8_read 50 = .ok (.isub, 1) := by decide +kernel
theorem dX8_read_51 : decode cX8_read 51 = .ok (.ireturn, 1) := by decide +kernel
theorem dX8_read_52 : decode cX8_read 52 = .ok (.aload_n 0, 1) := by decide +kernel
theorem dX8_read_53 : decode cX8_read 53 = .ok (.getfield 11, 3) := by decide +kernel
theorem dX8_read_56 : decode cX8_read 56 = .ok (.iconst 1, 1) := by decide +kernel
theorem dX8_read_57 : decode cX8_read 57 = .ok (.aaload, 1) := by decide +kernel
theorem dX8_read_58 : decode cX8_read 58 = .ok (.invokevirtual 82, 3) := by decide +kernel
theorem dX8_read_61 : decode cX8_read 61 = .ok (.aload_n 0, 1) := by decide +kernel
theorem dX8_read_62 : decode cX8_read 62 = .ok (.getfield 11, 3) := by decide +kernel
theorem dX8_read_65 : decode cX8_read 65 = .ok (.iconst 1, 1) := by decide +kernel
theorem dX8_read_66 : decode cX8_read 66 = .ok (.aaload, 1) := by decide +kernel
theorem dX8_read_67 : decode cX8_read 67 = .ok (.aload_n 0, 1) := by decide +kernel
theorem dX8_read_68 : decode cX8_read 68 = .ok (.getfield 48, 3) := by decide +kernel
theorem dX8_read_71 : decode cX8_read 71 = .ok (.getfield 176, 3) := by decide +kernel
theorem dX8_read_74 : decode cX8_read 74 = .ok (.invokevirtual 158, 3) := by decide +kernel
theorem dX8_read_77 : decode cX8_read 77 = .ok (.aload_n 0, 1) := by decide +kernel
theorem dX8_read_78 : decode cX8_read 78 = .ok (.getfield 11, 3) := by decide +kernel
theorem dX8_read_81 : decode cX8_read 81 = .ok (.iconst 1, 1) := by decide +kernel
theorem dX8_read_82 : decode cX8_read 82 = .ok (.aaload, 1) := by decide +kernel
theorem dX8_read_83 : decode cX8_read 83 = .ok (.getfield 92, 3) := by decide +kernel
theorem dX8_read_86 : decode cX8_read 86 = .ok (.ireturn, 1) := by decide +kernel
theorem dX8_readFrom_0 : decode cX8_readFrom 0 = .ok (.aload_n 0, 1) := by decide +kernel
theorem dX8_readFrom_1 : decode cX8_readFrom 1 = .ok (.getfield 69, 3) := by decide +kernel
theorem dX8_readFrom_4 : decode cX8_readFrom 4 = .ok (.invokevirtual 150, 3) := by decide +kernel
theorem dX8_readFrom_7 : decode cX8_readFrom 7 = .ok (.aload_n 0, 1) := by decide +kernel
theorem dX8_readFrom_8 : decode cX8_readFrom 8 = .ok (.getfield 48, 3) := by decide +kernel
theorem dX8_readFrom_11 : decode cX8_readFrom 11 = .ok (.aload_n 1, 1) := by decide +kernel
theorem dX8_readFrom_12 : decode cX8_readFrom 12 = .ok (.aload_n 2, 1) := by decide +kernel
theorem dX8_readFrom_13 : decode cX8_readFrom 13 = .ok (.iconst 0, 1) := by decide +kernel
theorem dX8_readFrom_14 : decode cX8_readFrom 14 = .ok (.aload_n 2, 1) := by decide +kernel
theorem dX8_readFrom_15 : decode cX8_readFrom 15 = .ok (.getfield 92, 3) := by decide +kernel
theorem dX8_readFrom_18 : decode cX8_readFrom 18 = .ok (.aload_n 0, 1) := by decide +kernel
theorem dX8_readFrom_19 : decode cX8_readFrom 19 = .ok (.getfield 69, 3) := by decide +kernel
theorem dX8_readFrom_22 : decode cX8_readFrom 22 = .ok (.invokevirtual 179, 3) := by decide +kernel
theorem dX8_readFrom_25 : decode cX8_readFrom 25 = .ok (.aload_n 0, 1) := by decide +kernel
theorem dX8_readFrom_26 : decode cX8_readFrom 26 = .ok (.getfield 48, 3) := by decide +kernel
theorem dX8_readFrom_29 : decode cX8_readFrom 29 = .ok (.invokevirtual 182, 3) := by decide +kernel
theorem dX8_readFrom_32 : decode cX8_readFrom 32 = .ok (.aload_n 0, 1) := by decide +kernel
theorem dX8_readFrom_33 : decode cX8_readFrom 33 = .ok (.getfield 35, 3) := by decide +kernel
theorem dX8_readFrom_36 : decode cX8_readFrom 36 = .ok (.astore_n 3, 1) := by decide +kernel
theorem dX8_readFrom_37 : decode cX8_readFrom 37 = .ok (.aload_n 0, 1) := by decide +kernel
theorem dX8_readFrom_38 : decode cX8_readFrom 38 = .ok (.getfield 48, 3) := by decide +kernel
theorem dX8_readFrom_41 : decode cX8_readFrom 41 = .ok (.invokevirtual 185, 3) := by decide +kernel
theorem dX8_readFrom_44 : decode cX8_readFrom 44 = .ok (.iconst 2, 1) := by decide +kernel
theorem dX8_readFrom_45 : decode cX8_readFrom 45 = .ok (.if_icmp .ne 32, 3) := by decide +kernel
theorem dX8_readFrom_48 : decode cX8_readFrom 48 = .ok (.aload_n 0, 1) := by decide +kernel
theorem dX8_readFrom_49 : decode cX8_readFrom 49 = .ok (.aload_n 2, 1) := by decide +kernel
theorem dX8_readFrom_50 : decode cX8_readFrom 50 = .ok (.invokevirtual 188, 3) := by decide +kernel
theorem dX8_readFrom_53 : decode cX8_readFrom 53 = .ok (.istore 4, 2) := by decide +kernel
theorem dX8_readFrom_55 : decode cX8_readFrom 55 = .ok (.aload_n 0, 1) := by decide +kernel
theorem dX8_readFrom_56 : decode cX8_readFrom 56 = .ok (.getfield 52, 3) := by decide +kernel
theorem dX8_readFrom_59 : decode cX8_readFrom 59 = .ok (.aload_n 0, 1) := by decide +kernel
theorem dX8_readFrom_60 : decode cX8_readFrom 60 = .ok (.getfield 35, 3) := by decide +kernel
theorem dX8_readFrom_63 : decode cX8_readFrom 63 = .ok (.invokevirtual 192, 3) := by decide +kernel
theorem dX8_readFrom_66 : decode cX8_readFrom 66 = .ok (.aload_n 0, 1) := by decide +kernel
theorem dX8_readFrom_67 : decode cX8_readFrom 67 = .ok (.iload 4, 2) := by decide +kernel
theorem dX8_readFrom_69 : decode cX8_readFrom 69 = .ok (.invokevirtual 196, 3) := by decide +kernel
theorem dX8_readFrom_72 : decode cX8_readFrom 72 = .ok (.aload_n 0, 1) := by decide +kernel
theorem dX8_readFrom_73 : decode cX8_readFrom 73 = .ok (.getfield 42, 3) := by decide +kernel
theorem dX8_readFrom_76 : decode cX8_readFrom 76 = .ok (.astore_n 3, 1) := by decide +kernel
theorem dX8_readFrom_77 : decode cX8_readFrom 77 = .ok (.aload_n 0, 1) := by decide +kernel
theorem dX8_readFrom_78 : decode cX8_readFrom 78 = .ok (.getfield 48, 3) := by decide +kernel
theorem dX8_readFrom_81 : decode cX8_readFrom 81 = .ok (.aload_n 3, 1) := by decide +kernel
theorem dX8_readFrom_82 : decode cX8_readFrom 82 = .ok (.invokevirtual 192, 3) := by decide +kernel
theorem dX8_readFrom_85 : decode cX8_readFrom 85 = .ok (.return_, 1) := by decide +kernel
theorem dX8_startTable_0 : decode cX8_startTable 0 = .ok (.aload_n 0, 1) := by decide +kernel
theorem dX8_startTable_1 : decode cX8_startTable 1 = .ok (.getfield 48, 3) := by decide +kernel
theorem dX8_startTable_4 : decode cX8_startTable 4 = .ok (.aload_n 0, 1) := by decide +kernel
theorem dX8_startTable_5 : decode cX8_startTable 5 = .ok (.getfield 42, 3) := by decide +kernel
theorem dX8_startTable_8 : decode cX8_startTable 8 = .ok (.invokevirtual 199, 3) := by decide +kernel
theorem dX8_startTable_11 : decode cX8_startTable 11 = .ok (.istore_n 2, 1) := by decide +kernel
theorem dX8_startTable_12 : decode cX8_startTable 12 = .ok (.aload_n 0, 1) := by decide +kernel
theorem dX8_startTable_13 : decode cX8_startTable 13 = .ok (.getfield 48, 3) := by decide +kernel
theorem dX8_startTable_16 : decode cX8_startTable 16 = .ok (.getfield 203, 3) := by decide +kernel
theorem dX8_startTable_19 : decode cX8_startTable 19 = .ok (.getfield 207, 3) := by decide +kernel
theorem dX8_startTable_22 : decode cX8_startTable 22 = .ok (.istore_n 3, 1) := by decide +kernel
theorem dX8_startTable_23 : decode cX8_startTable 23 = .ok (.aload_n 0, 1) := by decide +kernel
theorem dX8_startTable_24 : decode cX8_startTable 24 = .ok (.getfield 52, 3) := by decide +kernel
theorem dX8_startTable_27 : decode cX8_startTable 27 = .ok (.aload_n 0, 1) := by decide +kernel
theorem dX8_startTable_28 : decode cX8_startTable 28 = .ok (.getfield 35, 3) := by decide +kernel
theorem dX8_startTable_31 : decode cX8_startTable 31 = .ok (.getfield 113, 3) := by decide +kernel
theorem dX8_startTable_34 : decode cX8_startTable 34 = .ok (.aload_n 1, 1) := by decide +kernel
theorem dX8_startTable_35 : decode cX8_startTable 35 = .ok (.iload_n 3, 1) := by decide +kernel
theorem dX8_startTable_36 : decode cX8_startTable 36 = .ok (.iload_n 3, 1) := by decide +kernel
theorem dX8_startTable_37 : decode cX8_startTable 37 = .ok (.iload_n 2, 1) := by decide +kernel
theorem dX8_startTable_38 : decode cX8_startTable 38 = .ok (.iadd, 1) := by decide +kernel
theorem dX8_startTable_39 : decode cX8_startTable 39 = .ok (.aload_n 0, 1) := by decide +kernel
theorem dX8_startTable_40 : decode cX8_startTable 40 = .ok (.getfield 69, 3) := by decide +kernel
theorem dX8_startTable_43 : decode cX8_startTable 43 = .ok (.invokevirtual 179, 3) := by decide +kernel
theorem dX8_startTable_46 : decode cX8_startTable 46 = .ok (.aload_n 0, 1) := by decide +kernel
theorem dX8_startTable_47 : decode cX8_startTable 47 = .ok (.getfield 52, 3) := by decide +kernel
theorem dX8_startTable_50 : decode cX8_startTable 50 = .ok (.invokevirtual 182, 3) := by decide +kernel
theorem dX8_startTable_53 : decode cX8_startTable 53 = .ok (.aload_n 0, 1) := by decide +kernel
theorem dX8_startTable_54 : decode cX8_startTable 54 = .ok (.getfield 52, 3) := by decide +kernel
theorem dX8_startTable_57 : decode cX8_startTable 57 = .ok (.invokevirtual 211, 3) := by decide +kernel
theorem dX8_startTable_60 : decode cX8_startTable 60 = .ok (.iload_n 2, 1) := by decide +kernel
theorem dX8_startTable_61 : decode cX8_startTable 61 = .ok (.ireturn, 1) := by decide +kernel
theorem dX8_endTable_0 : decode cX8_endTable 0 = .ok (.aload_n 0, 1) := by decide +kernel
theorem dX8_endTable_1 : decode cX8_endTable 1 = .ok (.getfield 69, 3) := by decide +kernel
theorem dX8_endTable_4 : decode cX8_endTable 4 = .ok (.invokevirtual 150, 3) := by decide +kernel
theorem dX8_endTable_7 : decode cX8_endTable 7 = .ok (.aload_n 0, 1) := by decide +kernel
theorem dX8_endTable_8 : decode cX8_endTable 8 = .ok (.getfield 42, 3) := by decide +kernel
theorem dX8_endTable_11 : decode cX8_endTable 11 = .ok (.getfield 113, 3) := by decide +kernel
theorem dX8_endTable_14 : decode cX8_endTable 14 = .ok (.invokevirtual 82, 3) := by decide +kernel
theorem dX8_endTable_17 : decode cX8_endTable 17 = .ok (.aload_n 0, 1) := by decide +kernel
theorem dX8_endTable_18 : decode cX8_endTable 18 = .ok (.getfield 42, 3) := by decide +kernel
theorem dX8_endTable_21 : decode cX8_endTable 21 = .ok (.getfield 113, 3) := by decide +kernel
theorem dX8_endTable_24 : decode cX8_endTable 24 = .ok (.aload_n 0, 1) := by decide +kernel
theorem dX8_endTable_25 : decode cX8_endTable 25 = .ok (.getfield 52, 3) := by decide +kernel
theorem dX8_endTable_28 : decode cX8_endTable 28 = .ok (.getfield 176, 3) := by decide +kernel
theorem dX8_endTable_31 : decode cX8_endTable 31 = .ok (.invokevirtual 158, 3) := by decide +kernel
theorem dX8_endTable_34 : decode cX8_endTable 34 = .ok (.aload_n 0, 1) := by decide +kernel
theorem dX8_endTable_35 : decode cX8_endTable 35 = .ok (.getfield 52, 3) := by decide +kernel
theorem dX8_endTable_38 : decode cX8_endTable 38 = .ok (.getfield 173, 3) := by decide +kernel
theorem dX8_endTable_41 : decode cX8_endTable 41 = .ok (.ifCond .ne 23, 3) := by decide +kernel
theorem dX8_endTable_44 : decode cX8_endTable 44 = .ok (.aload_n 0, 1) := by decide +kernel
theorem dX8_endTable_45 : decode cX8_endTable 45 = .ok (.getfield 42, 3) := by decide +kernel
theorem dX8_endTable_48 : decode cX8_endTable 48 = .ok (.getfield 113, 3) := by decide +kernel
theorem dX8_endTable_51 : decode cX8_endTable 51 = .ok (.getfield 92, 3) := by decide +kernel
theorem dX8_endTable_54 : decode cX8_endTable 54 = .ok (.sipush 1536, 3) := by decide +kernel
theorem dX8_endTable_57 : decode cX8_endTable 57 = .ok (.if_icmp .ne 7, 3) := by decide +kernel
theorem dX8_endTable_60 : decode cX8_endTable 60 = .ok (.iconst 1, 1) := by decide +kernel
theorem dX8_endTable_61 : decode cX8_endTable 61 = .ok (.goto 4, 3) := by decide +kernel
theorem dX8_endTable_64 : decode cX8_endTable 64 = .ok (.iconst 0, 1) := by decide +kernel
theorem dX8_endTable_65 : decode cX8_endTable 65 = .ok (.istore_n 2, 1) := by decide +kernel
theorem dX8_endTable_66 : decode cX8_endTable 66 = .ok (.aload_n 0, 1) := by decide +kernel
theorem dX8_endTable_67 : decode cX8_endTable 67 = .ok (.getfield 48, 3) := by decide +kernel
theorem dX8_endTable_70 : decode cX8_endTable 70 = .ok (.iload_n 1, 1) := by decide +kernel
theorem dX8_endTable_71 : decode cX8_endTable 71 = .ok (.iload_n 2, 1) := by decide +kernel
theorem dX8_endTable_72 : decode cX8_endTable 72 = .ok (.ifCond .eq 17, 3) := by decide +kernel
theorem dX8_endTable_75 : decode cX8_endTable 75 = .ok (.aload_n 0, 1) := by decide +kernel
theorem dX8_endTable_76 : decode cX8_endTable 76 = .ok (.getfield 42, 3) := by decide +kernel
theorem dX8_endTable_79 : decode cX8_endTable 79 = .ok (.invokevirtual 122, 3) := by decide +kernel
theorem dX8_endTable_82 : decode cX8_endTable 82 = .ok (.ifCond .eq 7, 3) := by decide +kernel
theorem dX8_endTable_85 : decode cX8_endTable 85 = .ok (.iconst 1, 1) := by decide +kernel
theorem dX8_endTable_86 : decode cX8_endTable 86 = .ok (.goto 4, 3) := by decide +kernel
theorem dX8_endTable_89 : decode cX8_endTable 89 = .ok (.iconst 0, 1) := by decide +kernel
theorem dX8_endTable_90 : decode cX8_endTable 90 = .ok (.invokevirtual 214, 3) := by decide +kernel
theorem dX8_endTable_93 : decode cX8_endTable 93 = .ok (.return_, 1) := by decide +kernel
theorem dX8_tellReading_0 : decode cX8_tellReading 0 = .ok (.aload_n 0, 1) := by decide +kernel
theorem dX8_tellReading_1 : decode cX8_tellReading 1 = .ok (.aload_n 0, 1) := by decide +kernel
theorem dX8_tellReading_2 : decode cX8_tellReading 2 = .ok (.getfield 48, 3) := by decide +kernel
theorem dX8_tellReading_5 : decode cX8_tellReading 5 = .ok (.getfield 173, 3) := by decide +kernel
theorem dX8_tellReading_8 : decode cX8_tellReading 8 = .ok (.putfield 218, 3) := by decide +kernel
theorem dX8_tellReading_11 : decode cX8_tellReading 11 = .ok (.aload_n 0, 1) := by decide +kernel
theorem dX8_tellReading_12 : decode cX8_tellReading 12 = .ok (.aload_n 0, 1) := by decide +kernel
theorem dX8_tellReading_13 : decode cX8_tellReading 13 = .ok (.getfield 48, 3) := by decide +kernel
theorem dX8_tellReading_16 : decode cX8_tellReading 16 = .ok (.getfield 221, 3) := by decide +kernel
theorem dX8_tellReading_19 : decode cX8_tellReading 19 = .ok (.putfield 224, 3) := by decide +kernel
theorem dX8_tellReading_22 : decode cX8_tellReading 22 = .ok (.aload_n 0, 1) := by decide +kernel
theorem dX8_tellReading_23 : decode cX8_tellReading 23 = .ok (.aload_n 0, 1) := by decide +kernel
theorem dX8_tellReading_24 : decode cX8_tellReading 24 = .ok (.getfield 48, 3) := by decide +kernel
theorem dX8_tellReading_27 : decode cX8_tellReading 27 = .ok (.getfield 227, 3) := by decide +kernel
theorem dX8_tellReading_30 : decode cX8_tellReading 30 = .ok (.putfield 230, 3) := by decide +kernel
theorem dX8_tellReading_33 : decode cX8_tellReading 33 = .ok (.aload_n 0, 1) := by decide +kernel
theorem dX8_tellReading_34 : decode cX8_tellReading 34 = .ok (.iload_n 1, 1) := by decide +kernel
theorem dX8_tellReading_35 : decode cX8_tellReading 35 = .ok (.putfield 233, 3) := by decide +kernel
theorem dX8_tellReading_38 : decode cX8_tellReading 38 = .ok (.return_, 1) := by decide +kernel
theorem dX8_join_0 : decode cX8_join 0 = .ok (.aload_n 0, 1) := by decide +kernel
theorem dX8_join_1 : decode cX8_join 1 = .ok (.aload_n 0, 1) := by decide +kernel
theorem dX8_join_2 : decode cX8_join 2 = .ok (.getfield 11, 3) := by decide +kernel
theorem dX8_join_5 : decode cX8_join 5 = .ok (.iconst 0, 1) := by decide +kernel
theorem dX8_join_6 : decode cX8_join 6 = .ok (.aaload, 1) := by decide +kernel
theorem dX8_join_7 : decode cX8_join 7 = .ok (.aload_n 0, 1) := by decide +kernel
theorem dX8_join_8 : decode cX8_join 8 = .ok (.getfield 11, 3) := by decide +kernel
theorem dX8_join_11 : decode cX8_join 11 = .ok (.iconst 2, 1) := by decide +kernel
theorem dX8_join_12 : decode cX8_join 12 = .ok (.aaload, 1) := by decide +kernel
theorem dX8_join_13 : decode cX8_join 13 = .ok (.invokevirtual 165, 3) := by decide +kernel
theorem dX8_join_16 : decode cX8_join 16 = .ok (.aload_n 0, 1) := by decide +kernel
theorem dX8_join_17 : decode cX8_join 17 = .ok (.getfield 48, 3) := by decide +kernel
theorem dX8_join_20 : decode cX8_join 20 = .ok (.getfield 173, 3) := by decide +kernel
theorem dX8_join_23 : decode cX8_join 23 = .ok (.ifCond .ne 61, 3) := by decide +kernel
theorem dX8_join_26 : decode cX8_join 26 = .ok (.aload_n 0, 1) := by decide +kernel
theorem dX8_join_27 : decode cX8_join 27 = .ok (.getfield 25, 3) := by decide +kernel
theorem dX8_join_30 : decode cX8_join 30 = .ok (.invokevirtual 82, 3) := by decide +kernel
theorem dX8_join_33 : decode cX8_join 33 = .ok (.aload_n 0, 1) := by decide +kernel
theorem dX8_join_34 : decode cX8_join 34 = .ok (.getfield 25, 3) := by decide +kernel
theorem dX8_join_37 : decode cX8_join 37 = .ok (.aload_n 0, 1) := by decide +kernel
theorem dX8_join_38 : decode cX8_join 38 = .ok (.getfield 48, 3) := by decide +kernel
theorem dX8_join_41 : decode cX8_join 41 = .ok (.getfield 176, 3) := by decide +kernel
theorem dX8_join_44 : decode cX8_join 44 = .ok (.invokevirtual 158, 3) := by decide +kernel
theorem dX8_join_47 : decode cX8_join 47 = .ok (.aload_n 0, 1) := by decide +kernel
theorem dX8_join_48 : decode cX8_join 48 = .ok (.getfield 48, 3) := by decide +kernel
theorem dX8_join_51 : decode cX8_join 51 = .ok (.getfield 236, 3) := by decide +kernel
theorem dX8_join_54 : decode cX8_join 54 = .ok (.iconst 0, 1) := by decide +kernel
theorem dX8_join_55 : decode cX8_join 55 = .ok (.aload_n 0, 1) := by decide +kernel
theorem dX8_join_56 : decode cX8_join 56 = .ok (.getfield 28, 3) := by decide +kernel
theorem dX8_join_59 : decode cX8_join 59 = .ok (.iconst 0, 1) := by decide +kernel
theorem dX8_join_60 : decode cX8_join 60 = .ok (.aload_n 0, 1) := by decide +kernel
theorem dX8_join_61 : decode cX8_join 61 = .ok (.getfield 25, 3) := by decide +kernel
theorem dX8_join_64 : decode cX8_join 64 = .ok (.getfield 92, 3) := by decide +kernel
theorem dX8_join_67 : decode cX8_join 67 = .ok (.invokestatic 239, 3) := by decide +kernel
theorem dX8_join_70 : decode cX8_join 70 = .ok (.aload_n 0, 1) := by decide +kernel
theorem dX8_join_71 : decode cX8_join 71 = .ok (.aload_n 0, 1) := by decide +kernel
theorem dX8_join_72 : decode cX8_join 72 = .ok (.getfield 25, 3) := by decide +kernel
theorem dX8_join_75 : decode cX8_join 75 = .ok (.aload_n 0, 1) := by decide +kernel
theorem dX8_join_76 : decode cX8_join 76 = .ok (.getfield 11, 3) := by decide +kernel
theorem dX8_join_79 : decode cX8_join 79 = .ok (.iconst 3, 1) := by decide +kernel
theorem dX8_join_80 : decode cX8_join 80 = .ok (.aaload, 1) := by decide +kernel
theorem dX8_join_81 : decode cX8_join 81 = .ok (.invokevirtual 165, 3) := by decide +kernel
theorem dX8_join_84 : decode cX8_join 84 = .ok (.aload_n 0, 1) := by decide +kernel
theorem dX8_join_85 : decode cX8_join 85 = .ok (.getfield 69, 3) := by decide +kernel
theorem dX8_join_88 : decode cX8_join 88 = .ok (.getfield 169, 3) := by decide +kernel
theorem dX8_join_91 : decode cX8_join 91 = .ok (.istore_n 1, 1) := by decide +kernel
theorem dX8_join_92 : decode cX8_join 92 = .ok (.aload_n 0, 1) := by decide +kernel
theorem dX8_join_93 : decode cX8_join 93 = .ok (.getfield 48, 3) := by decide +kernel
theorem dX8_join_96 : decode cX8_join 96 = .ok (.getfield 173, 3) := by decide +kernel
theorem dX8_join_99 : decode cX8_join 99 = .ok (.ifCond .eq 23, 3) := by decide +kernel
theorem dX8_join_102 : decode cX8_join 102 = .ok (.aload_n 0, 1) := by decide +kernel
theorem dX8_join_103 : decode cX8_join 103 = .ok (.iload_n 1, 1) := by decide +kernel
theorem dX8_join_104 : decode cX8_join 104 = .ok (.invokevirtual 170, 3) := by decide +kernel
theorem dX8_join_107 : decode cX8_join 107 = .ok (.aload_n 0, 1) := by decide +kernel
theorem dX8_join_108 : decode cX8_join 108 = .ok (.invokevirtual 162, 3) := by decide +kernel
theorem dX8_join_111 : decode cX8_join 111 = .ok (.bipush (-10), 2) := by decide +kernel
theorem dX8_join_113 : decode cX8_join 113 = .ok (.aload_n 0, 1) := by decide +kernel
theorem dX8_join_114 : decode cX8_join 114 = .ok (.getfield 48, 3) := by decide +kernel
theorem dX8_join_117 : decode cX8_join 117 = .ok (.getfield 173, 3) := by decide +kernel
theorem dX8_join_120 : decode cX8_join 120 = .ok (.isub, 1) := by decide +kernel
theorem dX8_join_121 : decode cX8_join 121 = .ok (.ireturn, 1) := by decide +kernel
theorem dX8_join_122 : decode cX8_join 122 = .ok (.aload_n 0, 1) := by decide +kernel
theorem dX8_join_123 : decode cX8_join 123 = .ok (.getfield 48, 3) := by decide +kernel
theorem dX8_join_126 : decode cX8_join 126 = .ok (.aload_n 0, 1) := by decide +kernel
theorem dX8_join_127 : decode cX8_join 127 = .ok (.getfield 28, 3) := by decide +kernel
theorem dX8_join_130 : decode cX8_join 130 = .ok (.aload_n 0, 1) := by decide +kernel
theorem dX8_join_131 : decode cX8_join 131 = .ok (.getfield 25, 3) := by decide +kernel
theorem dX8_join_134 : decode cX8_join 134 = .ok (.getfield 92, 3) := by decide +kernel
theorem dX8_join_137 : decode cX8_join 137 = .ok (.invokevirtual 245, 3) := by decide +kernel
theorem dX8_join_140 : decode cX8_join 140 = .ok (.aload_n 0, 1) := by decide +kernel
theorem dX8_join_141 : decode cX8_join 141 = .ok (.aload_n 0, 1) := by decide +kernel
theorem dX8_join_142 : decode cX8_join 142 = .ok (.getfield 18, 3) := by decide +kernel
theorem dX8_join_145 : decode cX8_join 145 = .ok (.iconst 0, 1) := by decide +kernel
theorem dX8_join_146 : decode cX8_join 146 = .ok (.invokevirtual 126, 3) := by decide +kernel
theorem dX8_join_149 : decode cX8_join 149 = .ok (.aload_n 0, 1) := by decide +kernel
theorem dX8_join_150 : decode cX8_join 150 = .ok (.getfield 58, 3) := by decide +kernel
theorem dX8_join_153 : decode cX8_join 153 = .ok (.aload_n 0, 1) := by decide +kernel
theorem dX8_join_154 : decode cX8_join 154 = .ok (.getfield 35, 3) := by decide +kernel
theorem dX8_join_157 : decode cX8_join 157 = .ok (.aload_n 0, 1) := by decide +kernel
theorem dX8_join_158 : decode cX8_join 158 = .ok (.getfield 11, 3) := by decide +kernel
theorem dX8_join_161 : decode cX8_join 161 = .ok (.iconst 0, 1) := by decide +kernel
theorem dX8_join_162 : decode cX8_join 162 = .ok (.aaload, 1) := by decide +kernel
theorem dX8_join_163 : decode cX8_join 163 = .ok (.getfield 92, 3) := by decide +kernel
theorem dX8_join_166 : decode cX8_join 166 = .ok (.aload_n 0, 1) := by decide +kernel
theorem dX8_join_167 : decode cX8_join 167 = .ok (.getfield 48, 3) := by decide +kernel
theorem dX8_join_170 : decode cX8_join 170 = .ok (.getfield 176, 3) := by decide +kernel
theorem dX8_join_173 : decode cX8_join 173 = .ok (.aload_n 0, 1) := by decide +kernel
theorem dX8_join_174 : decode cX8_join 174 = .ok (.getfield 48, 3) := by decide +kernel
theorem dX8_join_177 : decode cX8_join 177 = .ok (.getfield 236, 3) := by decide +kernel
theorem dX8_join_180 : decode cX8_join 180 = .ok (.invokevirtual 249, 3) := by decide +kernel
theorem dX8_join_183 : decode cX8_join 183 = .ok (.aload_n 0, 1) := by decide +kernel
theorem dX8_join_184 : decode cX8_join 184 = .ok (.getfield 18, 3) := by decide +kernel
theorem dX8_join_187 : decode cX8_join 187 = .ok (.getfield 141, 3) := by decide +kernel
theorem dX8_join_190 : decode cX8_join 190 = .ok (.ifCond .eq 6, 3) := by decide +kernel
theorem dX8_join_193 : decode cX8_join 193 = .ok (.bipush (-4), 2) := by decide +kernel
theorem dX8_join_195 : decode cX8_join 195 = .ok (.ireturn, 1) := by decide +kernel
theorem dX8_join_196 : decode cX8_join 196 = .ok (.aload_n 0, 1) := by decide +kernel
theorem dX8_join_197 : decode cX8_join 197 = .ok (.iload_n 1, 1) := by decide +kernel
theorem dX8_join_198 : decode cX8_join 198 = .ok (.invokevirtual 170, 3) := by decide +kernel
theorem dX8_join_201 : decode cX8_join 201 = .ok (.aload_n 0, 1) := by decide +kernel
theorem dX8_join_202 : decode cX8_join 202 = .ok (.invokevirtual 144, 3) := by decide +kernel
theorem dX8_join_205 : decode cX8_join 205 = .ok (.ireturn, 1) := by decide +kernel
theorem dX8_told_0 : decode cX8_told 0 = .ok (.iload_n 1, 1) := by decide +kernel
theorem dX8_told_1 : decode cX8_told 1 = .ok (.tableswitch 51 0 3 #[31, 36, 41, 46], 31) := by decide +kernel
theorem dX8_told_32 : decode cX8_told 32 = .ok (.aload_n 0, 1) := by decide +kernel
theorem dX8_told_33 : decode cX8_told 33 = .ok (.getfield 218, 3) := by decide +kernel
theorem dX8_told_36 : decode cX8_told 36 = .ok (.ireturn, 1) := by decide +kernel
theorem dX8_told_37 : decode cX8_told 37 = .ok (.aload_n 0, 1) := by decide +kernel
theorem dX8_told_38 : decode cX8_told 38 = .ok (.getfield 224, 3) := by decide +kernel
theorem dX8_told_41 : decode cX8_told 41 = .ok (.ireturn, 1) := by decide +kernel
theorem dX8_told_42 : decode cX8_told 42 = .ok (.aload_n 0, 1) := by decide +kernel
theorem dX8_told_43 : decode cX8_told 43 = .ok (.getfield 230, 3) := by decide +kernel
theorem dX8_told_46 : decode cX8_told 46 = .ok (.ireturn, 1) := by decide +kernel
theorem dX8_told_47 : decode cX8_told 47 = .ok (.aload_n 0, 1) := by decide +kernel
theorem dX8_told_48 : decode cX8_told 48 = .ok (.getfield 233, 3) := by decide +kernel
theorem dX8_told_51 : decode cX8_told 51 = .ok (.ireturn, 1) := by decide +kernel
theorem dX8_told_52 : decode cX8_told 52 = .ok (.bipush (-2), 2) := by decide +kernel
theorem dX8_told_54 : decode cX8_told 54 = .ok (.ireturn, 1) := by decide +kernel
theorem dX8_instruction_0 : decode cX8_instruction 0 = .ok (.aload_n 0, 1) := by decide +kernel
theorem dX8_instruction_1 : decode cX8_instruction 1 = .ok (.getfield 65, 3) := by decide +kernel
theorem dX8_instruction_4 : decode cX8_instruction 4 = .ok (.iload_n 1, 1) := by decide +kernel
theorem dX8_instruction_5 : decode cX8_instruction 5 = .ok (.invokevirtual 253, 3) := by decide +kernel
theorem dX8_instruction_8 : decode cX8_instruction 8 = .ok (.ifCond .ne 5, 3) := by decide +kernel
theorem dX8_instruction_11 : decode cX8_instruction 11 = .ok (.iconst (-1), 1) := by decide +kernel
theorem dX8_instruction_12 : decode cX8_instruction 12 = .ok (.ireturn, 1) := by decide +kernel
theorem dX8_instruction_13 : decode cX8_instruction 13 = .ok (.iload_n 2, 1) := by decide +kernel
theorem dX8_instruction_14 : decode cX8_instruction 14 = .ok (.ifCond .lt 9, 3) := by decide +kernel
theorem dX8_instruction_17 : decode cX8_instruction 17 = .ok (.iload_n 2, 1) := by decide +kernel
theorem dX8_instruction_18 : decode cX8_instruction 18 = .ok (.bipush 6, 2) := by decide +kernel
theorem dX8_instruction_20 : decode cX8_instruction 20 = .ok (.if_icmp .lt 8, 3) := by decide +kernel
theorem dX8_instruction_23 : decode cX8_instruction 23 = .ok (.bipush (-2), 2) := by decide +kernel
theorem dX8_instruction_25 : decode cX8_instruction 25 = .ok (.goto 12, 3) := by decide +kernel
theorem dX8_instruction_28 : decode cX8_instruction 28 = .ok (.aload_n 0, 1) := by decide +kernel
theorem dX8_instruction_29 : decode cX8_instruction 29 = .ok (.getfield 65, 3) := by decide +kernel
theorem dX8_instruction_32 : decode cX8_instruction 32 = .ok (.iload_n 1, 1) := by decide +kernel
theorem dX8_instruction_33 : decode cX8_instruction 33 = .ok (.iload_n 2, 1) := by decide +kernel
theorem dX8_instruction_34 : decode cX8_instruction 34 = .ok (.invokevirtual 254, 3) := by decide +kernel
theorem dX8_instruction_37 : decode cX8_instruction 37 = .ok (.ireturn, 1) := by decide +kernel
theorem dX8_isRow_0 : decode cX8_isRow 0 = .ok (.iload_n 0, 1) := by decide +kernel
theorem dX8_isRow_1 : decode cX8_isRow 1 = .ok (.ifCond .lt 12, 3) := by decide +kernel
theorem dX8_isRow_4 : decode cX8_isRow 4 = .ok (.iload_n 0, 1) := by decide +kernel
theorem dX8_isRow_5 : decode cX8_isRow 5 = .ok (.iconst 4, 1) := by decide +kernel
theorem dX8_isRow_6 : decode cX8_isRow 6 = .ok (.if_icmp .ge 7, 3) := by decide +kernel
theorem dX8_isRow_9 : decode cX8_isRow 9 = .ok (.iconst 1, 1) := by decide +kernel
theorem dX8_isRow_10 : decode cX8_isRow 10 = .ok (.goto 4, 3) := by decide +kernel
theorem dX8_isRow_13 : decode cX8_isRow 13 = .ok (.iconst 0, 1) := by decide +kernel
theorem dX8_isRow_14 : decode cX8_isRow 14 = .ok (.ireturn, 1) := by decide +kernel
theorem dX8_numberSize_0 : decode cX8_numberSize 0 = .ok (.iconst 1, 1) := by decide +kernel
theorem dX8_numberSize_1 : decode cX8_numberSize 1 = .ok (.istore_n 1, 1) := by decide +kernel
theorem dX8_numberSize_2 : decode cX8_numberSize 2 = .ok (.iload_n 1, 1) := by decide +kernel
theorem dX8_numberSize_3 : decode cX8_numberSize 3 = .ok (.iconst 5, 1) := by decide +kernel
theorem dX8_numberSize_4 : decode cX8_numberSize 4 = .ok (.if_icmp .ge 18, 3) := by decide +kernel
theorem dX8_numberSize_7 : decode cX8_numberSize 7 = .ok (.iload_n 0, 1) := by decide +kernel
theorem dX8_numberSize_8 : decode cX8_numberSize 8 = .ok (.bipush 7, 2) := by decide +kernel
theorem dX8_numberSize_10 : decode cX8_numberSize 10 = .ok (.iload_n 1, 1) := by decide +kernel
theorem dX8_numberSize_11 : decode cX8_numberSize 11 = .ok (.imul, 1) := by decide +kernel
theorem dX8_numberSize_12 : decode cX8_numberSize 12 = .ok (.iushr, 1) := by decide +kernel
theorem dX8_numberSize_13 : decode cX8_numberSize 13 = .ok (.ifCond .eq 9, 3) := by decide +kernel
theorem dX8_numberSize_16 : decode cX8_numberSize 16 = .ok (.iinc 1 1, 3) := by decide +kernel
theorem dX8_numberSize_19 : decode cX8_numberSize 19 = .ok (.goto (-17), 3) := by decide +kernel
theorem dX8_numberSize_22 : decode cX8_numberSize 22 = .ok (.iload_n 1, 1) := by decide +kernel
theorem dX8_numberSize_23 : decode cX8_numberSize 23 = .ok (.ireturn, 1) := by decide +kernel
theorem dJ9_max_7cf53_0 : decode cJ9_max_7cf53 0 = .ok (.iload_n 0, 1) := by decide +kernel
theorem dJ9_max_7cf53_1 : decode cJ9_max_7cf53 1 = .ok (.iload_n 1, 1) := by decide +kernel
theorem dJ9_max_7cf53_2 : decode cJ9_max_7cf53 2 = .ok (.if_icmp .lt 7, 3) := by decide +kernel
theorem dJ9_max_7cf53_5 : decode cJ9_max_7cf53 5 = .ok (.iload_n 0, 1) := by decide +kernel
theorem dJ9_max_7cf53_6 : decode cJ9_max_7cf53 6 = .ok (.goto 4, 3) := by decide +kernel
theorem dJ9_max_7cf53_9 : decode cJ9_max_7cf53 9 = .ok (.iload_n 1, 1) := by decide +kernel
theorem dJ9_max_7cf53_10 : decode cJ9_max_7cf53 10 = .ok (.ireturn, 1) := by decide +kernel
theorem dJ9_min_7cf53_0 : decode cJ9_min_7cf53 0 = .ok (.iload_n 0, 1) := by decide +kernel
theorem dJ9_min_7cf53_1 : decode cJ9_min_7cf53 1 = .ok (.iload_n 1, 1) := by decide +kernel
theorem dJ9_min_7cf53_2 : decode cJ9_min_7cf53 2 = .ok (.if_icmp .gt 7, 3) := by decide +kernel
theorem dJ9_min_7cf53_5 : decode cJ9_min_7cf53 5 = .ok (.iload_n 0, 1) := by decide +kernel
theorem dJ9_min_7cf53_6 : decode cJ9_min_7cf53 6 = .ok (.goto 4, 3) := by decide +kernel
theorem dJ9_min_7cf53_9 : decode cJ9_min_7cf53 9 = .ok (.iload_n 1, 1) := by decide +kernel
theorem dJ9_min_7cf53_10 : decode cJ9_min_7cf53 10 = .ok (.ireturn, 1) := by decide +kernel
theorem dJ7_fill_53178_0 : decode cJ7_fill_53178 0 = .ok (.iconst 0, 1) := by decide +kernel
theorem dJ7_fill_53178_1 : decode cJ7_fill_53178 1 = .ok (.istore_n 2, 1) := by decide +kernel
theorem dJ7_fill_53178_2 : decode cJ7_fill_53178 2 = .ok (.aload_n 0, 1) := by decide +kernel
theorem dJ7_fill_53178_3 : decode cJ7_fill_53178 3 = .ok (.arraylength, 1) := by decide +kernel
theorem dJ7_fill_53178_4 : decode cJ7_fill_53178 4 = .ok (.istore_n 3, 1) := by decide +kernel
theorem dJ7_fill_53178_5 : decode cJ7_fill_53178 5 = .ok (.iload_n 2, 1) := by decide +kernel
theorem dJ7_fill_53178_6 : decode cJ7_fill_53178 6 = .ok (.iload_n 3, 1) := by decide +kernel
theorem dJ7_fill_53178_7 : decode cJ7_fill_53178 7 = .ok (.if_icmp .ge 13, 3) := by decide +kernel
theorem dJ7_fill_53178_10 : decode cJ7_fill_53178 10 = .ok (.aload_n 0, 1) := by decide +kernel
theorem dJ7_fill_53178_11 : decode cJ7_fill_53178 11 = .ok (.iload_n 2, 1) := by decide +kernel
theorem dJ7_fill_53178_12 : decode cJ7_fill_53178 12 = .ok (.iload_n 1, 1) := by decide +kernel
theorem dJ7_fill_53178_13 : decode cJ7_fill_53178 13 = .ok (.iastore, 1) := by decide +kernel
theorem dJ7_fill_53178_14 : decode cJ7_fill_53178 14 = .ok (.iinc 2 1, 3) := by decide +kernel
theorem dJ7_fill_53178_17 : decode cJ7_fill_53178 17 = .ok (.goto (-12), 3) := by decide +kernel
theorem dJ7_fill_53178_20 : decode cJ7_fill_53178 20 = .ok (.return_, 1) := by decide +kernel
