theorem dX0_init_0 : decode cX0_init 0 = .ok (.aload_n 0, 1) := by decide +kernel
theorem dX0_init_1 : decode cX0_init 1 = .ok (.invokespecial 1, 3) := by decide +kernel
theorem dX0_init_4 : decode cX0_init 4 = .ok (.return_, 1) := by decide +kernel
theorem dX0_centre_0 : decode cX0_centre 0 = .ok (.iload_n 2, 1) := by decide +kernel
theorem dX0_centre_1 : decode cX0_centre 1 = .ok (.iload_n 1, 1) := by decide +kernel
theorem dX0_centre_2 : decode cX0_centre 2 = .ok (.iload_n 1, 1) := by decide +kernel
theorem dX0_centre_3 : decode cX0_centre 3 = .ok (.imul, 1) := by decide +kernel
theorem dX0_centre_4 : decode cX0_centre 4 = .ok (.iload_n 1, 1) := by decide +kernel
theorem dX0_centre_5 : decode cX0_centre 5 = .ok (.imul, 1) := by decide +kernel
theorem dX0_centre_6 : decode cX0_centre 6 = .ok (.iload_n 1, 1) := by decide +kernel
theorem dX0_centre_7 : decode cX0_centre 7 = .ok (.isub, 1) := by decide +kernel
theorem dX0_centre_8 : decode cX0_centre 8 = .ok (.imul, 1) := by decide +kernel
theorem dX0_centre_9 : decode cX0_centre 9 = .ok (.bipush 59, 2) := by decide +kernel
theorem dX0_centre_11 : decode cX0_centre 11 = .ok (.imul, 1) := by decide +kernel
theorem dX0_centre_12 : decode cX0_centre 12 = .ok (.ireturn, 1) := by decide +kernel
theorem dX1_init_0 : decode cX1_init 0 = .ok (.aload_n 0, 1) := by decide +kernel
theorem dX1_init_1 : decode cX1_init 1 = .ok (.invokespecial 1, 3) := by decide +kernel
theorem dX1_init_4 : decode cX1_init 4 = .ok (.return_, 1) := by decide +kernel
theorem dX1_slope_0 : decode cX1_slope 0 = .ok (.iload_n 1, 1) := by decide +kernel
theorem dX1_slope_1 : decode cX1_slope 1 = .ok (.iload_n 2, 1) := by decide +kernel
theorem dX1_slope_2 : decode cX1_slope 2 = .ok (.isub, 1) := by decide +kernel
theorem dX1_slope_3 : decode cX1_slope 3 = .ok (.ireturn, 1) := by decide +kernel
theorem dX1_centre_0 : decode cX1_centre 0 = .ok (.iconst 0, 1) := by decide +kernel
theorem dX1_centre_1 : decode cX1_centre 1 = .ok (.ireturn, 1) := by decide +kernel
theorem dX2_init_0 : decode cX2_init 0 = .ok (.aload_n 0, 1) := by decide +kernel
theorem dX2_init_1 : decode cX2_init 1 = .ok (.invokespecial 3, 3) := by decide +kernel
theorem dX2_init_4 : decode cX2_init 4 = .ok (.aload_n 0, 1) := by decide +kernel
theorem dX2_init_5 : decode cX2_init 5 = .ok (.bipush 84, 2) := by decide +kernel
theorem dX2_init_7 : decode cX2_init 7 = .ok (.newarray .int, 2) := by decide +kernel
theorem dX2_init_9 : decode cX2_init 9 = .ok (.putfield 11, 3) := by decide +kernel
theorem dX2_init_12 : decode cX2_init 12 = .ok (.aload_n 0, 1) := by decide +kernel
theorem dX2_init_13 : decode cX2_init 13 = .ok (.bipush 7, 2) := by decide +kernel
theorem dX2_init_15 : decode cX2_init 15 = .ok (.newarray .int, 2) := by decide +kernel
theorem dX2_init_17 : decode cX2_init 17 = .ok (.putfield 15, 3) := by decide +kernel
theorem dX2_init_20 : decode cX2_init 20 = .ok (.return_, 1) := by decide +kernel
theorem dX2_resize_0 : decode cX2_resize 0 = .ok (.aload_n 0, 1) := by decide +kernel
theorem dX2_resize_1 : decode cX2_resize 1 = .ok (.iload_n 1, 1) := by decide +kernel
theorem dX2_resize_2 : decode cX2_resize 2 = .ok (.putfield 18, 3) := by decide +kernel
theorem dX2_resize_5 : decode cX2_resize 5 = .ok (.aload_n 0, 1) := by decide +kernel
theorem dX2_resize_6 : decode cX2_resize 6 = .ok (.iload_n 2, 1) := by decide +kernel
theorem dX2_resize_7 : decode cX2_resize 7 = .ok (.putfield 22, 3) := by decide +kernel
theorem dX2_resize_10 : decode cX2_resize 10 = .ok (.return_, 1) := by decide +kernel
theorem dX2_store_0 : decode cX2_store 0 = .ok (.aload_n 0, 1) := by decide +kernel
theorem dX2_store_1 : decode cX2_store 1 = .ok (.getfield 11, 3) := by decide +kernel
theorem dX2_store_4 : decode cX2_store 4 = .ok (.iload_n 1, 1) := by decide +kernel
theorem dX2_store_5 : decode cX2_store 5 = .ok (.bipush 7, 2) := by decide +kernel
theorem dX2_store_7 : decode cX2_store 7 = .ok (.imul, 1) := by decide +kernel
theorem dX2_store_8 : decode cX2_store 8 = .ok (.iload_n 2, 1) := by decide +kernel
theorem dX2_store_9 : decode cX2_store 9 = .ok (.iadd, 1) := by decide +kernel
theorem dX2_store_10 : decode cX2_store 10 = .ok (.iload_n 3, 1) := by decide +kernel
theorem dX2_store_11 : decode cX2_store 11 = .ok (.iastore, 1) := by decide +kernel
theorem dX2_store_12 : decode cX2_store 12 = .ok (.return_, 1) := by decide +kernel
theorem dX2_reduce_0 : decode cX2_reduce 0 = .ok (.aload_n 0, 1) := by decide +kernel
theorem dX2_reduce_1 : decode cX2_reduce 1 = .ok (.iconst 0, 1) := by decide +kernel
theorem dX2_reduce_2 : decode cX2_reduce 2 = .ok (.putfield 25, 3) := by decide +kernel
theorem dX2_reduce_5 : decode cX2_reduce 5 = .ok (.aload_n 0, 1) := by decide +kernel
theorem dX2_reduce_6 : decode cX2_reduce 6 = .ok (.iconst 1, 1) := by decide +kernel
theorem dX2_reduce_7 : decode cX2_reduce 7 = .ok (.putfield 28, 3) := by decide +kernel
theorem dX2_reduce_10 : decode cX2_reduce 10 = .ok (.iconst 0, 1) := by decide +kernel
theorem dX2_reduce_11 : decode cX2_reduce 11 = .ok (.istore_n 1, 1) := by decide +kernel
theorem dX2_reduce_12 : decode cX2_reduce 12 = .ok (.iload_n 1, 1) := by decide +kernel
theorem dX2_reduce_13 : decode cX2_reduce 13 = .ok (.aload_n 0, 1) := by decide +kernel
theorem dX2_reduce_14 : decode cX2_reduce 14 = .ok (.getfield 22, 3) := by decide +kernel
theorem dX2_reduce_17 : decode cX2_reduce 17 = .ok (.if_icmp .ge 132, 3) := by decide +kernel
theorem dX2_reduce_20 : decode cX2_reduce 20 = .ok (.aload_n 0, 1) := by decide +kernel
theorem dX2_reduce_21 : decode cX2_reduce 21 = .ok (.iload_n 1, 1) := by decide +kernel
theorem dX2_reduce_22 : decode cX2_reduce 22 = .ok (.invokevirtual 31, 3) := by decide +kernel
theorem dX2_reduce_25 : decode cX2_reduce 25 = .ok (.istore_n 2, 1) := by decide +kernel
theorem dX2_reduce_26 : decode cX2_reduce 26 = .ok (.iload_n 2, 1) := by decide +kernel
theorem dX2_reduce_27 : decode cX2_reduce 27 = .ok (.ifCond .ge 18, 3) := by decide +kernel
theorem dX2_reduce_30 : decode cX2_reduce 30 = .ok (.aload_n 0, 1) := by decide +kernel
theorem dX2_reduce_31 : decode cX2_reduce 31 = .ok (.getfield 15, 3) := by decide +kernel
theorem dX2_reduce_34 : decode cX2_reduce 34 = .ok (.iload_n 1, 1) := by decide +kernel
theorem dX2_reduce_35 : decode cX2_reduce 35 = .ok (.iconst (-1), 1) := by decide +kernel
theorem dX2_reduce_36 : decode cX2_reduce 36 = .ok (.iastore, 1) := by decide +kernel
theorem dX2_reduce_37 : decode cX2_reduce 37 = .ok (.aload_n 0, 1) := by decide +kernel
theorem dX2_reduce_38 : decode cX2_reduce 38 = .ok (.iconst 0, 1) := by decide +kernel
theorem dX2_reduce_39 : decode cX2_reduce 39 = .ok (.putfield 28, 3) := by decide +kernel
theorem dX2_reduce_42 : decode cX2_reduce 42 = .ok (.goto 101, 3) := by decide +kernel
theorem dX2_reduce_45 : decode cX2_reduce 45 = .ok (.iload_n 2, 1) := by decide +kernel
theorem dX2_reduce_46 : decode cX2_reduce 46 = .ok (.aload_n 0, 1) := by decide +kernel
theorem dX2_reduce_47 : decode cX2_reduce 47 = .ok (.getfield 25, 3) := by decide +kernel
theorem dX2_reduce_50 : decode cX2_reduce 50 = .ok (.if_icmp .eq 24, 3) := by decide +kernel
theorem dX2_reduce_53 : decode cX2_reduce 53 = .ok (.aload_n 0, 1) := by decide +kernel
theorem dX2_reduce_54 : decode cX2_reduce 54 = .ok (.iload_n 2, 1) := by decide +kernel
theorem dX2_reduce_55 : decode cX2_reduce 55 = .ok (.aload_n 0, 1) := by decide +kernel
theorem dX2_reduce_56 : decode cX2_reduce 56 = .ok (.getfield 25, 3) := by decide +kernel
theorem dX2_reduce_59 : decode cX2_reduce 59 = .ok (.invokevirtual 35, 3) := by decide +kernel
theorem dX2_reduce_62 : decode cX2_reduce 62 = .ok (.aload_n 0, 1) := by decide +kernel
theorem dX2_reduce_63 : decode cX2_reduce 63 = .ok (.aload_n 0, 1) := by decide +kernel
theorem dX2_reduce_64 : decode cX2_reduce 64 = .ok (.getfield 28, 3) := by decide +kernel
theorem dX2_reduce_67 : decode cX2_reduce 67 = .ok (.ineg, 1) := by decide +kernel
theorem dX2_reduce_68 : decode cX2_reduce 68 = .ok (.invokestatic 39, 3) := by decide +kernel
theorem dX2_reduce_71 : decode cX2_reduce 71 = .ok (.putfield 28, 3) := by decide +kernel
theorem dX2_reduce_74 : decode cX2_reduce 74 = .ok (.aload_n 0, 1) := by decide +kernel
theorem dX2_reduce_75 : decode cX2_reduce 75 = .ok (.getfield 11, 3) := by decide +kernel
theorem dX2_reduce_78 : decode cX2_reduce 78 = .ok (.aload_n 0, 1) := by decide +kernel
theorem dX2_reduce_79 : decode cX2_reduce 79 = .ok (.getfield 25, 3) := by decide +kernel
theorem dX2_reduce_82 : decode cX2_reduce 82 = .ok (.bipush 7, 2) := by decide +kernel
theorem dX2_reduce_84 : decode cX2_reduce 84 = .ok (.imul, 1) := by decide +kernel
theorem dX2_reduce_85 : decode cX2_reduce 85 = .ok (.iload_n 1, 1) := by decide +kernel
theorem dX2_reduce_86 : decode cX2_reduce 86 = .ok (.iadd, 1) := by decide +kernel
theorem dX2_reduce_87 : decode cX2_reduce 87 = .ok (.iaload, 1) := by decide +kernel
theorem dX2_reduce_88 : decode cX2_reduce 88 = .ok (.istore_n 3, 1) := by decide +kernel
theorem dX2_reduce_89 : decode cX2_reduce 89 = .ok (.aload_n 0, 1) := by decide +kernel
theorem dX2_reduce_90 : decode cX2_reduce 90 = .ok (.aload_n 0, 1) := by decide +kernel
theorem dX2_reduce_91 : decode cX2_reduce 91 = .ok (.getfield 28, 3) := by decide +kernel
theorem dX2_reduce_94 : decode cX2_reduce 94 = .ok (.iload_n 3, 1) := by decide +kernel
theorem dX2_reduce_95 : decode cX2_reduce 95 = .ok (.imul, 1) := by decide +kernel
theorem dX2_reduce_96 : decode cX2_reduce 96 = .ok (.bipush 101, 2) := by decide +kernel
theorem dX2_reduce_98 : decode cX2_reduce 98 = .ok (.irem, 1) := by decide +kernel
theorem dX2_reduce_99 : decode cX2_reduce 99 = .ok (.putfield 28, 3) := by decide +kernel
theorem dX2_reduce_102 : decode cX2_reduce 102 = .ok (.aload_n 0, 1) := by decide +kernel
theorem dX2_reduce_103 : decode cX2_reduce 103 = .ok (.aload_n 0, 1) := by decide +kernel
theorem dX2_reduce_104 : decode cX2_reduce 104 = .ok (.getfield 25, 3) := by decide +kernel
theorem dX2_reduce_107 : decode cX2_reduce 107 = .ok (.iload_n 3, 1) := by decide +kernel
theorem dX2_reduce_108 : decode cX2_reduce 108 = .ok (.invokestatic 42, 3) := by decide +kernel
theorem dX2_reduce_111 : decode cX2_reduce 111 = .ok (.invokevirtual 45, 3) := by decide +kernel
theorem dX2_reduce_114 : decode cX2_reduce 114 = .ok (.aload_n 0, 1) := by decide +kernel
theorem dX2_reduce_115 : decode cX2_reduce 115 = .ok (.iload_n 1, 1) := by decide +kernel
theorem dX2_reduce_116 : decode cX2_reduce 116 = .ok (.aload_n 0, 1) := by decide +kernel
theorem dX2_reduce_117 : decode cX2_reduce 117 = .ok (.getfield 25, 3) := by decide +kernel
theorem dX2_reduce_120 : decode cX2_reduce 120 = .ok (.invokevirtual 48, 3) := by decide +kernel
theorem dX2_reduce_123 : decode cX2_reduce 123 = .ok (.aload_n 0, 1) := by decide +kernel
theorem dX2_reduce_124 : decode cX2_reduce 124 = .ok (.getfield 15, 3) := by decide +kernel
theorem dX2_reduce_127 : decode cX2_reduce 127 = .ok (.iload_n 1, 1) := by decide +kernel
theorem dX2_reduce_128 : decode cX2_reduce 128 = .ok (.aload_n 0, 1) := by decide +kernel
theorem dX2_reduce_129 : decode cX2_reduce 129 = .ok (.getfield 25, 3) := by decide +kernel
theorem dX2_reduce_132 : decode cX2_reduce 132 = .ok (.iastore, 1) := by decide +kernel
theorem dX2_reduce_133 : decode cX2_reduce 133 = .ok (.aload_n 0, 1) := by decide +kernel
theorem dX2_reduce_134 : decode cX2_reduce 134 = .ok (.dup, 1) := by decide +kernel
theorem dX2_reduce_135 : decode cX2_reduce 135 = .ok (.getfield 25, 3) := by decide +kernel
theorem dX2_reduce_138 : decode cX2_reduce 138 = .ok (.iconst 1, 1) := by decide +kernel
theorem dX2_reduce_139 : decode cX2_reduce 139 = .ok (.iadd, 1) := by decide +kernel
theorem dX2_reduce_140 : decode cX2_reduce 140 = .ok (.putfield 25, 3) := by decide +kernel
theorem dX2_reduce_143 : decode cX2_reduce 143 = .ok (.iinc 1 1, 3) := by decide +kernel
theorem dX2_reduce_146 : decode cX2_reduce 146 = .ok (.goto (-134), 3) := by decide +kernel
theorem dX2_reduce_149 : decode cX2_reduce 149 = .ok (.return_, 1) := by decide +kernel
theorem dX2_pivotRow_0 : decode cX2_pivotRow 0 = .ok (.aload_n 0, 1) := by decide +kernel
theorem dX2_pivotRow_1 : decode cX2_pivotRow 1 = .ok (.getfield 25, 3) := by decide +kernel
theorem dX2_pivotRow_4 : decode cX2_pivotRow 4 = .ok (.istore_n 2, 1) := by decide +kernel
theorem dX2_pivotRow_5 : decode cX2_pivotRow 5 = .ok (.iload_n 2, 1) := by decide +kernel
theorem dX2_pivotRow_6 : decode cX2_pivotRow 6 = .ok (.aload_n 0, 1) := by decide +kernel
theorem dX2_pivotRow_7 : decode cX2_pivotRow 7 = .ok (.getfield 18, 3) := by decide +kernel
theorem dX2_pivotRow_10 : decode cX2_pivotRow 10 = .ok (.if_icmp .ge 25, 3) := by decide +kernel
theorem dX2_pivotRow_13 : decode cX2_pivotRow 13 = .ok (.aload_n 0, 1) := by decide +kernel
theorem dX2_pivotRow_14 : decode cX2_pivotRow 14 = .ok (.getfield 11, 3) := by decide +kernel
theorem dX2_pivotRow_17 : decode cX2_pivotRow 17 = .ok (.iload_n 2, 1) := by decide +kernel
theorem dX2_pivotRow_18 : decode cX2_pivotRow 18 = .ok (.bipush 7, 2) := by decide +kernel
theorem dX2_pivotRow_20 : decode cX2_pivotRow 20 = .ok (.imul, 1) := by decide +kernel
theorem dX2_pivotRow_21 : decode cX2_pivotRow 21 = .ok (.iload_n 1, 1) := by decide +kernel
theorem dX2_pivotRow_22 : decode cX2_pivotRow 22 = .ok (.iadd, 1) := by decide +kernel
theorem dX2_pivotRow_23 : decode cX2_pivotRow 23 = .ok (.iaload, 1) := by decide +kernel
theorem dX2_pivotRow_24 : decode cX2_pivotRow 24 = .ok (.ifCond .eq 5, 3) := by decide +kernel
theorem dX2_pivotRow_27 : decode cX2_pivotRow 27 = .ok (.iload_n 2, 1) := by decide +kernel
theorem dX2_pivotRow_28 : decode cX2_pivotRow 28 = .ok (.ireturn, 1) := by decide +kernel
theorem dX2_pivotRow_29 : decode cX2_pivotRow 29 = .ok (.iinc 2 1, 3) := by decide +kernel
theorem dX2_pivotRow_32 : decode cX2_pivotRow 32 = .ok (.goto (-27), 3) := by decide +kernel
theorem dX2_pivotRow_35 : decode cX2_pivotRow 35 = .ok (.iconst (-1), 1) := by decide +kernel
theorem dX2_pivotRow_36 : decode cX2_pivotRow 36 = .ok (.ireturn, 1) := by decide +kernel
theorem dX2_exchange_0 : decode cX2_exchange 0 = .ok (.iconst 0, 1) := by decide +kernel
theorem dX2_exchange_1 : decode cX2_exchange 1 = .ok (.istore_n 3, 1) := by decide +kernel
theorem dX2_exchange_2 : decode cX2_exchange 2 = .ok (.iload_n 3, 1) := by decide +kernel
theorem dX2_exchange_3 : decode cX2_exchange 3 = .ok (.aload_n 0, 1) := by decide +kernel
theorem dX2_exchange_4 : decode cX2_exchange 4 = .ok (.getfield 22, 3) := by decide +kernel
theorem dX2_exchange_7 : decode cX2_exchange 7 = .ok (.if_icmp .ge 57, 3) := by decide +kernel
theorem dX2_exchange_10 : decode cX2_exchange 10 = .ok (.aload_n 0, 1) := by decide +kernel
theorem dX2_exchange_11 : decode cX2_exchange 11 = .ok (.getfield 11, 3) := by decide +kernel
theorem dX2_exchange_14 : decode cX2_exchange 14 = .ok (.iload_n 1, 1) := by decide +kernel
theorem dX2_exchange_15 : decode cX2_exchange 15 = .ok (.bipush 7, 2) := by decide +kernel
theorem dX2_exchange_17 : decode cX2_exchange 17 = .ok (.imul, 1) := by decide +kernel
theorem dX2_exchange_18 : decode cX2_exchange 18 = .ok (.iload_n 3, 1) := by decide +kernel
theorem dX2_exchange_19 : decode cX2_exchange 19 = .ok (.iadd, 1) := by decide +kernel
theorem dX2_exchange_20 : decode cX2_exchange 20 = .ok (.iaload, 1) := by decide +kernel
theorem dX2_exchange_21 : decode cX2_exchange 21 = .ok (.istore 4, 2) := by decide +kernel
theorem dX2_exchange_23 : decode cX2_exchange 23 = .ok (.aload_n 0, 1) := by decide +kernel
theorem dX2_exchange_24 : decode cX2_exchange 24 = .ok (.getfield 11, 3) := by decide +kernel
theorem dX2_exchange_27 : decode cX2_exchange 27 = .ok (.iload_n 1, 1) := by decide +kernel
theorem dX2_exchange_28 : decode cX2_exchange 28 = .ok (.bipush 7, 2) := by decide +kernel
theorem dX2_exchange_30 : decode cX2_exchange 30 = .ok (.imul, 1) := by decide +kernel
theorem dX2_exchange_31 : decode cX2_exchange 31 = .ok (.iload_n 3, 1) := by decide +kernel
theorem dX2_exchange_32 : decode cX2_exchange 32 = .ok (.iadd, 1) := by decide +kernel
theorem dX2_exchange_33 : decode cX2_exchange 33 = .ok (.aload_n 0, 1) := by decide +kernel
theorem dX2_exchange_34 : decode cX2_exchange 34 = .ok (.getfield 11, 3) := by decide +kernel
theorem dX2_exchange_37 : decode cX2_exchange 37 = .ok (.iload_n 2, 1) := by decide +kernel
theorem dX2_exchange_38 : decode cX2_exchange 38 = .ok (.bipush 7, 2) := by decide +kernel
theorem dX2_exchange_40 : decode cX2_exchange 40 = .ok (.imul, 1) := by decide +kernel
theorem dX2_exchange_41 : decode cX2_exchange 41 = .ok (.iload_n 3, 1) := by decide +kernel
theorem dX2_exchange_42 : decode cX2_exchange 42 = .ok (.iadd, 1) := by decide +kernel
theorem dX2_exchange_43 : decode cX2_exchange 43 = .ok (.iaload, 1) := by decide +kernel
theorem dX2_exchange_44 : decode cX2_exchange 44 = .ok (.iastore, 1) := by decide +kernel
theorem dX2_exchange_45 : decode cX2_exchange 45 = .ok (.aload_n 0, 1) := by decide +kernel
theorem dX2_exchange_46 : decode cX2_exchange 46 = .ok (.getfield 11, 3) := by decide +kernel
theorem dX2_exchange_49 : decode cX2_exchange 49 = .ok (.iload_n 2, 1) := by decide +kernel
theorem dX2_exchange_50 : decode cX2_exchange 50 = .ok (.bipush 7, 2) := by decide +kernel
theorem dX2_exchange_52 : decode cX2_exchange 52 = .ok (.imul, 1) := by decide +kernel
theorem dX2_exchange_53 : decode cX2_exchange 53 = .ok (.iload_n 3, 1) := by decide +kernel
theorem dX2_exchange_54 : decode cX2_exchange 54 = .ok (.iadd, 1) := by decide +kernel
theorem dX2_exchange_55 : decode cX2_exchange 55 = .ok (.iload 4, 2) := by decide +kernel
theorem dX2_exchange_57 : decode cX2_exchange 57 = .ok (.iastore, 1) := by decide +kernel
theorem dX2_exchange_58 : decode cX2_exchange 58 = .ok (.iinc 3 1, 3) := by decide +kernel
theorem dX2_exchange_61 : decode cX2_exchange 61 = .ok (.goto (-59), 3) := by decide +kernel
theorem dX2_exchange_64 : decode cX2_exchange 64 = .ok (.return_, 1) := by decide +kernel
theorem dX2_multiplyRow_0 : decode cX2_multiplyRow 0 = .ok (.iconst 0, 1) := by decide +kernel
theorem dX2_multiplyRow_1 : decode cX2_multiplyRow 1 = .ok (.istore_n 3, 1) := by decide +kernel
theorem dX2_multiplyRow_2 : decode cX2_multiplyRow 2 = .ok (.iload_n 3, 1) := by decide +kernel
theorem dX2_multiplyRow_3 : decode cX2_multiplyRow 3 = .ok (.aload_n 0, 1) := by decide +kernel
theorem dX2_multiplyRow_4 : decode cX2_multiplyRow 4 = .ok (.getfield 22, 3) := by decide +kernel
theorem dX2_multiplyRow_7 : decode cX2_multiplyRow 7 = .ok (.if_icmp .ge 36, 3) := by decide +kernel
theorem dX2_multiplyRow_10 : decode cX2_multiplyRow 10 = .ok (.aload_n 0, 1) := by decide +kernel
theorem dX2_multiplyRow_11 : decode cX2_multiplyRow 11 = .ok (.getfield 11, 3) := by decide +kernel
theorem dX2_multiplyRow_14 : decode cX2_multiplyRow 14 = .ok (.iload_n 1, 1) := by decide +kernel
theorem dX2_multiplyRow_15 : decode cX2_multiplyRow 15 = .ok (.bipush 7, 2) := by decide +kernel
theorem dX2_multiplyRow_17 : decode cX2_multiplyRow 17 = .ok (.imul, 1) := by decide +kernel
theorem dX2_multiplyRow_18 : decode cX2_multiplyRow 18 = .ok (.iload_n 3, 1) := by decide +kernel
theorem dX2_multiplyRow_19 : decode cX2_multiplyRow 19 = .ok (.iadd, 1) := by decide +kernel
theorem dX2_multiplyRow_20 : decode cX2_multiplyRow 20 = .ok (.aload_n 0, 1) := by decide +kernel
theorem dX2_multiplyRow_21 : decode cX2_multiplyRow 21 = .ok (.getfield 11, 3) := by decide +kernel
theorem dX2_multiplyRow_24 : decode cX2_multiplyRow 24 = .ok (.iload_n 1, 1) := by decide +kernel
theorem dX2_multiplyRow_25 : decode cX2_multiplyRow 25 = .ok (.bipush 7, 2) := by decide +kernel
theorem dX2_multiplyRow_27 : decode cX2_multiplyRow 27 = .ok (.imul, 1) := by decide +kernel
theorem dX2_multiplyRow_28 : decode cX2_multiplyRow 28 = .ok (.iload_n 3, 1) := by decide +kernel
theorem dX2_multiplyRow_29 : decode cX2_multiplyRow 29 = .ok (.iadd, 1) := by decide +kernel
theorem dX2_multiplyRow_30 : decode cX2_multiplyRow 30 = .ok (.iaload, 1) := by decide +kernel
theorem dX2_multiplyRow_31 : decode cX2_multiplyRow 31 = .ok (.iload_n 2, 1) := by decide +kernel
theorem dX2_multiplyRow_32 : decode cX2_multiplyRow 32 = .ok (.imul, 1) := by decide +kernel
theorem dX2_multiplyRow_33 : decode cX2_multiplyRow 33 = .ok (.bipush 101, 2) := by decide +kernel
theorem dX2_multiplyRow_35 : decode cX2_multiplyRow 35 = .ok (.irem, 1) := by decide +kernel
theorem dX2_multiplyRow_36 : decode cX2_multiplyRow 36 = .ok (.iastore, 1) := by decide +kernel
theorem dX2_multiplyRow_37 : decode cX2_multiplyRow 37 = .ok (.iinc 3 1, 3) := by decide +kernel
theorem dX2_multiplyRow_40 : decode cX2_multiplyRow 40 = .ok (.goto (-38), 3) := by decide +kernel
theorem dX2_multiplyRow_43 : decode cX2_multiplyRow 43 = .ok (.return_, 1) := by decide +kernel
theorem dX2_clearColumn_0 : decode cX2_clearColumn 0 = .ok (.iconst 0, 1) := by decide +kernel
theorem dX2_clearColumn_1 : decode cX2_clearColumn 1 = .ok (.istore_n 3, 1) := by decide +kernel
theorem dX2_clearColumn_2 : decode cX2_clearColumn 2 = .ok (.iload_n 3, 1) := by decide +kernel
theorem dX2_clearColumn_3 : decode cX2_clearColumn 3 = .ok (.aload_n 0, 1) := by decide +kernel
theorem dX2_clearColumn_4 : decode cX2_clearColumn 4 = .ok (.getfield 18, 3) := by decide +kernel
theorem dX2_clearColumn_7 : decode cX2_clearColumn 7 = .ok (.if_icmp .ge 105, 3) := by decide +kernel
theorem dX2_clearColumn_10 : decode cX2_clearColumn 10 = .ok (.bipush 101, 2) := by decide +kernel
theorem dX2_clearColumn_12 : decode cX2_clearColumn 12 = .ok (.aload_n 0, 1) := by decide +kernel
theorem dX2_clearColumn_13 : decode cX2_clearColumn 13 = .ok (.getfield 11, 3) := by decide +kernel
theorem dX2_clearColumn_16 : decode cX2_clearColumn 16 = .ok (.iload_n 3, 1) := by decide +kernel
theorem dX2_clearColumn_17 : decode cX2_clearColumn 17 = .ok (.bipush 7, 2) := by decide +kernel
theorem dX2_clearColumn_19 : decode cX2_clearColumn 19 = .ok (.imul, 1) := by decide +kernel
theorem dX2_clearColumn_20 : decode cX2_clearColumn 20 = .ok (.iload_n 1, 1) := by decide +kernel
theorem dX2_clearColumn_21 : decode cX2_clearColumn 21 = .ok (.iadd, 1) := by decide +kernel
theorem dX2_clearColumn_22 : decode cX2_clearColumn 22 = .ok (.iaload, 1) := by decide +kernel
theorem dX2_clearColumn_23 : decode cX2_clearColumn 23 = .ok (.isub, 1) := by decide +kernel
theorem dX2_clearColumn_24 : decode cX2_clearColumn 24 = .ok (.istore 4, 2) := by decide +kernel
theorem dX2_clearColumn_26 : decode cX2_clearColumn 26 = .ok (.iload_n 3, 1) := by decide +kernel
theorem dX2_clearColumn_27 : decode cX2_clearColumn 27 = .ok (.iload_n 2, 1) := by decide +kernel
theorem dX2_clearColumn_28 : decode cX2_clearColumn 28 = .ok (.if_icmp .eq 78, 3) := by decide +kernel
theorem dX2_clearColumn_31 : decode cX2_clearColumn 31 = .ok (.iload 4, 2) := by decide +kernel
theorem dX2_clearColumn_33 : decode cX2_clearColumn 33 = .ok (.bipush 101, 2) := by decide +kernel
theorem dX2_clearColumn_35 : decode cX2_clearColumn 35 = .ok (.if_icmp .ne 6, 3) := by decide +kernel
theorem dX2_clearColumn_38 : decode cX2_clearColumn 38 = .ok (.goto 68, 3) := by decide +kernel
theorem dX2_clearColumn_41 : decode cX2_clearColumn 41 = .ok (.iconst 0, 1) := by decide +kernel
theorem dX2_clearColumn_42 : decode cX2_clearColumn 42 = .ok (.istore 5, 2) := by decide +kernel
theorem dX2_clearColumn_44 : decode cX2_clearColumn 44 = .ok (.iload 5, 2) := by decide +kernel
theorem dX2_clearColumn_46 : decode cX2_clearColumn 46 = .ok (.aload_n 0, 1) := by decide +kernel
theorem dX2_clearColumn_47 : decode cX2_clearColumn 47 = .ok (.getfield 22, 3) := by decide +kernel
theorem dX2_clearColumn_50 : decode cX2_clearColumn 50 = .ok (.if_icmp .ge 56, 3) := by decide +kernel
theorem dX2_clearColumn_53 : decode cX2_clearColumn 53 = .ok (.aload_n 0, 1) := by decide +kernel
theorem dX2_clearColumn_54 : decode cX2_clearColumn 54 = .ok (.getfield 11, 3) := by decide +kernel
theorem dX2_clearColumn_57 : decode cX2_clearColumn 57 = .ok (.iload_n 3, 1) := by decide +kernel
theorem dX2_clearColumn_58 : decode cX2_clearColumn 58 = .ok (.bipush 7, 2) := by decide +kernel
theorem dX2_clearColumn_60 : decode cX2_clearColumn 60 = .ok (.imul, 1) := by decide +kernel
theorem dX2_clearColumn_61 : decode cX2_clearColumn 61 = .ok (.iload 5, 2) := by decide +kernel
theorem dX2_clearColumn_63 : decode cX2_clearColumn 63 = .ok (.iadd, 1) := by decide +kernel
theorem dX2_clearColumn_64 : decode cX2_clearColumn 64 = .ok (.iaload, 1) := by decide +kernel
theorem dX2_clearColumn_65 : decode cX2_clearColumn 65 = .ok (.iload 4, 2) := by decide +kernel
theorem dX2_clearColumn_67 : decode cX2_clearColumn 67 = .ok (.aload_n 0, 1) := by decide +kernel
theorem dX2_clearColumn_68 : decode cX2_clearColumn 68 = .ok (.getfield 11, 3) := by decide +kernel
theorem dX2_clearColumn_71 : decode cX2_clearColumn 71 = .ok (.iload_n 2, 1) := by decide +kernel
theorem dX2_clearColumn_72 : decode cX2_clearColumn 72 = .ok (.bipush 7, 2) := by decide +kernel
theorem dX2_clearColumn_74 : decode cX2_clearColumn 74 = .ok (.imul, 1) := by decide +kernel
theorem dX2_clearColumn_75 : decode cX2_clearColumn 75 = .ok (.iload 5, 2) := by decide +kernel
theorem dX2_clearColumn_77 : decode cX2_clearColumn 77 = .ok (.iadd, 1) := by decide +kernel
theorem dX2_clearColumn_78 : decode cX2_clearColumn 78 = .ok (.iaload, 1) := by decide +kernel
theorem dX2_clearColumn_79 : decode cX2_clearColumn 79 = .ok (.imul, 1) := by decide +kernel
theorem dX2_clearColumn_80 : decode cX2_clearColumn 80 = .ok (.iadd, 1) := by decide +kernel
theorem dX2_clearColumn_81 : decode cX2_clearColumn 81 = .ok (.istore 6, 2) := by decide +kernel
theorem dX2_clearColumn_83 : decode cX2_clearColumn 83 = .ok (.aload_n 0, 1) := by decide +kernel
theorem dX2_clearColumn_84 : decode cX2_clearColumn 84 = .ok (.getfield 11, 3) := by decide +kernel
theorem dX2_clearColumn_87 : decode cX2_clearColumn 87 = .ok (.iload_n 3, 1) := by decide +kernel
theorem dX2_clearColumn_88 : decode cX2_clearColumn 88 = .ok (.bipush 7, 2) := by decide +kernel
theorem dX2_clearColumn_90 : decode cX2_clearColumn 90 = .ok (.imul, 1) := by decide +kernel
theorem dX2_clearColumn_91 : decode cX2_clearColumn 91 = .ok (.iload 5, 2) := by decide +kernel
theorem dX2_clearColumn_93 : decode cX2_clearColumn 93 = .ok (.iadd, 1) := by decide +kernel
theorem dX2_clearColumn_94 : decode cX2_clearColumn 94 = .ok (.iload 6, 2) := by decide +kernel
theorem dX2_clearColumn_96 : decode cX2_clearColumn 96 = .ok (.bipush 101, 2) := by decide +kernel
theorem dX2_clearColumn_98 : decode cX2_clearColumn 98 = .ok (.irem, 1) := by decide +kernel
theorem dX2_clearColumn_99 : decode cX2_clearColumn 99 = .ok (.iastore, 1) := by decide +kernel
theorem dX2_clearColumn_100 : decode cX2_clearColumn 100 = .ok (.iinc 5 1, 3) := by decide +kernel
theorem dX2_clearColumn_103 : decode cX2_clearColumn 103 = .ok (.goto (-59), 3) := by decide +kernel
theorem dX2_clearColumn_106 : decode cX2_clearColumn 106 = .ok (.iinc 3 1, 3) := by decide +kernel
theorem dX2_clearColumn_109 : decode cX2_clearColumn 109 = .ok (.goto (-107), 3) := by decide +kernel
theorem dX2_clearColumn_112 : decode cX2_clearColumn 112 = .ok (.return_, 1) := by decide +kernel
theorem dX2_nullNumber_0 : decode cX2_nullNumber 0 = .ok (.aload_n 0, 1) := by decide +kernel
theorem dX2_nullNumber_1 : decode cX2_nullNumber 1 = .ok (.invokevirtual 51, 3) := by decide +kernel
theorem dX2_nullNumber_4 : decode cX2_nullNumber 4 = .ok (.istore_n 2, 1) := by decide +kernel
theorem dX2_nullNumber_5 : decode cX2_nullNumber 5 = .ok (.iconst 0, 1) := by decide +kernel
theorem dX2_nullNumber_6 : decode cX2_nullNumber 6 = .ok (.istore_n 3, 1) := by decide +kernel
theorem dX2_nullNumber_7 : decode cX2_nullNumber 7 = .ok (.iload_n 3, 1) := by decide +kernel
theorem dX2_nullNumber_8 : decode cX2_nullNumber 8 = .ok (.aload_n 0, 1) := by decide +kernel
theorem dX2_nullNumber_9 : decode cX2_nullNumber 9 = .ok (.getfield 22, 3) := by decide +kernel
theorem dX2_nullNumber_12 : decode cX2_nullNumber 12 = .ok (.if_icmp .ge 38, 3) := by decide +kernel
theorem dX2_nullNumber_15 : decode cX2_nullNumber 15 = .ok (.aload_n 0, 1) := by decide +kernel
theorem dX2_nullNumber_16 : decode cX2_nullNumber 16 = .ok (.iload_n 3, 1) := by decide +kernel
theorem dX2_nullNumber_17 : decode cX2_nullNumber 17 = .ok (.iload_n 2, 1) := by decide +kernel
theorem dX2_nullNumber_18 : decode cX2_nullNumber 18 = .ok (.invokevirtual 55, 3) := by decide +kernel
theorem dX2_nullNumber_21 : decode cX2_nullNumber 21 = .ok (.istore 4, 2) := by decide +kernel
theorem dX2_nullNumber_23 : decode cX2_nullNumber 23 = .ok (.iload 4, 2) := by decide +kernel
theorem dX2_nullNumber_25 : decode cX2_nullNumber 25 = .ok (.ifCond .eq 19, 3) := by decide +kernel
theorem dX2_nullNumber_28 : decode cX2_nullNumber 28 = .ok (.aload_n 0, 1) := by decide +kernel
theorem dX2_nullNumber_29 : decode cX2_nullNumber 29 = .ok (.iload_n 1, 1) := by decide +kernel
theorem dX2_nullNumber_30 : decode cX2_nullNumber 30 = .ok (.iload_n 2, 1) := by decide +kernel
theorem dX2_nullNumber_31 : decode cX2_nullNumber 31 = .ok (.invokevirtual 55, 3) := by decide +kernel
theorem dX2_nullNumber_34 : decode cX2_nullNumber 34 = .ok (.iload 4, 2) := by decide +kernel
theorem dX2_nullNumber_36 : decode cX2_nullNumber 36 = .ok (.invokestatic 42, 3) := by decide +kernel
theorem dX2_nullNumber_39 : decode cX2_nullNumber 39 = .ok (.imul, 1) := by decide +kernel
theorem dX2_nullNumber_40 : decode cX2_nullNumber 40 = .ok (.bipush 101, 2) := by decide +kernel
theorem dX2_nullNumber_42 : decode cX2_nullNumber 42 = .ok (.irem, 1) := by decide +kernel
theorem dX2_nullNumber_43 : decode cX2_nullNumber 43 = .ok (.ireturn, 1) := by decide +kernel
theorem dX2_nullNumber_44 : decode cX2_nullNumber 44 = .ok (.iinc 3 1, 3) := by decide +kernel
theorem dX2_nullNumber_47 : decode cX2_nullNumber 47 = .ok (.goto (-40), 3) := by decide +kernel
theorem dX2_nullNumber_50 : decode cX2_nullNumber 50 = .ok (.iconst 0, 1) := by decide +kernel
theorem dX2_nullNumber_51 : decode cX2_nullNumber 51 = .ok (.ireturn, 1) := by decide +kernel
theorem dX2_freeColumn_0 : decode cX2_freeColumn 0 = .ok (.iconst 0, 1) := by decide +kernel
theorem dX2_freeColumn_1 : decode cX2_freeColumn 1 = .ok (.istore_n 1, 1) := by decide +kernel
theorem dX2_freeColumn_2 : decode cX2_freeColumn 2 = .ok (.iload_n 1, 1) := by decide +kernel
theorem dX2_freeColumn_3 : decode cX2_freeColumn 3 = .ok (.aload_n 0, 1) := by decide +kernel
theorem dX2_freeColumn_4 : decode cX2_freeColumn 4 = .ok (.getfield 22, 3) := by decide +kernel
theorem dX2_freeColumn_7 : decode cX2_freeColumn 7 = .ok (.if_icmp .ge 20, 3) := by decide +kernel
theorem dX2_freeColumn_10 : decode cX2_freeColumn 10 = .ok (.aload_n 0, 1) := by decide +kernel
theorem dX2_freeColumn_11 : decode cX2_freeColumn 11 = .ok (.getfield 15, 3) := by decide +kernel
theorem dX2_freeColumn_14 : decode cX2_freeColumn 14 = .ok (.iload_n 1, 1) := by decide +kernel
theorem dX2_freeColumn_15 : decode cX2_freeColumn 15 = .ok (.iaload, 1) := by decide +kernel
theorem dX2_freeColumn_16 : decode cX2_freeColumn 16 = .ok (.ifCond .ge 5, 3) := by decide +kernel
theorem dX2_freeColumn_19 : decode cX2_freeColumn 19 = .ok (.iload_n 1, 1) := by decide +kernel
theorem dX2_freeColumn_20 : decode cX2_freeColumn 20 = .ok (.ireturn, 1) := by decide +kernel
theorem dX2_freeColumn_21 : decode cX2_freeColumn 21 = .ok (.iinc 1 1, 3) := by decide +kernel
theorem dX2_freeColumn_24 : decode cX2_freeColumn 24 = .ok (.goto (-22), 3) := by decide +kernel
theorem dX2_freeColumn_27 : decode cX2_freeColumn 27 = .ok (.iconst 0, 1) := by decide +kernel
theorem dX2_freeColumn_28 : decode cX2_freeColumn 28 = .ok (.ireturn, 1) := by decide +kernel
theorem dX2_rawNullNumber_0 : decode cX2_rawNullNumber 0 = .ok (.aload_n 0, 1) := by decide +kernel
theorem dX2_rawNullNumber_1 : decode cX2_rawNullNumber 1 = .ok (.getfield 15, 3) := by decide +kernel
theorem dX2_rawNullNumber_4 : decode cX2_rawNullNumber 4 = .ok (.iload_n 1, 1) := by decide +kernel
theorem dX2_rawNullNumber_5 : decode cX2_rawNullNumber 5 = .ok (.iaload, 1) := by decide +kernel
theorem dX2_rawNullNumber_6 : decode cX2_rawNullNumber 6 = .ok (.ifCond .ge 7, 3) := by decide +kernel
theorem dX2_rawNullNumber_9 : decode cX2_rawNullNumber 9 = .ok (.iconst 1, 1) := by decide +kernel
theorem dX2_rawNullNumber_10 : decode cX2_rawNullNumber 10 = .ok (.goto 23, 3) := by decide +kernel
theorem dX2_rawNullNumber_13 : decode cX2_rawNullNumber 13 = .ok (.aload_n 0, 1) := by decide +kernel
theorem dX2_rawNullNumber_14 : decode cX2_rawNullNumber 14 = .ok (.getfield 11, 3) := by decide +kernel
theorem dX2_rawNullNumber_17 : decode cX2_rawNullNumber 17 = .ok (.aload_n 0, 1) := by decide +kernel
theorem dX2_rawNullNumber_18 : decode cX2_rawNullNumber 18 = .ok (.getfield 15, 3) := by decide +kernel
theorem dX2_rawNullNumber_21 : decode cX2_rawNullNumber 21 = .ok (.iload_n 1, 1) := by decide +kernel
theorem dX2_rawNullNumber_22 : decode cX2_rawNullNumber 22 = .ok (.iaload, 1) := by decide +kernel
theorem dX2_rawNullNumber_23 : decode cX2_rawNullNumber 23 = .ok (.bipush 7, 2) := by decide +kernel
theorem dX2_rawNullNumber_25 : decode cX2_rawNullNumber 25 = .ok (.imul, 1) := by decide +kernel
theorem dX2_rawNullNumber_26 : decode cX2_rawNullNumber 26 = .ok (.iload_n 2, 1) := by decide +kernel
theorem dX2_rawNullNumber_27 : decode cX2_rawNullNumber 27 = .ok (.iadd, 1) := by decide +kernel
theorem dX2_rawNullNumber_28 : decode cX2_rawNullNumber 28 = .ok (.iaload, 1) := by decide +kernel
theorem dX2_rawNullNumber_29 : decode cX2_rawNullNumber 29 = .ok (.ineg, 1) := by decide +kernel
theorem dX2_rawNullNumber_30 : decode cX2_rawNullNumber 30 = .ok (.invokestatic 39, 3) := by decide +kernel
theorem dX2_rawNullNumber_33 : decode cX2_rawNullNumber 33 = .ok (.ireturn, 1) := by decide +kernel
theorem dX3_init_0 : decode cX3_init 0 = .ok (.aload_n 0, 1) := by decide +kernel
theorem dX3_init_1 : decode cX3_init 1 = .ok (.invokespecial 3, 3) := by decide +kernel
theorem dX3_init_4 : decode cX3_init 4 = .ok (.aload_n 0, 1) := by decide +kernel
theorem dX3_init_5 : decode cX3_init 5 = .ok (.iconst 5, 1) := by decide +kernel
theorem dX3_init_6 : decode cX3_init 6 = .ok (.anewarray 9, 3) := by decide +kernel
theorem dX3_init_9 : decode cX3_init 9 = .ok (.dup, 1) := by decide +kernel
theorem dX3_init_10 : decode cX3_init 10 = .ok (.iconst 0, 1) := by decide +kernel
theorem dX3_init_11 : decode cX3_init 11 = .ok (.new 9, 3) := by decide +kernel
theorem dX3_init_14 : decode cX3_init 14 = .ok (.dup, 1) := by decide +kernel
theorem dX3_init_15 : decode cX3_init 15 = .ok (.invokespecial 11, 3) := by decide +kernel
theorem dX3_init_18 : decode cX3_init 18 = .ok (.aastore, 1) := by decide +kernel
theorem dX3_init_19 : decode cX3_init 19 = .ok (.dup, 1) := by decide +kernel
theorem dX3_init_20 : decode cX3_init 20 = .ok (.iconst 1, 1) := by decide +kernel
theorem dX3_init_21 : decode cX3_init 21 = .ok (.new 12, 3) := by decide +kernel
theorem dX3_init_24 : decode cX3_init 24 = .ok (.dup, 1) := by decide +kernel
theorem dX3_init_25 : decode cX3_init 25 = .ok (.invokespecial 14, 3) := by decide +kernel
theorem dX3_init_28 : decode cX3_init 28 = .ok (.aastore, 1) := by decide +kernel
theorem dX3_init_29 : decode cX3_init 29 = .ok (.dup, 1) := by decide +kernel
theorem dX3_init_30 : decode cX3_init 30 = .ok (.iconst 2, 1) := by decide +kernel
theorem dX3_init_31 : decode cX3_init 31 = .ok (.new 15, 3) := by decide +kernel
theorem dX3_init_34 : decode cX3_init 34 = .ok (.dup, 1) := by decide +kernel
theorem dX3_init_35 : decode cX3_init 35 = .ok (.invokespecial 17, 3) := by decide +kernel
theorem dX3_init_38 : decode cX3_init 38 = .ok (.aastore, 1) := by decide +kernel
theorem dX3_init_39 : decode cX3_init 39 = .ok (.dup, 1) := by decide +kernel
theorem dX3_init_40 : decode cX3_init 40 = .ok (.iconst 3, 1) := by decide +kernel
theorem dX3_init_41 : decode cX3_init 41 = .ok (.new 18, 3) := by decide +kernel
theorem dX3_init_44 : decode cX3_init 44 = .ok (.dup, 1) := by decide +kernel
theorem dX3_init_45 : decode cX3_init 45 = .ok (.invokespecial 20, 3) := by decide +kernel
theorem dX3_init_48 : decode cX3_init 48 = .ok (.aastore, 1) := by decide +kernel
theorem dX3_init_49 : decode cX3_init 49 = .ok (.dup, 1) := by decide +kernel
theorem dX3_init_50 : decode cX3_init 50 = .ok (.iconst 4, 1) := by decide +kernel
theorem dX3_init_51 : decode cX3_init 51 = .ok (.new 21, 3) := by decide +kernel
theorem dX3_init_54 : decode cX3_init 54 = .ok (.dup, 1) := by decide +kernel
theorem dX3_init_55 : decode cX3_init 55 = .ok (.invokespecial 23, 3) := by decide +kernel
theorem dX3_init_58 : decode cX3_init 58 = .ok (.aastore, 1) := by decide +kernel
theorem dX3_init_59 : decode cX3_init 59 = .ok (.putfield 24, 3) := by decide +kernel
theorem dX3_init_62 : decode cX3_init 62 = .ok (.aload_n 0, 1) := by decide +kernel
theorem dX3_init_63 : decode cX3_init 63 = .ok (.iconst 4, 1) := by decide +kernel
theorem dX3_init_64 : decode cX3_init 64 = .ok (.newarray .int, 2) := by decide +kernel
theorem dX3_init_66 : decode cX3_init 66 = .ok (.putfield 30, 3) := by decide +kernel
theorem dX3_init_69 : decode cX3_init 69 = .ok (.aload_n 0, 1) := by decide +kernel
theorem dX3_init_70 : decode cX3_init 70 = .ok (.iconst (-1), 1) := by decide +kernel
theorem dX3_init_71 : decode cX3_init 71 = .ok (.putfield 34, 3) := by decide +kernel
theorem dX3_init_74 : decode cX3_init 74 = .ok (.aload_n 0, 1) := by decide +kernel
theorem dX3_init_75 : decode cX3_init 75 = .ok (.sipush 361, 3) := by decide +kernel
theorem dX3_init_78 : decode cX3_init 78 = .ok (.newarray .int, 2) := by decide +kernel
theorem dX3_init_80 : decode cX3_init 80 = .ok (.putfield 38, 3) := by decide +kernel
theorem dX3_init_83 : decode cX3_init 83 = .ok (.aload_n 0, 1) := by decide +kernel
theorem dX3_init_84 : decode cX3_init 84 = .ok (.sipush 361, 3) := by decide +kernel
theorem dX3_init_87 : decode cX3_init 87 = .ok (.newarray .int, 2) := by decide +kernel
theorem dX3_init_89 : decode cX3_init 89 = .ok (.putfield 41, 3) := by decide +kernel
theorem dX3_init_92 : decode cX3_init 92 = .ok (.aload_n 0, 1) := by decide +kernel
theorem dX3_init_93 : decode cX3_init 93 = .ok (.bipush 7, 2) := by decide +kernel
theorem dX3_init_95 : decode cX3_init 95 = .ok (.newarray .int, 2) := by decide +kernel
theorem dX3_init_97 : decode cX3_init 97 = .ok (.putfield 44, 3) := by decide +kernel
theorem dX3_init_100 : decode cX3_init 100 = .ok (.aload_n 0, 1) := by decide +kernel
theorem dX3_init_101 : decode cX3_init 101 = .ok (.new 47, 3) := by decide +kernel
theorem dX3_init_104 : decode cX3_init 104 = .ok (.dup, 1) := by decide +kernel
theorem dX3_init_105 : decode cX3_init 105 = .ok (.invokespecial 49, 3) := by decide +kernel
theorem dX3_init_108 : decode cX3_init 108 = .ok (.putfield 50, 3) := by decide +kernel
theorem dX3_init_111 : decode cX3_init 111 = .ok (.return_, 1) := by decide +kernel
theorem dX3_kindOf_0 : decode cX3_kindOf 0 = .ok (.aload_n 0, 1) := by decide +kernel
theorem dX3_kindOf_1 : decode cX3_kindOf 1 = .ok (.getfield 24, 3) := by decide +kernel
theorem dX3_kindOf_4 : decode cX3_kindOf 4 = .ok (.aload_n 1, 1) := by decide +kernel
theorem dX3_kindOf_5 : decode cX3_kindOf 5 = .ok (.iconst 0, 1) := by decide +kernel
theorem dX3_kindOf_6 : decode cX3_kindOf 6 = .ok (.iaload, 1) := by decide +kernel
theorem dX3_kindOf_7 : decode cX3_kindOf 7 = .ok (.aaload, 1) := by decide +kernel
theorem dX3_kindOf_8 : decode cX3_kindOf 8 = .ok (.areturn, 1) := by decide +kernel
theorem dX3_made_0 : decode cX3_made 0 = .ok (.aload_n 0, 1) := by decide +kernel
theorem dX3_made_1 : decode cX3_made 1 = .ok (.getfield 38, 3) := by decide +kernel
theorem dX3_made_4 : decode cX3_made 4 = .ok (.iload_n 1, 1) := by decide +kernel
theorem dX3_made_5 : decode cX3_made 5 = .ok (.bipush 19, 2) := by decide +kernel
theorem dX3_made_7 : decode cX3_made 7 = .ok (.imul, 1) := by decide +kernel
theorem dX3_made_8 : decode cX3_made 8 = .ok (.iload_n 2, 1) := by decide +kernel
theorem dX3_made_9 : decode cX3_made 9 = .ok (.iadd, 1) := by decide +kernel
theorem dX3_made_10 : decode cX3_made 10 = .ok (.iaload, 1) := by decide +kernel
theorem dX3_made_11 : decode cX3_made 11 = .ok (.ireturn, 1) := by decide +kernel
theorem dX3_formed_0 : decode cX3_formed 0 = .ok (.aload_n 0, 1) := by decide +kernel
theorem dX3_formed_1 : decode cX3_formed 1 = .ok (.getfield 41, 3) := by decide +kernel
theorem dX3_formed_4 : decode cX3_formed 4 = .ok (.iload_n 1, 1) := by decide +kernel
theorem dX3_formed_5 : decode cX3_formed 5 = .ok (.bipush 19, 2) := by decide +kernel
theorem dX3_formed_7 : decode cX3_formed 7 = .ok (.imul, 1) := by decide +kernel
theorem dX3_formed_8 : decode cX3_formed 8 = .ok (.iload_n 2, 1) := by decide +kernel
theorem dX3_formed_9 : decode cX3_formed 9 = .ok (.iadd, 1) := by decide +kernel
theorem dX3_formed_10 : decode cX3_formed 10 = .ok (.iaload, 1) := by decide +kernel
theorem dX3_formed_11 : decode cX3_formed 11 = .ok (.ireturn, 1) := by decide +kernel
theorem dX3_build_0 : decode cX3_build 0 = .ok (.iload_n 2, 1) := by decide +kernel
theorem dX3_build_1 : decode cX3_build 1 = .ok (.aload_n 0, 1) := by decide +kernel
theorem dX3_build_2 : decode cX3_build 2 = .ok (.getfield 34, 3) := by decide +kernel
theorem dX3_build_5 : decode cX3_build 5 = .ok (.if_icmp .gt 12, 3) := by decide +kernel
theorem dX3_build_8 : decode cX3_build 8 = .ok (.aload_n 0, 1) := by decide +kernel
theorem dX3_build_9 : decode cX3_build 9 = .ok (.aload_n 1, 1) := by decide +kernel
theorem dX3_build_10 : decode cX3_build 10 = .ok (.invokevirtual 54, 3) := by decide +kernel
theorem dX3_build_13 : decode cX3_build 13 = .ok (.ifCond .eq 4, 3) := by decide +kernel
theorem dX3_build_16 : decode cX3_build 16 = .ok (.return_, 1) := by decide +kernel
theorem dX3_build_17 : decode cX3_build 17 = .ok (.aload_n 1, 1) := by decide +kernel
theorem dX3_build_18 : decode cX3_build 18 = .ok (.iconst 0, 1) := by decide +kernel
theorem dX3_build_19 : decode cX3_build 19 = .ok (.aload_n 0, 1) := by decide +kernel
theorem dX3_build_20 : decode cX3_build 20 = .ok (.getfield 30, 3) := by decide +kernel
theorem dX3_build_23 : decode cX3_build 23 = .ok (.iconst 0, 1) := by decide +kernel
theorem dX3_build_24 : decode cX3_build 24 = .ok (.iconst 4, 1) := by decide +kernel
theorem dX3_build_25 : decode cX3_build 25 = .ok (.invokestatic 58, 3) := by decide +kernel
theorem dX3_build_28 : decode cX3_build 28 = .ok (.aload_n 0, 1) := by decide +kernel
theorem dX3_build_29 : decode cX3_build 29 = .ok (.iload_n 2, 1) := by decide +kernel
theorem dX3_build_30 : decode cX3_build 30 = .ok (.putfield 34, 3) := by decide +kernel
theorem dX3_build_33 : decode cX3_build 33 = .ok (.iconst 0, 1) := by decide +kernel
theorem dX3_build_34 : decode cX3_build 34 = .ok (.istore_n 3, 1) := by decide +kernel
theorem dX3_build_35 : decode cX3_build 35 = .ok (.iload_n 3, 1) := by decide +kernel
theorem dX3_build_36 : decode cX3_build 36 = .ok (.iload_n 2, 1) := by decide +kernel
theorem dX3_build_37 : decode cX3_build 37 = .ok (.if_icmp .gt 63, 3) := by decide +kernel
theorem dX3_build_40 : decode cX3_build 40 = .ok (.getstatic 64, 3) := by decide +kernel
theorem dX3_build_43 : decode cX3_build 43 = .ok (.iload_n 3, 1) := by decide +kernel
theorem dX3_build_44 : decode cX3_build 44 = .ok (.iaload, 1) := by decide +kernel
theorem dX3_build_45 : decode cX3_build 45 = .ok (.istore 4, 2) := by decide +kernel
theorem dX3_build_47 : decode cX3_build 47 = .ok (.iload 4, 2) := by decide +kernel
theorem dX3_build_49 : decode cX3_build 49 = .ok (.getstatic 64, 3) := by decide +kernel
theorem dX3_build_52 : decode cX3_build 52 = .ok (.iload_n 3, 1) := by decide +kernel
theorem dX3_build_53 : decode cX3_build 53 = .ok (.iconst 1, 1) := by decide +kernel
theorem dX3_build_54 : decode cX3_build 54 = .ok (.iadd, 1) := by decide +kernel
theorem dX3_build_55 : decode cX3_build 55 = .ok (.iaload, 1) := by decide +kernel
theorem dX3_build_56 : decode cX3_build 56 = .ok (.if_icmp .ge 33, 3) := by decide +kernel
theorem dX3_build_59 : decode cX3_build 59 = .ok (.iconst 0, 1) := by decide +kernel
theorem dX3_build_60 : decode cX3_build 60 = .ok (.istore 5, 2) := by decide +kernel
theorem dX3_build_62 : decode cX3_build 62 = .ok (.iload 5, 2) := by decide +kernel
theorem dX3_build_64 : decode cX3_build 64 = .ok (.iload_n 2, 1) := by decide +kernel
theorem dX3_build_65 : decode cX3_build 65 = .ok (.if_icmp .gt 18, 3) := by decide +kernel
theorem dX3_build_68 : decode cX3_build 68 = .ok (.aload_n 0, 1) := by decide +kernel
theorem dX3_build_69 : decode cX3_build 69 = .ok (.iload 4, 2) := by decide +kernel
theorem dX3_build_71 : decode cX3_build 71 = .ok (.iload_n 3, 1) := by decide +kernel
theorem dX3_build_72 : decode cX3_build 72 = .ok (.iload 5, 2) := by decide +kernel
theorem dX3_build_74 : decode cX3_build 74 = .ok (.invokevirtual 67, 3) := by decide +kernel
theorem dX3_build_77 : decode cX3_build 77 = .ok (.iinc 5 1, 3) := by decide +kernel
theorem dX3_build_80 : decode cX3_build 80 = .ok (.goto (-18), 3) := by decide +kernel
theorem dX3_build_83 : decode cX3_build 83 = .ok (.iinc 4 1, 3) := by decide +kernel
theorem dX3_build_86 : decode cX3_build 86 = .ok (.goto (-39), 3) := by decide +kernel
theorem dX3_build_89 : decode cX3_build 89 = .ok (.aload_n 0, 1) := by decide +kernel
theorem dX3_build_90 : decode cX3_build 90 = .ok (.iload_n 3, 1) := by decide +kernel
theorem dX3_build_91 : decode cX3_build 91 = .ok (.invokevirtual 71, 3) := by decide +kernel
theorem dX3_build_94 : decode cX3_build 94 = .ok (.iinc 3 1, 3) := by decide +kernel
theorem dX3_build_97 : decode cX3_build 97 = .ok (.goto (-62), 3) := by decide +kernel
theorem dX3_build_100 : decode cX3_build 100 = .ok (.return_, 1) := by decide +kernel
theorem dX3_isBuilt_0 : decode cX3_isBuilt 0 = .ok (.iconst 0, 1) := by decide +kernel
theorem dX3_isBuilt_1 : decode cX3_isBuilt 1 = .ok (.istore_n 2, 1) := by decide +kernel
theorem dX3_isBuilt_2 : decode cX3_isBuilt 2 = .ok (.iload_n 2, 1) := by decide +kernel
theorem dX3_isBuilt_3 : decode cX3_isBuilt 3 = .ok (.iconst 4, 1) := by decide +kernel
theorem dX3_isBuilt_4 : decode cX3_isBuilt 4 = .ok (.if_icmp .ge 23, 3) := by decide +kernel
theorem dX3_isBuilt_7 : decode cX3_isBuilt 7 = .ok (.aload_n 0, 1) := by decide +kernel
theorem dX3_isBuilt_8 : decode cX3_isBuilt 8 = .ok (.getfield 30, 3) := by decide +kernel
theorem dX3_isBuilt_11 : decode cX3_isBuilt 11 = .ok (.iload_n 2, 1) := by decide +kernel
theorem dX3_isBuilt_12 : decode cX3_isBuilt 12 = .ok (.iaload, 1) := by decide +kernel
theorem dX3_isBuilt_13 : decode cX3_isBuilt 13 = .ok (.aload_n 1, 1) := by decide +kernel
theorem dX3_isBuilt_14 : decode cX3_isBuilt 14 = .ok (.iload_n 2, 1) := by decide +kernel
theorem dX3_isBuilt_15 : decode cX3_isBuilt 15 = .ok (.iaload, 1) := by decide +kernel
theorem dX3_isBuilt_16 : decode cX3_isBuilt 16 = .ok (.if_icmp .eq 5, 3) := by decide +kernel
theorem dX3_isBuilt_19 : decode cX3_isBuilt 19 = .ok (.iconst 0, 1) := by decide +kernel
theorem dX3_isBuilt_20 : decode cX3_isBuilt 20 = .ok (.ireturn, 1) := by decide +kernel
theorem dX3_isBuilt_21 : decode cX3_isBuilt 21 = .ok (.iinc 2 1, 3) := by decide +kernel
theorem dX3_isBuilt_24 : decode cX3_isBuilt 24 = .ok (.goto (-22), 3) := by decide +kernel
theorem dX3_isBuilt_27 : decode cX3_isBuilt 27 = .ok (.iconst 1, 1) := by decide +kernel
theorem dX3_isBuilt_28 : decode cX3_isBuilt 28 = .ok (.ireturn, 1) := by decide +kernel
theorem dX3_fillActs_0 : decode cX3_fillActs 0 = .ok (.iload_n 2, 1) := by decide +kernel
theorem dX3_fillActs_1 : decode cX3_fillActs 1 = .ok (.iload_n 3, 1) := by decide +kernel
theorem dX3_fillActs_2 : decode cX3_fillActs 2 = .ok (.isub, 1) := by decide +kernel
theorem dX3_fillActs_3 : decode cX3_fillActs 3 = .ok (.istore 4, 2) := by decide +kernel
theorem dX3_fillActs_5 : decode cX3_fillActs 5 = .ok (.iload_n 1, 1) := by decide +kernel
theorem dX3_fillActs_6 : decode cX3_fillActs 6 = .ok (.bipush 19, 2) := by decide +kernel
theorem dX3_fillActs_8 : decode cX3_fillActs 8 = .ok (.imul, 1) := by decide +kernel
theorem dX3_fillActs_9 : decode cX3_fillActs 9 = .ok (.istore 5, 2) := by decide +kernel
theorem dX3_fillActs_11 : decode cX3_fillActs 11 = .ok (.getstatic 64, 3) := by decide +kernel
theorem dX3_fillActs_14 : decode cX3_fillActs 14 = .ok (.iload_n 3, 1) := by decide +kernel
theorem dX3_fillActs_15 : decode cX3_fillActs 15 = .ok (.iaload, 1) := by decide +kernel
theorem dX3_fillActs_16 : decode cX3_fillActs 16 = .ok (.istore 6, 2) := by decide +kernel
theorem dX3_fillActs_18 : decode cX3_fillActs 18 = .ok (.iload 6, 2) := by decide +kernel
theorem dX3_fillActs_20 : decode cX3_fillActs 20 = .ok (.getstatic 64, 3) := by decide +kernel
theorem dX3_fillActs_23 : decode cX3_fillActs 23 = .ok (.iload_n 3, 1) := by decide +kernel
theorem dX3_fillActs_24 : decode cX3_fillActs 24 = .ok (.iconst 1, 1) := by decide +kernel
theorem dX3_fillActs_25 : decode cX3_fillActs 25 = .ok (.iadd, 1) := by decide +kernel
theorem dX3_fillActs_26 : decode cX3_fillActs 26 = .ok (.iaload, 1) := by decide +kernel
theorem dX3_fillActs_27 : decode cX3_fillActs 27 = .ok (.if_icmp .ge 20, 3) := by decide +kernel
theorem dX3_fillActs_30 : decode cX3_fillActs 30 = .ok (.aload_n 0, 1) := by decide +kernel
theorem dX3_fillActs_31 : decode cX3_fillActs 31 = .ok (.getfield 38, 3) := by decide +kernel
theorem dX3_fillActs_34 : decode cX3_fillActs 34 = .ok (.iload 5, 2) := by decide +kernel
theorem dX3_fillActs_36 : decode cX3_fillActs 36 = .ok (.iload 6, 2) := by decide +kernel
theorem dX3_fillActs_38 : decode cX3_fillActs 38 = .ok (.iadd, 1) := by decide +kernel
theorem dX3_fillActs_39 : decode cX3_fillActs 39 = .ok (.iconst 0, 1) := by decide +kernel
theorem dX3_fillActs_40 : decode cX3_fillActs 40 = .ok (.iastore, 1) := by decide +kernel
theorem dX3_fillActs_41 : decode cX3_fillActs 41 = .ok (.iinc 6 1, 3) := by decide +kernel
theorem dX3_fillActs_44 : decode cX3_fillActs 44 = .ok (.goto (-26), 3) := by decide +kernel
theorem dX3_fillActs_47 : decode cX3_fillActs 47 = .ok (.iload_n 1, 1) := by decide +kernel
theorem dX3_fillActs_48 : decode cX3_fillActs 48 = .ok (.ifCond .ne 28, 3) := by decide +kernel
theorem dX3_fillActs_51 : decode cX3_fillActs 51 = .ok (.aload_n 0, 1) := by decide +kernel
theorem dX3_fillActs_52 : decode cX3_fillActs 52 = .ok (.getfield 38, 3) := by decide +kernel
theorem dX3_fillActs_55 : decode cX3_fillActs 55 = .ok (.getstatic 64, 3) := by decide +kernel
theorem dX3_fillActs_58 : decode cX3_fillActs 58 = .ok (.iload_n 3, 1) := by decide +kernel
theorem dX3_fillActs_59 : decode cX3_fillActs 59 = .ok (.iaload, 1) := by decide +kernel
theorem dX3_fillActs_60 : decode cX3_fillActs 60 = .ok (.iload_n 3, 1) := by decide +kernel
theorem dX3_fillActs_61 : decode cX3_fillActs 61 = .ok (.ifCond .ne 12, 3) := by decide +kernel
theorem dX3_fillActs_64 : decode cX3_fillActs 64 = .ok (.aload_n 0, 1) := by decide +kernel
theorem dX3_fillActs_65 : decode cX3_fillActs 65 = .ok (.getfield 30, 3) := by decide +kernel
theorem dX3_fillActs_68 : decode cX3_fillActs 68 = .ok (.iconst 2, 1) := by decide +kernel
theorem dX3_fillActs_69 : decode cX3_fillActs 69 = .ok (.iaload, 1) := by decide +kernel
theorem dX3_fillActs_70 : decode cX3_fillActs 70 = .ok (.goto 4, 3) := by decide +kernel
theorem dX3_fillActs_73 : decode cX3_fillActs 73 = .ok (.iconst 1, 1) := by decide +kernel
theorem dX3_fillActs_74 : decode cX3_fillActs 74 = .ok (.iastore, 1) := by decide +kernel
theorem dX3_fillActs_75 : decode cX3_fillActs 75 = .ok (.return_, 1) := by decide +kernel
theorem dX3_fillActs_76 : decode cX3_fillActs 76 = .ok (.getstatic 75, 3) := by decide +kernel
theorem dX3_fillActs_79 : decode cX3_fillActs 79 = .ok (.iload_n 1, 1) := by decide +kernel
theorem dX3_fillActs_80 : decode cX3_fillActs 80 = .ok (.iaload, 1) := by decide +kernel
theorem dX3_fillActs_81 : decode cX3_fillActs 81 = .ok (.istore 6, 2) := by decide +kernel
theorem dX3_fillActs_83 : decode cX3_fillActs 83 = .ok (.iload 4, 2) := by decide +kernel
theorem dX3_fillActs_85 : decode cX3_fillActs 85 = .ok (.ineg, 1) := by decide +kernel
theorem dX3_fillActs_86 : decode cX3_fillActs 86 = .ok (.iload 6, 2) := by decide +kernel
theorem dX3_fillActs_88 : decode cX3_fillActs 88 = .ok (.if_icmp .lt 21, 3) := by decide +kernel
theorem dX3_fillActs_91 : decode cX3_fillActs 91 = .ok (.aload_n 0, 1) := by decide +kernel
theorem dX3_fillActs_92 : decode cX3_fillActs 92 = .ok (.getfield 38, 3) := by decide +kernel
theorem dX3_fillActs_95 : decode cX3_fillActs 95 = .ok (.iload 5, 2) := by decide +kernel
theorem dX3_fillActs_97 : decode cX3_fillActs 97 = .ok (.iload 4, 2) := by decide +kernel
theorem dX3_fillActs_99 : decode cX3_fillActs 99 = .ok (.ineg, 1) := by decide +kernel
theorem dX3_fillActs_100 : decode cX3_fillActs 100 = .ok (.iload_n 1, 1) := by decide +kernel
theorem dX3_fillActs_101 : decode cX3_fillActs 101 = .ok (.iload_n 3, 1) := by decide +kernel
theorem dX3_fillActs_102 : decode cX3_fillActs 102 = .ok (.invokestatic 78, 3) := by decide +kernel
theorem dX3_fillActs_105 : decode cX3_fillActs 105 = .ok (.iadd, 1) := by decide +kernel
theorem dX3_fillActs_106 : decode cX3_fillActs 106 = .ok (.iconst 1, 1) := by decide +kernel
theorem dX3_fillActs_107 : decode cX3_fillActs 107 = .ok (.iastore, 1) := by decide +kernel
theorem dX3_fillActs_108 : decode cX3_fillActs 108 = .ok (.return_, 1) := by decide +kernel
theorem dX3_fillActs_109 : decode cX3_fillActs 109 = .ok (.getstatic 82, 3) := by decide +kernel
theorem dX3_fillActs_112 : decode cX3_fillActs 112 = .ok (.iload_n 1, 1) := by decide +kernel
theorem dX3_fillActs_113 : decode cX3_fillActs 113 = .ok (.iaload, 1) := by decide +kernel
theorem dX3_fillActs_114 : decode cX3_fillActs 114 = .ok (.istore 7, 2) := by decide +kernel
theorem dX3_fillActs_116 : decode cX3_fillActs 116 = .ok (.aload_n 0, 1) := by decide +kernel
theorem dX3_fillActs_117 : decode cX3_fillActs 117 = .ok (.aload_n 0, 1) := by decide +kernel
theorem dX3_fillActs_118 : decode cX3_fillActs 118 = .ok (.getfield 30, 3) := by decide +kernel
theorem dX3_fillActs_121 : decode cX3_fillActs 121 = .ok (.invokevirtual 85, 3) := by decide +kernel
theorem dX3_fillActs_124 : decode cX3_fillActs 124 = .ok (.astore 8, 2) := by decide +kernel
theorem dX3_fillActs_126 : decode cX3_fillActs 126 = .ok (.aload 8, 2) := by decide +kernel
theorem dX3_fillActs_128 : decode cX3_fillActs 128 = .ok (.iload 4, 2) := by decide +kernel
theorem dX3_fillActs_130 : decode cX3_fillActs 130 = .ok (.iload 6, 2) := by decide +kernel
theorem dX3_fillActs_132 : decode cX3_fillActs 132 = .ok (.ineg, 1) := by decide +kernel
theorem dX3_fillActs_133 : decode cX3_fillActs 133 = .ok (.invokevirtual 89, 3) := by decide +kernel
theorem dX3_fillActs_136 : decode cX3_fillActs 136 = .ok (.istore 9, 2) := by decide +kernel
theorem dX3_fillActs_138 : decode cX3_fillActs 138 = .ok (.getstatic 64, 3) := by decide +kernel
theorem dX3_fillActs_141 : decode cX3_fillActs 141 = .ok (.iload_n 3, 1) := by decide +kernel
theorem dX3_fillActs_142 : decode cX3_fillActs 142 = .ok (.iaload, 1) := by decide +kernel
theorem dX3_fillActs_143 : decode cX3_fillActs 143 = .ok (.istore 10, 2) := by decide +kernel
theorem dX3_fillActs_145 : decode cX3_fillActs 145 = .ok (.iload 10, 2) := by decide +kernel
theorem dX3_fillActs_147 : decode cX3_fillActs 147 = .ok (.getstatic 64, 3) := by decide +kernel
theorem dX3_fillActs_150 : decode cX3_fillActs 150 = .ok (.iload_n 3, 1) := by decide +kernel
theorem dX3_fillActs_151 : decode cX3_fillActs 151 = .ok (.iconst 1, 1) := by decide +kernel
theorem dX3_fillActs_152 : decode cX3_fillActs 152 = .ok (.iadd, 1) := by decide +kernel
theorem dX3_fillActs_153 : decode cX3_fillActs 153 = .ok (.iaload, 1) := by decide +kernel
theorem dX3_fillActs_154 : decode cX3_fillActs 154 = .ok (.if_icmp .ge 46, 3) := by decide +kernel
theorem dX3_fillActs_157 : decode cX3_fillActs 157 = .ok (.aload_n 0, 1) := by decide +kernel
theorem dX3_fillActs_158 : decode cX3_fillActs 158 = .ok (.getfield 38, 3) := by decide +kernel
theorem dX3_fillActs_161 : decode cX3_fillActs 161 = .ok (.iload 5, 2) := by decide +kernel
theorem dX3_fillActs_163 : decode cX3_fillActs 163 = .ok (.iload 10, 2) := by decide +kernel
theorem dX3_fillActs_165 : decode cX3_fillActs 165 = .ok (.iadd, 1) := by decide +kernel
theorem dX3_fillActs_166 : decode cX3_fillActs 166 = .ok (.aload_n 0, 1) := by decide +kernel
theorem dX3_fillActs_167 : decode cX3_fillActs 167 = .ok (.iload 7, 2) := by decide +kernel
theorem dX3_fillActs_169 : decode cX3_fillActs 169 = .ok (.iload_n 3, 1) := by decide +kernel
theorem dX3_fillActs_170 : decode cX3_fillActs 170 = .ok (.iload 6, 2) := by decide +kernel
theorem dX3_fillActs_172 : decode cX3_fillActs 172 = .ok (.isub, 1) := by decide +kernel
theorem dX3_fillActs_173 : decode cX3_fillActs 173 = .ok (.iload 10, 2) := by decide +kernel
theorem dX3_fillActs_175 : decode cX3_fillActs 175 = .ok (.invokevirtual 93, 3) := by decide +kernel
theorem dX3_fillActs_178 : decode cX3_fillActs 178 = .ok (.iload 9, 2) := by decide +kernel
theorem dX3_fillActs_180 : decode cX3_fillActs 180 = .ok (.aload_n 0, 1) := by decide +kernel
theorem dX3_fillActs_181 : decode cX3_fillActs 181 = .ok (.iload 7, 2) := by decide +kernel
theorem dX3_fillActs_183 : decode cX3_fillActs 183 = .ok (.iload 10, 2) := by decide +kernel
theorem dX3_fillActs_185 : decode cX3_fillActs 185 = .ok (.invokevirtual 96, 3) := by decide +kernel
theorem dX3_fillActs_188 : decode cX3_fillActs 188 = .ok (.imul, 1) := by decide +kernel
theorem dX3_fillActs_189 : decode cX3_fillActs 189 = .ok (.iadd, 1) := by decide +kernel
theorem dX3_fillActs_190 : decode cX3_fillActs 190 = .ok (.invokestatic 99, 3) := by decide +kernel
theorem dX3_fillActs_193 : decode cX3_fillActs 193 = .ok (.iastore, 1) := by decide +kernel
theorem dX3_fillActs_194 : decode cX3_fillActs 194 = .ok (.iinc 10 1, 3) := by decide +kernel
theorem dX3_fillActs_197 : decode cX3_fillActs 197 = .ok (.goto (-52), 3) := by decide +kernel
theorem dX3_fillActs_200 : decode cX3_fillActs 200 = .ok (.iload 4, 2) := by decide +kernel
theorem dX3_fillActs_202 : decode cX3_fillActs 202 = .ok (.iload 6, 2) := by decide +kernel
theorem dX3_fillActs_204 : decode cX3_fillActs 204 = .ok (.if_icmp .ne 50, 3) := by decide +kernel
theorem dX3_fillActs_207 : decode cX3_fillActs 207 = .ok (.aload 8, 2) := by decide +kernel
theorem dX3_fillActs_209 : decode cX3_fillActs 209 = .ok (.iload 4, 2) := by decide +kernel
theorem dX3_fillActs_211 : decode cX3_fillActs 211 = .ok (.aload_n 0, 1) := by decide +kernel
theorem dX3_fillActs_212 : decode cX3_fillActs 212 = .ok (.getfield 30, 3) := by decide +kernel
theorem dX3_fillActs_215 : decode cX3_fillActs 215 = .ok (.iconst 1, 1) := by decide +kernel
theorem dX3_fillActs_216 : decode cX3_fillActs 216 = .ok (.iaload, 1) := by decide +kernel
theorem dX3_fillActs_217 : decode cX3_fillActs 217 = .ok (.aload_n 0, 1) := by decide +kernel
theorem dX3_fillActs_218 : decode cX3_fillActs 218 = .ok (.getfield 30, 3) := by decide +kernel
theorem dX3_fillActs_221 : decode cX3_fillActs 221 = .ok (.iconst 3, 1) := by decide +kernel
theorem dX3_fillActs_222 : decode cX3_fillActs 222 = .ok (.iaload, 1) := by decide +kernel
theorem dX3_fillActs_223 : decode cX3_fillActs 223 = .ok (.invokevirtual 103, 3) := by decide +kernel
theorem dX3_fillActs_226 : decode cX3_fillActs 226 = .ok (.istore 10, 2) := by decide +kernel
theorem dX3_fillActs_228 : decode cX3_fillActs 228 = .ok (.aload_n 0, 1) := by decide +kernel
theorem dX3_fillActs_229 : decode cX3_fillActs 229 = .ok (.getfield 38, 3) := by decide +kernel
theorem dX3_fillActs_232 : decode cX3_fillActs 232 = .ok (.iload 5, 2) := by decide +kernel
theorem dX3_fillActs_234 : decode cX3_fillActs 234 = .ok (.iload 7, 2) := by decide +kernel
theorem dX3_fillActs_236 : decode cX3_fillActs 236 = .ok (.iadd, 1) := by decide +kernel
theorem dX3_fillActs_237 : decode cX3_fillActs 237 = .ok (.aload_n 0, 1) := by decide +kernel
theorem dX3_fillActs_238 : decode cX3_fillActs 238 = .ok (.getfield 38, 3) := by decide +kernel
theorem dX3_fillActs_241 : decode cX3_fillActs 241 = .ok (.iload 5, 2) := by decide +kernel
theorem dX3_fillActs_243 : decode cX3_fillActs 243 = .ok (.iload 7, 2) := by decide +kernel
theorem dX3_fillActs_245 : decode cX3_fillActs 245 = .ok (.iadd, 1) := by decide +kernel
theorem dX3_fillActs_246 : decode cX3_fillActs 246 = .ok (.iaload, 1) := by decide +kernel
theorem dX3_fillActs_247 : decode cX3_fillActs 247 = .ok (.iload 10, 2) := by decide +kernel
theorem dX3_fillActs_249 : decode cX3_fillActs 249 = .ok (.iadd, 1) := by decide +kernel
theorem dX3_fillActs_250 : decode cX3_fillActs 250 = .ok (.invokestatic 99, 3) := by decide +kernel
theorem dX3_fillActs_253 : decode cX3_fillActs 253 = .ok (.iastore, 1) := by decide +kernel
theorem dX3_fillActs_254 : decode cX3_fillActs 254 = .ok (.return_, 1) := by decide +kernel
theorem dX3_joined_0 : decode cX3_joined 0 = .ok (.getstatic 64, 3) := by decide +kernel
theorem dX3_joined_3 : decode cX3_joined 3 = .ok (.iload_n 2, 1) := by decide +kernel
theorem dX3_joined_4 : decode cX3_joined 4 = .ok (.iaload, 1) := by decide +kernel
theorem dX3_joined_5 : decode cX3_joined 5 = .ok (.istore_n 3, 1) := by decide +kernel
theorem dX3_joined_6 : decode cX3_joined 6 = .ok (.getstatic 64, 3) := by decide +kernel
theorem dX3_joined_9 : decode cX3_joined 9 = .ok (.iload_n 2, 1) := by decide +kernel
theorem dX3_joined_10 : decode cX3_joined 10 = .ok (.iaload, 1) := by decide +kernel
theorem dX3_joined_11 : decode cX3_joined 11 = .ok (.istore 4, 2) := by decide +kernel
theorem dX3_joined_13 : decode cX3_joined 13 = .ok (.iload 4, 2) := by decide +kernel
theorem dX3_joined_15 : decode cX3_joined 15 = .ok (.getstatic 64, 3) := by decide +kernel
theorem dX3_joined_18 : decode cX3_joined 18 = .ok (.iload_n 2, 1) := by decide +kernel
theorem dX3_joined_19 : decode cX3_joined 19 = .ok (.iconst 1, 1) := by decide +kernel
theorem dX3_joined_20 : decode cX3_joined 20 = .ok (.iadd, 1) := by decide +kernel
theorem dX3_joined_21 : decode cX3_joined 21 = .ok (.iaload, 1) := by decide +kernel
theorem dX3_joined_22 : decode cX3_joined 22 = .ok (.if_icmp .ge 32, 3) := by decide +kernel
theorem dX3_joined_25 : decode cX3_joined 25 = .ok (.getstatic 75, 3) := by decide +kernel
theorem dX3_joined_28 : decode cX3_joined 28 = .ok (.iload 4, 2) := by decide +kernel
theorem dX3_joined_30 : decode cX3_joined 30 = .ok (.iaload, 1) := by decide +kernel
theorem dX3_joined_31 : decode cX3_joined 31 = .ok (.iload_n 0, 1) := by decide +kernel
theorem dX3_joined_32 : decode cX3_joined 32 = .ok (.if_icmp .ne 16, 3) := by decide +kernel
theorem dX3_joined_35 : decode cX3_joined 35 = .ok (.getstatic 82, 3) := by decide +kernel
theorem dX3_joined_38 : decode cX3_joined 38 = .ok (.iload 4, 2) := by decide +kernel
theorem dX3_joined_40 : decode cX3_joined 40 = .ok (.iaload, 1) := by decide +kernel
theorem dX3_joined_41 : decode cX3_joined 41 = .ok (.iload_n 1, 1) := by decide +kernel
theorem dX3_joined_42 : decode cX3_joined 42 = .ok (.if_icmp .ne 6, 3) := by decide +kernel
theorem dX3_joined_45 : decode cX3_joined 45 = .ok (.iload 4, 2) := by decide +kernel
theorem dX3_joined_47 : decode cX3_joined 47 = .ok (.istore_n 3, 1) := by decide +kernel
theorem dX3_joined_48 : decode cX3_joined 48 = .ok (.iinc 4 1, 3) := by decide +kernel
theorem dX3_joined_51 : decode cX3_joined 51 = .ok (.goto (-38), 3) := by decide +kernel
theorem dX3_joined_54 : decode cX3_joined 54 = .ok (.iload_n 3, 1) := by decide +kernel
theorem dX3_joined_55 : decode cX3_joined 55 = .ok (.ireturn, 1) := by decide +kernel
theorem dX3_exchanged_0 : decode cX3_exchanged 0 = .ok (.iconst 0, 1) := by decide +kernel
theorem dX3_exchanged_1 : decode cX3_exchanged 1 = .ok (.istore 4, 2) := by decide +kernel
theorem dX3_exchanged_3 : decode cX3_exchanged 3 = .ok (.iload_n 2, 1) := by decide +kernel
theorem dX3_exchanged_4 : decode cX3_exchanged 4 = .ok (.ifCond .lt 48, 3) := by decide +kernel
theorem dX3_exchanged_7 : decode cX3_exchanged 7 = .ok (.getstatic 64, 3) := by decide +kernel
theorem dX3_exchanged_10 : decode cX3_exchanged 10 = .ok (.iload_n 2, 1) := by decide +kernel
theorem dX3_exchanged_11 : decode cX3_exchanged 11 = .ok (.iaload, 1) := by decide +kernel
theorem dX3_exchanged_12 : decode cX3_exchanged 12 = .ok (.istore 5, 2) := by decide +kernel
theorem dX3_exchanged_14 : decode cX3_exchanged 14 = .ok (.iload 5, 2) := by decide +kernel
theorem dX3_exchanged_16 : decode cX3_exchanged 16 = .ok (.getstatic 64, 3) := by decide +kernel
theorem dX3_exchanged_19 : decode cX3_exchanged 19 = .ok (.iload_n 2, 1) := by decide +kernel
theorem dX3_exchanged_20 : decode cX3_exchanged 20 = .ok (.iconst 1, 1) := by decide +kernel
theorem dX3_exchanged_21 : decode cX3_exchanged 21 = .ok (.iadd, 1) := by decide +kernel
theorem dX3_exchanged_22 : decode cX3_exchanged 22 = .ok (.iaload, 1) := by decide +kernel
theorem dX3_exchanged_23 : decode cX3_exchanged 23 = .ok (.if_icmp .ge 29, 3) := by decide +kernel
theorem dX3_exchanged_26 : decode cX3_exchanged 26 = .ok (.iload 4, 2) := by decide +kernel
theorem dX3_exchanged_28 : decode cX3_exchanged 28 = .ok (.aload_n 0, 1) := by decide +kernel
theorem dX3_exchanged_29 : decode cX3_exchanged 29 = .ok (.iload_n 1, 1) := by decide +kernel
theorem dX3_exchanged_30 : decode cX3_exchanged 30 = .ok (.iload 5, 2) := by decide +kernel
theorem dX3_exchanged_32 : decode cX3_exchanged 32 = .ok (.invokevirtual 96, 3) := by decide +kernel
theorem dX3_exchanged_35 : decode cX3_exchanged 35 = .ok (.aload_n 0, 1) := by decide +kernel
theorem dX3_exchanged_36 : decode cX3_exchanged 36 = .ok (.iload 5, 2) := by decide +kernel
theorem dX3_exchanged_38 : decode cX3_exchanged 38 = .ok (.iload_n 3, 1) := by decide +kernel
theorem dX3_exchanged_39 : decode cX3_exchanged 39 = .ok (.invokevirtual 96, 3) := by decide +kernel
theorem dX3_exchanged_42 : decode cX3_exchanged 42 = .ok (.imul, 1) := by decide +kernel
theorem dX3_exchanged_43 : decode cX3_exchanged 43 = .ok (.iadd, 1) := by decide +kernel
theorem dX3_exchanged_44 : decode cX3_exchanged 44 = .ok (.istore 4, 2) := by decide +kernel
theorem dX3_exchanged_46 : decode cX3_exchanged 46 = .ok (.iinc 5 1, 3) := by decide +kernel
theorem dX3_exchanged_49 : decode cX3_exchanged 49 = .ok (.goto (-35), 3) := by decide +kernel
theorem dX3_exchanged_52 : decode cX3_exchanged 52 = .ok (.iload 4, 2) := by decide +kernel
theorem dX3_exchanged_54 : decode cX3_exchanged 54 = .ok (.ireturn, 1) := by decide +kernel
theorem dX3_fillForms_0 : decode cX3_fillForms 0 = .ok (.iload_n 1, 1) := by decide +kernel
theorem dX3_fillForms_1 : decode cX3_fillForms 1 = .ok (.ifCond .ne 11, 3) := by decide +kernel
theorem dX3_fillForms_4 : decode cX3_fillForms 4 = .ok (.aload_n 0, 1) := by decide +kernel
theorem dX3_fillForms_5 : decode cX3_fillForms 5 = .ok (.getfield 41, 3) := by decide +kernel
theorem dX3_fillForms_8 : decode cX3_fillForms 8 = .ok (.iconst 0, 1) := by decide +kernel
theorem dX3_fillForms_9 : decode cX3_fillForms 9 = .ok (.iconst 1, 1) := by decide +kernel
theorem dX3_fillForms_10 : decode cX3_fillForms 10 = .ok (.iastore, 1) := by decide +kernel
theorem dX3_fillForms_11 : decode cX3_fillForms 11 = .ok (.return_, 1) := by decide +kernel
theorem dX3_fillForms_12 : decode cX3_fillForms 12 = .ok (.getstatic 64, 3) := by decide +kernel
theorem dX3_fillForms_15 : decode cX3_fillForms 15 = .ok (.iload_n 1, 1) := by decide +kernel
theorem dX3_fillForms_16 : decode cX3_fillForms 16 = .ok (.iaload, 1) := by decide +kernel
theorem dX3_fillForms_17 : decode cX3_fillForms 17 = .ok (.istore_n 2, 1) := by decide +kernel
theorem dX3_fillForms_18 : decode cX3_fillForms 18 = .ok (.iload_n 2, 1) := by decide +kernel
theorem dX3_fillForms_19 : decode cX3_fillForms 19 = .ok (.getstatic 64, 3) := by decide +kernel
theorem dX3_fillForms_22 : decode cX3_fillForms 22 = .ok (.iload_n 1, 1) := by decide +kernel
theorem dX3_fillForms_23 : decode cX3_fillForms 23 = .ok (.iconst 1, 1) := by decide +kernel
theorem dX3_fillForms_24 : decode cX3_fillForms 24 = .ok (.iadd, 1) := by decide +kernel
theorem dX3_fillForms_25 : decode cX3_fillForms 25 = .ok (.iaload, 1) := by decide +kernel
theorem dX3_fillForms_26 : decode cX3_fillForms 26 = .ok (.if_icmp .ge 112, 3) := by decide +kernel
theorem dX3_fillForms_29 : decode cX3_fillForms 29 = .ok (.iload_n 1, 1) := by decide +kernel
theorem dX3_fillForms_30 : decode cX3_fillForms 30 = .ok (.getstatic 75, 3) := by decide +kernel
theorem dX3_fillForms_33 : decode cX3_fillForms 33 = .ok (.iload_n 2, 1) := by decide +kernel
theorem dX3_fillForms_34 : decode cX3_fillForms 34 = .ok (.iaload, 1) := by decide +kernel
theorem dX3_fillForms_35 : decode cX3_fillForms 35 = .ok (.isub, 1) := by decide +kernel
theorem dX3_fillForms_36 : decode cX3_fillForms 36 = .ok (.istore_n 3, 1) := by decide +kernel
theorem dX3_fillForms_37 : decode cX3_fillForms 37 = .ok (.getstatic 64, 3) := by decide +kernel
theorem dX3_fillForms_40 : decode cX3_fillForms 40 = .ok (.iload_n 1, 1) := by decide +kernel
theorem dX3_fillForms_41 : decode cX3_fillForms 41 = .ok (.iaload, 1) := by decide +kernel
theorem dX3_fillForms_42 : decode cX3_fillForms 42 = .ok (.istore 4, 2) := by decide +kernel
theorem dX3_fillForms_44 : decode cX3_fillForms 44 = .ok (.iload 4, 2) := by decide +kernel
theorem dX3_fillForms_46 : decode cX3_fillForms 46 = .ok (.getstatic 64, 3) := by decide +kernel
theorem dX3_fillForms_49 : decode cX3_fillForms 49 = .ok (.iload_n 1, 1) := by decide +kernel
theorem dX3_fillForms_50 : decode cX3_fillForms 50 = .ok (.iconst 1, 1) := by decide +kernel
theorem dX3_fillForms_51 : decode cX3_fillForms 51 = .ok (.iadd, 1) := by decide +kernel
theorem dX3_fillForms_52 : decode cX3_fillForms 52 = .ok (.iaload, 1) := by decide +kernel
theorem dX3_fillForms_53 : decode cX3_fillForms 53 = .ok (.if_icmp .ge 79, 3) := by decide +kernel
theorem dX3_fillForms_56 : decode cX3_fillForms 56 = .ok (.iconst 0, 1) := by decide +kernel
theorem dX3_fillForms_57 : decode cX3_fillForms 57 = .ok (.istore 5, 2) := by decide +kernel
theorem dX3_fillForms_59 : decode cX3_fillForms 59 = .ok (.getstatic 64, 3) := by decide +kernel
theorem dX3_fillForms_62 : decode cX3_fillForms 62 = .ok (.iload_n 3, 1) := by decide +kernel
theorem dX3_fillForms_63 : decode cX3_fillForms 63 = .ok (.iaload, 1) := by decide +kernel
theorem dX3_fillForms_64 : decode cX3_fillForms 64 = .ok (.istore 6, 2) := by decide +kernel
theorem dX3_fillForms_66 : decode cX3_fillForms 66 = .ok (.iload 6, 2) := by decide +kernel
theorem dX3_fillForms_68 : decode cX3_fillForms 68 = .ok (.getstatic 64, 3) := by decide +kernel
theorem dX3_fillForms_71 : decode cX3_fillForms 71 = .ok (.iload_n 3, 1) := by decide +kernel
theorem dX3_fillForms_72 : decode cX3_fillForms 72 = .ok (.iconst 1, 1) := by decide +kernel
theorem dX3_fillForms_73 : decode cX3_fillForms 73 = .ok (.iadd, 1) := by decide +kernel
theorem dX3_fillForms_74 : decode cX3_fillForms 74 = .ok (.iaload, 1) := by decide +kernel
theorem dX3_fillForms_75 : decode cX3_fillForms 75 = .ok (.if_icmp .ge 34, 3) := by decide +kernel
theorem dX3_fillForms_78 : decode cX3_fillForms 78 = .ok (.iload 5, 2) := by decide +kernel
theorem dX3_fillForms_80 : decode cX3_fillForms 80 = .ok (.aload_n 0, 1) := by decide +kernel
theorem dX3_fillForms_81 : decode cX3_fillForms 81 = .ok (.iload 4, 2) := by decide +kernel
theorem dX3_fillForms_83 : decode cX3_fillForms 83 = .ok (.iload 6, 2) := by decide +kernel
theorem dX3_fillForms_85 : decode cX3_fillForms 85 = .ok (.invokevirtual 96, 3) := by decide +kernel
theorem dX3_fillForms_88 : decode cX3_fillForms 88 = .ok (.aload_n 0, 1) := by decide +kernel
theorem dX3_fillForms_89 : decode cX3_fillForms 89 = .ok (.getstatic 82, 3) := by decide +kernel
theorem dX3_fillForms_92 : decode cX3_fillForms 92 = .ok (.iload_n 2, 1) := by decide +kernel
theorem dX3_fillForms_93 : decode cX3_fillForms 93 = .ok (.iaload, 1) := by decide +kernel
theorem dX3_fillForms_94 : decode cX3_fillForms 94 = .ok (.iload 6, 2) := by decide +kernel
theorem dX3_fillForms_96 : decode cX3_fillForms 96 = .ok (.invokevirtual 106, 3) := by decide +kernel
theorem dX3_fillForms_99 : decode cX3_fillForms 99 = .ok (.imul, 1) := by decide +kernel
theorem dX3_fillForms_100 : decode cX3_fillForms 100 = .ok (.iadd, 1) := by decide +kernel
theorem dX3_fillForms_101 : decode cX3_fillForms 101 = .ok (.istore 5, 2) := by decide +kernel
theorem dX3_fillForms_103 : decode cX3_fillForms 103 = .ok (.iinc 6 1, 3) := by decide +kernel
theorem dX3_fillForms_106 : decode cX3_fillForms 106 = .ok (.goto (-40), 3) := by decide +kernel
theorem dX3_fillForms_109 : decode cX3_fillForms 109 = .ok (.aload_n 0, 1) := by decide +kernel
theorem dX3_fillForms_110 : decode cX3_fillForms 110 = .ok (.getfield 41, 3) := by decide +kernel
theorem dX3_fillForms_113 : decode cX3_fillForms 113 = .ok (.iload_n 2, 1) := by decide +kernel
theorem dX3_fillForms_114 : decode cX3_fillForms 114 = .ok (.bipush 19, 2) := by decide +kernel
theorem dX3_fillForms_116 : decode cX3_fillForms 116 = .ok (.imul, 1) := by decide +kernel
theorem dX3_fillForms_117 : decode cX3_fillForms 117 = .ok (.iload 4, 2) := by decide +kernel
theorem dX3_fillForms_119 : decode cX3_fillForms 119 = .ok (.iadd, 1) := by decide +kernel
theorem dX3_fillForms_120 : decode cX3_fillForms 120 = .ok (.iload 5, 2) := by decide +kernel
theorem dX3_fillForms_122 : decode cX3_fillForms 122 = .ok (.bipush 101, 2) := by decide +kernel
theorem dX3_fillForms_124 : decode cX3_fillForms 124 = .ok (.irem, 1) := by decide +kernel
theorem dX3_fillForms_125 : decode cX3_fillForms 125 = .ok (.iastore, 1) := by decide +kernel
theorem dX3_fillForms_126 : decode cX3_fillForms 126 = .ok (.iinc 4 1, 3) := by decide +kernel
theorem dX3_fillForms_129 : decode cX3_fillForms 129 = .ok (.goto (-85), 3) := by decide +kernel
theorem dX3_fillForms_132 : decode cX3_fillForms 132 = .ok (.iinc 2 1, 3) := by decide +kernel
theorem dX3_fillForms_135 : decode cX3_fillForms 135 = .ok (.goto (-117), 3) := by decide +kernel
theorem dX3_fillForms_138 : decode cX3_fillForms 138 = .ok (.return_, 1) := by decide +kernel
theorem dX3_move_0 : decode cX3_move 0 = .ok (.aload_n 1, 1) := by decide +kernel
theorem dX3_move_1 : decode cX3_move 1 = .ok (.getfield 109, 3) := by decide +kernel
theorem dX3_move_4 : decode cX3_move 4 = .ok (.istore_n 3, 1) := by decide +kernel
theorem dX3_move_5 : decode cX3_move 5 = .ok (.iload_n 3, 1) := by decide +kernel
theorem dX3_move_6 : decode cX3_move 6 = .ok (.iload_n 2, 1) := by decide +kernel
theorem dX3_move_7 : decode cX3_move 7 = .ok (.isub, 1) := by decide +kernel
theorem dX3_move_8 : decode cX3_move 8 = .ok (.istore 4, 2) := by decide +kernel
theorem dX3_move_10 : decode cX3_move 10 = .ok (.getstatic 64, 3) := by decide +kernel
theorem dX3_move_13 : decode cX3_move 13 = .ok (.iload 4, 2) := by decide +kernel
theorem dX3_move_15 : decode cX3_move 15 = .ok (.iaload, 1) := by decide +kernel
theorem dX3_move_16 : decode cX3_move 16 = .ok (.istore 5, 2) := by decide +kernel
theorem dX3_move_18 : decode cX3_move 18 = .ok (.iload 5, 2) := by decide +kernel
theorem dX3_move_20 : decode cX3_move 20 = .ok (.getstatic 64, 3) := by decide +kernel
theorem dX3_move_23 : decode cX3_move 23 = .ok (.iload 4, 2) := by decide +kernel
theorem dX3_move_25 : decode cX3_move 25 = .ok (.iconst 1, 1) := by decide +kernel
theorem dX3_move_26 : decode cX3_move 26 = .ok (.iadd, 1) := by decide +kernel
theorem dX3_move_27 : decode cX3_move 27 = .ok (.iaload, 1) := by decide +kernel
theorem dX3_move_28 : decode cX3_move 28 = .ok (.if_icmp .ge 83, 3) := by decide +kernel
theorem dX3_move_31 : decode cX3_move 31 = .ok (.iconst 0, 1) := by decide +kernel
theorem dX3_move_32 : decode cX3_move 32 = .ok (.istore 6, 2) := by decide +kernel
theorem dX3_move_34 : decode cX3_move 34 = .ok (.getstatic 64, 3) := by decide +kernel
theorem dX3_move_37 : decode cX3_move 37 = .ok (.iload_n 3, 1) := by decide +kernel
theorem dX3_move_38 : decode cX3_move 38 = .ok (.iaload, 1) := by decide +kernel
theorem dX3_move_39 : decode cX3_move 39 = .ok (.istore 7, 2) := by decide +kernel
theorem dX3_move_41 : decode cX3_move 41 = .ok (.iload 7, 2) := by decide +kernel
theorem dX3_move_43 : decode cX3_move 43 = .ok (.getstatic 64, 3) := by decide +kernel
theorem dX3_move_46 : decode cX3_move 46 = .ok (.iload_n 3, 1) := by decide +kernel
theorem dX3_move_47 : decode cX3_move 47 = .ok (.iconst 1, 1) := by decide +kernel
theorem dX3_move_48 : decode cX3_move 48 = .ok (.iadd, 1) := by decide +kernel
theorem dX3_move_49 : decode cX3_move 49 = .ok (.iaload, 1) := by decide +kernel
theorem dX3_move_50 : decode cX3_move 50 = .ok (.if_icmp .ge 36, 3) := by decide +kernel
theorem dX3_move_53 : decode cX3_move 53 = .ok (.iload 6, 2) := by decide +kernel
theorem dX3_move_55 : decode cX3_move 55 = .ok (.aload_n 1, 1) := by decide +kernel
theorem dX3_move_56 : decode cX3_move 56 = .ok (.getfield 114, 3) := by decide +kernel
theorem dX3_move_59 : decode cX3_move 59 = .ok (.iload 7, 2) := by decide +kernel
theorem dX3_move_61 : decode cX3_move 61 = .ok (.getstatic 64, 3) := by decide +kernel
theorem dX3_move_64 : decode cX3_move 64 = .ok (.iload_n 3, 1) := by decide +kernel
theorem dX3_move_65 : decode cX3_move 65 = .ok (.iaload, 1) := by decide +kernel
theorem dX3_move_66 : decode cX3_move 66 = .ok (.isub, 1) := by decide +kernel
theorem dX3_move_67 : decode cX3_move 67 = .ok (.iaload, 1) := by decide +kernel
theorem dX3_move_68 : decode cX3_move 68 = .ok (.aload_n 0, 1) := by decide +kernel
theorem dX3_move_69 : decode cX3_move 69 = .ok (.iload 7, 2) := by decide +kernel
theorem dX3_move_71 : decode cX3_move 71 = .ok (.iload 5, 2) := by decide +kernel
theorem dX3_move_73 : decode cX3_move 73 = .ok (.invokevirtual 96, 3) := by decide +kernel
theorem dX3_move_76 : decode cX3_move 76 = .ok (.imul, 1) := by decide +kernel
theorem dX3_move_77 : decode cX3_move 77 = .ok (.iadd, 1) := by decide +kernel
theorem dX3_move_78 : decode cX3_move 78 = .ok (.istore 6, 2) := by decide +kernel
theorem dX3_move_80 : decode cX3_move 80 = .ok (.iinc 7 1, 3) := by decide +kernel
theorem dX3_move_83 : decode cX3_move 83 = .ok (.goto (-42), 3) := by decide +kernel
theorem dX3_move_86 : decode cX3_move 86 = .ok (.aload_n 0, 1) := by decide +kernel
theorem dX3_move_87 : decode cX3_move 87 = .ok (.getfield 44, 3) := by decide +kernel
theorem dX3_move_90 : decode cX3_move 90 = .ok (.iload 5, 2) := by decide +kernel
theorem dX3_move_92 : decode cX3_move 92 = .ok (.getstatic 64, 3) := by decide +kernel
theorem dX3_move_95 : decode cX3_move 95 = .ok (.iload 4, 2) := by decide +kernel
theorem dX3_move_97 : decode cX3_move 97 = .ok (.iaload, 1) := by decide +kernel
theorem dX3_move_98 : decode cX3_move 98 = .ok (.isub, 1) := by decide +kernel
theorem dX3_move_99 : decode cX3_move 99 = .ok (.iload 6, 2) := by decide +kernel
theorem dX3_move_101 : decode cX3_move 101 = .ok (.bipush 101, 2) := by decide +kernel
theorem dX3_move_103 : decode cX3_move 103 = .ok (.irem, 1) := by decide +kernel
theorem dX3_move_104 : decode cX3_move 104 = .ok (.iastore, 1) := by decide +kernel
theorem dX3_move_105 : decode cX3_move 105 = .ok (.iinc 5 1, 3) := by decide +kernel
theorem dX3_move_108 : decode cX3_move 108 = .ok (.goto (-90), 3) := by decide +kernel
theorem dX3_move_111 : decode cX3_move 111 = .ok (.aload_n 1, 1) := by decide +kernel
theorem dX3_move_112 : decode cX3_move 112 = .ok (.iload 4, 2) := by decide +kernel
theorem dX3_move_114 : decode cX3_move 114 = .ok (.invokevirtual 117, 3) := by decide +kernel
theorem dX3_move_117 : decode cX3_move 117 = .ok (.aload_n 0, 1) := by decide +kernel
theorem dX3_move_118 : decode cX3_move 118 = .ok (.getfield 44, 3) := by decide +kernel
theorem dX3_move_121 : decode cX3_move 121 = .ok (.iconst 0, 1) := by decide +kernel
theorem dX3_move_122 : decode cX3_move 122 = .ok (.aload_n 1, 1) := by decide +kernel
theorem dX3_move_123 : decode cX3_move 123 = .ok (.getfield 114, 3) := by decide +kernel
theorem dX3_move_126 : decode cX3_move 126 = .ok (.iconst 0, 1) := by decide +kernel
theorem dX3_move_127 : decode cX3_move 127 = .ok (.getstatic 64, 3) := by decide +kernel
theorem dX3_move_130 : decode cX3_move 130 = .ok (.iload 4, 2) := by decide +kernel
theorem dX3_move_132 : decode cX3_move 132 = .ok (.iconst 1, 1) := by decide +kernel
theorem dX3_move_133 : decode cX3_move 133 = .ok (.iadd, 1) := by decide +kernel
theorem dX3_move_134 : decode cX3_move 134 = .ok (.iaload, 1) := by decide +kernel
theorem dX3_move_135 : decode cX3_move 135 = .ok (.getstatic 64, 3) := by decide +kernel
theorem dX3_move_138 : decode cX3_move 138 = .ok (.iload 4, 2) := by decide +kernel
theorem dX3_move_140 : decode cX3_move 140 = .ok (.iaload, 1) := by decide +kernel
theorem dX3_move_141 : decode cX3_move 141 = .ok (.isub, 1) := by decide +kernel
theorem dX3_move_142 : decode cX3_move 142 = .ok (.invokestatic 58, 3) := by decide +kernel
theorem dX3_move_145 : decode cX3_move 145 = .ok (.return_, 1) := by decide +kernel
theorem dX3_productOf_0 : decode cX3_productOf 0 = .ok (.getstatic 64, 3) := by decide +kernel
theorem dX3_productOf_3 : decode cX3_productOf 3 = .ok (.aload_n 1, 1) := by decide +kernel
theorem dX3_productOf_4 : decode cX3_productOf 4 = .ok (.getfield 109, 3) := by decide +kernel
theorem dX3_productOf_7 : decode cX3_productOf 7 = .ok (.iaload, 1) := by decide +kernel
theorem dX3_productOf_8 : decode cX3_productOf 8 = .ok (.istore_n 3, 1) := by decide +kernel
theorem dX3_productOf_9 : decode cX3_productOf 9 = .ok (.getstatic 64, 3) := by decide +kernel
theorem dX3_productOf_12 : decode cX3_productOf 12 = .ok (.aload_n 1, 1) := by decide +kernel
theorem dX3_productOf_13 : decode cX3_productOf 13 = .ok (.getfield 109, 3) := by decide +kernel
theorem dX3_productOf_16 : decode cX3_productOf 16 = .ok (.iconst 1, 1) := by decide +kernel
theorem dX3_productOf_17 : decode cX3_productOf 17 = .ok (.iadd, 1) := by decide +kernel
theorem dX3_productOf_18 : decode cX3_productOf 18 = .ok (.iaload, 1) := by decide +kernel
theorem dX3_productOf_19 : decode cX3_productOf 19 = .ok (.istore 4, 2) := by decide +kernel
theorem dX3_productOf_21 : decode cX3_productOf 21 = .ok (.iconst 0, 1) := by decide +kernel
theorem dX3_productOf_22 : decode cX3_productOf 22 = .ok (.istore 5, 2) := by decide +kernel
theorem dX3_productOf_24 : decode cX3_productOf 24 = .ok (.iload_n 3, 1) := by decide +kernel
theorem dX3_productOf_25 : decode cX3_productOf 25 = .ok (.istore 6, 2) := by decide +kernel
theorem dX3_productOf_27 : decode cX3_productOf 27 = .ok (.iload 6, 2) := by decide +kernel
theorem dX3_productOf_29 : decode cX3_productOf 29 = .ok (.iload 4, 2) := by decide +kernel
theorem dX3_productOf_31 : decode cX3_productOf 31 = .ok (.if_icmp .ge 61, 3) := by decide +kernel
theorem dX3_productOf_34 : decode cX3_productOf 34 = .ok (.iload_n 3, 1) := by decide +kernel
theorem dX3_productOf_35 : decode cX3_productOf 35 = .ok (.istore 7, 2) := by decide +kernel
theorem dX3_productOf_37 : decode cX3_productOf 37 = .ok (.iload 7, 2) := by decide +kernel
theorem dX3_productOf_39 : decode cX3_productOf 39 = .ok (.iload 4, 2) := by decide +kernel
theorem dX3_productOf_41 : decode cX3_productOf 41 = .ok (.if_icmp .ge 45, 3) := by decide +kernel
theorem dX3_productOf_44 : decode cX3_productOf 44 = .ok (.iload 5, 2) := by decide +kernel
theorem dX3_productOf_46 : decode cX3_productOf 46 = .ok (.aload_n 1, 1) := by decide +kernel
theorem dX3_productOf_47 : decode cX3_productOf 47 = .ok (.getfield 114, 3) := by decide +kernel
theorem dX3_productOf_50 : decode cX3_productOf 50 = .ok (.iload 6, 2) := by decide +kernel
theorem dX3_productOf_52 : decode cX3_productOf 52 = .ok (.iload_n 3, 1) := by decide +kernel
theorem dX3_productOf_53 : decode cX3_productOf 53 = .ok (.isub, 1) := by decide +kernel
theorem dX3_productOf_54 : decode cX3_productOf 54 = .ok (.iaload, 1) := by decide +kernel
theorem dX3_productOf_55 : decode cX3_productOf 55 = .ok (.aload_n 2, 1) := by decide +kernel
theorem dX3_productOf_56 : decode cX3_productOf 56 = .ok (.getfield 114, 3) := by decide +kernel
theorem dX3_productOf_59 : decode cX3_productOf 59 = .ok (.iload 7, 2) := by decide +kernel
theorem dX3_productOf_61 : decode cX3_productOf 61 = .ok (.iload_n 3, 1) := by decide +kernel
theorem dX3_productOf_62 : decode cX3_productOf 62 = .ok (.isub, 1) := by decide +kernel
theorem dX3_productOf_63 : decode cX3_productOf 63 = .ok (.iaload, 1) := by decide +kernel
theorem dX3_productOf_64 : decode cX3_productOf 64 = .ok (.imul, 1) := by decide +kernel
theorem dX3_productOf_65 : decode cX3_productOf 65 = .ok (.bipush 101, 2) := by decide +kernel
theorem dX3_productOf_67 : decode cX3_productOf 67 = .ok (.irem, 1) := by decide +kernel
theorem dX3_productOf_68 : decode cX3_productOf 68 = .ok (.aload_n 0, 1) := by decide +kernel
theorem dX3_productOf_69 : decode cX3_productOf 69 = .ok (.iload 6, 2) := by decide +kernel
theorem dX3_productOf_71 : decode cX3_productOf 71 = .ok (.iload 7, 2) := by decide +kernel
theorem dX3_productOf_73 : decode cX3_productOf 73 = .ok (.invokevirtual 106, 3) := by decide +kernel
theorem dX3_productOf_76 : decode cX3_productOf 76 = .ok (.imul, 1) := by decide +kernel
theorem dX3_productOf_77 : decode cX3_productOf 77 = .ok (.iadd, 1) := by decide +kernel
theorem dX3_productOf_78 : decode cX3_productOf 78 = .ok (.istore 5, 2) := by decide +kernel
theorem dX3_productOf_80 : decode cX3_productOf 80 = .ok (.iinc 7 1, 3) := by decide +kernel
theorem dX3_productOf_83 : decode cX3_productOf 83 = .ok (.goto (-46), 3) := by decide +kernel
theorem dX3_productOf_86 : decode cX3_productOf 86 = .ok (.iinc 6 1, 3) := by decide +kernel
theorem dX3_productOf_89 : decode cX3_productOf 89 = .ok (.goto (-62), 3) := by decide +kernel
theorem dX3_productOf_92 : decode cX3_productOf 92 = .ok (.iload 5, 2) := by decide +kernel
theorem dX3_productOf_94 : decode cX3_productOf 94 = .ok (.bipush 101, 2) := by decide +kernel
theorem dX3_productOf_96 : decode cX3_productOf 96 = .ok (.irem, 1) := by decide +kernel
theorem dX3_productOf_97 : decode cX3_productOf 97 = .ok (.ireturn, 1) := by decide +kernel
theorem dX3_reducedForms_0 : decode cX3_reducedForms 0 = .ok (.getstatic 64, 3) := by decide +kernel
theorem dX3_reducedForms_3 : decode cX3_reducedForms 3 = .ok (.iload_n 1, 1) := by decide +kernel
theorem dX3_reducedForms_4 : decode cX3_reducedForms 4 = .ok (.iaload, 1) := by decide +kernel
theorem dX3_reducedForms_5 : decode cX3_reducedForms 5 = .ok (.istore_n 2, 1) := by decide +kernel
theorem dX3_reducedForms_6 : decode cX3_reducedForms 6 = .ok (.getstatic 64, 3) := by decide +kernel
theorem dX3_reducedForms_9 : decode cX3_reducedForms 9 = .ok (.iload_n 1, 1) := by decide +kernel
theorem dX3_reducedForms_10 : decode cX3_reducedForms 10 = .ok (.iconst 1, 1) := by decide +kernel
theorem dX3_reducedForms_11 : decode cX3_reducedForms 11 = .ok (.iadd, 1) := by decide +kernel
theorem dX3_reducedForms_12 : decode cX3_reducedForms 12 = .ok (.iaload, 1) := by decide +kernel
theorem dX3_reducedForms_13 : decode cX3_reducedForms 13 = .ok (.iload_n 2, 1) := by decide +kernel
theorem dX3_reducedForms_14 : decode cX3_reducedForms 14 = .ok (.isub, 1) := by decide +kernel
theorem dX3_reducedForms_15 : decode cX3_reducedForms 15 = .ok (.istore_n 3, 1) := by decide +kernel
theorem dX3_reducedForms_16 : decode cX3_reducedForms 16 = .ok (.aload_n 0, 1) := by decide +kernel
theorem dX3_reducedForms_17 : decode cX3_reducedForms 17 = .ok (.getfield 50, 3) := by decide +kernel
theorem dX3_reducedForms_20 : decode cX3_reducedForms 20 = .ok (.iload_n 3, 1) := by decide +kernel
theorem dX3_reducedForms_21 : decode cX3_reducedForms 21 = .ok (.iload_n 3, 1) := by decide +kernel
theorem dX3_reducedForms_22 : decode cX3_reducedForms 22 = .ok (.invokevirtual 120, 3) := by decide +kernel
theorem dX3_reducedForms_25 : decode cX3_reducedForms 25 = .ok (.iconst 0, 1) := by decide +kernel
theorem dX3_reducedForms_26 : decode cX3_reducedForms 26 = .ok (.istore 4, 2) := by decide +kernel
theorem dX3_reducedForms_28 : decode cX3_reducedForms 28 = .ok (.iload 4, 2) := by decide +kernel
theorem dX3_reducedForms_30 : decode cX3_reducedForms 30 = .ok (.iload_n 3, 1) := by decide +kernel
theorem dX3_reducedForms_31 : decode cX3_reducedForms 31 = .ok (.if_icmp .ge 47, 3) := by decide +kernel
theorem dX3_reducedForms_34 : decode cX3_reducedForms 34 = .ok (.iconst 0, 1) := by decide +kernel
theorem dX3_reducedForms_35 : decode cX3_reducedForms 35 = .ok (.istore 5, 2) := by decide +kernel
theorem dX3_reducedForms_37 : decode cX3_reducedForms 37 = .ok (.iload 5, 2) := by decide +kernel
theorem dX3_reducedForms_39 : decode cX3_reducedForms 39 = .ok (.iload_n 3, 1) := by decide +kernel
theorem dX3_reducedForms_40 : decode cX3_reducedForms 40 = .ok (.if_icmp .ge 32, 3) := by decide +kernel
theorem dX3_reducedForms_43 : decode cX3_reducedForms 43 = .ok (.aload_n 0, 1) := by decide +kernel
theorem dX3_reducedForms_44 : decode cX3_reducedForms 44 = .ok (.getfield 50, 3) := by decide +kernel
theorem dX3_reducedForms_47 : decode cX3_reducedForms 47 = .ok (.iload 4, 2) := by decide +kernel
theorem dX3_reducedForms_49 : decode cX3_reducedForms 49 = .ok (.iload 5, 2) := by decide +kernel
theorem dX3_reducedForms_51 : decode cX3_reducedForms 51 = .ok (.aload_n 0, 1) := by decide +kernel
theorem dX3_reducedForms_52 : decode cX3_reducedForms 52 = .ok (.iload_n 2, 1) := by decide +kernel
theorem dX3_reducedForms_53 : decode cX3_reducedForms 53 = .ok (.iload 4, 2) := by decide +kernel
theorem dX3_reducedForms_55 : decode cX3_reducedForms 55 = .ok (.iadd, 1) := by decide +kernel
theorem dX3_reducedForms_56 : decode cX3_reducedForms 56 = .ok (.iload_n 2, 1) := by decide +kernel
theorem dX3_reducedForms_57 : decode cX3_reducedForms 57 = .ok (.iload 5, 2) := by decide +kernel
theorem dX3_reducedForms_59 : decode cX3_reducedForms 59 = .ok (.iadd, 1) := by decide +kernel
theorem dX3_reducedForms_60 : decode cX3_reducedForms 60 = .ok (.invokevirtual 106, 3) := by decide +kernel
theorem dX3_reducedForms_63 : decode cX3_reducedForms 63 = .ok (.invokevirtual 124, 3) := by decide +kernel
theorem dX3_reducedForms_66 : decode cX3_reducedForms 66 = .ok (.iinc 5 1, 3) := by decide +kernel
theorem dX3_reducedForms_69 : decode cX3_reducedForms 69 = .ok (.goto (-32), 3) := by decide +kernel
theorem dX3_reducedForms_72 : decode cX3_reducedForms 72 = .ok (.iinc 4 1, 3) := by decide +kernel
theorem dX3_reducedForms_75 : decode cX3_reducedForms 75 = .ok (.goto (-47), 3) := by decide +kernel
theorem dX3_reducedForms_78 : decode cX3_reducedForms 78 = .ok (.aload_n 0, 1) := by decide +kernel
theorem dX3_reducedForms_79 : decode cX3_reducedForms 79 = .ok (.getfield 50, 3) := by decide +kernel
theorem dX3_reducedForms_82 : decode cX3_reducedForms 82 = .ok (.invokevirtual 127, 3) := by decide +kernel
theorem dX3_reducedForms_85 : decode cX3_reducedForms 85 = .ok (.aload_n 0, 1) := by decide +kernel
theorem dX3_reducedForms_86 : decode cX3_reducedForms 86 = .ok (.getfield 50, 3) := by decide +kernel
theorem dX3_reducedForms_89 : decode cX3_reducedForms 89 = .ok (.areturn, 1) := by decide +kernel
theorem dX3_reducedLowerings_0 : decode cX3_reducedLowerings 0 = .ok (.getstatic 64, 3) := by decide +kernel
theorem dX3_reducedLowerings_3 : decode cX3_reducedLowerings 3 = .ok (.iload_n 1, 1) := by decide +kernel
theorem dX3_reducedLowerings_4 : decode cX3_reducedLowerings 4 = .ok (.iaload, 1) := by decide +kernel
theorem dX3_reducedLowerings_5 : decode cX3_reducedLowerings 5 = .ok (.istore_n 2, 1) := by decide +kernel
theorem dX3_reducedLowerings_6 : decode cX3_reducedLowerings 6 = .ok (.getstatic 64, 3) := by decide +kernel
theorem dX3_reducedLowerings_9 : decode cX3_reducedLowerings 9 = .ok (.iload_n 1, 1) := by decide +kernel
theorem dX3_reducedLowerings_10 : decode cX3_reducedLowerings 10 = .ok (.iconst 1, 1) := by decide +kernel
theorem dX3_reducedLowerings_11 : decode cX3_reducedLowerings 11 = .ok (.iadd, 1) := by decide +kernel
theorem dX3_reducedLowerings_12 : decode cX3_reducedLowerings 12 = .ok (.iaload, 1) := by decide +kernel
theorem dX3_reducedLowerings_13 : decode cX3_reducedLowerings 13 = .ok (.iload_n 2, 1) := by decide +kernel
theorem dX3_reducedLowerings_14 : decode cX3_reducedLowerings 14 = .ok (.isub, 1) := by decide +kernel
theorem dX3_reducedLowerings_15 : decode cX3_reducedLowerings 15 = .ok (.istore_n 3, 1) := by decide +kernel
theorem dX3_reducedLowerings_16 : decode cX3_reducedLowerings 16 = .ok (.aload_n 0, 1) := by decide +kernel
theorem dX3_reducedLowerings_17 : decode cX3_reducedLowerings 17 = .ok (.getfield 50, 3) := by decide +kernel
theorem dX3_reducedLowerings_20 : decode cX3_reducedLowerings 20 = .ok (.iload_n 2, 1) := by decide +kernel
theorem dX3_reducedLowerings_21 : decode cX3_reducedLowerings 21 = .ok (.iload_n 3, 1) := by decide +kernel
theorem dX3_reducedLowerings_22 : decode cX3_reducedLowerings 22 = .ok (.invokevirtual 120, 3) := by decide +kernel
theorem dX3_reducedLowerings_25 : decode cX3_reducedLowerings 25 = .ok (.iconst 0, 1) := by decide +kernel
theorem dX3_reducedLowerings_26 : decode cX3_reducedLowerings 26 = .ok (.istore 4, 2) := by decide +kernel
theorem dX3_reducedLowerings_28 : decode cX3_reducedLowerings 28 = .ok (.iload 4, 2) := by decide +kernel
theorem dX3_reducedLowerings_30 : decode cX3_reducedLowerings 30 = .ok (.iload_n 2, 1) := by decide +kernel
theorem dX3_reducedLowerings_31 : decode cX3_reducedLowerings 31 = .ok (.if_icmp .ge 45, 3) := by decide +kernel
theorem dX3_reducedLowerings_34 : decode cX3_reducedLowerings 34 = .ok (.iconst 0, 1) := by decide +kernel
theorem dX3_reducedLowerings_35 : decode cX3_reducedLowerings 35 = .ok (.istore 5, 2) := by decide +kernel
theorem dX3_reducedLowerings_37 : decode cX3_reducedLowerings 37 = .ok (.iload 5, 2) := by decide +kernel
theorem dX3_reducedLowerings_39 : decode cX3_reducedLowerings 39 = .ok (.iload_n 3, 1) := by decide +kernel
theorem dX3_reducedLowerings_40 : decode cX3_reducedLowerings 40 = .ok (.if_icmp .ge 30, 3) := by decide +kernel
theorem dX3_reducedLowerings_43 : decode cX3_reducedLowerings 43 = .ok (.aload_n 0, 1) := by decide +kernel
theorem dX3_reducedLowerings_44 : decode cX3_reducedLowerings 44 = .ok (.getfield 50, 3) := by decide +kernel
theorem dX3_reducedLowerings_47 : decode cX3_reducedLowerings 47 = .ok (.iload 4, 2) := by decide +kernel
theorem dX3_reducedLowerings_49 : decode cX3_reducedLowerings 49 = .ok (.iload 5, 2) := by decide +kernel
theorem dX3_reducedLowerings_51 : decode cX3_reducedLowerings 51 = .ok (.aload_n 0, 1) := by decide +kernel
theorem dX3_reducedLowerings_52 : decode cX3_reducedLowerings 52 = .ok (.iload_n 2, 1) := by decide +kernel
theorem dX3_reducedLowerings_53 : decode cX3_reducedLowerings 53 = .ok (.iload 5, 2) := by decide +kernel
theorem dX3_reducedLowerings_55 : decode cX3_reducedLowerings 55 = .ok (.iadd, 1) := by decide +kernel
theorem dX3_reducedLowerings_56 : decode cX3_reducedLowerings 56 = .ok (.iload 4, 2) := by decide +kernel
theorem dX3_reducedLowerings_58 : decode cX3_reducedLowerings 58 = .ok (.invokevirtual 96, 3) := by decide +kernel
theorem dX3_reducedLowerings_61 : decode cX3_reducedLowerings 61 = .ok (.invokevirtual 124, 3) := by decide +kernel
theorem dX3_reducedLowerings_64 : decode cX3_reducedLowerings 64 = .ok (.iinc 5 1, 3) := by decide +kernel
theorem dX3_reducedLowerings_67 : decode cX3_reducedLowerings 67 = .ok (.goto (-30), 3) := by decide +kernel
theorem dX3_reducedLowerings_70 : decode cX3_reducedLowerings 70 = .ok (.iinc 4 1, 3) := by decide +kernel
theorem dX3_reducedLowerings_73 : decode cX3_reducedLowerings 73 = .ok (.goto (-45), 3) := by decide +kernel
theorem dX3_reducedLowerings_76 : decode cX3_reducedLowerings 76 = .ok (.aload_n 0, 1) := by decide +kernel
theorem dX3_reducedLowerings_77 : decode cX3_reducedLowerings 77 = .ok (.getfield 50, 3) := by decide +kernel
theorem dX3_reducedLowerings_80 : decode cX3_reducedLowerings 80 = .ok (.invokevirtual 127, 3) := by decide +kernel
theorem dX3_reducedLowerings_83 : decode cX3_reducedLowerings 83 = .ok (.aload_n 0, 1) := by decide +kernel
theorem dX3_reducedLowerings_84 : decode cX3_reducedLowerings 84 = .ok (.getfield 50, 3) := by decide +kernel
theorem dX3_reducedLowerings_87 : decode cX3_reducedLowerings 87 = .ok (.areturn, 1) := by decide +kernel
theorem dX4_init_0 : decode cX4_init 0 = .ok (.aload_n 0, 1) := by decide +kernel
theorem dX4_init_1 : decode cX4_init 1 = .ok (.invokespecial 3, 3) := by decide +kernel
theorem dX4_init_4 : decode cX4_init 4 = .ok (.aload_n 0, 1) := by decide +kernel
theorem dX4_init_5 : decode cX4_init 5 = .ok (.iconst 4, 1) := by decide +kernel
theorem dX4_init_6 : decode cX4_init 6 = .ok (.newarray .int, 2) := by decide +kernel
theorem dX4_init_8 : decode cX4_init 8 = .ok (.dup, 1) := by decide +kernel
theorem dX4_init_9 : decode cX4_init 9 = .ok (.iconst 0, 1) := by decide +kernel
theorem dX4_init_10 : decode cX4_init 10 = .ok (.iconst 0, 1) := by decide +kernel
theorem dX4_init_11 : decode cX4_init 11 = .ok (.iastore, 1) := by decide +kernel
theorem dX4_init_12 : decode cX4_init 12 = .ok (.dup, 1) := by decide +kernel
theorem dX4_init_13 : decode cX4_init 13 = .ok (.iconst 1, 1) := by decide +kernel
theorem dX4_init_14 : decode cX4_init 14 = .ok (.iconst 0, 1) := by decide +kernel
theorem dX4_init_15 : decode cX4_init 15 = .ok (.iastore, 1) := by decide +kernel
theorem dX4_init_16 : decode cX4_init 16 = .ok (.dup, 1) := by decide +kernel
theorem dX4_init_17 : decode cX4_init 17 = .ok (.iconst 2, 1) := by decide +kernel
theorem dX4_init_18 : decode cX4_init 18 = .ok (.iconst 0, 1) := by decide +kernel
theorem dX4_init_19 : decode cX4_init 19 = .ok (.iastore, 1) := by decide +kernel
theorem dX4_init_20 : decode cX4_init 20 = .ok (.dup, 1) := by decide +kernel
theorem dX4_init_21 : decode cX4_init 21 = .ok (.iconst 3, 1) := by decide +kernel
theorem dX4_init_22 : decode cX4_init 22 = .ok (.iconst 1, 1) := by decide +kernel
theorem dX4_init_23 : decode cX4_init 23 = .ok (.iastore, 1) := by decide +kernel
theorem dX4_init_24 : decode cX4_init 24 = .ok (.putfield 9, 3) := by decide +kernel
theorem dX4_init_27 : decode cX4_init 27 = .ok (.aload_n 0, 1) := by decide +kernel
theorem dX4_init_28 : decode cX4_init 28 = .ok (.iconst 4, 1) := by decide +kernel
theorem dX4_init_29 : decode cX4_init 29 = .ok (.anewarray 15, 3) := by decide +kernel
theorem dX4_init_32 : decode cX4_init 32 = .ok (.dup, 1) := by decide +kernel
theorem dX4_init_33 : decode cX4_init 33 = .ok (.iconst 0, 1) := by decide +kernel
theorem dX4_init_34 : decode cX4_init 34 = .ok (.new 15, 3) := by decide +kernel
theorem dX4_init_37 : decode cX4_init 37 = .ok (.dup, 1) := by decide +kernel
theorem dX4_init_38 : decode cX4_init 38 = .ok (.invokespecial 17, 3) := by decide +kernel
theorem dX4_init_41 : decode cX4_init 41 = .ok (.aastore, 1) := by decide +kernel
theorem dX4_init_42 : decode cX4_init 42 = .ok (.dup, 1) := by decide +kernel
theorem dX4_init_43 : decode cX4_init 43 = .ok (.iconst 1, 1) := by decide +kernel
theorem dX4_init_44 : decode cX4_init 44 = .ok (.new 15, 3) := by decide +kernel
theorem dX4_init_47 : decode cX4_init 47 = .ok (.dup, 1) := by decide +kernel
theorem dX4_init_48 : decode cX4_init 48 = .ok (.invokespecial 17, 3) := by decide +kernel
theorem dX4_init_51 : decode cX4_init 51 = .ok (.aastore, 1) := by decide +kernel
theorem dX4_init_52 : decode cX4_init 52 = .ok (.dup, 1) := by decide +kernel
theorem dX4_init_53 : decode cX4_init 53 = .ok (.iconst 2, 1) := by decide +kernel
theorem dX4_init_54 : decode cX4_init 54 = .ok (.new 15, 3) := by decide +kernel
theorem dX4_init_57 : decode cX4_init 57 = .ok (.dup, 1) := by decide +kernel
theorem dX4_init_58 : decode cX4_init 58 = .ok (.invokespecial 17, 3) := by decide +kernel
theorem dX4_init_61 : decode cX4_init 61 = .ok (.aastore, 1) := by decide +kernel
theorem dX4_init_62 : decode cX4_init 62 = .ok (.dup, 1) := by decide +kernel
theorem dX4_init_63 : decode cX4_init 63 = .ok (.iconst 3, 1) := by decide +kernel
theorem dX4_init_64 : decode cX4_init 64 = .ok (.new 15, 3) := by decide +kernel
theorem dX4_init_67 : decode cX4_init 67 = .ok (.dup, 1) := by decide +kernel
theorem dX4_init_68 : decode cX4_init 68 = .ok (.invokespecial 17, 3) := by decide +kernel
theorem dX4_init_71 : decode cX4_init 71 = .ok (.aastore, 1) := by decide +kernel
theorem dX4_init_72 : decode cX4_init 72 = .ok (.putfield 18, 3) := by decide +kernel
theorem dX4_init_75 : decode cX4_init 75 = .ok (.aload_n 0, 1) := by decide +kernel
theorem dX4_init_76 : decode cX4_init 76 = .ok (.bipush 8, 2) := by decide +kernel
theorem dX4_init_78 : decode cX4_init 78 = .ok (.newarray .int, 2) := by decide +kernel
theorem dX4_init_80 : decode cX4_init 80 = .ok (.putfield 22, 3) := by decide +kernel
theorem dX4_init_83 : decode cX4_init 83 = .ok (.aload_n 0, 1) := by decide +kernel
theorem dX4_init_84 : decode cX4_init 84 = .ok (.bipush 8, 2) := by decide +kernel
theorem dX4_init_86 : decode cX4_init 86 = .ok (.newarray .int, 2) := by decide +kernel
theorem dX4_init_88 : decode cX4_init 88 = .ok (.putfield 25, 3) := by decide +kernel
theorem dX4_init_91 : decode cX4_init 91 = .ok (.return_, 1) := by decide +kernel
theorem dX4_copyFrom_0 : decode cX4_copyFrom 0 = .ok (.aload_n 1, 1) := by decide +kernel
theorem dX4_copyFrom_1 : decode cX4_copyFrom 1 = .ok (.getfield 9, 3) := by decide +kernel
theorem dX4_copyFrom_4 : decode cX4_copyFrom 4 = .ok (.iconst 0, 1) := by decide +kernel
theorem dX4_copyFrom_5 : decode cX4_copyFrom 5 = .ok (.aload_n 0, 1) := by decide +kernel
theorem dX4_copyFrom_6 : decode cX4_copyFrom 6 = .ok (.getfield 9, 3) := by decide +kernel
theorem dX4_copyFrom_9 : decode cX4_copyFrom 9 = .ok (.iconst 0, 1) := by decide +kernel
theorem dX4_copyFrom_10 : decode cX4_copyFrom 10 = .ok (.iconst 4, 1) := by decide +kernel
theorem dX4_copyFrom_11 : decode cX4_copyFrom 11 = .ok (.invokestatic 28, 3) := by decide +kernel
theorem dX4_copyFrom_14 : decode cX4_copyFrom 14 = .ok (.iconst 0, 1) := by decide +kernel
theorem dX4_copyFrom_15 : decode cX4_copyFrom 15 = .ok (.istore_n 2, 1) := by decide +kernel
theorem dX4_copyFrom_16 : decode cX4_copyFrom 16 = .ok (.iload_n 2, 1) := by decide +kernel
theorem dX4_copyFrom_17 : decode cX4_copyFrom 17 = .ok (.iconst 4, 1) := by decide +kernel
theorem dX4_copyFrom_18 : decode cX4_copyFrom 18 = .ok (.if_icmp .ge 24, 3) := by decide +kernel
theorem dX4_copyFrom_21 : decode cX4_copyFrom 21 = .ok (.aload_n 0, 1) := by decide +kernel
theorem dX4_copyFrom_22 : decode cX4_copyFrom 22 = .ok (.getfield 18, 3) := by decide +kernel
theorem dX4_copyFrom_25 : decode cX4_copyFrom 25 = .ok (.iload_n 2, 1) := by decide +kernel
theorem dX4_copyFrom_26 : decode cX4_copyFrom 26 = .ok (.aaload, 1) := by decide +kernel
theorem dX4_copyFrom_27 : decode cX4_copyFrom 27 = .ok (.aload_n 1, 1) := by decide +kernel
theorem dX4_copyFrom_28 : decode cX4_copyFrom 28 = .ok (.getfield 18, 3) := by decide +kernel
theorem dX4_copyFrom_31 : decode cX4_copyFrom 31 = .ok (.iload_n 2, 1) := by decide +kernel
theorem dX4_copyFrom_32 : decode cX4_copyFrom 32 = .ok (.aaload, 1) := by decide +kernel
theorem dX4_copyFrom_33 : decode cX4_copyFrom 33 = .ok (.invokevirtual 34, 3) := by decide +kernel
theorem dX4_copyFrom_36 : decode cX4_copyFrom 36 = .ok (.iinc 2 1, 3) := by decide +kernel
theorem dX4_copyFrom_39 : decode cX4_copyFrom 39 = .ok (.goto (-23), 3) := by decide +kernel
theorem dX4_copyFrom_42 : decode cX4_copyFrom 42 = .ok (.aload_n 1, 1) := by decide +kernel
theorem dX4_copyFrom_43 : decode cX4_copyFrom 43 = .ok (.getfield 22, 3) := by decide +kernel
theorem dX4_copyFrom_46 : decode cX4_copyFrom 46 = .ok (.iconst 0, 1) := by decide +kernel
theorem dX4_copyFrom_47 : decode cX4_copyFrom 47 = .ok (.aload_n 0, 1) := by decide +kernel
theorem dX4_copyFrom_48 : decode cX4_copyFrom 48 = .ok (.getfield 22, 3) := by decide +kernel
theorem dX4_copyFrom_51 : decode cX4_copyFrom 51 = .ok (.iconst 0, 1) := by decide +kernel
theorem dX4_copyFrom_52 : decode cX4_copyFrom 52 = .ok (.bipush 8, 2) := by decide +kernel
theorem dX4_copyFrom_54 : decode cX4_copyFrom 54 = .ok (.invokestatic 28, 3) := by decide +kernel
theorem dX4_copyFrom_57 : decode cX4_copyFrom 57 = .ok (.aload_n 1, 1) := by decide +kernel
theorem dX4_copyFrom_58 : decode cX4_copyFrom 58 = .ok (.getfield 25, 3) := by decide +kernel
theorem dX4_copyFrom_61 : decode cX4_copyFrom 61 = .ok (.iconst 0, 1) := by decide +kernel
theorem dX4_copyFrom_62 : decode cX4_copyFrom 62 = .ok (.aload_n 0, 1) := by decide +kernel
theorem dX4_copyFrom_63 : decode cX4_copyFrom 63 = .ok (.getfield 25, 3) := by decide +kernel
theorem dX4_copyFrom_66 : decode cX4_copyFrom 66 = .ok (.iconst 0, 1) := by decide +kernel
theorem dX4_copyFrom_67 : decode cX4_copyFrom 67 = .ok (.bipush 8, 2) := by decide +kernel
theorem dX4_copyFrom_69 : decode cX4_copyFrom 69 = .ok (.invokestatic 28, 3) := by decide +kernel
theorem dX4_copyFrom_72 : decode cX4_copyFrom 72 = .ok (.aload_n 0, 1) := by decide +kernel
theorem dX4_copyFrom_73 : decode cX4_copyFrom 73 = .ok (.aload_n 1, 1) := by decide +kernel
theorem dX4_copyFrom_74 : decode cX4_copyFrom 74 = .ok (.getfield 38, 3) := by decide +kernel
theorem dX4_copyFrom_77 : decode cX4_copyFrom 77 = .ok (.putfield 38, 3) := by decide +kernel
theorem dX4_copyFrom_80 : decode cX4_copyFrom 80 = .ok (.return_, 1) := by decide +kernel
theorem dX4_filledNumbers_0 : decode cX4_filledNumbers 0 = .ok (.iconst 0, 1) := by decide +kernel
theorem dX4_filledNumbers_1 : decode cX4_filledNumbers 1 = .ok (.istore_n 1, 1) := by decide +kernel
theorem dX4_filledNumbers_2 : decode cX4_filledNumbers 2 = .ok (.iconst 0, 1) := by decide +kernel
theorem dX4_filledNumbers_3 : decode cX4_filledNumbers 3 = .ok (.istore_n 2, 1) := by decide +kernel
theorem dX4_filledNumbers_4 : decode cX4_filledNumbers 4 = .ok (.iload_n 2, 1) := by decide +kernel
theorem dX4_filledNumbers_5 : decode cX4_filledNumbers 5 = .ok (.iconst 4, 1) := by decide +kernel
theorem dX4_filledNumbers_6 : decode cX4_filledNumbers 6 = .ok (.if_icmp .ge 21, 3) := by decide +kernel
theorem dX4_filledNumbers_9 : decode cX4_filledNumbers 9 = .ok (.iload_n 1, 1) := by decide +kernel
theorem dX4_filledNumbers_10 : decode cX4_filledNumbers 10 = .ok (.aload_n 0, 1) := by decide +kernel
theorem dX4_filledNumbers_11 : decode cX4_filledNumbers 11 = .ok (.getfield 18, 3) := by decide +kernel
theorem dX4_filledNumbers_14 : decode cX4_filledNumbers 14 = .ok (.iload_n 2, 1) := by decide +kernel
theorem dX4_filledNumbers_15 : decode cX4_filledNumbers 15 = .ok (.aaload, 1) := by decide +kernel
theorem dX4_filledNumbers_16 : decode cX4_filledNumbers 16 = .ok (.invokevirtual 42, 3) := by decide +kernel
theorem dX4_filledNumbers_19 : decode cX4_filledNumbers 19 = .ok (.iadd, 1) := by decide +kernel
theorem dX4_filledNumbers_20 : decode cX4_filledNumbers 20 = .ok (.istore_n 1, 1) := by decide +kernel
theorem dX4_filledNumbers_21 : decode cX4_filledNumbers 21 = .ok (.iinc 2 1, 3) := by decide +kernel
theorem dX4_filledNumbers_24 : decode cX4_filledNumbers 24 = .ok (.goto (-20), 3) := by decide +kernel
theorem dX4_filledNumbers_27 : decode cX4_filledNumbers 27 = .ok (.iload_n 1, 1) := by decide +kernel
theorem dX4_filledNumbers_28 : decode cX4_filledNumbers 28 = .ok (.ireturn, 1) := by decide +kernel
theorem dX5_init_0 : decode cX5_init 0 = .ok (.aload_n 0, 1) := by decide +kernel
theorem dX5_init_1 : decode cX5_init 1 = .ok (.invokespecial 1, 3) := by decide +kernel
theorem dX5_init_4 : decode cX5_init 4 = .ok (.return_, 1) := by decide +kernel
theorem dX5_slope_0 : decode cX5_slope 0 = .ok (.iconst 0, 1) := by decide +kernel
theorem dX5_slope_1 : decode cX5_slope 1 = .ok (.ireturn, 1) := by decide +kernel
theorem dX5_centre_0 : decode cX5_centre 0 = .ok (.iload_n 3, 1) := by decide +kernel
theorem dX5_centre_1 : decode cX5_centre 1 = .ok (.iload_n 1, 1) := by decide +kernel
theorem dX5_centre_2 : decode cX5_centre 2 = .ok (.imul, 1) := by decide +kernel
theorem dX5_centre_3 : decode cX5_centre 3 = .ok (.ireturn, 1) := by decide +kernel
theorem dX6_init_0 : decode cX6_init 0 = .ok (.aload_n 0, 1) := by decide +kernel
theorem dX6_init_1 : decode cX6_init 1 = .ok (.invokespecial 3, 3) := by decide +kernel
theorem dX6_init_4 : decode cX6_init 4 = .ok (.aload_n 0, 1) := by decide +kernel
theorem dX6_init_5 : decode cX6_init 5 = .ok (.sipush 606, 3) := by decide +kernel
theorem dX6_init_8 : decode cX6_init 8 = .ok (.newarray .int, 2) := by decide +kernel
theorem dX6_init_10 : decode cX6_init 10 = .ok (.putfield 9, 3) := by decide +kernel
theorem dX6_init_13 : decode cX6_init 13 = .ok (.aload_n 0, 1) := by decide +kernel
theorem dX6_init_14 : decode cX6_init 14 = .ok (.bipush 6, 2) := by decide +kernel
theorem dX6_init_16 : decode cX6_init 16 = .ok (.newarray .boolean, 2) := by decide +kernel
theorem dX6_init_18 : decode cX6_init 18 = .ok (.putfield 15, 3) := by decide +kernel
theorem dX6_init_21 : decode cX6_init 21 = .ok (.aload_n 0, 1) := by decide +kernel
theorem dX6_init_22 : decode cX6_init 22 = .ok (.iconst 4, 1) := by decide +kernel
theorem dX6_init_23 : decode cX6_init 23 = .ok (.newarray .int, 2) := by decide +kernel
theorem dX6_init_25 : decode cX6_init 25 = .ok (.putfield 19, 3) := by decide +kernel
theorem dX6_init_28 : decode cX6_init 28 = .ok (.aload_n 0, 1) := by decide +kernel
theorem dX6_init_29 : decode cX6_init 29 = .ok (.bipush 21, 2) := by decide +kernel
theorem dX6_init_31 : decode cX6_init 31 = .ok (.newarray .int, 2) := by decide +kernel
theorem dX6_init_33 : decode cX6_init 33 = .ok (.putfield 22, 3) := by decide +kernel
theorem dX6_init_36 : decode cX6_init 36 = .ok (.return_, 1) := by decide +kernel
theorem dX6_learn_0 : decode cX6_learn 0 = .ok (.aload_n 0, 1) := by decide +kernel
theorem dX6_learn_1 : decode cX6_learn 1 = .ok (.getfield 19, 3) := by decide +kernel
theorem dX6_learn_4 : decode cX6_learn 4 = .ok (.iconst 0, 1) := by decide +kernel
theorem dX6_learn_5 : decode cX6_learn 5 = .ok (.iaload, 1) := by decide +kernel
theorem dX6_learn_6 : decode cX6_learn 6 = .ok (.aload_n 2, 1) := by decide +kernel
theorem dX6_learn_7 : decode cX6_learn 7 = .ok (.iconst 0, 1) := by decide +kernel
theorem dX6_learn_8 : decode cX6_learn 8 = .ok (.iaload, 1) := by decide +kernel
theorem dX6_learn_9 : decode cX6_learn 9 = .ok (.if_icmp .ne 27, 3) := by decide +kernel
theorem dX6_learn_12 : decode cX6_learn 12 = .ok (.aload_n 0, 1) := by decide +kernel
theorem dX6_learn_13 : decode cX6_learn 13 = .ok (.getfield 19, 3) := by decide +kernel
theorem dX6_learn_16 : decode cX6_learn 16 = .ok (.iconst 1, 1) := by decide +kernel
theorem dX6_learn_17 : decode cX6_learn 17 = .ok (.iaload, 1) := by decide +kernel
theorem dX6_learn_18 : decode cX6_learn 18 = .ok (.aload_n 2, 1) := by decide +kernel
theorem dX6_learn_19 : decode cX6_learn 19 = .ok (.iconst 1, 1) := by decide +kernel
theorem dX6_learn_20 : decode cX6_learn 20 = .ok (.iaload, 1) := by decide +kernel
theorem dX6_learn_21 : decode cX6_learn 21 = .ok (.if_icmp .ne 15, 3) := by decide +kernel
theorem dX6_learn_24 : decode cX6_learn 24 = .ok (.aload_n 0, 1) := by decide +kernel
theorem dX6_learn_25 : decode cX6_learn 25 = .ok (.getfield 19, 3) := by decide +kernel
theorem dX6_learn_28 : decode cX6_learn 28 = .ok (.iconst 3, 1) := by decide +kernel
theorem dX6_learn_29 : decode cX6_learn 29 = .ok (.iaload, 1) := by decide +kernel
theorem dX6_learn_30 : decode cX6_learn 30 = .ok (.aload_n 2, 1) := by decide +kernel
theorem dX6_learn_31 : decode cX6_learn 31 = .ok (.iconst 3, 1) := by decide +kernel
theorem dX6_learn_32 : decode cX6_learn 32 = .ok (.iaload, 1) := by decide +kernel
theorem dX6_learn_33 : decode cX6_learn 33 = .ok (.if_icmp .eq 26, 3) := by decide +kernel
theorem dX6_learn_36 : decode cX6_learn 36 = .ok (.iconst 0, 1) := by decide +kernel
theorem dX6_learn_37 : decode cX6_learn 37 = .ok (.istore 4, 2) := by decide +kernel
theorem dX6_learn_39 : decode cX6_learn 39 = .ok (.iload 4, 2) := by decide +kernel
theorem dX6_learn_41 : decode cX6_learn 41 = .ok (.iconst 5, 1) := by decide +kernel
theorem dX6_learn_42 : decode cX6_learn 42 = .ok (.if_icmp .gt 17, 3) := by decide +kernel
theorem dX6_learn_45 : decode cX6_learn 45 = .ok (.aload_n 0, 1) := by decide +kernel
theorem dX6_learn_46 : decode cX6_learn 46 = .ok (.getfield 15, 3) := by decide +kernel
theorem dX6_learn_49 : decode cX6_learn 49 = .ok (.iload 4, 2) := by decide +kernel
theorem dX6_learn_51 : decode cX6_learn 51 = .ok (.iconst 0, 1) := by decide +kernel
theorem dX6_learn_52 : decode cX6_learn 52 = .ok (.bastore, 1) := by decide +kernel
theorem dX6_learn_53 : decode cX6_learn 53 = .ok (.iinc 4 1, 3) := by decide +kernel
theorem dX6_learn_56 : decode cX6_learn 56 = .ok (.goto (-17), 3) := by decide +kernel
theorem dX6_learn_59 : decode cX6_learn 59 = .ok (.aload_n 0, 1) := by decide +kernel
theorem dX6_learn_60 : decode cX6_learn 60 = .ok (.getfield 15, 3) := by decide +kernel
theorem dX6_learn_63 : decode cX6_learn 63 = .ok (.iload_n 3, 1) := by decide +kernel
theorem dX6_learn_64 : decode cX6_learn 64 = .ok (.baload, 1) := by decide +kernel
theorem dX6_learn_65 : decode cX6_learn 65 = .ok (.ifCond .eq 4, 3) := by decide +kernel
theorem dX6_learn_68 : decode cX6_learn 68 = .ok (.return_, 1) := by decide +kernel
theorem dX6_learn_69 : decode cX6_learn 69 = .ok (.aload_n 0, 1) := by decide +kernel
theorem dX6_learn_70 : decode cX6_learn 70 = .ok (.getfield 15, 3) := by decide +kernel
theorem dX6_learn_73 : decode cX6_learn 73 = .ok (.iload_n 3, 1) := by decide +kernel
theorem dX6_learn_74 : decode cX6_learn 74 = .ok (.iconst 1, 1) := by decide +kernel
theorem dX6_learn_75 : decode cX6_learn 75 = .ok (.bastore, 1) := by decide +kernel
theorem dX6_learn_76 : decode cX6_learn 76 = .ok (.aload_n 2, 1) := by decide +kernel
theorem dX6_learn_77 : decode cX6_learn 77 = .ok (.iconst 0, 1) := by decide +kernel
theorem dX6_learn_78 : decode cX6_learn 78 = .ok (.aload_n 0, 1) := by decide +kernel
theorem dX6_learn_79 : decode cX6_learn 79 = .ok (.getfield 19, 3) := by decide +kernel
theorem dX6_learn_82 : decode cX6_learn 82 = .ok (.iconst 0, 1) := by decide +kernel
theorem dX6_learn_83 : decode cX6_learn 83 = .ok (.iconst 4, 1) := by decide +kernel
theorem dX6_learn_84 : decode cX6_learn 84 = .ok (.invokestatic 25, 3) := by decide +kernel
theorem dX6_learn_87 : decode cX6_learn 87 = .ok (.getstatic 31, 3) := by decide +kernel
theorem dX6_learn_90 : decode cX6_learn 90 = .ok (.iload_n 3, 1) := by decide +kernel
theorem dX6_learn_91 : decode cX6_learn 91 = .ok (.iaload, 1) := by decide +kernel
theorem dX6_learn_92 : decode cX6_learn 92 = .ok (.istore 4, 2) := by decide +kernel
theorem dX6_learn_94 : decode cX6_learn 94 = .ok (.iconst 0, 1) := by decide +kernel
theorem dX6_learn_95 : decode cX6_learn 95 = .ok (.istore 5, 2) := by decide +kernel
theorem dX6_learn_97 : decode cX6_learn 97 = .ok (.iload 5, 2) := by decide +kernel
theorem dX6_learn_99 : decode cX6_learn 99 = .ok (.iload 4, 2) := by decide +kernel
theorem dX6_learn_101 : decode cX6_learn 101 = .ok (.if_icmp .gt 60, 3) := by decide +kernel
theorem dX6_learn_104 : decode cX6_learn 104 = .ok (.aload_n 0, 1) := by decide +kernel
theorem dX6_learn_105 : decode cX6_learn 105 = .ok (.getfield 19, 3) := by decide +kernel
theorem dX6_learn_108 : decode cX6_learn 108 = .ok (.iconst 2, 1) := by decide +kernel
theorem dX6_learn_109 : decode cX6_learn 109 = .ok (.iload 5, 2) := by decide +kernel
theorem dX6_learn_111 : decode cX6_learn 111 = .ok (.iastore, 1) := by decide +kernel
theorem dX6_learn_112 : decode cX6_learn 112 = .ok (.aload_n 1, 1) := by decide +kernel
theorem dX6_learn_113 : decode cX6_learn 113 = .ok (.aload_n 0, 1) := by decide +kernel
theorem dX6_learn_114 : decode cX6_learn 114 = .ok (.getfield 19, 3) := by decide +kernel
theorem dX6_learn_117 : decode cX6_learn 117 = .ok (.iload_n 3, 1) := by decide +kernel
theorem dX6_learn_118 : decode cX6_learn 118 = .ok (.invokevirtual 34, 3) := by decide +kernel
theorem dX6_learn_121 : decode cX6_learn 121 = .ok (.aload_n 0, 1) := by decide +kernel
theorem dX6_learn_122 : decode cX6_learn 122 = .ok (.getfield 22, 3) := by decide +kernel
theorem dX6_learn_125 : decode cX6_learn 125 = .ok (.iload 5, 2) := by decide +kernel
theorem dX6_learn_127 : decode cX6_learn 127 = .ok (.aload_n 1, 1) := by decide +kernel
theorem dX6_learn_128 : decode cX6_learn 128 = .ok (.iload_n 3, 1) := by decide +kernel
theorem dX6_learn_129 : decode cX6_learn 129 = .ok (.invokevirtual 40, 3) := by decide +kernel
theorem dX6_learn_132 : decode cX6_learn 132 = .ok (.getfield 44, 3) := by decide +kernel
theorem dX6_learn_135 : decode cX6_learn 135 = .ok (.iastore, 1) := by decide +kernel
theorem dX6_learn_136 : decode cX6_learn 136 = .ok (.aload_n 0, 1) := by decide +kernel
theorem dX6_learn_137 : decode cX6_learn 137 = .ok (.getfield 9, 3) := by decide +kernel
theorem dX6_learn_140 : decode cX6_learn 140 = .ok (.iload_n 3, 1) := by decide +kernel
theorem dX6_learn_141 : decode cX6_learn 141 = .ok (.bipush 101, 2) := by decide +kernel
theorem dX6_learn_143 : decode cX6_learn 143 = .ok (.imul, 1) := by decide +kernel
theorem dX6_learn_144 : decode cX6_learn 144 = .ok (.iload 5, 2) := by decide +kernel
theorem dX6_learn_146 : decode cX6_learn 146 = .ok (.iadd, 1) := by decide +kernel
theorem dX6_learn_147 : decode cX6_learn 147 = .ok (.aload_n 0, 1) := by decide +kernel
theorem dX6_learn_148 : decode cX6_learn 148 = .ok (.getfield 22, 3) := by decide +kernel
theorem dX6_learn_151 : decode cX6_learn 151 = .ok (.iload 5, 2) := by decide +kernel
theorem dX6_learn_153 : decode cX6_learn 153 = .ok (.iaload, 1) := by decide +kernel
theorem dX6_learn_154 : decode cX6_learn 154 = .ok (.iastore, 1) := by decide +kernel
theorem dX6_learn_155 : decode cX6_learn 155 = .ok (.iinc 5 1, 3) := by decide +kernel
theorem dX6_learn_158 : decode cX6_learn 158 = .ok (.goto (-61), 3) := by decide +kernel
theorem dX6_learn_161 : decode cX6_learn 161 = .ok (.aload_n 0, 1) := by decide +kernel
theorem dX6_learn_162 : decode cX6_learn 162 = .ok (.iload_n 3, 1) := by decide +kernel
theorem dX6_learn_163 : decode cX6_learn 163 = .ok (.iload 4, 2) := by decide +kernel
theorem dX6_learn_165 : decode cX6_learn 165 = .ok (.invokevirtual 50, 3) := by decide +kernel
theorem dX6_learn_168 : decode cX6_learn 168 = .ok (.return_, 1) := by decide +kernel
theorem dX6_extend_0 : decode cX6_extend 0 = .ok (.iload_n 2, 1) := by decide +kernel
theorem dX6_extend_1 : decode cX6_extend 1 = .ok (.iconst 1, 1) := by decide +kernel
theorem dX6_extend_2 : decode cX6_extend 2 = .ok (.isub, 1) := by decide +kernel
theorem dX6_extend_3 : decode cX6_extend 3 = .ok (.istore_n 3, 1) := by decide +kernel
theorem dX6_extend_4 : decode cX6_extend 4 = .ok (.iload_n 3, 1) := by decide +kernel
theorem dX6_extend_5 : decode cX6_extend 5 = .ok (.ifCond .lt 51, 3) := by decide +kernel
theorem dX6_extend_8 : decode cX6_extend 8 = .ok (.iconst 0, 1) := by decide +kernel
theorem dX6_extend_9 : decode cX6_extend 9 = .ok (.istore 4, 2) := by decide +kernel
theorem dX6_extend_11 : decode cX6_extend 11 = .ok (.iload 4, 2) := by decide +kernel
theorem dX6_extend_13 : decode cX6_extend 13 = .ok (.iload_n 3, 1) := by decide +kernel
theorem dX6_extend_14 : decode cX6_extend 14 = .ok (.if_icmp .gt 36, 3) := by decide +kernel
theorem dX6_extend_17 : decode cX6_extend 17 = .ok (.aload_n 0, 1) := by decide +kernel
theorem dX6_extend_18 : decode cX6_extend 18 = .ok (.getfield 22, 3) := by decide +kernel
theorem dX6_extend_21 : decode cX6_extend 21 = .ok (.iload 4, 2) := by decide +kernel
theorem dX6_extend_23 : decode cX6_extend 23 = .ok (.aload_n 0, 1) := by decide +kernel
theorem dX6_extend_24 : decode cX6_extend 24 = .ok (.getfield 22, 3) := by decide +kernel
theorem dX6_extend_27 : decode cX6_extend 27 = .ok (.iload 4, 2) := by decide +kernel
theorem dX6_extend_29 : decode cX6_extend 29 = .ok (.iconst 1, 1) := by decide +kernel
theorem dX6_extend_30 : decode cX6_extend 30 = .ok (.iadd, 1) := by decide +kernel
theorem dX6_extend_31 : decode cX6_extend 31 = .ok (.iaload, 1) := by decide +kernel
theorem dX6_extend_32 : decode cX6_extend 32 = .ok (.aload_n 0, 1) := by decide +kernel
theorem dX6_extend_33 : decode cX6_extend 33 = .ok (.getfield 22, 3) := by decide +kernel
theorem dX6_extend_36 : decode cX6_extend 36 = .ok (.iload 4, 2) := by decide +kernel
theorem dX6_extend_38 : decode cX6_extend 38 = .ok (.iaload, 1) := by decide +kernel
theorem dX6_extend_39 : decode cX6_extend 39 = .ok (.isub, 1) := by decide +kernel
theorem dX6_extend_40 : decode cX6_extend 40 = .ok (.invokestatic 54, 3) := by decide +kernel
theorem dX6_extend_43 : decode cX6_extend 43 = .ok (.iastore, 1) := by decide +kernel
theorem dX6_extend_44 : decode cX6_extend 44 = .ok (.iinc 4 1, 3) := by decide +kernel
theorem dX6_extend_47 : decode cX6_extend 47 = .ok (.goto (-36), 3) := by decide +kernel
theorem dX6_extend_50 : decode cX6_extend 50 = .ok (.iinc 3 (-1), 3) := by decide +kernel
theorem dX6_extend_53 : decode cX6_extend 53 = .ok (.goto (-49), 3) := by decide +kernel
theorem dX6_extend_56 : decode cX6_extend 56 = .ok (.iload_n 2, 1) := by decide +kernel
theorem dX6_extend_57 : decode cX6_extend 57 = .ok (.iconst 1, 1) := by decide +kernel
theorem dX6_extend_58 : decode cX6_extend 58 = .ok (.iadd, 1) := by decide +kernel
theorem dX6_extend_59 : decode cX6_extend 59 = .ok (.istore_n 3, 1) := by decide +kernel
theorem dX6_extend_60 : decode cX6_extend 60 = .ok (.iload_n 3, 1) := by decide +kernel
theorem dX6_extend_61 : decode cX6_extend 61 = .ok (.bipush 101, 2) := by decide +kernel
theorem dX6_extend_63 : decode cX6_extend 63 = .ok (.if_icmp .ge 68, 3) := by decide +kernel
theorem dX6_extend_66 : decode cX6_extend 66 = .ok (.iconst 1, 1) := by decide +kernel
theorem dX6_extend_67 : decode cX6_extend 67 = .ok (.istore 4, 2) := by decide +kernel
theorem dX6_extend_69 : decode cX6_extend 69 = .ok (.iload 4, 2) := by decide +kernel
theorem dX6_extend_71 : decode cX6_extend 71 = .ok (.iload_n 2, 1) := by decide +kernel
theorem dX6_extend_72 : decode cX6_extend 72 = .ok (.if_icmp .gt 36, 3) := by decide +kernel
theorem dX6_extend_75 : decode cX6_extend 75 = .ok (.aload_n 0, 1) := by decide +kernel
theorem dX6_extend_76 : decode cX6_extend 76 = .ok (.getfield 22, 3) := by decide +kernel
theorem dX6_extend_79 : decode cX6_extend 79 = .ok (.iload 4, 2) := by decide +kernel
theorem dX6_extend_81 : decode cX6_extend 81 = .ok (.aload_n 0, 1) := by decide +kernel
theorem dX6_extend_82 : decode cX6_extend 82 = .ok (.getfield 22, 3) := by decide +kernel
theorem dX6_extend_85 : decode cX6_extend 85 = .ok (.iload 4, 2) := by decide +kernel
theorem dX6_extend_87 : decode cX6_extend 87 = .ok (.iaload, 1) := by decide +kernel
theorem dX6_extend_88 : decode cX6_extend 88 = .ok (.aload_n 0, 1) := by decide +kernel
theorem dX6_extend_89 : decode cX6_extend 89 = .ok (.getfield 22, 3) := by decide +kernel
theorem dX6_extend_92 : decode cX6_extend 92 = .ok (.iload 4, 2) := by decide +kernel
theorem dX6_extend_94 : decode cX6_extend 94 = .ok (.iconst 1, 1) := by decide +kernel
theorem dX6_extend_95 : decode cX6_extend 95 = .ok (.isub, 1) := by decide +kernel
theorem dX6_extend_96 : decode cX6_extend 96 = .ok (.iaload, 1) := by decide +kernel
theorem dX6_extend_97 : decode cX6_extend 97 = .ok (.iadd, 1) := by decide +kernel
theorem dX6_extend_98 : decode cX6_extend 98 = .ok (.bipush 101, 2) := by decide +kernel
theorem dX6_extend_100 : decode cX6_extend 100 = .ok (.irem, 1) := by decide +kernel
theorem dX6_extend_101 : decode cX6_extend 101 = .ok (.iastore, 1) := by decide +kernel
theorem dX6_extend_102 : decode cX6_extend 102 = .ok (.iinc 4 1, 3) := by decide +kernel
theorem dX6_extend_105 : decode cX6_extend 105 = .ok (.goto (-36), 3) := by decide +kernel
theorem dX6_extend_108 : decode cX6_extend 108 = .ok (.aload_n 0, 1) := by decide +kernel
theorem dX6_extend_109 : decode cX6_extend 109 = .ok (.getfield 9, 3) := by decide +kernel
theorem dX6_extend_112 : decode cX6_extend 112 = .ok (.iload_n 1, 1) := by decide +kernel
theorem dX6_extend_113 : decode cX6_extend 113 = .ok (.bipush 101, 2) := by decide +kernel
theorem dX6_extend_115 : decode cX6_extend 115 = .ok (.imul, 1) := by decide +kernel
theorem dX6_extend_116 : decode cX6_extend 116 = .ok (.iload_n 3, 1) := by decide +kernel
theorem dX6_extend_117 : decode cX6_extend 117 = .ok (.iadd, 1) := by decide +kernel
theorem dX6_extend_118 : decode cX6_extend 118 = .ok (.aload_n 0, 1) := by decide +kernel
theorem dX6_extend_119 : decode cX6_extend 119 = .ok (.getfield 22, 3) := by decide +kernel
theorem dX6_extend_122 : decode cX6_extend 122 = .ok (.iload_n 2, 1) := by decide +kernel
theorem dX6_extend_123 : decode cX6_extend 123 = .ok (.iaload, 1) := by decide +kernel
theorem dX6_extend_124 : decode cX6_extend 124 = .ok (.iastore, 1) := by decide +kernel
theorem dX6_extend_125 : decode cX6_extend 125 = .ok (.iinc 3 1, 3) := by decide +kernel
theorem dX6_extend_128 : decode cX6_extend 128 = .ok (.goto (-68), 3) := by decide +kernel
theorem dX6_extend_131 : decode cX6_extend 131 = .ok (.return_, 1) := by decide +kernel
theorem dX6_howMany_0 : decode cX6_howMany 0 = .ok (.iconst 0, 1) := by decide +kernel
theorem dX6_howMany_1 : decode cX6_howMany 1 = .ok (.istore_n 3, 1) := by decide +kernel
theorem dX6_howMany_2 : decode cX6_howMany 2 = .ok (.iconst 0, 1) := by decide +kernel
theorem dX6_howMany_3 : decode cX6_howMany 3 = .ok (.istore 4, 2) := by decide +kernel
theorem dX6_howMany_5 : decode cX6_howMany 5 = .ok (.iload 4, 2) := by decide +kernel
theorem dX6_howMany_7 : decode cX6_howMany 7 = .ok (.bipush 101, 2) := by decide +kernel
theorem dX6_howMany_9 : decode cX6_howMany 9 = .ok (.if_icmp .ge 28, 3) := by decide +kernel
theorem dX6_howMany_12 : decode cX6_howMany 12 = .ok (.aload_n 0, 1) := by decide +kernel
theorem dX6_howMany_13 : decode cX6_howMany 13 = .ok (.getfield 9, 3) := by decide +kernel
theorem dX6_howMany_16 : decode cX6_howMany 16 = .ok (.iload_n 1, 1) := by decide +kernel
theorem dX6_howMany_17 : decode cX6_howMany 17 = .ok (.bipush 101, 2) := by decide +kernel
theorem dX6_howMany_19 : decode cX6_howMany 19 = .ok (.imul, 1) := by decide +kernel
theorem dX6_howMany_20 : decode cX6_howMany 20 = .ok (.iload 4, 2) := by decide +kernel
theorem dX6_howMany_22 : decode cX6_howMany 22 = .ok (.iadd, 1) := by decide +kernel
theorem dX6_howMany_23 : decode cX6_howMany 23 = .ok (.iaload, 1) := by decide +kernel
theorem dX6_howMany_24 : decode cX6_howMany 24 = .ok (.iload_n 2, 1) := by decide +kernel
theorem dX6_howMany_25 : decode cX6_howMany 25 = .ok (.if_icmp .ne 6, 3) := by decide +kernel
theorem dX6_howMany_28 : decode cX6_howMany 28 = .ok (.iinc 3 1, 3) := by decide +kernel
theorem dX6_howMany_31 : decode cX6_howMany 31 = .ok (.iinc 4 1, 3) := by decide +kernel
theorem dX6_howMany_34 : decode cX6_howMany 34 = .ok (.goto (-29), 3) := by decide +kernel
theorem dX6_howMany_37 : decode cX6_howMany 37 = .ok (.iload_n 3, 1) := by decide +kernel
theorem dX6_howMany_38 : decode cX6_howMany 38 = .ok (.ireturn, 1) := by decide +kernel
theorem dX6_weight_0 : decode cX6_weight 0 = .ok (.iload_n 3, 1) := by decide +kernel
theorem dX6_weight_1 : decode cX6_weight 1 = .ok (.istore 4, 2) := by decide +kernel
theorem dX6_weight_3 : decode cX6_weight 3 = .ok (.iconst 0, 1) := by decide +kernel
theorem dX6_weight_4 : decode cX6_weight 4 = .ok (.istore 5, 2) := by decide +kernel
theorem dX6_weight_6 : decode cX6_weight 6 = .ok (.iload 5, 2) := by decide +kernel
theorem dX6_weight_8 : decode cX6_weight 8 = .ok (.bipush 101, 2) := by decide +kernel
theorem dX6_weight_10 : decode cX6_weight 10 = .ok (.if_icmp .ge 36, 3) := by decide +kernel
theorem dX6_weight_13 : decode cX6_weight 13 = .ok (.aload_n 0, 1) := by decide +kernel
theorem dX6_weight_14 : decode cX6_weight 14 = .ok (.getfield 9, 3) := by decide +kernel
theorem dX6_weight_17 : decode cX6_weight 17 = .ok (.iload_n 1, 1) := by decide +kernel
theorem dX6_weight_18 : decode cX6_weight 18 = .ok (.bipush 101, 2) := by decide +kernel
theorem dX6_weight_20 : decode cX6_weight 20 = .ok (.imul, 1) := by decide +kernel
theorem dX6_weight_21 : decode cX6_weight 21 = .ok (.iload 5, 2) := by decide +kernel
theorem dX6_weight_23 : decode cX6_weight 23 = .ok (.iadd, 1) := by decide +kernel
theorem dX6_weight_24 : decode cX6_weight 24 = .ok (.iaload, 1) := by decide +kernel
theorem dX6_weight_25 : decode cX6_weight 25 = .ok (.iload_n 2, 1) := by decide +kernel
theorem dX6_weight_26 : decode cX6_weight 26 = .ok (.if_icmp .ne 14, 3) := by decide +kernel
theorem dX6_weight_29 : decode cX6_weight 29 = .ok (.iload 4, 2) := by decide +kernel
theorem dX6_weight_31 : decode cX6_weight 31 = .ok (.ifCond .ne 6, 3) := by decide +kernel
theorem dX6_weight_34 : decode cX6_weight 34 = .ok (.iload 5, 2) := by decide +kernel
theorem dX6_weight_36 : decode cX6_weight 36 = .ok (.ireturn, 1) := by decide +kernel
theorem dX6_weight_37 : decode cX6_weight 37 = .ok (.iinc 4 (-1), 3) := by decide +kernel
theorem dX6_weight_40 : decode cX6_weight 40 = .ok (.iinc 5 1, 3) := by decide +kernel
theorem dX6_weight_43 : decode cX6_weight 43 = .ok (.goto (-37), 3) := by decide +kernel
theorem dX6_weight_46 : decode cX6_weight 46 = .ok (.bipush (-5), 2) := by decide +kernel
theorem dX6_weight_48 : decode cX6_weight 48 = .ok (.ireturn, 1) := by decide +kernel
theorem dX7_init_0 : decode cX7_init 0 = .ok (.aload_n 0, 1) := by decide +kernel
theorem dX7_init_1 : decode cX7_init 1 = .ok (.invokespecial 3, 3) := by decide +kernel
theorem dX7_init_4 : decode cX7_init 4 = .ok (.aload_n 0, 1) := by decide +kernel
theorem dX7_init_5 : decode cX7_init 5 = .ok (.bipush 30, 2) := by decide +kernel
theorem dX7_init_7 : decode cX7_init 7 = .ok (.newarray .int, 2) := by decide +kernel
theorem dX7_init_9 : decode cX7_init 9 = .ok (.putfield 9, 3) := by decide +kernel
theorem dX7_init_12 : decode cX7_init 12 = .ok (.aload_n 0, 1) := by decide +kernel
theorem dX7_init_13 : decode cX7_init 13 = .ok (.iload_n 1, 1) := by decide +kernel
theorem dX7_init_14 : decode cX7_init 14 = .ok (.newarray .byte, 2) := by decide +kernel
theorem dX7_init_16 : decode cX7_init 16 = .ok (.putfield 15, 3) := by decide +kernel
theorem dX7_init_19 : decode cX7_init 19 = .ok (.return_, 1) := by decide +kernel
theorem dX7_clear_0 : decode cX7_clear 0 = .ok (.aload_n 0, 1) := by decide +kernel
theorem dX7_clear_1 : decode cX7_clear 1 = .ok (.iconst 0, 1) := by decide +kernel
theorem dX7_clear_2 : decode cX7_clear 2 = .ok (.putfield 19, 3) := by decide +kernel
theorem dX7_clear_5 : decode cX7_clear 5 = .ok (.return_, 1) := by decide +kernel
theorem dX7_append_0 : decode cX7_append 0 = .ok (.aload_n 0, 1) := by decide +kernel
theorem dX7_append_1 : decode cX7_append 1 = .ok (.getfield 19, 3) := by decide +kernel
theorem dX7_append_4 : decode cX7_append 4 = .ok (.aload_n 0, 1) := by decide +kernel
theorem dX7_append_5 : decode cX7_append 5 = .ok (.getfield 15, 3) := by decide +kernel
theorem dX7_append_8 : decode cX7_append 8 = .ok (.arraylength, 1) := by decide +kernel
theorem dX7_append_9 : decode cX7_append 9 = .ok (.if_icmp .lt 5, 3) := by decide +kernel
theorem dX7_append_12 : decode cX7_append 12 = .ok (.iconst 0, 1) := by decide +kernel
theorem dX7_append_13 : decode cX7_append 13 = .ok (.ireturn, 1) := by decide +kernel
theorem dX7_append_14 : decode cX7_append 14 = .ok (.aload_n 0, 1) := by decide +kernel
theorem dX7_append_15 : decode cX7_append 15 = .ok (.getfield 15, 3) := by decide +kernel
theorem dX7_append_18 : decode cX7_append 18 = .ok (.aload_n 0, 1) := by decide +kernel
theorem dX7_append_19 : decode cX7_append 19 = .ok (.getfield 19, 3) := by decide +kernel
theorem dX7_append_22 : decode cX7_append 22 = .ok (.iload_n 1, 1) := by decide +kernel
theorem dX7_append_23 : decode cX7_append 23 = .ok (.i2b, 1) := by decide +kernel
theorem dX7_append_24 : decode cX7_append 24 = .ok (.bastore, 1) := by decide +kernel
theorem dX7_append_25 : decode cX7_append 25 = .ok (.aload_n 0, 1) := by decide +kernel
theorem dX7_append_26 : decode cX7_append 26 = .ok (.dup, 1) := by decide +kernel
theorem dX7_append_27 : decode cX7_append 27 = .ok (.getfield 19, 3) := by decide +kernel
theorem dX7_append_30 : decode cX7_append 30 = .ok (.iconst 1, 1) := by decide +kernel
theorem dX7_append_31 : decode cX7_append 31 = .ok (.iadd, 1) := by decide +kernel
theorem dX7_append_32 : decode cX7_append 32 = .ok (.putfield 19, 3) := by decide +kernel
theorem dX7_append_35 : decode cX7_append 35 = .ok (.iconst 1, 1) := by decide +kernel
theorem dX7_append_36 : decode cX7_append 36 = .ok (.ireturn, 1) := by decide +kernel
theorem dX7_fault_0 : decode cX7_fault 0 = .ok (.iconst 0, 1) := by decide +kernel
theorem dX7_fault_1 : decode cX7_fault 1 = .ok (.istore_n 1, 1) := by decide +kernel
theorem dX7_fault_2 : decode cX7_fault 2 = .ok (.iconst 0, 1) := by decide +kernel
theorem dX7_fault_3 : decode cX7_fault 3 = .ok (.istore_n 2, 1) := by decide +kernel
theorem dX7_fault_4 : decode cX7_fault 4 = .ok (.iload_n 2, 1) := by decide +kernel
theorem dX7_fault_5 : decode cX7_fault 5 = .ok (.aload_n 0, 1) := by decide +kernel
theorem dX7_fault_6 : decode cX7_fault 6 = .ok (.getfield 19, 3) := by decide +kernel
theorem dX7_fault_9 : decode cX7_fault 9 = .ok (.if_icmp .ge 26, 3) := by decide +kernel
theorem dX7_fault_12 : decode cX7_fault 12 = .ok (.iload_n 1, 1) := by decide +kernel
theorem dX7_fault_13 : decode cX7_fault 13 = .ok (.aload_n 0, 1) := by decide +kernel
theorem dX7_fault_14 : decode cX7_fault 14 = .ok (.getfield 15, 3) := by decide +kernel
theorem dX7_fault_17 : decode cX7_fault 17 = .ok (.iload_n 2, 1) := by decide +kernel
theorem dX7_fault_18 : decode cX7_fault 18 = .ok (.baload, 1) := by decide +kernel
theorem dX7_fault_19 : decode cX7_fault 19 = .ok (.invokestatic 23, 3) := by decide +kernel
theorem dX7_fault_22 : decode cX7_fault 22 = .ok (.istore_n 1, 1) := by decide +kernel
theorem dX7_fault_23 : decode cX7_fault 23 = .ok (.iload_n 1, 1) := by decide +kernel
theorem dX7_fault_24 : decode cX7_fault 24 = .ok (.ifCond .ge 5, 3) := by decide +kernel
theorem dX7_fault_27 : decode cX7_fault 27 = .ok (.iload_n 2, 1) := by decide +kernel
theorem dX7_fault_28 : decode cX7_fault 28 = .ok (.ireturn, 1) := by decide +kernel
theorem dX7_fault_29 : decode cX7_fault 29 = .ok (.iinc 2 1, 3) := by decide +kernel
theorem dX7_fault_32 : decode cX7_fault 32 = .ok (.goto (-28), 3) := by decide +kernel
theorem dX7_fault_35 : decode cX7_fault 35 = .ok (.iload_n 1, 1) := by decide +kernel
theorem dX7_fault_36 : decode cX7_fault 36 = .ok (.bipush 7, 2) := by decide +kernel
theorem dX7_fault_38 : decode cX7_fault 38 = .ok (.if_icmp .ne 7, 3) := by decide +kernel
theorem dX7_fault_41 : decode cX7_fault 41 = .ok (.iconst (-1), 1) := by decide +kernel
theorem dX7_fault_42 : decode cX7_fault 42 = .ok (.goto 7, 3) := by decide +kernel
theorem dX7_fault_45 : decode cX7_fault 45 = .ok (.aload_n 0, 1) := by decide +kernel
theorem dX7_fault_46 : decode cX7_fault 46 = .ok (.getfield 19, 3) := by decide +kernel
theorem dX7_fault_49 : decode cX7_fault 49 = .ok (.ireturn, 1) := by decide +kernel
theorem dX7_next_0 : decode cX7_next 0 = .ok (.iload_n 0, 1) := by decide +kernel
theorem dX7_next_1 : decode cX7_next 1 = .ok (.tableswitch 171 0 6 #[43, 70, 97, 109, 130, 147, 125], 43) := by decide +kernel
theorem dX7_next_44 : decode cX7_next 44 = .ok (.iload_n 1, 1) := by decide +kernel
theorem dX7_next_45 : decode cX7_next 45 = .ok (.bipush 91, 2) := by decide +kernel
theorem dX7_next_47 : decode cX7_next 47 = .ok (.if_icmp .ne 7, 3) := by decide +kernel
theorem dX7_next_50 : decode cX7_next 50 = .ok (.iconst 3, 1) := by decide +kernel
theorem dX7_next_51 : decode cX7_next 51 = .ok (.goto 19, 3) := by decide +kernel
theorem dX7_next_54 : decode cX7_next 54 = .ok (.iload_n 1, 1) := by decide +kernel
theorem dX7_next_55 : decode cX7_next 55 = .ok (.bipush 49, 2) := by decide +kernel
theorem dX7_next_57 : decode cX7_next 57 = .ok (.bipush 57, 2) := by decide +kernel
theorem dX7_next_59 : decode cX7_next 59 = .ok (.invokestatic 27, 3) := by decide +kernel
theorem dX7_next_62 : decode cX7_next 62 = .ok (.ifCond .eq 7, 3) := by decide +kernel
theorem dX7_next_65 : decode cX7_next 65 = .ok (.iconst 1, 1) := by decide +kernel
theorem dX7_next_66 : decode cX7_next 66 = .ok (.goto 4, 3) := by decide +kernel
theorem dX7_next_69 : decode cX7_next 69 = .ok (.iconst (-1), 1) := by decide +kernel
theorem dX7_next_70 : decode cX7_next 70 = .ok (.ireturn, 1) := by decide +kernel
theorem dX7_next_71 : decode cX7_next 71 = .ok (.iload_n 1, 1) := by decide +kernel
theorem dX7_next_72 : decode cX7_next 72 = .ok (.bipush 91, 2) := by decide +kernel
theorem dX7_next_74 : decode cX7_next 74 = .ok (.if_icmp .ne 7, 3) := by decide +kernel
theorem dX7_next_77 : decode cX7_next 77 = .ok (.iconst 3, 1) := by decide +kernel
theorem dX7_next_78 : decode cX7_next 78 = .ok (.goto 19, 3) := by decide +kernel
theorem dX7_next_81 : decode cX7_next 81 = .ok (.iload_n 1, 1) := by decide +kernel
theorem dX7_next_82 : decode cX7_next 82 = .ok (.bipush 48, 2) := by decide +kernel
theorem dX7_next_84 : decode cX7_next 84 = .ok (.bipush 57, 2) := by decide +kernel
theorem dX7_next_86 : decode cX7_next 86 = .ok (.invokestatic 27, 3) := by decide +kernel
theorem dX7_next_89 : decode cX7_next 89 = .ok (.ifCond .eq 7, 3) := by decide +kernel
theorem dX7_next_92 : decode cX7_next 92 = .ok (.iconst 2, 1) := by decide +kernel
theorem dX7_next_93 : decode cX7_next 93 = .ok (.goto 4, 3) := by decide +kernel
theorem dX7_next_96 : decode cX7_next 96 = .ok (.iconst (-1), 1) := by decide +kernel
theorem dX7_next_97 : decode cX7_next 97 = .ok (.ireturn, 1) := by decide +kernel
theorem dX7_next_98 : decode cX7_next 98 = .ok (.iload_n 1, 1) := by decide +kernel
theorem dX7_next_99 : decode cX7_next 99 = .ok (.bipush 91, 2) := by decide +kernel
theorem dX7_next_101 : decode cX7_next 101 = .ok (.if_icmp .ne 7, 3) := by decide +kernel
theorem dX7_next_104 : decode cX7_next 104 = .ok (.iconst 3, 1) := by decide +kernel
theorem dX7_next_105 : decode cX7_next 105 = .ok (.goto 4, 3) := by decide +kernel
theorem dX7_next_108 : decode cX7_next 108 = .ok (.iconst (-1), 1) := by decide +kernel
theorem dX7_next_109 : decode cX7_next 109 = .ok (.ireturn, 1) := by decide +kernel
theorem dX7_next_110 : decode cX7_next 110 = .ok (.iload_n 1, 1) := by decide +kernel
theorem dX7_next_111 : decode cX7_next 111 = .ok (.bipush 93, 2) := by decide +kernel
theorem dX7_next_113 : decode cX7_next 113 = .ok (.if_icmp .ne 8, 3) := by decide +kernel
theorem dX7_next_116 : decode cX7_next 116 = .ok (.bipush 7, 2) := by decide +kernel
theorem dX7_next_118 : decode cX7_next 118 = .ok (.goto 7, 3) := by decide +kernel
theorem dX7_next_121 : decode cX7_next 121 = .ok (.iload_n 1, 1) := by decide +kernel
theorem dX7_next_122 : decode cX7_next 122 = .ok (.invokestatic 31, 3) := by decide +kernel
theorem dX7_next_125 : decode cX7_next 125 = .ok (.ireturn, 1) := by decide +kernel
theorem dX7_next_126 : decode cX7_next 126 = .ok (.iload_n 1, 1) := by decide +kernel
theorem dX7_next_127 : decode cX7_next 127 = .ok (.invokestatic 31, 3) := by decide +kernel
theorem dX7_next_130 : decode cX7_next 130 = .ok (.ireturn, 1) := by decide +kernel
theorem dX7_next_131 : decode cX7_next 131 = .ok (.iload_n 1, 1) := by decide +kernel
theorem dX7_next_132 : decode cX7_next 132 = .ok (.bipush 49, 2) := by decide +kernel
theorem dX7_next_134 : decode cX7_next 134 = .ok (.bipush 53, 2) := by decide +kernel
theorem dX7_next_136 : decode cX7_next 136 = .ok (.invokestatic 27, 3) := by decide +kernel
theorem dX7_next_139 : decode cX7_next 139 = .ok (.ifCond .eq 7, 3) := by decide +kernel
theorem dX7_next_142 : decode cX7_next 142 = .ok (.iconst 5, 1) := by decide +kernel
theorem dX7_next_143 : decode cX7_next 143 = .ok (.goto 4, 3) := by decide +kernel
theorem dX7_next_146 : decode cX7_next 146 = .ok (.iconst (-1), 1) := by decide +kernel
theorem dX7_next_147 : decode cX7_next 147 = .ok (.ireturn, 1) := by decide +kernel
theorem dX7_next_148 : decode cX7_next 148 = .ok (.iload_n 1, 1) := by decide +kernel
theorem dX7_next_149 : decode cX7_next 149 = .ok (.bipush 32, 2) := by decide +kernel
theorem dX7_next_151 : decode cX7_next 151 = .ok (.if_icmp .ne 8, 3) := by decide +kernel
theorem dX7_next_154 : decode cX7_next 154 = .ok (.bipush 6, 2) := by decide +kernel
theorem dX7_next_156 : decode cX7_next 156 = .ok (.goto 15, 3) := by decide +kernel
theorem dX7_next_159 : decode cX7_next 159 = .ok (.iload_n 1, 1) := by decide +kernel
theorem dX7_next_160 : decode cX7_next 160 = .ok (.bipush 93, 2) := by decide +kernel
theorem dX7_next_162 : decode cX7_next 162 = .ok (.if_icmp .ne 8, 3) := by decide +kernel
theorem dX7_next_165 : decode cX7_next 165 = .ok (.bipush 7, 2) := by decide +kernel
theorem dX7_next_167 : decode cX7_next 167 = .ok (.goto 4, 3) := by decide +kernel
theorem dX7_next_170 : decode cX7_next 170 = .ok (.iconst (-1), 1) := by decide +kernel
theorem dX7_next_171 : decode cX7_next 171 = .ok (.ireturn, 1) := by decide +kernel
theorem dX7_next_172 : decode cX7_next 172 = .ok (.iload_n 1, 1) := by decide +kernel
theorem dX7_next_173 : decode cX7_next 173 = .ok (.bipush 43, 2) := by decide +kernel
theorem dX7_next_175 : decode cX7_next 175 = .ok (.if_icmp .ne 7, 3) := by decide +kernel
theorem dX7_next_178 : decode cX7_next 178 = .ok (.iconst 0, 1) := by decide +kernel
theorem dX7_next_179 : decode cX7_next 179 = .ok (.goto 4, 3) := by decide +kernel
theorem dX7_next_182 : decode cX7_next 182 = .ok (.iconst (-1), 1) := by decide +kernel
theorem dX7_next_183 : decode cX7_next 183 = .ok (.ireturn, 1) := by decide +kernel
theorem dX7_modeBegun_0 : decode cX7_modeBegun 0 = .ok (.iload_n 0, 1) := by decide +kernel
theorem dX7_modeBegun_1 : decode cX7_modeBegun 1 = .ok (.bipush 45, 2) := by decide +kernel
theorem dX7_modeBegun_3 : decode cX7_modeBegun 3 = .ok (.if_icmp .ne 7, 3) := by decide +kernel
theorem dX7_modeBegun_6 : decode cX7_modeBegun 6 = .ok (.iconst 4, 1) := by decide +kernel
theorem dX7_modeBegun_7 : decode cX7_modeBegun 7 = .ok (.goto 19, 3) := by decide +kernel
theorem dX7_modeBegun_10 : decode cX7_modeBegun 10 = .ok (.iload_n 0, 1) := by decide +kernel
theorem dX7_modeBegun_11 : decode cX7_modeBegun 11 = .ok (.bipush 48, 2) := by decide +kernel
theorem dX7_modeBegun_13 : decode cX7_modeBegun 13 = .ok (.bipush 53, 2) := by decide +kernel
theorem dX7_modeBegun_15 : decode cX7_modeBegun 15 = .ok (.invokestatic 27, 3) := by decide +kernel
theorem dX7_modeBegun_18 : decode cX7_modeBegun 18 = .ok (.ifCond .eq 7, 3) := by decide +kernel
theorem dX7_modeBegun_21 : decode cX7_modeBegun 21 = .ok (.iconst 5, 1) := by decide +kernel
theorem dX7_modeBegun_22 : decode cX7_modeBegun 22 = .ok (.goto 4, 3) := by decide +kernel
theorem dX7_modeBegun_25 : decode cX7_modeBegun 25 = .ok (.iconst (-1), 1) := by decide +kernel
theorem dX7_modeBegun_26 : decode cX7_modeBegun 26 = .ok (.ireturn, 1) := by decide +kernel
theorem dX7_isFigure_0 : decode cX7_isFigure 0 = .ok (.iload_n 0, 1) := by decide +kernel
theorem dX7_isFigure_1 : decode cX7_isFigure 1 = .ok (.iload_n 1, 1) := by decide +kernel
theorem dX7_isFigure_2 : decode cX7_isFigure 2 = .ok (.if_icmp .lt 12, 3) := by decide +kernel
theorem dX7_isFigure_5 : decode cX7_isFigure 5 = .ok (.iload_n 0, 1) := by decide +kernel
theorem dX7_isFigure_6 : decode cX7_isFigure 6 = .ok (.iload_n 2, 1) := by decide +kernel
theorem dX7_isFigure_7 : decode cX7_isFigure 7 = .ok (.if_icmp .gt 7, 3) := by decide +kernel
theorem dX7_isFigure_10 : decode cX7_isFigure 10 = .ok (.iconst 1, 1) := by decide +kernel
theorem dX7_isFigure_11 : decode cX7_isFigure 11 = .ok (.goto 4, 3) := by decide +kernel
theorem dX7_isFigure_14 : decode cX7_isFigure 14 = .ok (.iconst 0, 1) := by decide +kernel
theorem dX7_isFigure_15 : decode cX7_isFigure 15 = .ok (.ireturn, 1) := by decide +kernel
theorem dX7_rewind_0 : decode cX7_rewind 0 = .ok (.aload_n 0, 1) := by decide +kernel
theorem dX7_rewind_1 : decode cX7_rewind 1 = .ok (.iconst 0, 1) := by decide +kernel
theorem dX7_rewind_2 : decode cX7_rewind 2 = .ok (.putfield 35, 3) := by decide +kernel
theorem dX7_rewind_5 : decode cX7_rewind 5 = .ok (.return_, 1) := by decide +kernel
theorem dX7_nextTerm_0 : decode cX7_nextTerm 0 = .ok (.aload_n 0, 1) := by decide +kernel
theorem dX7_nextTerm_1 : decode cX7_nextTerm 1 = .ok (.iconst 0, 1) := by decide +kernel
theorem dX7_nextTerm_2 : decode cX7_nextTerm 2 = .ok (.putfield 38, 3) := by decide +kernel
theorem dX7_nextTerm_5 : decode cX7_nextTerm 5 = .ok (.aload_n 0, 1) := by decide +kernel
theorem dX7_nextTerm_6 : decode cX7_nextTerm 6 = .ok (.iconst 0, 1) := by decide +kernel
theorem dX7_nextTerm_7 : decode cX7_nextTerm 7 = .ok (.putfield 41, 3) := by decide +kernel
theorem dX7_nextTerm_10 : decode cX7_nextTerm 10 = .ok (.iconst 0, 1) := by decide +kernel
theorem dX7_nextTerm_11 : decode cX7_nextTerm 11 = .ok (.istore_n 1, 1) := by decide +kernel
theorem dX7_nextTerm_12 : decode cX7_nextTerm 12 = .ok (.iconst 1, 1) := by decide +kernel
theorem dX7_nextTerm_13 : decode cX7_nextTerm 13 = .ok (.istore_n 2, 1) := by decide +kernel
theorem dX7_nextTerm_14 : decode cX7_nextTerm 14 = .ok (.aload_n 0, 1) := by decide +kernel
theorem dX7_nextTerm_15 : decode cX7_nextTerm 15 = .ok (.getfield 35, 3) := by decide +kernel
theorem dX7_nextTerm_18 : decode cX7_nextTerm 18 = .ok (.aload_n 0, 1) := by decide +kernel
theorem dX7_nextTerm_19 : decode cX7_nextTerm 19 = .ok (.getfield 19, 3) := by decide +kernel
theorem dX7_nextTerm_22 : decode cX7_nextTerm 22 = .ok (.if_icmp .ge 108, 3) := by decide +kernel
theorem dX7_nextTerm_25 : decode cX7_nextTerm 25 = .ok (.aload_n 0, 1) := by decide +kernel
theorem dX7_nextTerm_26 : decode cX7_nextTerm 26 = .ok (.getfield 15, 3) := by decide +kernel
theorem dX7_nextTerm_29 : decode cX7_nextTerm 29 = .ok (.aload_n 0, 1) := by decide +kernel
theorem dX7_nextTerm_30 : decode cX7_nextTerm 30 = .ok (.getfield 35, 3) := by decide +kernel
theorem dX7_nextTerm_33 : decode cX7_nextTerm 33 = .ok (.baload, 1) := by decide +kernel
theorem dX7_nextTerm_34 : decode cX7_nextTerm 34 = .ok (.bipush 93, 2) := by decide +kernel
theorem dX7_nextTerm_36 : decode cX7_nextTerm 36 = .ok (.if_icmp .eq 94, 3) := by decide +kernel
theorem dX7_nextTerm_39 : decode cX7_nextTerm 39 = .ok (.aload_n 0, 1) := by decide +kernel
theorem dX7_nextTerm_40 : decode cX7_nextTerm 40 = .ok (.getfield 15, 3) := by decide +kernel
theorem dX7_nextTerm_43 : decode cX7_nextTerm 43 = .ok (.aload_n 0, 1) := by decide +kernel
theorem dX7_nextTerm_44 : decode cX7_nextTerm 44 = .ok (.getfield 35, 3) := by decide +kernel
theorem dX7_nextTerm_47 : decode cX7_nextTerm 47 = .ok (.baload, 1) := by decide +kernel
theorem dX7_nextTerm_48 : decode cX7_nextTerm 48 = .ok (.istore_n 3, 1) := by decide +kernel
theorem dX7_nextTerm_49 : decode cX7_nextTerm 49 = .ok (.iload_n 3, 1) := by decide +kernel
theorem dX7_nextTerm_50 : decode cX7_nextTerm 50 = .ok (.bipush 91, 2) := by decide +kernel
theorem dX7_nextTerm_52 : decode cX7_nextTerm 52 = .ok (.if_icmp .ne 8, 3) := by decide +kernel
theorem dX7_nextTerm_55 : decode cX7_nextTerm 55 = .ok (.iconst 1, 1) := by decide +kernel
theorem dX7_nextTerm_56 : decode cX7_nextTerm 56 = .ok (.istore_n 1, 1) := by decide +kernel
theorem dX7_nextTerm_57 : decode cX7_nextTerm 57 = .ok (.goto 60, 3) := by decide +kernel
theorem dX7_nextTerm_60 : decode cX7_nextTerm 60 = .ok (.iload_n 3, 1) := by decide +kernel
theorem dX7_nextTerm_61 : decode cX7_nextTerm 61 = .ok (.bipush 45, 2) := by decide +kernel
theorem dX7_nextTerm_63 : decode cX7_nextTerm 63 = .ok (.if_icmp .ne 8, 3) := by decide +kernel
theorem dX7_nextTerm_66 : decode cX7_nextTerm 66 = .ok (.iconst (-1), 1) := by decide +kernel
theorem dX7_nextTerm_67 : decode cX7_nextTerm 67 = .ok (.istore_n 2, 1) := by decide +kernel
theorem dX7_nextTerm_68 : decode cX7_nextTerm 68 = .ok (.goto 49, 3) := by decide +kernel
theorem dX7_nextTerm_71 : decode cX7_nextTerm 71 = .ok (.iload_n 3, 1) := by decide +kernel
theorem dX7_nextTerm_72 : decode cX7_nextTerm 72 = .ok (.bipush 48, 2) := by decide +kernel
theorem dX7_nextTerm_74 : decode cX7_nextTerm 74 = .ok (.bipush 57, 2) := by decide +kernel
theorem dX7_nextTerm_76 : decode cX7_nextTerm 76 = .ok (.invokestatic 27, 3) := by decide +kernel
theorem dX7_nextTerm_79 : decode cX7_nextTerm 79 = .ok (.ifCond .eq 38, 3) := by decide +kernel
theorem dX7_nextTerm_82 : decode cX7_nextTerm 82 = .ok (.iload_n 1, 1) := by decide +kernel
theorem dX7_nextTerm_83 : decode cX7_nextTerm 83 = .ok (.ifCond .eq 16, 3) := by decide +kernel
theorem dX7_nextTerm_86 : decode cX7_nextTerm 86 = .ok (.aload_n 0, 1) := by decide +kernel
theorem dX7_nextTerm_87 : decode cX7_nextTerm 87 = .ok (.iload_n 2, 1) := by decide +kernel
theorem dX7_nextTerm_88 : decode cX7_nextTerm 88 = .ok (.iload_n 3, 1) := by decide +kernel
theorem dX7_nextTerm_89 : decode cX7_nextTerm 89 = .ok (.bipush 48, 2) := by decide +kernel
theorem dX7_nextTerm_91 : decode cX7_nextTerm 91 = .ok (.isub, 1) := by decide +kernel
theorem dX7_nextTerm_92 : decode cX7_nextTerm 92 = .ok (.imul, 1) := by decide +kernel
theorem dX7_nextTerm_93 : decode cX7_nextTerm 93 = .ok (.invokevirtual 44, 3) := by decide +kernel
theorem dX7_nextTerm_96 : decode cX7_nextTerm 96 = .ok (.goto 19, 3) := by decide +kernel
theorem dX7_nextTerm_99 : decode cX7_nextTerm 99 = .ok (.aload_n 0, 1) := by decide +kernel
theorem dX7_nextTerm_100 : decode cX7_nextTerm 100 = .ok (.aload_n 0, 1) := by decide +kernel
theorem dX7_nextTerm_101 : decode cX7_nextTerm 101 = .ok (.getfield 38, 3) := by decide +kernel
theorem dX7_nextTerm_104 : decode cX7_nextTerm 104 = .ok (.bipush 10, 2) := by decide +kernel
theorem dX7_nextTerm_106 : decode cX7_nextTerm 106 = .ok (.imul, 1) := by decide +kernel
theorem dX7_nextTerm_107 : decode cX7_nextTerm 107 = .ok (.iload_n 3, 1) := by decide +kernel
theorem dX7_nextTerm_108 : decode cX7_nextTerm 108 = .ok (.iadd, 1) := by decide +kernel
theorem dX7_nextTerm_109 : decode cX7_nextTerm 109 = .ok (.bipush 48, 2) := by decide +kernel
theorem dX7_nextTerm_111 : decode cX7_nextTerm 111 = .ok (.isub, 1) := by decide +kernel
theorem dX7_nextTerm_112 : decode cX7_nextTerm 112 = .ok (.putfield 38, 3) := by decide +kernel
theorem dX7_nextTerm_115 : decode cX7_nextTerm 115 = .ok (.iconst 1, 1) := by decide +kernel
theorem dX7_nextTerm_116 : decode cX7_nextTerm 116 = .ok (.istore_n 2, 1) := by decide +kernel
theorem dX7_nextTerm_117 : decode cX7_nextTerm 117 = .ok (.aload_n 0, 1) := by decide +kernel
theorem dX7_nextTerm_118 : decode cX7_nextTerm 118 = .ok (.dup, 1) := by decide +kernel
theorem dX7_nextTerm_119 : decode cX7_nextTerm 119 = .ok (.getfield 35, 3) := by decide +kernel
theorem dX7_nextTerm_122 : decode cX7_nextTerm 122 = .ok (.iconst 1, 1) := by decide +kernel
theorem dX7_nextTerm_123 : decode cX7_nextTerm 123 = .ok (.iadd, 1) := by decide +kernel
theorem dX7_nextTerm_124 : decode cX7_nextTerm 124 = .ok (.putfield 35, 3) := by decide +kernel
theorem dX7_nextTerm_127 : decode cX7_nextTerm 127 = .ok (.goto (-113), 3) := by decide +kernel
theorem dX7_nextTerm_130 : decode cX7_nextTerm 130 = .ok (.aload_n 0, 1) := by decide +kernel
theorem dX7_nextTerm_131 : decode cX7_nextTerm 131 = .ok (.dup, 1) := by decide +kernel
theorem dX7_nextTerm_132 : decode cX7_nextTerm 132 = .ok (.getfield 35, 3) := by decide +kernel
theorem dX7_nextTerm_135 : decode cX7_nextTerm 135 = .ok (.iconst 1, 1) := by decide +kernel
theorem dX7_nextTerm_136 : decode cX7_nextTerm 136 = .ok (.iadd, 1) := by decide +kernel
theorem dX7_nextTerm_137 : decode cX7_nextTerm 137 = .ok (.putfield 35, 3) := by decide +kernel
theorem dX7_nextTerm_140 : decode cX7_nextTerm 140 = .ok (.aload_n 0, 1) := by decide +kernel
theorem dX7_nextTerm_141 : decode cX7_nextTerm 141 = .ok (.getfield 38, 3) := by decide +kernel
theorem dX7_nextTerm_144 : decode cX7_nextTerm 144 = .ok (.ifCond .ne 8, 3) := by decide +kernel
theorem dX7_nextTerm_147 : decode cX7_nextTerm 147 = .ok (.aload_n 0, 1) := by decide +kernel
theorem dX7_nextTerm_148 : decode cX7_nextTerm 148 = .ok (.iconst 1, 1) := by decide +kernel
theorem dX7_nextTerm_149 : decode cX7_nextTerm 149 = .ok (.putfield 38, 3) := by decide +kernel
theorem dX7_nextTerm_152 : decode cX7_nextTerm 152 = .ok (.iload_n 1, 1) := by decide +kernel
theorem dX7_nextTerm_153 : decode cX7_nextTerm 153 = .ok (.ireturn, 1) := by decide +kernel
theorem dX7_addMode_0 : decode cX7_addMode 0 = .ok (.aload_n 0, 1) := by decide +kernel
theorem dX7_addMode_1 : decode cX7_addMode 1 = .ok (.getfield 41, 3) := by decide +kernel
theorem dX7_addMode_4 : decode cX7_addMode 4 = .ok (.aload_n 0, 1) := by decide +kernel
theorem dX7_addMode_5 : decode cX7_addMode 5 = .ok (.getfield 9, 3) := by decide +kernel
theorem dX7_addMode_8 : decode cX7_addMode 8 = .ok (.arraylength, 1) := by decide +kernel
theorem dX7_addMode_9 : decode cX7_addMode 9 = .ok (.if_icmp .ge 23, 3) := by decide +kernel
theorem dX7_addMode_12 : decode cX7_addMode 12 = .ok (.aload_n 0, 1) := by decide +kernel
theorem dX7_addMode_13 : decode cX7_addMode 13 = .ok (.getfield 9, 3) := by decide +kernel
theorem dX7_addMode_16 : decode cX7_addMode 16 = .ok (.aload_n 0, 1) := by decide +kernel
theorem dX7_addMode_17 : decode cX7_addMode 17 = .ok (.getfield 41, 3) := by decide +kernel
theorem dX7_addMode_20 : decode cX7_addMode 20 = .ok (.iload_n 1, 1) := by decide +kernel
theorem dX7_addMode_21 : decode cX7_addMode 21 = .ok (.iastore, 1) := by decide +kernel
theorem dX7_addMode_22 : decode cX7_addMode 22 = .ok (.aload_n 0, 1) := by decide +kernel
theorem dX7_addMode_23 : decode cX7_addMode 23 = .ok (.dup, 1) := by decide +kernel
theorem dX7_addMode_24 : decode cX7_addMode 24 = .ok (.getfield 41, 3) := by decide +kernel
theorem dX7_addMode_27 : decode cX7_addMode 27 = .ok (.iconst 1, 1) := by decide +kernel
theorem dX7_addMode_28 : decode cX7_addMode 28 = .ok (.iadd, 1) := by decide +kernel
theorem dX7_addMode_29 : decode cX7_addMode 29 = .ok (.putfield 41, 3) := by decide +kernel
theorem dX7_addMode_32 : decode cX7_addMode 32 = .ok (.return_, 1) := by decide +kernel
theorem dX7_termLevel_0 : decode cX7_termLevel 0 = .ok (.iconst 0, 1) := by decide +kernel
theorem dX7_termLevel_1 : decode cX7_termLevel 1 = .ok (.istore_n 1, 1) := by decide +kernel
theorem dX7_termLevel_2 : decode cX7_termLevel 2 = .ok (.aload_n 0, 1) := by decide +kernel
theorem dX7_termLevel_3 : decode cX7_termLevel 3 = .ok (.getfield 41, 3) := by decide +kernel
theorem dX7_termLevel_6 : decode cX7_termLevel 6 = .ok (.iconst 1, 1) := by decide +kernel
theorem dX7_termLevel_7 : decode cX7_termLevel 7 = .ok (.isub, 1) := by decide +kernel
theorem dX7_termLevel_8 : decode cX7_termLevel 8 = .ok (.istore_n 2, 1) := by decide +kernel
theorem dX7_termLevel_9 : decode cX7_termLevel 9 = .ok (.iload_n 2, 1) := by decide +kernel
theorem dX7_termLevel_10 : decode cX7_termLevel 10 = .ok (.ifCond .lt 26, 3) := by decide +kernel
theorem dX7_termLevel_13 : decode cX7_termLevel 13 = .ok (.iload_n 1, 1) := by decide +kernel
theorem dX7_termLevel_14 : decode cX7_termLevel 14 = .ok (.aload_n 0, 1) := by decide +kernel
theorem dX7_termLevel_15 : decode cX7_termLevel 15 = .ok (.getfield 9, 3) := by decide +kernel
theorem dX7_termLevel_18 : decode cX7_termLevel 18 = .ok (.iload_n 2, 1) := by decide +kernel
theorem dX7_termLevel_19 : decode cX7_termLevel 19 = .ok (.iaload, 1) := by decide +kernel
theorem dX7_termLevel_20 : decode cX7_termLevel 20 = .ok (.iadd, 1) := by decide +kernel
theorem dX7_termLevel_21 : decode cX7_termLevel 21 = .ok (.istore_n 1, 1) := by decide +kernel
theorem dX7_termLevel_22 : decode cX7_termLevel 22 = .ok (.iload_n 1, 1) := by decide +kernel
theorem dX7_termLevel_23 : decode cX7_termLevel 23 = .ok (.bipush (-5), 2) := by decide +kernel
theorem dX7_termLevel_25 : decode cX7_termLevel 25 = .ok (.if_icmp .ge 5, 3) := by decide +kernel
theorem dX7_termLevel_28 : decode cX7_termLevel 28 = .ok (.iconst (-1), 1) := by decide +kernel
theorem dX7_termLevel_29 : decode cX7_termLevel 29 = .ok (.ireturn, 1) := by decide +kernel
theorem dX7_termLevel_30 : decode cX7_termLevel 30 = .ok (.iinc 2 (-1), 3) := by decide +kernel
theorem dX7_termLevel_33 : decode cX7_termLevel 33 = .ok (.goto (-24), 3) := by decide +kernel
theorem dX7_termLevel_36 : decode cX7_termLevel 36 = .ok (.iload_n 1, 1) := by decide +kernel
theorem dX7_termLevel_37 : decode cX7_termLevel 37 = .ok (.ifCond .le 7, 3) := by decide +kernel
theorem dX7_termLevel_40 : decode cX7_termLevel 40 = .ok (.iconst (-1), 1) := by decide +kernel
theorem dX7_termLevel_41 : decode cX7_termLevel 41 = .ok (.goto 5, 3) := by decide +kernel
theorem dX7_termLevel_44 : decode cX7_termLevel 44 = .ok (.iload_n 1, 1) := by decide +kernel
theorem dX7_termLevel_45 : decode cX7_termLevel 45 = .ok (.ineg, 1) := by decide +kernel
theorem dX7_termLevel_46 : decode cX7_termLevel 46 = .ok (.ireturn, 1) := by decide +kernel
theorem dX7_appendTerms_0 : decode cX7_appendTerms 0 = .ok (.getstatic 48, 3) := by decide +kernel
theorem dX7_appendTerms_3 : decode cX7_appendTerms 3 = .ok (.aload_n 1, 1) := by decide +kernel
theorem dX7_appendTerms_4 : decode cX7_appendTerms 4 = .ok (.getfield 51, 3) := by decide +kernel
theorem dX7_appendTerms_7 : decode cX7_appendTerms 7 = .ok (.iaload, 1) := by decide +kernel
theorem dX7_appendTerms_8 : decode cX7_appendTerms 8 = .ok (.istore_n 2, 1) := by decide +kernel
theorem dX7_appendTerms_9 : decode cX7_appendTerms 9 = .ok (.iload_n 2, 1) := by decide +kernel
theorem dX7_appendTerms_10 : decode cX7_appendTerms 10 = .ok (.istore_n 3, 1) := by decide +kernel
theorem dX7_appendTerms_11 : decode cX7_appendTerms 11 = .ok (.iload_n 3, 1) := by decide +kernel
theorem dX7_appendTerms_12 : decode cX7_appendTerms 12 = .ok (.getstatic 48, 3) := by decide +kernel
theorem dX7_appendTerms_15 : decode cX7_appendTerms 15 = .ok (.aload_n 1, 1) := by decide +kernel
theorem dX7_appendTerms_16 : decode cX7_appendTerms 16 = .ok (.getfield 51, 3) := by decide +kernel
theorem dX7_appendTerms_19 : decode cX7_appendTerms 19 = .ok (.iconst 1, 1) := by decide +kernel
theorem dX7_appendTerms_20 : decode cX7_appendTerms 20 = .ok (.iadd, 1) := by decide +kernel
theorem dX7_appendTerms_21 : decode cX7_appendTerms 21 = .ok (.iaload, 1) := by decide +kernel
theorem dX7_appendTerms_22 : decode cX7_appendTerms 22 = .ok (.if_icmp .ge 33, 3) := by decide +kernel
theorem dX7_appendTerms_25 : decode cX7_appendTerms 25 = .ok (.aload_n 1, 1) := by decide +kernel
theorem dX7_appendTerms_26 : decode cX7_appendTerms 26 = .ok (.getfield 56, 3) := by decide +kernel
theorem dX7_appendTerms_29 : decode cX7_appendTerms 29 = .ok (.iload_n 3, 1) := by decide +kernel
theorem dX7_appendTerms_30 : decode cX7_appendTerms 30 = .ok (.iload_n 2, 1) := by decide +kernel
theorem dX7_appendTerms_31 : decode cX7_appendTerms 31 = .ok (.isub, 1) := by decide +kernel
theorem dX7_appendTerms_32 : decode cX7_appendTerms 32 = .ok (.iaload, 1) := by decide +kernel
theorem dX7_appendTerms_33 : decode cX7_appendTerms 33 = .ok (.ifCond .eq 16, 3) := by decide +kernel
theorem dX7_appendTerms_36 : decode cX7_appendTerms 36 = .ok (.aload_n 0, 1) := by decide +kernel
theorem dX7_appendTerms_37 : decode cX7_appendTerms 37 = .ok (.aload_n 1, 1) := by decide +kernel
theorem dX7_appendTerms_38 : decode cX7_appendTerms 38 = .ok (.getfield 56, 3) := by decide +kernel
theorem dX7_appendTerms_41 : decode cX7_appendTerms 41 = .ok (.iload_n 3, 1) := by decide +kernel
theorem dX7_appendTerms_42 : decode cX7_appendTerms 42 = .ok (.iload_n 2, 1) := by decide +kernel
theorem dX7_appendTerms_43 : decode cX7_appendTerms 43 = .ok (.isub, 1) := by decide +kernel
theorem dX7_appendTerms_44 : decode cX7_appendTerms 44 = .ok (.iaload, 1) := by decide +kernel
theorem dX7_appendTerms_45 : decode cX7_appendTerms 45 = .ok (.iload_n 3, 1) := by decide +kernel
theorem dX7_appendTerms_46 : decode cX7_appendTerms 46 = .ok (.invokevirtual 59, 3) := by decide +kernel
theorem dX7_appendTerms_49 : decode cX7_appendTerms 49 = .ok (.iinc 3 1, 3) := by decide +kernel
theorem dX7_appendTerms_52 : decode cX7_appendTerms 52 = .ok (.goto (-41), 3) := by decide +kernel
theorem dX7_appendTerms_55 : decode cX7_appendTerms 55 = .ok (.return_, 1) := by decide +kernel
theorem dX7_appendTerm_0 : decode cX7_appendTerm 0 = .ok (.aload_n 0, 1) := by decide +kernel
theorem dX7_appendTerm_1 : decode cX7_appendTerm 1 = .ok (.getfield 19, 3) := by decide +kernel
theorem dX7_appendTerm_4 : decode cX7_appendTerm 4 = .ok (.ifCond .le 10, 3) := by decide +kernel
theorem dX7_appendTerm_7 : decode cX7_appendTerm 7 = .ok (.aload_n 0, 1) := by decide +kernel
theorem dX7_appendTerm_8 : decode cX7_appendTerm 8 = .ok (.bipush 43, 2) := by decide +kernel
theorem dX7_appendTerm_10 : decode cX7_appendTerm 10 = .ok (.invokevirtual 63, 3) := by decide +kernel
theorem dX7_appendTerm_13 : decode cX7_appendTerm 13 = .ok (.pop, 1) := by decide +kernel
theorem dX7_appendTerm_14 : decode cX7_appendTerm 14 = .ok (.iload_n 1, 1) := by decide +kernel
theorem dX7_appendTerm_15 : decode cX7_appendTerm 15 = .ok (.iconst 1, 1) := by decide +kernel
theorem dX7_appendTerm_16 : decode cX7_appendTerm 16 = .ok (.if_icmp .le 8, 3) := by decide +kernel
theorem dX7_appendTerm_19 : decode cX7_appendTerm 19 = .ok (.aload_n 0, 1) := by decide +kernel
theorem dX7_appendTerm_20 : decode cX7_appendTerm 20 = .ok (.iload_n 1, 1) := by decide +kernel
theorem dX7_appendTerm_21 : decode cX7_appendTerm 21 = .ok (.invokevirtual 67, 3) := by decide +kernel
theorem dX7_appendTerm_24 : decode cX7_appendTerm 24 = .ok (.aload_n 0, 1) := by decide +kernel
theorem dX7_appendTerm_25 : decode cX7_appendTerm 25 = .ok (.bipush 91, 2) := by decide +kernel
theorem dX7_appendTerm_27 : decode cX7_appendTerm 27 = .ok (.invokevirtual 63, 3) := by decide +kernel
theorem dX7_appendTerm_30 : decode cX7_appendTerm 30 = .ok (.pop, 1) := by decide +kernel
theorem dX7_appendTerm_31 : decode cX7_appendTerm 31 = .ok (.iconst 0, 1) := by decide +kernel
theorem dX7_appendTerm_32 : decode cX7_appendTerm 32 = .ok (.istore_n 3, 1) := by decide +kernel
theorem dX7_appendTerm_33 : decode cX7_appendTerm 33 = .ok (.iload_n 3, 1) := by decide +kernel
theorem dX7_appendTerm_34 : decode cX7_appendTerm 34 = .ok (.getstatic 70, 3) := by decide +kernel
theorem dX7_appendTerm_37 : decode cX7_appendTerm 37 = .ok (.iload_n 2, 1) := by decide +kernel
theorem dX7_appendTerm_38 : decode cX7_appendTerm 38 = .ok (.iaload, 1) := by decide +kernel
theorem dX7_appendTerm_39 : decode cX7_appendTerm 39 = .ok (.if_icmp .ge 40, 3) := by decide +kernel
theorem dX7_appendTerm_42 : decode cX7_appendTerm 42 = .ok (.iload_n 3, 1) := by decide +kernel
theorem dX7_appendTerm_43 : decode cX7_appendTerm 43 = .ok (.ifCond .le 10, 3) := by decide +kernel
theorem dX7_appendTerm_46 : decode cX7_appendTerm 46 = .ok (.aload_n 0, 1) := by decide +kernel
theorem dX7_appendTerm_47 : decode cX7_appendTerm 47 = .ok (.bipush 32, 2) := by decide +kernel
theorem dX7_appendTerm_49 : decode cX7_appendTerm 49 = .ok (.invokevirtual 63, 3) := by decide +kernel
theorem dX7_appendTerm_52 : decode cX7_appendTerm 52 = .ok (.pop, 1) := by decide +kernel
theorem dX7_appendTerm_53 : decode cX7_appendTerm 53 = .ok (.aload_n 0, 1) := by decide +kernel
theorem dX7_appendTerm_54 : decode cX7_appendTerm 54 = .ok (.bipush 45, 2) := by decide +kernel
theorem dX7_appendTerm_56 : decode cX7_appendTerm 56 = .ok (.invokevirtual 63, 3) := by decide +kernel
theorem dX7_appendTerm_59 : decode cX7_appendTerm 59 = .ok (.pop, 1) := by decide +kernel
theorem dX7_appendTerm_60 : decode cX7_appendTerm 60 = .ok (.aload_n 0, 1) := by decide +kernel
theorem dX7_appendTerm_61 : decode cX7_appendTerm 61 = .ok (.bipush 48, 2) := by decide +kernel
theorem dX7_appendTerm_63 : decode cX7_appendTerm 63 = .ok (.iload_n 2, 1) := by decide +kernel
theorem dX7_appendTerm_64 : decode cX7_appendTerm 64 = .ok (.iload_n 3, 1) := by decide +kernel
theorem dX7_appendTerm_65 : decode cX7_appendTerm 65 = .ok (.invokestatic 73, 3) := by decide +kernel
theorem dX7_appendTerm_68 : decode cX7_appendTerm 68 = .ok (.iadd, 1) := by decide +kernel
theorem dX7_appendTerm_69 : decode cX7_appendTerm 69 = .ok (.invokevirtual 63, 3) := by decide +kernel
theorem dX7_appendTerm_72 : decode cX7_appendTerm 72 = .ok (.pop, 1) := by decide +kernel
theorem dX7_appendTerm_73 : decode cX7_appendTerm 73 = .ok (.iinc 3 1, 3) := by decide +kernel
theorem dX7_appendTerm_76 : decode cX7_appendTerm 76 = .ok (.goto (-43), 3) := by decide +kernel
theorem dX7_appendTerm_79 : decode cX7_appendTerm 79 = .ok (.aload_n 0, 1) := by decide +kernel
theorem dX7_appendTerm_80 : decode cX7_appendTerm 80 = .ok (.bipush 93, 2) := by decide +kernel
theorem dX7_appendTerm_82 : decode cX7_appendTerm 82 = .ok (.invokevirtual 63, 3) := by decide +kernel
theorem dX7_appendTerm_85 : decode cX7_appendTerm 85 = .ok (.pop, 1) := by decide +kernel
theorem dX7_appendTerm_86 : decode cX7_appendTerm 86 = .ok (.return_, 1) := by decide +kernel
theorem dX7_appendNumber_0 : decode cX7_appendNumber 0 = .ok (.iload_n 1, 1) := by decide +kernel
theorem dX7_appendNumber_1 : decode cX7_appendNumber 1 = .ok (.bipush 100, 2) := by decide +kernel
theorem dX7_appendNumber_3 : decode cX7_appendNumber 3 = .ok (.if_icmp .lt 15, 3) := by decide +kernel
theorem dX7_appendNumber_6 : decode cX7_appendNumber 6 = .ok (.aload_n 0, 1) := by decide +kernel
theorem dX7_appendNumber_7 : decode cX7_appendNumber 7 = .ok (.bipush 48, 2) := by decide +kernel
theorem dX7_appendNumber_9 : decode cX7_appendNumber 9 = .ok (.iload_n 1, 1) := by decide +kernel
theorem dX7_appendNumber_10 : decode cX7_appendNumber 10 = .ok (.bipush 100, 2) := by decide +kernel
theorem dX7_appendNumber_12 : decode cX7_appendNumber 12 = .ok (.idiv, 1) := by decide +kernel
theorem dX7_appendNumber_13 : decode cX7_appendNumber 13 = .ok (.iadd, 1) := by decide +kernel
theorem dX7_appendNumber_14 : decode cX7_appendNumber 14 = .ok (.invokevirtual 63, 3) := by decide +kernel
theorem dX7_appendNumber_17 : decode cX7_appendNumber 17 = .ok (.pop, 1) := by decide +kernel
theorem dX7_appendNumber_18 : decode cX7_appendNumber 18 = .ok (.iload_n 1, 1) := by decide +kernel
theorem dX7_appendNumber_19 : decode cX7_appendNumber 19 = .ok (.bipush 10, 2) := by decide +kernel
theorem dX7_appendNumber_21 : decode cX7_appendNumber 21 = .ok (.if_icmp .lt 18, 3) := by decide +kernel
theorem dX7_appendNumber_24 : decode cX7_appendNumber 24 = .ok (.aload_n 0, 1) := by decide +kernel
theorem dX7_appendNumber_25 : decode cX7_appendNumber 25 = .ok (.bipush 48, 2) := by decide +kernel
theorem dX7_appendNumber_27 : decode cX7_appendNumber 27 = .ok (.iload_n 1, 1) := by decide +kernel
theorem dX7_appendNumber_28 : decode cX7_appendNumber 28 = .ok (.bipush 10, 2) := by decide +kernel
theorem dX7_appendNumber_30 : decode cX7_appendNumber 30 = .ok (.idiv, 1) := by decide +kernel
theorem dX7_appendNumber_31 : decode cX7_appendNumber 31 = .ok (.bipush 10, 2) := by decide +kernel
theorem dX7_appendNumber_33 : decode cX7_appendNumber 33 = .ok (.irem, 1) := by decide +kernel
theorem dX7_appendNumber_34 : decode cX7_appendNumber 34 = .ok (.iadd, 1) := by decide +kernel
theorem dX7_appendNumber_35 : decode cX7_appendNumber 35 = .ok (.invokevirtual 63, 3) := by decide +kernel
theorem dX7_appendNumber_38 : decode cX7_appendNumber 38 = .ok (.pop, 1) := by decide +kernel
theorem dX7_appendNumber_39 : decode cX7_appendNumber 39 = .ok (.aload_n 0, 1) := by decide +kernel
theorem dX7_appendNumber_40 : decode cX7_appendNumber 40 = .ok (.bipush 48, 2) := by decide +kernel
theorem dX7_appendNumber_42 : decode cX7_appendNumber 42 = .ok (.iload_n 1, 1) := by decide +kernel
theorem dX7_appendNumber_43 : decode cX7_appendNumber 43 = .ok (.bipush 10, 2) := by decide +kernel
theorem dX7_appendNumber_45 : decode cX7_appendNumber 45 = .ok (.irem, 1) := by decide +kernel
theorem dX7_appendNumber_46 : decode cX7_appendNumber 46 = .ok (.iadd, 1) := by decide +kernel
theorem dX7_appendNumber_47 : decode cX7_appendNumber 47 = .ok (.invokevirtual 63, 3) := by decide +kernel
theorem dX7_appendNumber_50 : decode cX7_appendNumber 50 = .ok (.pop, 1) := by decide +kernel
theorem dX7_appendNumber_51 : decode cX7_appendNumber 51 = .ok (.return_, 1) := by decide +kernel
theorem dX8_init_0 : decode cX8_init 0 = .ok (.aload_n 0, 1) := by decide +kernel
theorem dX8_init_1 : decode cX8_init 1 = .ok (.invokespecial 1, 3) := by decide +kernel
theorem dX8_init_4 : decode cX8_init 4 = .ok (.return_, 1) := by decide +kernel
theorem dX8_slope_0 : decode cX8_slope 0 = .ok (.aload_n 0, 1) := by decide +kernel
theorem dX8_slope_1 : decode cX8_slope 1 = .ok (.iload_n 1, 1) := by decide +kernel
theorem dX8_slope_2 : decode cX8_slope 2 = .ok (.iload_n 2, 1) := by decide +kernel
theorem dX8_slope_3 : decode cX8_slope 3 = .ok (.invokespecial 7, 3) := by decide +kernel
theorem dX8_slope_6 : decode cX8_slope 6 = .ok (.ineg, 1) := by decide +kernel
theorem dX8_slope_7 : decode cX8_slope 7 = .ok (.ireturn, 1) := by decide +kernel
theorem dX8_centre_0 : decode cX8_centre 0 = .ok (.iload_n 3, 1) := by decide +kernel
theorem dX8_centre_1 : decode cX8_centre 1 = .ok (.iload_n 1, 1) := by decide +kernel
theorem dX8_centre_2 : decode cX8_centre 2 = .ok (.imul, 1) := by decide +kernel
theorem dX8_centre_3 : decode cX8_centre 3 = .ok (.aload_n 0, 1) := by decide +kernel
theorem dX8_centre_4 : decode cX8_centre 4 = .ok (.iload_n 1, 1) := by decide +kernel
theorem dX8_centre_5 : decode cX8_centre 5 = .ok (.iload_n 2, 1) := by decide +kernel
theorem dX8_centre_6 : decode cX8_centre 6 = .ok (.iload_n 3, 1) := by decide +kernel
theorem dX8_centre_7 : decode cX8_centre 7 = .ok (.invokespecial 11, 3) := by decide +kernel
theorem dX8_centre_10 : decode cX8_centre 10 = .ok (.iadd, 1) := by decide +kernel
theorem dX8_centre_11 : decode cX8_centre 11 = .ok (.ireturn, 1) := by decide +kernel
theorem dX9_init_0 : decode cX9_init 0 = .ok (.aload_n 0, 1) := by decide +kernel
theorem dX9_init_1 : decode cX9_init 1 = .ok (.invokespecial 1, 3) := by decide +kernel
theorem dX9_init_4 : decode cX9_init 4 = .ok (.return_, 1) := by decide +kernel
theorem dX9_centre_0 : decode cX9_centre 0 = .ok (.iconst 2, 1) := by decide +kernel
theorem dX9_centre_1 : decode cX9_centre 1 = .ok (.aload_n 0, 1) := by decide +kernel
theorem dX9_centre_2 : decode cX9_centre 2 = .ok (.iload_n 1, 1) := by decide +kernel
theorem dX9_centre_3 : decode cX9_centre 3 = .ok (.iload_n 2, 1) := by decide +kernel
theorem dX9_centre_4 : decode cX9_centre 4 = .ok (.iload_n 3, 1) := by decide +kernel
theorem dX9_centre_5 : decode cX9_centre 5 = .ok (.invokespecial 7, 3) := by decide +kernel
theorem dX9_centre_8 : decode cX9_centre 8 = .ok (.imul, 1) := by decide +kernel
theorem dX9_centre_9 : decode cX9_centre 9 = .ok (.ireturn, 1) := by decide +kernel
theorem dX10_init_0 : decode cX10_init 0 = .ok (.aload_n 0, 1) := by decide +kernel
theorem dX10_init_1 : decode cX10_init 1 = .ok (.invokespecial 3, 3) := by decide +kernel
theorem dX10_init_4 : decode cX10_init 4 = .ok (.aload_n 0, 1) := by decide +kernel
theorem dX10_init_5 : decode cX10_init 5 = .ok (.bipush 7, 2) := by decide +kernel
theorem dX10_init_7 : decode cX10_init 7 = .ok (.newarray .int, 2) := by decide +kernel
theorem dX10_init_9 : decode cX10_init 9 = .ok (.putfield 9, 3) := by decide +kernel
theorem dX10_init_12 : decode cX10_init 12 = .ok (.return_, 1) := by decide +kernel
theorem dX10_copyFrom_0 : decode cX10_copyFrom 0 = .ok (.aload_n 0, 1) := by decide +kernel
theorem dX10_copyFrom_1 : decode cX10_copyFrom 1 = .ok (.aload_n 1, 1) := by decide +kernel
theorem dX10_copyFrom_2 : decode cX10_copyFrom 2 = .ok (.getfield 15, 3) := by decide +kernel
theorem dX10_copyFrom_5 : decode cX10_copyFrom 5 = .ok (.putfield 15, 3) := by decide +kernel
theorem dX10_copyFrom_8 : decode cX10_copyFrom 8 = .ok (.aload_n 1, 1) := by decide +kernel
theorem dX10_copyFrom_9 : decode cX10_copyFrom 9 = .ok (.getfield 9, 3) := by decide +kernel
theorem dX10_copyFrom_12 : decode cX10_copyFrom 12 = .ok (.iconst 0, 1) := by decide +kernel
theorem dX10_copyFrom_13 : decode cX10_copyFrom 13 = .ok (.aload_n 0, 1) := by decide +kernel
theorem dX10_copyFrom_14 : decode cX10_copyFrom 14 = .ok (.getfield 9, 3) := by decide +kernel
theorem dX10_copyFrom_17 : decode cX10_copyFrom 17 = .ok (.iconst 0, 1) := by decide +kernel
theorem dX10_copyFrom_18 : decode cX10_copyFrom 18 = .ok (.bipush 7, 2) := by decide +kernel
theorem dX10_copyFrom_20 : decode cX10_copyFrom 20 = .ok (.invokestatic 19, 3) := by decide +kernel
theorem dX10_copyFrom_23 : decode cX10_copyFrom 23 = .ok (.return_, 1) := by decide +kernel
theorem dX10_becomeZero_0 : decode cX10_becomeZero 0 = .ok (.aload_n 0, 1) := by decide +kernel
theorem dX10_becomeZero_1 : decode cX10_becomeZero 1 = .ok (.iload_n 1, 1) := by decide +kernel
theorem dX10_becomeZero_2 : decode cX10_becomeZero 2 = .ok (.putfield 15, 3) := by decide +kernel
theorem dX10_becomeZero_5 : decode cX10_becomeZero 5 = .ok (.iconst 0, 1) := by decide +kernel
theorem dX10_becomeZero_6 : decode cX10_becomeZero 6 = .ok (.istore_n 2, 1) := by decide +kernel
theorem dX10_becomeZero_7 : decode cX10_becomeZero 7 = .ok (.iload_n 2, 1) := by decide +kernel
theorem dX10_becomeZero_8 : decode cX10_becomeZero 8 = .ok (.bipush 7, 2) := by decide +kernel
theorem dX10_becomeZero_10 : decode cX10_becomeZero 10 = .ok (.if_icmp .ge 16, 3) := by decide +kernel
theorem dX10_becomeZero_13 : decode cX10_becomeZero 13 = .ok (.aload_n 0, 1) := by decide +kernel
theorem dX10_becomeZero_14 : decode cX10_becomeZero 14 = .ok (.getfield 9, 3) := by decide +kernel
theorem dX10_becomeZero_17 : decode cX10_becomeZero 17 = .ok (.iload_n 2, 1) := by decide +kernel
theorem dX10_becomeZero_18 : decode cX10_becomeZero 18 = .ok (.iconst 0, 1) := by decide +kernel
theorem dX10_becomeZero_19 : decode cX10_becomeZero 19 = .ok (.iastore, 1) := by decide +kernel
theorem dX10_becomeZero_20 : decode cX10_becomeZero 20 = .ok (.iinc 2 1, 3) := by decide +kernel
theorem dX10_becomeZero_23 : decode cX10_becomeZero 23 = .ok (.goto (-16), 3) := by decide +kernel
theorem dX10_becomeZero_26 : decode cX10_becomeZero 26 = .ok (.return_, 1) := by decide +kernel
theorem dX10_becomeBasis_0 : decode cX10_becomeBasis 0 = .ok (.aload_n 0, 1) := by decide +kernel
theorem dX10_becomeBasis_1 : decode cX10_becomeBasis 1 = .ok (.iload_n 1, 1) := by decide +kernel
theorem dX10_becomeBasis_2 : decode cX10_becomeBasis 2 = .ok (.invokevirtual 25, 3) := by decide +kernel
theorem dX10_becomeBasis_5 : decode cX10_becomeBasis 5 = .ok (.aload_n 0, 1) := by decide +kernel
theorem dX10_becomeBasis_6 : decode cX10_becomeBasis 6 = .ok (.getfield 9, 3) := by decide +kernel
theorem dX10_becomeBasis_9 : decode cX10_becomeBasis 9 = .ok (.iload_n 2, 1) := by decide +kernel
theorem dX10_becomeBasis_10 : decode cX10_becomeBasis 10 = .ok (.iconst 1, 1) := by decide +kernel
theorem dX10_becomeBasis_11 : decode cX10_becomeBasis 11 = .ok (.iastore, 1) := by decide +kernel
theorem dX10_becomeBasis_12 : decode cX10_becomeBasis 12 = .ok (.return_, 1) := by decide +kernel
theorem dX10_addTimes_0 : decode cX10_addTimes 0 = .ok (.iconst 0, 1) := by decide +kernel
theorem dX10_addTimes_1 : decode cX10_addTimes 1 = .ok (.istore_n 3, 1) := by decide +kernel
theorem dX10_addTimes_2 : decode cX10_addTimes 2 = .ok (.iload_n 3, 1) := by decide +kernel
theorem dX10_addTimes_3 : decode cX10_addTimes 3 = .ok (.bipush 7, 2) := by decide +kernel
theorem dX10_addTimes_5 : decode cX10_addTimes 5 = .ok (.if_icmp .ge 33, 3) := by decide +kernel
theorem dX10_addTimes_8 : decode cX10_addTimes 8 = .ok (.aload_n 0, 1) := by decide +kernel
theorem dX10_addTimes_9 : decode cX10_addTimes 9 = .ok (.getfield 9, 3) := by decide +kernel
theorem dX10_addTimes_12 : decode cX10_addTimes 12 = .ok (.iload_n 3, 1) := by decide +kernel
theorem dX10_addTimes_13 : decode cX10_addTimes 13 = .ok (.aload_n 0, 1) := by decide +kernel
theorem dX10_addTimes_14 : decode cX10_addTimes 14 = .ok (.getfield 9, 3) := by decide +kernel
theorem dX10_addTimes_17 : decode cX10_addTimes 17 = .ok (.iload_n 3, 1) := by decide +kernel
theorem dX10_addTimes_18 : decode cX10_addTimes 18 = .ok (.iaload, 1) := by decide +kernel
theorem dX10_addTimes_19 : decode cX10_addTimes 19 = .ok (.iload_n 2, 1) := by decide +kernel
theorem dX10_addTimes_20 : decode cX10_addTimes 20 = .ok (.aload_n 1, 1) := by decide +kernel
theorem dX10_addTimes_21 : decode cX10_addTimes 21 = .ok (.getfield 9, 3) := by decide +kernel
theorem dX10_addTimes_24 : decode cX10_addTimes 24 = .ok (.iload_n 3, 1) := by decide +kernel
theorem dX10_addTimes_25 : decode cX10_addTimes 25 = .ok (.iaload, 1) := by decide +kernel
theorem dX10_addTimes_26 : decode cX10_addTimes 26 = .ok (.imul, 1) := by decide +kernel
theorem dX10_addTimes_27 : decode cX10_addTimes 27 = .ok (.iadd, 1) := by decide +kernel
theorem dX10_addTimes_28 : decode cX10_addTimes 28 = .ok (.bipush 101, 2) := by decide +kernel
theorem dX10_addTimes_30 : decode cX10_addTimes 30 = .ok (.irem, 1) := by decide +kernel
theorem dX10_addTimes_31 : decode cX10_addTimes 31 = .ok (.iastore, 1) := by decide +kernel
theorem dX10_addTimes_32 : decode cX10_addTimes 32 = .ok (.iinc 3 1, 3) := by decide +kernel
theorem dX10_addTimes_35 : decode cX10_addTimes 35 = .ok (.goto (-33), 3) := by decide +kernel
theorem dX10_addTimes_38 : decode cX10_addTimes 38 = .ok (.return_, 1) := by decide +kernel
theorem dX10_multiply_0 : decode cX10_multiply 0 = .ok (.iconst 0, 1) := by decide +kernel
theorem dX10_multiply_1 : decode cX10_multiply 1 = .ok (.istore_n 2, 1) := by decide +kernel
theorem dX10_multiply_2 : decode cX10_multiply 2 = .ok (.iload_n 2, 1) := by decide +kernel
theorem dX10_multiply_3 : decode cX10_multiply 3 = .ok (.bipush 7, 2) := by decide +kernel
theorem dX10_multiply_5 : decode cX10_multiply 5 = .ok (.if_icmp .ge 26, 3) := by decide +kernel
theorem dX10_multiply_8 : decode cX10_multiply 8 = .ok (.aload_n 0, 1) := by decide +kernel
theorem dX10_multiply_9 : decode cX10_multiply 9 = .ok (.getfield 9, 3) := by decide +kernel
theorem dX10_multiply_12 : decode cX10_multiply 12 = .ok (.iload_n 2, 1) := by decide +kernel
theorem dX10_multiply_13 : decode cX10_multiply 13 = .ok (.aload_n 0, 1) := by decide +kernel
theorem dX10_multiply_14 : decode cX10_multiply 14 = .ok (.getfield 9, 3) := by decide +kernel
theorem dX10_multiply_17 : decode cX10_multiply 17 = .ok (.iload_n 2, 1) := by decide +kernel
theorem dX10_multiply_18 : decode cX10_multiply 18 = .ok (.iaload, 1) := by decide +kernel
theorem dX10_multiply_19 : decode cX10_multiply 19 = .ok (.iload_n 1, 1) := by decide +kernel
theorem dX10_multiply_20 : decode cX10_multiply 20 = .ok (.imul, 1) := by decide +kernel
theorem dX10_multiply_21 : decode cX10_multiply 21 = .ok (.bipush 101, 2) := by decide +kernel
theorem dX10_multiply_23 : decode cX10_multiply 23 = .ok (.irem, 1) := by decide +kernel
theorem dX10_multiply_24 : decode cX10_multiply 24 = .ok (.iastore, 1) := by decide +kernel
theorem dX10_multiply_25 : decode cX10_multiply 25 = .ok (.iinc 2 1, 3) := by decide +kernel
theorem dX10_multiply_28 : decode cX10_multiply 28 = .ok (.goto (-26), 3) := by decide +kernel
theorem dX10_multiply_31 : decode cX10_multiply 31 = .ok (.return_, 1) := by decide +kernel
theorem dX10_filled_0 : decode cX10_filled 0 = .ok (.iconst 0, 1) := by decide +kernel
theorem dX10_filled_1 : decode cX10_filled 1 = .ok (.istore_n 1, 1) := by decide +kernel
theorem dX10_filled_2 : decode cX10_filled 2 = .ok (.iconst 0, 1) := by decide +kernel
theorem dX10_filled_3 : decode cX10_filled 3 = .ok (.istore_n 2, 1) := by decide +kernel
theorem dX10_filled_4 : decode cX10_filled 4 = .ok (.iload_n 2, 1) := by decide +kernel
theorem dX10_filled_5 : decode cX10_filled 5 = .ok (.bipush 7, 2) := by decide +kernel
theorem dX10_filled_7 : decode cX10_filled 7 = .ok (.if_icmp .ge 21, 3) := by decide +kernel
theorem dX10_filled_10 : decode cX10_filled 10 = .ok (.aload_n 0, 1) := by decide +kernel
theorem dX10_filled_11 : decode cX10_filled 11 = .ok (.getfield 9, 3) := by decide +kernel
theorem dX10_filled_14 : decode cX10_filled 14 = .ok (.iload_n 2, 1) := by decide +kernel
theorem dX10_filled_15 : decode cX10_filled 15 = .ok (.iaload, 1) := by decide +kernel
theorem dX10_filled_16 : decode cX10_filled 16 = .ok (.ifCond .eq 6, 3) := by decide +kernel
theorem dX10_filled_19 : decode cX10_filled 19 = .ok (.iinc 1 1, 3) := by decide +kernel
theorem dX10_filled_22 : decode cX10_filled 22 = .ok (.iinc 2 1, 3) := by decide +kernel
theorem dX10_filled_25 : decode cX10_filled 25 = .ok (.goto (-21), 3) := by decide +kernel
theorem dX10_filled_28 : decode cX10_filled 28 = .ok (.iload_n 1, 1) := by decide +kernel
theorem dX10_filled_29 : decode cX10_filled 29 = .ok (.ireturn, 1) := by decide +kernel
theorem dX10_isZero_0 : decode cX10_isZero 0 = .ok (.aload_n 0, 1) := by decide +kernel
theorem dX10_isZero_1 : decode cX10_isZero 1 = .ok (.invokevirtual 29, 3) := by decide +kernel
theorem dX10_isZero_4 : decode cX10_isZero 4 = .ok (.ifCond .ne 7, 3) := by decide +kernel
theorem dX10_isZero_7 : decode cX10_isZero 7 = .ok (.iconst 1, 1) := by decide +kernel
theorem dX10_isZero_8 : decode cX10_isZero 8 = .ok (.goto 4, 3) := by decide +kernel
theorem dX10_isZero_11 : decode cX10_isZero 11 = .ok (.iconst 0, 1) := by decide +kernel
theorem dX10_isZero_12 : decode cX10_isZero 12 = .ok (.ireturn, 1) := by decide +kernel
theorem dX11_init_0 : decode cX11_init 0 = .ok (.aload_n 0, 1) := by decide +kernel
theorem dX11_init_1 : decode cX11_init 1 = .ok (.invokespecial 3, 3) := by decide +kernel
theorem dX11_init_4 : decode cX11_init 4 = .ok (.aload_n 0, 1) := by decide +kernel
theorem dX11_init_5 : decode cX11_init 5 = .ok (.new 9, 3) := by decide +kernel
theorem dX11_init_8 : decode cX11_init 8 = .ok (.dup, 1) := by decide +kernel
theorem dX11_init_9 : decode cX11_init 9 = .ok (.invokespecial 11, 3) := by decide +kernel
theorem dX11_init_12 : decode cX11_init 12 = .ok (.putfield 12, 3) := by decide +kernel
theorem dX11_init_15 : decode cX11_init 15 = .ok (.aload_n 0, 1) := by decide +kernel
theorem dX11_init_16 : decode cX11_init 16 = .ok (.new 9, 3) := by decide +kernel
theorem dX11_init_19 : decode cX11_init 19 = .ok (.dup, 1) := by decide +kernel
theorem dX11_init_20 : decode cX11_init 20 = .ok (.invokespecial 11, 3) := by decide +kernel
theorem dX11_init_23 : decode cX11_init 23 = .ok (.putfield 18, 3) := by decide +kernel
theorem dX11_init_26 : decode cX11_init 26 = .ok (.aload_n 0, 1) := by decide +kernel
theorem dX11_init_27 : decode cX11_init 27 = .ok (.new 21, 3) := by decide +kernel
theorem dX11_init_30 : decode cX11_init 30 = .ok (.dup, 1) := by decide +kernel
theorem dX11_init_31 : decode cX11_init 31 = .ok (.invokespecial 23, 3) := by decide +kernel
theorem dX11_init_34 : decode cX11_init 34 = .ok (.putfield 24, 3) := by decide +kernel
theorem dX11_init_37 : decode cX11_init 37 = .ok (.aload_n 0, 1) := by decide +kernel
theorem dX11_init_38 : decode cX11_init 38 = .ok (.new 28, 3) := by decide +kernel
theorem dX11_init_41 : decode cX11_init 41 = .ok (.dup, 1) := by decide +kernel
theorem dX11_init_42 : decode cX11_init 42 = .ok (.invokespecial 30, 3) := by decide +kernel
theorem dX11_init_45 : decode cX11_init 45 = .ok (.putfield 31, 3) := by decide +kernel
theorem dX11_init_48 : decode cX11_init 48 = .ok (.aload_n 0, 1) := by decide +kernel
theorem dX11_init_49 : decode cX11_init 49 = .ok (.new 35, 3) := by decide +kernel
theorem dX11_init_52 : decode cX11_init 52 = .ok (.dup, 1) := by decide +kernel
theorem dX11_init_53 : decode cX11_init 53 = .ok (.bipush 60, 2) := by decide +kernel
theorem dX11_init_55 : decode cX11_init 55 = .ok (.invokespecial 37, 3) := by decide +kernel
theorem dX11_init_58 : decode cX11_init 58 = .ok (.putfield 40, 3) := by decide +kernel
theorem dX11_init_61 : decode cX11_init 61 = .ok (.aload_n 0, 1) := by decide +kernel
theorem dX11_init_62 : decode cX11_init 62 = .ok (.new 35, 3) := by decide +kernel
theorem dX11_init_65 : decode cX11_init 65 = .ok (.dup, 1) := by decide +kernel
theorem dX11_init_66 : decode cX11_init 66 = .ok (.bipush 94, 2) := by decide +kernel
theorem dX11_init_68 : decode cX11_init 68 = .ok (.invokespecial 37, 3) := by decide +kernel
theorem dX11_init_71 : decode cX11_init 71 = .ok (.putfield 44, 3) := by decide +kernel
theorem dX11_init_74 : decode cX11_init 74 = .ok (.aload_n 0, 1) := by decide +kernel
theorem dX11_init_75 : decode cX11_init 75 = .ok (.new 47, 3) := by decide +kernel
theorem dX11_init_78 : decode cX11_init 78 = .ok (.dup, 1) := by decide +kernel
theorem dX11_init_79 : decode cX11_init 79 = .ok (.invokespecial 49, 3) := by decide +kernel
theorem dX11_init_82 : decode cX11_init 82 = .ok (.putfield 50, 3) := by decide +kernel
theorem dX11_init_85 : decode cX11_init 85 = .ok (.aload_n 0, 1) := by decide +kernel
theorem dX11_init_86 : decode cX11_init 86 = .ok (.new 47, 3) := by decide +kernel
theorem dX11_init_89 : decode cX11_init 89 = .ok (.dup, 1) := by decide +kernel
theorem dX11_init_90 : decode cX11_init 90 = .ok (.invokespecial 49, 3) := by decide +kernel
theorem dX11_init_93 : decode cX11_init 93 = .ok (.putfield 54, 3) := by decide +kernel
theorem dX11_init_96 : decode cX11_init 96 = .ok (.aload_n 0, 1) := by decide +kernel
theorem dX11_init_97 : decode cX11_init 97 = .ok (.iconst 4, 1) := by decide +kernel
theorem dX11_init_98 : decode cX11_init 98 = .ok (.bipush 12, 2) := by decide +kernel
theorem dX11_init_100 : decode cX11_init 100 = .ok (.multianewarray 57 2, 4) := by decide +kernel
theorem dX11_init_104 : decode cX11_init 104 = .ok (.putfield 59, 3) := by decide +kernel
theorem dX11_init_107 : decode cX11_init 107 = .ok (.aload_n 0, 1) := by decide +kernel
theorem dX11_init_108 : decode cX11_init 108 = .ok (.iconst 4, 1) := by decide +kernel
theorem dX11_init_109 : decode cX11_init 109 = .ok (.newarray .int, 2) := by decide +kernel
theorem dX11_init_111 : decode cX11_init 111 = .ok (.dup, 1) := by decide +kernel
theorem dX11_init_112 : decode cX11_init 112 = .ok (.iconst 0, 1) := by decide +kernel
theorem dX11_init_113 : decode cX11_init 113 = .ok (.iconst (-1), 1) := by decide +kernel
theorem dX11_init_114 : decode cX11_init 114 = .ok (.iastore, 1) := by decide +kernel
theorem dX11_init_115 : decode cX11_init 115 = .ok (.dup, 1) := by decide +kernel
theorem dX11_init_116 : decode cX11_init 116 = .ok (.iconst 1, 1) := by decide +kernel
theorem dX11_init_117 : decode cX11_init 117 = .ok (.iconst (-1), 1) := by decide +kernel
theorem dX11_init_118 : decode cX11_init 118 = .ok (.iastore, 1) := by decide +kernel
theorem dX11_init_119 : decode cX11_init 119 = .ok (.dup, 1) := by decide +kernel
theorem dX11_init_120 : decode cX11_init 120 = .ok (.iconst 2, 1) := by decide +kernel
theorem dX11_init_121 : decode cX11_init 121 = .ok (.iconst (-1), 1) := by decide +kernel
theorem dX11_init_122 : decode cX11_init 122 = .ok (.iastore, 1) := by decide +kernel
theorem dX11_init_123 : decode cX11_init 123 = .ok (.dup, 1) := by decide +kernel
theorem dX11_init_124 : decode cX11_init 124 = .ok (.iconst 3, 1) := by decide +kernel
theorem dX11_init_125 : decode cX11_init 125 = .ok (.iconst (-1), 1) := by decide +kernel
theorem dX11_init_126 : decode cX11_init 126 = .ok (.iastore, 1) := by decide +kernel
theorem dX11_init_127 : decode cX11_init 127 = .ok (.putfield 62, 3) := by decide +kernel
theorem dX11_init_130 : decode cX11_init 130 = .ok (.return_, 1) := by decide +kernel
theorem dX11_set_0 : decode cX11_set 0 = .ok (.iload_n 1, 1) := by decide +kernel
theorem dX11_set_1 : decode cX11_set 1 = .ok (.iconst 3, 1) := by decide +kernel
theorem dX11_set_2 : decode cX11_set 2 = .ok (.invokestatic 66, 3) := by decide +kernel
theorem dX11_set_5 : decode cX11_set 5 = .ok (.ifCond .ne 5, 3) := by decide +kernel
theorem dX11_set_8 : decode cX11_set 8 = .ok (.iconst (-1), 1) := by decide +kernel
theorem dX11_set_9 : decode cX11_set 9 = .ok (.ireturn, 1) := by decide +kernel
theorem dX11_set_10 : decode cX11_set 10 = .ok (.iload_n 2, 1) := by decide +kernel
theorem dX11_set_11 : decode cX11_set 11 = .ok (.iload_n 1, 1) := by decide +kernel
theorem dX11_set_12 : decode cX11_set 12 = .ok (.ifCond .ne 7, 3) := by decide +kernel
theorem dX11_set_15 : decode cX11_set 15 = .ok (.iconst 4, 1) := by decide +kernel
theorem dX11_set_16 : decode cX11_set 16 = .ok (.goto 5, 3) := by decide +kernel
theorem dX11_set_19 : decode cX11_set 19 = .ok (.bipush 100, 2) := by decide +kernel
theorem dX11_set_21 : decode cX11_set 21 = .ok (.invokestatic 66, 3) := by decide +kernel
theorem dX11_set_24 : decode cX11_set 24 = .ok (.ifCond .ne 6, 3) := by decide +kernel
theorem dX11_set_27 : decode cX11_set 27 = .ok (.bipush (-2), 2) := by decide +kernel
theorem dX11_set_29 : decode cX11_set 29 = .ok (.ireturn, 1) := by decide +kernel
theorem dX11_set_30 : decode cX11_set 30 = .ok (.aload_n 0, 1) := by decide +kernel
theorem dX11_set_31 : decode cX11_set 31 = .ok (.getfield 12, 3) := by decide +kernel
theorem dX11_set_34 : decode cX11_set 34 = .ok (.getfield 70, 3) := by decide +kernel
theorem dX11_set_37 : decode cX11_set 37 = .ok (.iload_n 1, 1) := by decide +kernel
theorem dX11_set_38 : decode cX11_set 38 = .ok (.iaload, 1) := by decide +kernel
theorem dX11_set_39 : decode cX11_set 39 = .ok (.istore_n 3, 1) := by decide +kernel
theorem dX11_set_40 : decode cX11_set 40 = .ok (.aload_n 0, 1) := by decide +kernel
theorem dX11_set_41 : decode cX11_set 41 = .ok (.getfield 12, 3) := by decide +kernel
theorem dX11_set_44 : decode cX11_set 44 = .ok (.getfield 70, 3) := by decide +kernel
theorem dX11_set_47 : decode cX11_set 47 = .ok (.iload_n 1, 1) := by decide +kernel
theorem dX11_set_48 : decode cX11_set 48 = .ok (.iload_n 2, 1) := by decide +kernel
theorem dX11_set_49 : decode cX11_set 49 = .ok (.iastore, 1) := by decide +kernel
theorem dX11_set_50 : decode cX11_set 50 = .ok (.iload_n 3, 1) := by decide +kernel
theorem dX11_set_51 : decode cX11_set 51 = .ok (.ireturn, 1) := by decide +kernel
theorem dX11_of_0 : decode cX11_of 0 = .ok (.iload_n 1, 1) := by decide +kernel
theorem dX11_of_1 : decode cX11_of 1 = .ok (.iconst 3, 1) := by decide +kernel
theorem dX11_of_2 : decode cX11_of 2 = .ok (.invokestatic 66, 3) := by decide +kernel
theorem dX11_of_5 : decode cX11_of 5 = .ok (.ifCond .eq 15, 3) := by decide +kernel
theorem dX11_of_8 : decode cX11_of 8 = .ok (.aload_n 0, 1) := by decide +kernel
theorem dX11_of_9 : decode cX11_of 9 = .ok (.getfield 12, 3) := by decide +kernel
theorem dX11_of_12 : decode cX11_of 12 = .ok (.getfield 70, 3) := by decide +kernel
theorem dX11_of_15 : decode cX11_of 15 = .ok (.iload_n 1, 1) := by decide +kernel
theorem dX11_of_16 : decode cX11_of 16 = .ok (.iaload, 1) := by decide +kernel
theorem dX11_of_17 : decode cX11_of 17 = .ok (.goto 4, 3) := by decide +kernel
theorem dX11_of_20 : decode cX11_of 20 = .ok (.iconst (-1), 1) := by decide +kernel
theorem dX11_of_21 : decode cX11_of 21 = .ok (.ireturn, 1) := by decide +kernel
theorem dX11_bracket_0 : decode cX11_bracket 0 = .ok (.iload_n 3, 1) := by decide +kernel
theorem dX11_bracket_1 : decode cX11_bracket 1 = .ok (.iconst 1, 1) := by decide +kernel
theorem dX11_bracket_2 : decode cX11_bracket 2 = .ok (.invokestatic 66, 3) := by decide +kernel
theorem dX11_bracket_5 : decode cX11_bracket 5 = .ok (.ifCond .ne 5, 3) := by decide +kernel
theorem dX11_bracket_8 : decode cX11_bracket 8 = .ok (.iconst (-1), 1) := by decide +kernel
theorem dX11_bracket_9 : decode cX11_bracket 9 = .ok (.ireturn, 1) := by decide +kernel
theorem dX11_bracket_10 : decode cX11_bracket 10 = .ok (.iload_n 1, 1) := by decide +kernel
theorem dX11_bracket_11 : decode cX11_bracket 11 = .ok (.invokestatic 73, 3) := by decide +kernel
theorem dX11_bracket_14 : decode cX11_bracket 14 = .ok (.ifCond .eq 10, 3) := by decide +kernel
theorem dX11_bracket_17 : decode cX11_bracket 17 = .ok (.iload_n 2, 1) := by decide +kernel
theorem dX11_bracket_18 : decode cX11_bracket 18 = .ok (.invokestatic 73, 3) := by decide +kernel
theorem dX11_bracket_21 : decode cX11_bracket 21 = .ok (.ifCond .ne 6, 3) := by decide +kernel
theorem dX11_bracket_24 : decode cX11_bracket 24 = .ok (.bipush (-2), 2) := by decide +kernel
theorem dX11_bracket_26 : decode cX11_bracket 26 = .ok (.ireturn, 1) := by decide +kernel
theorem dX11_bracket_27 : decode cX11_bracket 27 = .ok (.aload_n 0, 1) := by decide +kernel
theorem dX11_bracket_28 : decode cX11_bracket 28 = .ok (.getfield 24, 3) := by decide +kernel
theorem dX11_bracket_31 : decode cX11_bracket 31 = .ok (.aload_n 0, 1) := by decide +kernel
theorem dX11_bracket_32 : decode cX11_bracket 32 = .ok (.getfield 12, 3) := by decide +kernel
theorem dX11_bracket_35 : decode cX11_bracket 35 = .ok (.getfield 70, 3) := by decide +kernel
theorem dX11_bracket_38 : decode cX11_bracket 38 = .ok (.invokevirtual 77, 3) := by decide +kernel
theorem dX11_bracket_41 : decode cX11_bracket 41 = .ok (.astore 4, 2) := by decide +kernel
theorem dX11_bracket_43 : decode cX11_bracket 43 = .ok (.iload_n 3, 1) := by decide +kernel
theorem dX11_bracket_44 : decode cX11_bracket 44 = .ok (.ifCond .ne 13, 3) := by decide +kernel
theorem dX11_bracket_47 : decode cX11_bracket 47 = .ok (.aload 4, 2) := by decide +kernel
theorem dX11_bracket_49 : decode cX11_bracket 49 = .ok (.iload_n 1, 1) := by decide +kernel
theorem dX11_bracket_50 : decode cX11_bracket 50 = .ok (.iload_n 2, 1) := by decide +kernel
theorem dX11_bracket_51 : decode cX11_bracket 51 = .ok (.invokevirtual 81, 3) := by decide +kernel
theorem dX11_bracket_54 : decode cX11_bracket 54 = .ok (.goto 27, 3) := by decide +kernel
theorem dX11_bracket_57 : decode cX11_bracket 57 = .ok (.aload 4, 2) := by decide +kernel
theorem dX11_bracket_59 : decode cX11_bracket 59 = .ok (.iload_n 1, 1) := by decide +kernel
theorem dX11_bracket_60 : decode cX11_bracket 60 = .ok (.aload_n 0, 1) := by decide +kernel
theorem dX11_bracket_61 : decode cX11_bracket 61 = .ok (.getfield 12, 3) := by decide +kernel
theorem dX11_bracket_64 : decode cX11_bracket 64 = .ok (.getfield 70, 3) := by decide +kernel
theorem dX11_bracket_67 : decode cX11_bracket 67 = .ok (.iconst 1, 1) := by decide +kernel
theorem dX11_bracket_68 : decode cX11_bracket 68 = .ok (.iaload, 1) := by decide +kernel
theorem dX11_bracket_69 : decode cX11_bracket 69 = .ok (.aload_n 0, 1) := by decide +kernel
theorem dX11_bracket_70 : decode cX11_bracket 70 = .ok (.getfield 12, 3) := by decide +kernel
theorem dX11_bracket_73 : decode cX11_bracket 73 = .ok (.getfield 70, 3) := by decide +kernel
theorem dX11_bracket_76 : decode cX11_bracket 76 = .ok (.iconst 3, 1) := by decide +kernel
theorem dX11_bracket_77 : decode cX11_bracket 77 = .ok (.iaload, 1) := by decide +kernel
theorem dX11_bracket_78 : decode cX11_bracket 78 = .ok (.invokevirtual 87, 3) := by decide +kernel
theorem dX11_bracket_81 : decode cX11_bracket 81 = .ok (.invokestatic 91, 3) := by decide +kernel
theorem dX11_bracket_84 : decode cX11_bracket 84 = .ok (.ireturn, 1) := by decide +kernel
theorem dX11_partition_0 : decode cX11_partition 0 = .ok (.iload_n 1, 1) := by decide +kernel
theorem dX11_partition_1 : decode cX11_partition 1 = .ok (.iload_n 2, 1) := by decide +kernel
theorem dX11_partition_2 : decode cX11_partition 2 = .ok (.invokestatic 95, 3) := by decide +kernel
theorem dX11_partition_5 : decode cX11_partition 5 = .ok (.ifCond .ne 5, 3) := by decide +kernel
theorem dX11_partition_8 : decode cX11_partition 8 = .ok (.iconst (-1), 1) := by decide +kernel
theorem dX11_partition_9 : decode cX11_partition 9 = .ok (.ireturn, 1) := by decide +kernel
theorem dX11_partition_10 : decode cX11_partition 10 = .ok (.getstatic 98, 3) := by decide +kernel
theorem dX11_partition_13 : decode cX11_partition 13 = .ok (.iload_n 1, 1) := by decide +kernel
theorem dX11_partition_14 : decode cX11_partition 14 = .ok (.iaload, 1) := by decide +kernel
theorem dX11_partition_15 : decode cX11_partition 15 = .ok (.iload_n 2, 1) := by decide +kernel
theorem dX11_partition_16 : decode cX11_partition 16 = .ok (.iadd, 1) := by decide +kernel
theorem dX11_partition_17 : decode cX11_partition 17 = .ok (.istore 4, 2) := by decide +kernel
theorem dX11_partition_19 : decode cX11_partition 19 = .ok (.iload_n 3, 1) := by decide +kernel
theorem dX11_partition_20 : decode cX11_partition 20 = .ok (.iconst (-1), 1) := by decide +kernel
theorem dX11_partition_21 : decode cX11_partition 21 = .ok (.if_icmp .ne 10, 3) := by decide +kernel
theorem dX11_partition_24 : decode cX11_partition 24 = .ok (.getstatic 101, 3) := by decide +kernel
theorem dX11_partition_27 : decode cX11_partition 27 = .ok (.iload 4, 2) := by decide +kernel
theorem dX11_partition_29 : decode cX11_partition 29 = .ok (.iaload, 1) := by decide +kernel
theorem dX11_partition_30 : decode cX11_partition 30 = .ok (.ireturn, 1) := by decide +kernel
theorem dX11_partition_31 : decode cX11_partition 31 = .ok (.iload_n 3, 1) := by decide +kernel
theorem dX11_partition_32 : decode cX11_partition 32 = .ok (.getstatic 101, 3) := by decide +kernel
theorem dX11_partition_35 : decode cX11_partition 35 = .ok (.iload 4, 2) := by decide +kernel
theorem dX11_partition_37 : decode cX11_partition 37 = .ok (.iaload, 1) := by decide +kernel
theorem dX11_partition_38 : decode cX11_partition 38 = .ok (.iconst 1, 1) := by decide +kernel
theorem dX11_partition_39 : decode cX11_partition 39 = .ok (.isub, 1) := by decide +kernel
theorem dX11_partition_40 : decode cX11_partition 40 = .ok (.invokestatic 66, 3) := by decide +kernel
theorem dX11_partition_43 : decode cX11_partition 43 = .ok (.ifCond .eq 12, 3) := by decide +kernel
theorem dX11_partition_46 : decode cX11_partition 46 = .ok (.iload 4, 2) := by decide +kernel
theorem dX11_partition_48 : decode cX11_partition 48 = .ok (.iload_n 3, 1) := by decide +kernel
theorem dX11_partition_49 : decode cX11_partition 49 = .ok (.invokestatic 104, 3) := by decide +kernel
theorem dX11_partition_52 : decode cX11_partition 52 = .ok (.goto 5, 3) := by decide +kernel
theorem dX11_partition_55 : decode cX11_partition 55 = .ok (.bipush (-5), 2) := by decide +kernel
theorem dX11_partition_57 : decode cX11_partition 57 = .ok (.ireturn, 1) := by decide +kernel
theorem dX11_act_0 : decode cX11_act 0 = .ok (.iload_n 1, 1) := by decide +kernel
theorem dX11_act_1 : decode cX11_act 1 = .ok (.invokestatic 73, 3) := by decide +kernel
theorem dX11_act_4 : decode cX11_act 4 = .ok (.ifCond .eq 11, 3) := by decide +kernel
theorem dX11_act_7 : decode cX11_act 7 = .ok (.iload_n 2, 1) := by decide +kernel
theorem dX11_act_8 : decode cX11_act 8 = .ok (.iload_n 3, 1) := by decide +kernel
theorem dX11_act_9 : decode cX11_act 9 = .ok (.invokestatic 95, 3) := by decide +kernel
theorem dX11_act_12 : decode cX11_act 12 = .ok (.ifCond .ne 5, 3) := by decide +kernel
theorem dX11_act_15 : decode cX11_act 15 = .ok (.iconst (-1), 1) := by decide +kernel
theorem dX11_act_16 : decode cX11_act 16 = .ok (.ireturn, 1) := by decide +kernel
theorem dX11_act_17 : decode cX11_act 17 = .ok (.iload_n 2, 1) := by decide +kernel
theorem dX11_act_18 : decode cX11_act 18 = .ok (.iload_n 1, 1) := by decide +kernel
theorem dX11_act_19 : decode cX11_act 19 = .ok (.isub, 1) := by decide +kernel
theorem dX11_act_20 : decode cX11_act 20 = .ok (.istore 5, 2) := by decide +kernel
theorem dX11_act_22 : decode cX11_act 22 = .ok (.iload 5, 2) := by decide +kernel
theorem dX11_act_24 : decode cX11_act 24 = .ok (.invokestatic 107, 3) := by decide +kernel
theorem dX11_act_27 : decode cX11_act 27 = .ok (.ifCond .ne 6, 3) := by decide +kernel
theorem dX11_act_30 : decode cX11_act 30 = .ok (.bipush (-3), 2) := by decide +kernel
theorem dX11_act_32 : decode cX11_act 32 = .ok (.ireturn, 1) := by decide +kernel
theorem dX11_act_33 : decode cX11_act 33 = .ok (.iload 5, 2) := by decide +kernel
theorem dX11_act_35 : decode cX11_act 35 = .ok (.iload 4, 2) := by decide +kernel
theorem dX11_act_37 : decode cX11_act 37 = .ok (.invokestatic 95, 3) := by decide +kernel
theorem dX11_act_40 : decode cX11_act 40 = .ok (.ifCond .ne 6, 3) := by decide +kernel
theorem dX11_act_43 : decode cX11_act 43 = .ok (.bipush (-5), 2) := by decide +kernel
theorem dX11_act_45 : decode cX11_act 45 = .ok (.ireturn, 1) := by decide +kernel
theorem dX11_act_46 : decode cX11_act 46 = .ok (.aload_n 0, 1) := by decide +kernel
theorem dX11_act_47 : decode cX11_act 47 = .ok (.getfield 24, 3) := by decide +kernel
theorem dX11_act_50 : decode cX11_act 50 = .ok (.aload_n 0, 1) := by decide +kernel
theorem dX11_act_51 : decode cX11_act 51 = .ok (.getfield 12, 3) := by decide +kernel
theorem dX11_act_54 : decode cX11_act 54 = .ok (.getfield 70, 3) := by decide +kernel
theorem dX11_act_57 : decode cX11_act 57 = .ok (.iload_n 2, 1) := by decide +kernel
theorem dX11_act_58 : decode cX11_act 58 = .ok (.iload 5, 2) := by decide +kernel
theorem dX11_act_60 : decode cX11_act 60 = .ok (.invokestatic 110, 3) := by decide +kernel
theorem dX11_act_63 : decode cX11_act 63 = .ok (.invokevirtual 115, 3) := by decide +kernel
theorem dX11_act_66 : decode cX11_act 66 = .ok (.aload_n 0, 1) := by decide +kernel
theorem dX11_act_67 : decode cX11_act 67 = .ok (.getfield 24, 3) := by decide +kernel
theorem dX11_act_70 : decode cX11_act 70 = .ok (.getstatic 98, 3) := by decide +kernel
theorem dX11_act_73 : decode cX11_act 73 = .ok (.iload_n 2, 1) := by decide +kernel
theorem dX11_act_74 : decode cX11_act 74 = .ok (.iaload, 1) := by decide +kernel
theorem dX11_act_75 : decode cX11_act 75 = .ok (.iload_n 3, 1) := by decide +kernel
theorem dX11_act_76 : decode cX11_act 76 = .ok (.iadd, 1) := by decide +kernel
theorem dX11_act_77 : decode cX11_act 77 = .ok (.getstatic 98, 3) := by decide +kernel
theorem dX11_act_80 : decode cX11_act 80 = .ok (.iload 5, 2) := by decide +kernel
theorem dX11_act_82 : decode cX11_act 82 = .ok (.iaload, 1) := by decide +kernel
theorem dX11_act_83 : decode cX11_act 83 = .ok (.iload 4, 2) := by decide +kernel
theorem dX11_act_85 : decode cX11_act 85 = .ok (.iadd, 1) := by decide +kernel
theorem dX11_act_86 : decode cX11_act 86 = .ok (.invokevirtual 119, 3) := by decide +kernel
theorem dX11_act_89 : decode cX11_act 89 = .ok (.ireturn, 1) := by decide +kernel
theorem dX11_form_0 : decode cX11_form 0 = .ok (.iload_n 1, 1) := by decide +kernel
theorem dX11_form_1 : decode cX11_form 1 = .ok (.iload_n 2, 1) := by decide +kernel
theorem dX11_form_2 : decode cX11_form 2 = .ok (.invokestatic 95, 3) := by decide +kernel
theorem dX11_form_5 : decode cX11_form 5 = .ok (.ifCond .eq 11, 3) := by decide +kernel
theorem dX11_form_8 : decode cX11_form 8 = .ok (.iload_n 1, 1) := by decide +kernel
theorem dX11_form_9 : decode cX11_form 9 = .ok (.iload_n 3, 1) := by decide +kernel
theorem dX11_form_10 : decode cX11_form 10 = .ok (.invokestatic 95, 3) := by decide +kernel
theorem dX11_form_13 : decode cX11_form 13 = .ok (.ifCond .ne 5, 3) := by decide +kernel
theorem dX11_form_16 : decode cX11_form 16 = .ok (.iconst (-1), 1) := by decide +kernel
theorem dX11_form_17 : decode cX11_form 17 = .ok (.ireturn, 1) := by decide +kernel
theorem dX11_form_18 : decode cX11_form 18 = .ok (.aload_n 0, 1) := by decide +kernel
theorem dX11_form_19 : decode cX11_form 19 = .ok (.getfield 24, 3) := by decide +kernel
theorem dX11_form_22 : decode cX11_form 22 = .ok (.aload_n 0, 1) := by decide +kernel
theorem dX11_form_23 : decode cX11_form 23 = .ok (.getfield 12, 3) := by decide +kernel
theorem dX11_form_26 : decode cX11_form 26 = .ok (.getfield 70, 3) := by decide +kernel
theorem dX11_form_29 : decode cX11_form 29 = .ok (.iload_n 1, 1) := by decide +kernel
theorem dX11_form_30 : decode cX11_form 30 = .ok (.invokevirtual 115, 3) := by decide +kernel
theorem dX11_form_33 : decode cX11_form 33 = .ok (.aload_n 0, 1) := by decide +kernel
theorem dX11_form_34 : decode cX11_form 34 = .ok (.getfield 24, 3) := by decide +kernel
theorem dX11_form_37 : decode cX11_form 37 = .ok (.getstatic 98, 3) := by decide +kernel
theorem dX11_form_40 : decode cX11_form 40 = .ok (.iload_n 1, 1) := by decide +kernel
theorem dX11_form_41 : decode cX11_form 41 = .ok (.iaload, 1) := by decide +kernel
theorem dX11_form_42 : decode cX11_form 42 = .ok (.iload_n 2, 1) := by decide +kernel
theorem dX11_form_43 : decode cX11_form 43 = .ok (.iadd, 1) := by decide +kernel
theorem dX11_form_44 : decode cX11_form 44 = .ok (.getstatic 98, 3) := by decide +kernel
theorem dX11_form_47 : decode cX11_form 47 = .ok (.iload_n 1, 1) := by decide +kernel
theorem dX11_form_48 : decode cX11_form 48 = .ok (.iaload, 1) := by decide +kernel
theorem dX11_form_49 : decode cX11_form 49 = .ok (.iload_n 3, 1) := by decide +kernel
theorem dX11_form_50 : decode cX11_form 50 = .ok (.iadd, 1) := by decide +kernel
theorem dX11_form_51 : decode cX11_form 51 = .ok (.invokevirtual 122, 3) := by decide +kernel
theorem dX11_form_54 : decode cX11_form 54 = .ok (.ireturn, 1) := by decide +kernel
theorem dX11_determinant_0 : decode cX11_determinant 0 = .ok (.iload_n 1, 1) := by decide +kernel
theorem dX11_determinant_1 : decode cX11_determinant 1 = .ok (.invokestatic 107, 3) := by decide +kernel
theorem dX11_determinant_4 : decode cX11_determinant 4 = .ok (.ifCond .ne 5, 3) := by decide +kernel
theorem dX11_determinant_7 : decode cX11_determinant 7 = .ok (.iconst (-1), 1) := by decide +kernel
theorem dX11_determinant_8 : decode cX11_determinant 8 = .ok (.ireturn, 1) := by decide +kernel
theorem dX11_determinant_9 : decode cX11_determinant 9 = .ok (.aload_n 0, 1) := by decide +kernel
theorem dX11_determinant_10 : decode cX11_determinant 10 = .ok (.getfield 24, 3) := by decide +kernel
theorem dX11_determinant_13 : decode cX11_determinant 13 = .ok (.aload_n 0, 1) := by decide +kernel
theorem dX11_determinant_14 : decode cX11_determinant 14 = .ok (.getfield 12, 3) := by decide +kernel
theorem dX11_determinant_17 : decode cX11_determinant 17 = .ok (.getfield 70, 3) := by decide +kernel
theorem dX11_determinant_20 : decode cX11_determinant 20 = .ok (.iload_n 1, 1) := by decide +kernel
theorem dX11_determinant_21 : decode cX11_determinant 21 = .ok (.invokevirtual 115, 3) := by decide +kernel
theorem dX11_determinant_24 : decode cX11_determinant 24 = .ok (.aload_n 0, 1) := by decide +kernel
theorem dX11_determinant_25 : decode cX11_determinant 25 = .ok (.getfield 24, 3) := by decide +kernel
theorem dX11_determinant_28 : decode cX11_determinant 28 = .ok (.iload_n 1, 1) := by decide +kernel
theorem dX11_determinant_29 : decode cX11_determinant 29 = .ok (.invokevirtual 125, 3) := by decide +kernel
theorem dX11_determinant_32 : decode cX11_determinant 32 = .ok (.getfield 129, 3) := by decide +kernel
theorem dX11_determinant_35 : decode cX11_determinant 35 = .ok (.ireturn, 1) := by decide +kernel
theorem dX11_rank_0 : decode cX11_rank 0 = .ok (.iload_n 1, 1) := by decide +kernel
theorem dX11_rank_1 : decode cX11_rank 1 = .ok (.invokestatic 107, 3) := by decide +kernel
theorem dX11_rank_4 : decode cX11_rank 4 = .ok (.ifCond .ne 5, 3) := by decide +kernel
theorem dX11_rank_7 : decode cX11_rank 7 = .ok (.iconst (-1), 1) := by decide +kernel
theorem dX11_rank_8 : decode cX11_rank 8 = .ok (.ireturn, 1) := by decide +kernel
theorem dX11_rank_9 : decode cX11_rank 9 = .ok (.aload_n 0, 1) := by decide +kernel
theorem dX11_rank_10 : decode cX11_rank 10 = .ok (.getfield 24, 3) := by decide +kernel
theorem dX11_rank_13 : decode cX11_rank 13 = .ok (.aload_n 0, 1) := by decide +kernel
theorem dX11_rank_14 : decode cX11_rank 14 = .ok (.getfield 12, 3) := by decide +kernel
theorem dX11_rank_17 : decode cX11_rank 17 = .ok (.getfield 70, 3) := by decide +kernel
theorem dX11_rank_20 : decode cX11_rank 20 = .ok (.iload_n 1, 1) := by decide +kernel
theorem dX11_rank_21 : decode cX11_rank 21 = .ok (.invokevirtual 115, 3) := by decide +kernel
theorem dX11_rank_24 : decode cX11_rank 24 = .ok (.aload_n 0, 1) := by decide +kernel
theorem dX11_rank_25 : decode cX11_rank 25 = .ok (.getfield 24, 3) := by decide +kernel
theorem dX11_rank_28 : decode cX11_rank 28 = .ok (.iload_n 1, 1) := by decide +kernel
theorem dX11_rank_29 : decode cX11_rank 29 = .ok (.invokevirtual 125, 3) := by decide +kernel
theorem dX11_rank_32 : decode cX11_rank 32 = .ok (.getfield 135, 3) := by decide +kernel
theorem dX11_rank_35 : decode cX11_rank 35 = .ok (.ireturn, 1) := by decide +kernel
theorem dX11_zeros_0 : decode cX11_zeros 0 = .ok (.aload_n 0, 1) := by decide +kernel
theorem dX11_zeros_1 : decode cX11_zeros 1 = .ok (.iload_n 1, 1) := by decide +kernel
theorem dX11_zeros_2 : decode cX11_zeros 2 = .ok (.iconst 0, 1) := by decide +kernel
theorem dX11_zeros_3 : decode cX11_zeros 3 = .ok (.iload_n 2, 1) := by decide +kernel
theorem dX11_zeros_4 : decode cX11_zeros 4 = .ok (.invokevirtual 138, 3) := by decide +kernel
theorem dX11_zeros_7 : decode cX11_zeros 7 = .ok (.ireturn, 1) := by decide +kernel
theorem dX11_vanishing_0 : decode cX11_vanishing 0 = .ok (.iload_n 1, 1) := by decide +kernel
theorem dX11_vanishing_1 : decode cX11_vanishing 1 = .ok (.invokestatic 107, 3) := by decide +kernel
theorem dX11_vanishing_4 : decode cX11_vanishing 4 = .ok (.ifCond .ne 5, 3) := by decide +kernel
theorem dX11_vanishing_7 : decode cX11_vanishing 7 = .ok (.iconst (-1), 1) := by decide +kernel
theorem dX11_vanishing_8 : decode cX11_vanishing 8 = .ok (.ireturn, 1) := by decide +kernel
theorem dX11_vanishing_9 : decode cX11_vanishing 9 = .ok (.aload_n 0, 1) := by decide +kernel
theorem dX11_vanishing_10 : decode cX11_vanishing 10 = .ok (.getfield 24, 3) := by decide +kernel
theorem dX11_vanishing_13 : decode cX11_vanishing 13 = .ok (.aload_n 0, 1) := by decide +kernel
theorem dX11_vanishing_14 : decode cX11_vanishing 14 = .ok (.getfield 12, 3) := by decide +kernel
theorem dX11_vanishing_17 : decode cX11_vanishing 17 = .ok (.getfield 70, 3) := by decide +kernel
theorem dX11_vanishing_20 : decode cX11_vanishing 20 = .ok (.iload_n 1, 1) := by decide +kernel
theorem dX11_vanishing_21 : decode cX11_vanishing 21 = .ok (.invokevirtual 115, 3) := by decide +kernel
theorem dX11_vanishing_24 : decode cX11_vanishing 24 = .ok (.aload_n 0, 1) := by decide +kernel
theorem dX11_vanishing_25 : decode cX11_vanishing 25 = .ok (.getfield 24, 3) := by decide +kernel
theorem dX11_vanishing_28 : decode cX11_vanishing 28 = .ok (.iload_n 1, 1) := by decide +kernel
theorem dX11_vanishing_29 : decode cX11_vanishing 29 = .ok (.invokevirtual 141, 3) := by decide +kernel
theorem dX11_vanishing_32 : decode cX11_vanishing 32 = .ok (.astore_n 3, 1) := by decide +kernel
theorem dX11_vanishing_33 : decode cX11_vanishing 33 = .ok (.aload_n 3, 1) := by decide +kernel
theorem dX11_vanishing_34 : decode cX11_vanishing 34 = .ok (.getfield 144, 3) := by decide +kernel
theorem dX11_vanishing_37 : decode cX11_vanishing 37 = .ok (.aload_n 3, 1) := by decide +kernel
theorem dX11_vanishing_38 : decode cX11_vanishing 38 = .ok (.getfield 135, 3) := by decide +kernel
theorem dX11_vanishing_41 : decode cX11_vanishing 41 = .ok (.isub, 1) := by decide +kernel
theorem dX11_vanishing_42 : decode cX11_vanishing 42 = .ok (.istore 4, 2) := by decide +kernel
theorem dX11_vanishing_44 : decode cX11_vanishing 44 = .ok (.iload_n 2, 1) := by decide +kernel
theorem dX11_vanishing_45 : decode cX11_vanishing 45 = .ok (.iconst (-1), 1) := by decide +kernel
theorem dX11_vanishing_46 : decode cX11_vanishing 46 = .ok (.if_icmp .ne 6, 3) := by decide +kernel
theorem dX11_vanishing_49 : decode cX11_vanishing 49 = .ok (.iload 4, 2) := by decide +kernel
theorem dX11_vanishing_51 : decode cX11_vanishing 51 = .ok (.ireturn, 1) := by decide +kernel
theorem dX11_vanishing_52 : decode cX11_vanishing 52 = .ok (.iload 4, 2) := by decide +kernel
theorem dX11_vanishing_54 : decode cX11_vanishing 54 = .ok (.iconst 1, 1) := by decide +kernel
theorem dX11_vanishing_55 : decode cX11_vanishing 55 = .ok (.if_icmp .ne 11, 3) := by decide +kernel
theorem dX11_vanishing_58 : decode cX11_vanishing 58 = .ok (.iload_n 1, 1) := by decide +kernel
theorem dX11_vanishing_59 : decode cX11_vanishing 59 = .ok (.iload_n 2, 1) := by decide +kernel
theorem dX11_vanishing_60 : decode cX11_vanishing 60 = .ok (.invokestatic 95, 3) := by decide +kernel
theorem dX11_vanishing_63 : decode cX11_vanishing 63 = .ok (.ifCond .ne 6, 3) := by decide +kernel
theorem dX11_vanishing_66 : decode cX11_vanishing 66 = .ok (.bipush (-5), 2) := by decide +kernel
theorem dX11_vanishing_68 : decode cX11_vanishing 68 = .ok (.ireturn, 1) := by decide +kernel
theorem dX11_vanishing_69 : decode cX11_vanishing 69 = .ok (.aload_n 3, 1) := by decide +kernel
theorem dX11_vanishing_70 : decode cX11_vanishing 70 = .ok (.iload_n 2, 1) := by decide +kernel
theorem dX11_vanishing_71 : decode cX11_vanishing 71 = .ok (.invokevirtual 147, 3) := by decide +kernel
theorem dX11_vanishing_74 : decode cX11_vanishing 74 = .ok (.ireturn, 1) := by decide +kernel
theorem dX11_were_0 : decode cX11_were 0 = .ok (.iload_n 1, 1) := by decide +kernel
theorem dX11_were_1 : decode cX11_were 1 = .ok (.invokestatic 107, 3) := by decide +kernel
theorem dX11_were_4 : decode cX11_were 4 = .ok (.ifCond .ne 5, 3) := by decide +kernel
theorem dX11_were_7 : decode cX11_were 7 = .ok (.iconst (-1), 1) := by decide +kernel
theorem dX11_were_8 : decode cX11_were 8 = .ok (.ireturn, 1) := by decide +kernel
theorem dX11_were_9 : decode cX11_were 9 = .ok (.iload_n 3, 1) := by decide +kernel
theorem dX11_were_10 : decode cX11_were 10 = .ok (.iconst (-1), 1) := by decide +kernel
theorem dX11_were_11 : decode cX11_were 11 = .ok (.if_icmp .ge 6, 3) := by decide +kernel
theorem dX11_were_14 : decode cX11_were 14 = .ok (.bipush (-5), 2) := by decide +kernel
theorem dX11_were_16 : decode cX11_were 16 = .ok (.ireturn, 1) := by decide +kernel
theorem dX11_were_17 : decode cX11_were 17 = .ok (.aload_n 0, 1) := by decide +kernel
theorem dX11_were_18 : decode cX11_were 18 = .ok (.getfield 31, 3) := by decide +kernel
theorem dX11_were_21 : decode cX11_were 21 = .ok (.aload_n 0, 1) := by decide +kernel
theorem dX11_were_22 : decode cX11_were 22 = .ok (.getfield 24, 3) := by decide +kernel
theorem dX11_were_25 : decode cX11_were 25 = .ok (.aload_n 0, 1) := by decide +kernel
theorem dX11_were_26 : decode cX11_were 26 = .ok (.getfield 12, 3) := by decide +kernel
theorem dX11_were_29 : decode cX11_were 29 = .ok (.getfield 70, 3) := by decide +kernel
theorem dX11_were_32 : decode cX11_were 32 = .ok (.iload_n 1, 1) := by decide +kernel
theorem dX11_were_33 : decode cX11_were 33 = .ok (.invokevirtual 150, 3) := by decide +kernel
theorem dX11_were_36 : decode cX11_were 36 = .ok (.iload_n 3, 1) := by decide +kernel
theorem dX11_were_37 : decode cX11_were 37 = .ok (.iconst (-1), 1) := by decide +kernel
theorem dX11_were_38 : decode cX11_were 38 = .ok (.if_icmp .ne 15, 3) := by decide +kernel
theorem dX11_were_41 : decode cX11_were 41 = .ok (.aload_n 0, 1) := by decide +kernel
theorem dX11_were_42 : decode cX11_were 42 = .ok (.getfield 31, 3) := by decide +kernel
theorem dX11_were_45 : decode cX11_were 45 = .ok (.iload_n 1, 1) := by decide +kernel
theorem dX11_were_46 : decode cX11_were 46 = .ok (.iload_n 2, 1) := by decide +kernel
theorem dX11_were_47 : decode cX11_were 47 = .ok (.invokevirtual 154, 3) := by decide +kernel
theorem dX11_were_50 : decode cX11_were 50 = .ok (.goto 13, 3) := by decide +kernel
theorem dX11_were_53 : decode cX11_were 53 = .ok (.aload_n 0, 1) := by decide +kernel
theorem dX11_were_54 : decode cX11_were 54 = .ok (.getfield 31, 3) := by decide +kernel
theorem dX11_were_57 : decode cX11_were 57 = .ok (.iload_n 1, 1) := by decide +kernel
theorem dX11_were_58 : decode cX11_were 58 = .ok (.iload_n 2, 1) := by decide +kernel
theorem dX11_were_59 : decode cX11_were 59 = .ok (.iload_n 3, 1) := by decide +kernel
theorem dX11_were_60 : decode cX11_were 60 = .ok (.invokevirtual 157, 3) := by decide +kernel
theorem dX11_were_63 : decode cX11_were 63 = .ok (.ireturn, 1) := by decide +kernel
theorem dX11_feed_0 : decode cX11_feed 0 = .ok (.iload_n 1, 1) := by decide +kernel
theorem dX11_feed_1 : decode cX11_feed 1 = .ok (.iconst 1, 1) := by decide +kernel
theorem dX11_feed_2 : decode cX11_feed 2 = .ok (.if_icmp .lt 9, 3) := by decide +kernel
theorem dX11_feed_5 : decode cX11_feed 5 = .ok (.iload_n 1, 1) := by decide +kernel
theorem dX11_feed_6 : decode cX11_feed 6 = .ok (.bipush 127, 2) := by decide +kernel
theorem dX11_feed_8 : decode cX11_feed 8 = .ok (.if_icmp .le 6, 3) := by decide +kernel
theorem dX11_feed_11 : decode cX11_feed 11 = .ok (.bipush (-2), 2) := by decide +kernel
theorem dX11_feed_13 : decode cX11_feed 13 = .ok (.ireturn, 1) := by decide +kernel
theorem dX11_feed_14 : decode cX11_feed 14 = .ok (.aload_n 0, 1) := by decide +kernel
theorem dX11_feed_15 : decode cX11_feed 15 = .ok (.getfield 40, 3) := by decide +kernel
theorem dX11_feed_18 : decode cX11_feed 18 = .ok (.iload_n 1, 1) := by decide +kernel
theorem dX11_feed_19 : decode cX11_feed 19 = .ok (.invokevirtual 160, 3) := by decide +kernel
theorem dX11_feed_22 : decode cX11_feed 22 = .ok (.ifCond .eq 13, 3) := by decide +kernel
theorem dX11_feed_25 : decode cX11_feed 25 = .ok (.aload_n 0, 1) := by decide +kernel
theorem dX11_feed_26 : decode cX11_feed 26 = .ok (.getfield 40, 3) := by decide +kernel
theorem dX11_feed_29 : decode cX11_feed 29 = .ok (.getfield 163, 3) := by decide +kernel
theorem dX11_feed_32 : decode cX11_feed 32 = .ok (.goto 5, 3) := by decide +kernel
theorem dX11_feed_35 : decode cX11_feed 35 = .ok (.bipush (-4), 2) := by decide +kernel
theorem dX11_feed_37 : decode cX11_feed 37 = .ok (.ireturn, 1) := by decide +kernel
theorem dX11_read_0 : decode cX11_read 0 = .ok (.iload_n 1, 1) := by decide +kernel
theorem dX11_read_1 : decode cX11_read 1 = .ok (.invokestatic 166, 3) := by decide +kernel
theorem dX11_read_4 : decode cX11_read 4 = .ok (.ifCond .ne 5, 3) := by decide +kernel
theorem dX11_read_7 : decode cX11_read 7 = .ok (.iconst (-1), 1) := by decide +kernel
theorem dX11_read_8 : decode cX11_read 8 = .ok (.ireturn, 1) := by decide +kernel
theorem dX11_read_9 : decode cX11_read 9 = .ok (.aload_n 0, 1) := by decide +kernel
theorem dX11_read_10 : decode cX11_read 10 = .ok (.getfield 24, 3) := by decide +kernel
theorem dX11_read_13 : decode cX11_read 13 = .ok (.aload_n 0, 1) := by decide +kernel
theorem dX11_read_14 : decode cX11_read 14 = .ok (.getfield 12, 3) := by decide +kernel
theorem dX11_read_17 : decode cX11_read 17 = .ok (.getfield 70, 3) := by decide +kernel
theorem dX11_read_20 : decode cX11_read 20 = .ok (.iconst 5, 1) := by decide +kernel
theorem dX11_read_21 : decode cX11_read 21 = .ok (.invokevirtual 115, 3) := by decide +kernel
theorem dX11_read_24 : decode cX11_read 24 = .ok (.aload_n 0, 1) := by decide +kernel
theorem dX11_read_25 : decode cX11_read 25 = .ok (.getfield 40, 3) := by decide +kernel
theorem dX11_read_28 : decode cX11_read 28 = .ok (.invokevirtual 169, 3) := by decide +kernel
theorem dX11_read_31 : decode cX11_read 31 = .ok (.istore_n 2, 1) := by decide +kernel
theorem dX11_read_32 : decode cX11_read 32 = .ok (.iload_n 2, 1) := by decide +kernel
theorem dX11_read_33 : decode cX11_read 33 = .ok (.ifCond .ge 10, 3) := by decide +kernel
theorem dX11_read_36 : decode cX11_read 36 = .ok (.aload_n 0, 1) := by decide +kernel
theorem dX11_read_37 : decode cX11_read 37 = .ok (.invokevirtual 173, 3) := by decide +kernel
theorem dX11_read_40 : decode cX11_read 40 = .ok (.goto 7, 3) := by decide +kernel
theorem dX11_read_43 : decode cX11_read 43 = .ok (.bipush (-100), 2) := by decide +kernel
theorem dX11_read_45 : decode cX11_read 45 = .ok (.iload_n 2, 1) := by decide +kernel
theorem dX11_read_46 : decode cX11_read 46 = .ok (.isub, 1) := by decide +kernel
theorem dX11_read_47 : decode cX11_read 47 = .ok (.istore_n 3, 1) := by decide +kernel
theorem dX11_read_48 : decode cX11_read 48 = .ok (.iload_n 3, 1) := by decide +kernel
theorem dX11_read_49 : decode cX11_read 49 = .ok (.ifCond .lt 19, 3) := by decide +kernel
theorem dX11_read_52 : decode cX11_read 52 = .ok (.aload_n 0, 1) := by decide +kernel
theorem dX11_read_53 : decode cX11_read 53 = .ok (.getfield 12, 3) := by decide +kernel
theorem dX11_read_56 : decode cX11_read 56 = .ok (.getfield 176, 3) := by decide +kernel
theorem dX11_read_59 : decode cX11_read 59 = .ok (.iload_n 1, 1) := by decide +kernel
theorem dX11_read_60 : decode cX11_read 60 = .ok (.aaload, 1) := by decide +kernel
theorem dX11_read_61 : decode cX11_read 61 = .ok (.aload_n 0, 1) := by decide +kernel
theorem dX11_read_62 : decode cX11_read 62 = .ok (.getfield 54, 3) := by decide +kernel
theorem dX11_read_65 : decode cX11_read 65 = .ok (.invokevirtual 180, 3) := by decide +kernel
theorem dX11_read_68 : decode cX11_read 68 = .ok (.aload_n 0, 1) := by decide +kernel
theorem dX11_read_69 : decode cX11_read 69 = .ok (.getfield 40, 3) := by decide +kernel
theorem dX11_read_72 : decode cX11_read 72 = .ok (.invokevirtual 184, 3) := by decide +kernel
theorem dX11_read_75 : decode cX11_read 75 = .ok (.iload_n 3, 1) := by decide +kernel
theorem dX11_read_76 : decode cX11_read 76 = .ok (.ireturn, 1) := by decide +kernel
theorem dX11_become_0 : decode cX11_become 0 = .ok (.iload_n 1, 1) := by decide +kernel
theorem dX11_become_1 : decode cX11_become 1 = .ok (.invokestatic 166, 3) := by decide +kernel
theorem dX11_become_4 : decode cX11_become 4 = .ok (.ifCond .eq 11, 3) := by decide +kernel
theorem dX11_become_7 : decode cX11_become 7 = .ok (.iload_n 2, 1) := by decide +kernel
theorem dX11_become_8 : decode cX11_become 8 = .ok (.iload_n 3, 1) := by decide +kernel
theorem dX11_become_9 : decode cX11_become 9 = .ok (.invokestatic 95, 3) := by decide +kernel
theorem dX11_become_12 : decode cX11_become 12 = .ok (.ifCond .ne 5, 3) := by decide +kernel
theorem dX11_become_15 : decode cX11_become 15 = .ok (.iconst (-1), 1) := by decide +kernel
theorem dX11_become_16 : decode cX11_become 16 = .ok (.ireturn, 1) := by decide +kernel
theorem dX11_become_17 : decode cX11_become 17 = .ok (.aload_n 0, 1) := by decide +kernel
theorem dX11_become_18 : decode cX11_become 18 = .ok (.getfield 12, 3) := by decide +kernel
theorem dX11_become_21 : decode cX11_become 21 = .ok (.getfield 176, 3) := by decide +kernel
theorem dX11_become_24 : decode cX11_become 24 = .ok (.iload_n 1, 1) := by decide +kernel
theorem dX11_become_25 : decode cX11_become 25 = .ok (.aaload, 1) := by decide +kernel
theorem dX11_become_26 : decode cX11_become 26 = .ok (.iload_n 2, 1) := by decide +kernel
theorem dX11_become_27 : decode cX11_become 27 = .ok (.iload_n 3, 1) := by decide +kernel
theorem dX11_become_28 : decode cX11_become 28 = .ok (.invokevirtual 187, 3) := by decide +kernel
theorem dX11_become_31 : decode cX11_become 31 = .ok (.iconst 1, 1) := by decide +kernel
theorem dX11_become_32 : decode cX11_become 32 = .ok (.ireturn, 1) := by decide +kernel
theorem dX11_level_0 : decode cX11_level 0 = .ok (.iload_n 1, 1) := by decide +kernel
theorem dX11_level_1 : decode cX11_level 1 = .ok (.invokestatic 166, 3) := by decide +kernel
theorem dX11_level_4 : decode cX11_level 4 = .ok (.ifCond .eq 18, 3) := by decide +kernel
theorem dX11_level_7 : decode cX11_level 7 = .ok (.aload_n 0, 1) := by decide +kernel
theorem dX11_level_8 : decode cX11_level 8 = .ok (.getfield 12, 3) := by decide +kernel
theorem dX11_level_11 : decode cX11_level 11 = .ok (.getfield 176, 3) := by decide +kernel
theorem dX11_level_14 : decode cX11_level 14 = .ok (.iload_n 1, 1) := by decide +kernel
theorem dX11_level_15 : decode cX11_level 15 = .ok (.aaload, 1) := by decide +kernel
theorem dX11_level_16 : decode cX11_level 16 = .ok (.getfield 191, 3) := by decide +kernel
theorem dX11_level_19 : decode cX11_level 19 = .ok (.goto 4, 3) := by decide +kernel
theorem dX11_level_22 : decode cX11_level 22 = .ok (.iconst (-1), 1) := by decide +kernel
theorem dX11_level_23 : decode cX11_level 23 = .ok (.ireturn, 1) := by decide +kernel
theorem dX11_coordinate_0 : decode cX11_coordinate 0 = .ok (.aload_n 0, 1) := by decide +kernel
theorem dX11_coordinate_1 : decode cX11_coordinate 1 = .ok (.iload_n 1, 1) := by decide +kernel
theorem dX11_coordinate_2 : decode cX11_coordinate 2 = .ok (.iload_n 2, 1) := by decide +kernel
theorem dX11_coordinate_3 : decode cX11_coordinate 3 = .ok (.invokevirtual 194, 3) := by decide +kernel
theorem dX11_coordinate_6 : decode cX11_coordinate 6 = .ok (.ifCond .eq 20, 3) := by decide +kernel
theorem dX11_coordinate_9 : decode cX11_coordinate 9 = .ok (.aload_n 0, 1) := by decide +kernel
theorem dX11_coordinate_10 : decode cX11_coordinate 10 = .ok (.getfield 12, 3) := by decide +kernel
theorem dX11_coordinate_13 : decode cX11_coordinate 13 = .ok (.getfield 176, 3) := by decide +kernel
theorem dX11_coordinate_16 : decode cX11_coordinate 16 = .ok (.iload_n 1, 1) := by decide +kernel
theorem dX11_coordinate_17 : decode cX11_coordinate 17 = .ok (.aaload, 1) := by decide +kernel
theorem dX11_coordinate_18 : decode cX11_coordinate 18 = .ok (.getfield 197, 3) := by decide +kernel
theorem dX11_coordinate_21 : decode cX11_coordinate 21 = .ok (.iload_n 2, 1) := by decide +kernel
theorem dX11_coordinate_22 : decode cX11_coordinate 22 = .ok (.iaload, 1) := by decide +kernel
theorem dX11_coordinate_23 : decode cX11_coordinate 23 = .ok (.goto 4, 3) := by decide +kernel
theorem dX11_coordinate_26 : decode cX11_coordinate 26 = .ok (.iconst (-1), 1) := by decide +kernel
theorem dX11_coordinate_27 : decode cX11_coordinate 27 = .ok (.ireturn, 1) := by decide +kernel
theorem dX11_put_0 : decode cX11_put 0 = .ok (.aload_n 0, 1) := by decide +kernel
theorem dX11_put_1 : decode cX11_put 1 = .ok (.iload_n 1, 1) := by decide +kernel
theorem dX11_put_2 : decode cX11_put 2 = .ok (.iload_n 2, 1) := by decide +kernel
theorem dX11_put_3 : decode cX11_put 3 = .ok (.invokevirtual 194, 3) := by decide +kernel
theorem dX11_put_6 : decode cX11_put 6 = .ok (.ifCond .ne 5, 3) := by decide +kernel
theorem dX11_put_9 : decode cX11_put 9 = .ok (.iconst (-1), 1) := by decide +kernel
theorem dX11_put_10 : decode cX11_put 10 = .ok (.ireturn, 1) := by decide +kernel
theorem dX11_put_11 : decode cX11_put 11 = .ok (.iload_n 3, 1) := by decide +kernel
theorem dX11_put_12 : decode cX11_put 12 = .ok (.bipush 100, 2) := by decide +kernel
theorem dX11_put_14 : decode cX11_put 14 = .ok (.invokestatic 66, 3) := by decide +kernel
theorem dX11_put_17 : decode cX11_put 17 = .ok (.ifCond .ne 6, 3) := by decide +kernel
theorem dX11_put_20 : decode cX11_put 20 = .ok (.bipush (-2), 2) := by decide +kernel
theorem dX11_put_22 : decode cX11_put 22 = .ok (.ireturn, 1) := by decide +kernel
theorem dX11_put_23 : decode cX11_put 23 = .ok (.aload_n 0, 1) := by decide +kernel
theorem dX11_put_24 : decode cX11_put 24 = .ok (.getfield 12, 3) := by decide +kernel
theorem dX11_put_27 : decode cX11_put 27 = .ok (.getfield 176, 3) := by decide +kernel
theorem dX11_put_30 : decode cX11_put 30 = .ok (.iload_n 1, 1) := by decide +kernel
theorem dX11_put_31 : decode cX11_put 31 = .ok (.aaload, 1) := by decide +kernel
theorem dX11_put_32 : decode cX11_put 32 = .ok (.getfield 197, 3) := by decide +kernel
theorem dX11_put_35 : decode cX11_put 35 = .ok (.astore 4, 2) := by decide +kernel
theorem dX11_put_37 : decode cX11_put 37 = .ok (.aload 4, 2) := by decide +kernel
theorem dX11_put_39 : decode cX11_put 39 = .ok (.iload_n 2, 1) := by decide +kernel
theorem dX11_put_40 : decode cX11_put 40 = .ok (.iaload, 1) := by decide +kernel
theorem dX11_put_41 : decode cX11_put 41 = .ok (.istore 5, 2) := by decide +kernel
theorem dX11_put_43 : decode cX11_put 43 = .ok (.aload 4, 2) := by decide +kernel
theorem dX11_put_45 : decode cX11_put 45 = .ok (.iload_n 2, 1) := by decide +kernel
theorem dX11_put_46 : decode cX11_put 46 = .ok (.iload_n 3, 1) := by decide +kernel
theorem dX11_put_47 : decode cX11_put 47 = .ok (.iastore, 1) := by decide +kernel
theorem dX11_put_48 : decode cX11_put 48 = .ok (.iload 5, 2) := by decide +kernel
theorem dX11_put_50 : decode cX11_put 50 = .ok (.ireturn, 1) := by decide +kernel
theorem dX11_raise_0 : decode cX11_raise 0 = .ok (.iload_n 1, 1) := by decide +kernel
theorem dX11_raise_1 : decode cX11_raise 1 = .ok (.invokestatic 166, 3) := by decide +kernel
theorem dX11_raise_4 : decode cX11_raise 4 = .ok (.ifCond .eq 10, 3) := by decide +kernel
theorem dX11_raise_7 : decode cX11_raise 7 = .ok (.iload_n 2, 1) := by decide +kernel
theorem dX11_raise_8 : decode cX11_raise 8 = .ok (.invokestatic 73, 3) := by decide +kernel
theorem dX11_raise_11 : decode cX11_raise 11 = .ok (.ifCond .ne 5, 3) := by decide +kernel
theorem dX11_raise_14 : decode cX11_raise 14 = .ok (.iconst (-1), 1) := by decide +kernel
theorem dX11_raise_15 : decode cX11_raise 15 = .ok (.ireturn, 1) := by decide +kernel
theorem dX11_raise_16 : decode cX11_raise 16 = .ok (.aload_n 0, 1) := by decide +kernel
theorem dX11_raise_17 : decode cX11_raise 17 = .ok (.getfield 12, 3) := by decide +kernel
theorem dX11_raise_20 : decode cX11_raise 20 = .ok (.getfield 176, 3) := by decide +kernel
theorem dX11_raise_23 : decode cX11_raise 23 = .ok (.iload_n 1, 1) := by decide +kernel
theorem dX11_raise_24 : decode cX11_raise 24 = .ok (.aaload, 1) := by decide +kernel
theorem dX11_raise_25 : decode cX11_raise 25 = .ok (.astore_n 3, 1) := by decide +kernel
theorem dX11_raise_26 : decode cX11_raise 26 = .ok (.aload_n 3, 1) := by decide +kernel
theorem dX11_raise_27 : decode cX11_raise 27 = .ok (.getfield 191, 3) := by decide +kernel
theorem dX11_raise_30 : decode cX11_raise 30 = .ok (.iload_n 2, 1) := by decide +kernel
theorem dX11_raise_31 : decode cX11_raise 31 = .ok (.isub, 1) := by decide +kernel
theorem dX11_raise_32 : decode cX11_raise 32 = .ok (.istore 4, 2) := by decide +kernel
theorem dX11_raise_34 : decode cX11_raise 34 = .ok (.iload 4, 2) := by decide +kernel
theorem dX11_raise_36 : decode cX11_raise 36 = .ok (.invokestatic 107, 3) := by decide +kernel
theorem dX11_raise_39 : decode cX11_raise 39 = .ok (.ifCond .ne 6, 3) := by decide +kernel
theorem dX11_raise_42 : decode cX11_raise 42 = .ok (.bipush (-3), 2) := by decide +kernel
theorem dX11_raise_44 : decode cX11_raise 44 = .ok (.ireturn, 1) := by decide +kernel
theorem dX11_raise_45 : decode cX11_raise 45 = .ok (.aload_n 0, 1) := by decide +kernel
theorem dX11_raise_46 : decode cX11_raise 46 = .ok (.getfield 24, 3) := by decide +kernel
theorem dX11_raise_49 : decode cX11_raise 49 = .ok (.aload_n 0, 1) := by decide +kernel
theorem dX11_raise_50 : decode cX11_raise 50 = .ok (.getfield 12, 3) := by decide +kernel
theorem dX11_raise_53 : decode cX11_raise 53 = .ok (.getfield 70, 3) := by decide +kernel
theorem dX11_raise_56 : decode cX11_raise 56 = .ok (.aload_n 3, 1) := by decide +kernel
theorem dX11_raise_57 : decode cX11_raise 57 = .ok (.getfield 191, 3) := by decide +kernel
theorem dX11_raise_60 : decode cX11_raise 60 = .ok (.iload 4, 2) := by decide +kernel
theorem dX11_raise_62 : decode cX11_raise 62 = .ok (.invokestatic 110, 3) := by decide +kernel
theorem dX11_raise_65 : decode cX11_raise 65 = .ok (.invokevirtual 115, 3) := by decide +kernel
theorem dX11_raise_68 : decode cX11_raise 68 = .ok (.aload_n 0, 1) := by decide +kernel
theorem dX11_raise_69 : decode cX11_raise 69 = .ok (.getfield 24, 3) := by decide +kernel
theorem dX11_raise_72 : decode cX11_raise 72 = .ok (.aload_n 3, 1) := by decide +kernel
theorem dX11_raise_73 : decode cX11_raise 73 = .ok (.iload_n 2, 1) := by decide +kernel
theorem dX11_raise_74 : decode cX11_raise 74 = .ok (.invokevirtual 200, 3) := by decide +kernel
theorem dX11_raise_77 : decode cX11_raise 77 = .ok (.aload_n 3, 1) := by decide +kernel
theorem dX11_raise_78 : decode cX11_raise 78 = .ok (.getfield 191, 3) := by decide +kernel
theorem dX11_raise_81 : decode cX11_raise 81 = .ok (.ireturn, 1) := by decide +kernel
theorem dX11_add_0 : decode cX11_add 0 = .ok (.iload_n 1, 1) := by decide +kernel
theorem dX11_add_1 : decode cX11_add 1 = .ok (.invokestatic 166, 3) := by decide +kernel
theorem dX11_add_4 : decode cX11_add 4 = .ok (.ifCond .eq 10, 3) := by decide +kernel
theorem dX11_add_7 : decode cX11_add 7 = .ok (.iload_n 2, 1) := by decide +kernel
theorem dX11_add_8 : decode cX11_add 8 = .ok (.invokestatic 166, 3) := by decide +kernel
theorem dX11_add_11 : decode cX11_add 11 = .ok (.ifCond .ne 5, 3) := by decide +kernel
theorem dX11_add_14 : decode cX11_add 14 = .ok (.iconst (-1), 1) := by decide +kernel
theorem dX11_add_15 : decode cX11_add 15 = .ok (.ireturn, 1) := by decide +kernel
theorem dX11_add_16 : decode cX11_add 16 = .ok (.iload_n 3, 1) := by decide +kernel
theorem dX11_add_17 : decode cX11_add 17 = .ok (.bipush 100, 2) := by decide +kernel
theorem dX11_add_19 : decode cX11_add 19 = .ok (.invokestatic 66, 3) := by decide +kernel
theorem dX11_add_22 : decode cX11_add 22 = .ok (.ifCond .ne 6, 3) := by decide +kernel
theorem dX11_add_25 : decode cX11_add 25 = .ok (.bipush (-2), 2) := by decide +kernel
theorem dX11_add_27 : decode cX11_add 27 = .ok (.ireturn, 1) := by decide +kernel
theorem dX11_add_28 : decode cX11_add 28 = .ok (.aload_n 0, 1) := by decide +kernel
theorem dX11_add_29 : decode cX11_add 29 = .ok (.getfield 12, 3) := by decide +kernel
theorem dX11_add_32 : decode cX11_add 32 = .ok (.getfield 176, 3) := by decide +kernel
theorem dX11_add_35 : decode cX11_add 35 = .ok (.iload_n 1, 1) := by decide +kernel
theorem dX11_add_36 : decode cX11_add 36 = .ok (.aaload, 1) := by decide +kernel
theorem dX11_add_37 : decode cX11_add 37 = .ok (.astore 4, 2) := by decide +kernel
theorem dX11_add_39 : decode cX11_add 39 = .ok (.aload 4, 2) := by decide +kernel
theorem dX11_add_41 : decode cX11_add 41 = .ok (.getfield 191, 3) := by decide +kernel
theorem dX11_add_44 : decode cX11_add 44 = .ok (.aload_n 0, 1) := by decide +kernel
theorem dX11_add_45 : decode cX11_add 45 = .ok (.getfield 12, 3) := by decide +kernel
theorem dX11_add_48 : decode cX11_add 48 = .ok (.getfield 176, 3) := by decide +kernel
