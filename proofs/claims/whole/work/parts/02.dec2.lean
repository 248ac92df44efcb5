theorem dX12_vanishing_175 : decode cX12_vanishing 175 = .ok (.getfield 55, 3) := by decide +kernel
theorem dX12_vanishing_178 : decode cX12_vanishing 178 = .ok (.iload_n 2, 1) := by decide +kernel
theorem dX12_vanishing_179 : decode cX12_vanishing 179 = .ok (.iaload, 1) := by decide +kernel
theorem dX12_vanishing_180 : decode cX12_vanishing 180 = .ok (.aload_n 0, 1) := by decide +kernel
theorem dX12_vanishing_181 : decode cX12_vanishing 181 = .ok (.getfield 55, 3) := by decide +kernel
theorem dX12_vanishing_184 : decode cX12_vanishing 184 = .ok (.iload 5, 2) := by decide +kernel
theorem dX12_vanishing_186 : decode cX12_vanishing 186 = .ok (.iaload, 1) := by decide +kernel
theorem dX12_vanishing_187 : decode cX12_vanishing 187 = .ok (.invokestatic 163, 3) := by decide +kernel
theorem dX12_vanishing_190 : decode cX12_vanishing 190 = .ok (.imul, 1) := by decide +kernel
theorem dX12_vanishing_191 : decode cX12_vanishing 191 = .ok (.bipush 101, 2) := by decide +kernel
theorem dX12_vanishing_193 : decode cX12_vanishing 193 = .ok (.irem, 1) := by decide +kernel
theorem dX12_vanishing_194 : decode cX12_vanishing 194 = .ok (.ireturn, 1) := by decide +kernel
theorem dX12_feed_0 : decode cX12_feed 0 = .ok (.iload_n 1, 1) := by decide +kernel
theorem dX12_feed_1 : decode cX12_feed 1 = .ok (.iconst 1, 1) := by decide +kernel
theorem dX12_feed_2 : decode cX12_feed 2 = .ok (.bipush 127, 2) := by decide +kernel
theorem dX12_feed_4 : decode cX12_feed 4 = .ok (.invokestatic 92, 3) := by decide +kernel
theorem dX12_feed_7 : decode cX12_feed 7 = .ok (.ifCond .ne 6, 3) := by decide +kernel
theorem dX12_feed_10 : decode cX12_feed 10 = .ok (.bipush (-2), 2) := by decide +kernel
theorem dX12_feed_12 : decode cX12_feed 12 = .ok (.ireturn, 1) := by decide +kernel
theorem dX12_feed_13 : decode cX12_feed 13 = .ok (.aload_n 0, 1) := by decide +kernel
theorem dX12_feed_14 : decode cX12_feed 14 = .ok (.getfield 182, 3) := by decide +kernel
theorem dX12_feed_17 : decode cX12_feed 17 = .ok (.bipush 60, 2) := by decide +kernel
theorem dX12_feed_19 : decode cX12_feed 19 = .ok (.if_icmp .ne 6, 3) := by decide +kernel
theorem dX12_feed_22 : decode cX12_feed 22 = .ok (.bipush (-4), 2) := by decide +kernel
theorem dX12_feed_24 : decode cX12_feed 24 = .ok (.ireturn, 1) := by decide +kernel
theorem dX12_feed_25 : decode cX12_feed 25 = .ok (.aload_n 0, 1) := by decide +kernel
theorem dX12_feed_26 : decode cX12_feed 26 = .ok (.getfield 33, 3) := by decide +kernel
theorem dX12_feed_29 : decode cX12_feed 29 = .ok (.aload_n 0, 1) := by decide +kernel
theorem dX12_feed_30 : decode cX12_feed 30 = .ok (.getfield 182, 3) := by decide +kernel
theorem dX12_feed_33 : decode cX12_feed 33 = .ok (.iload_n 1, 1) := by decide +kernel
theorem dX12_feed_34 : decode cX12_feed 34 = .ok (.iastore, 1) := by decide +kernel
theorem dX12_feed_35 : decode cX12_feed 35 = .ok (.aload_n 0, 1) := by decide +kernel
theorem dX12_feed_36 : decode cX12_feed 36 = .ok (.dup, 1) := by decide +kernel
theorem dX12_feed_37 : decode cX12_feed 37 = .ok (.getfield 182, 3) := by decide +kernel
theorem dX12_feed_40 : decode cX12_feed 40 = .ok (.iconst 1, 1) := by decide +kernel
theorem dX12_feed_41 : decode cX12_feed 41 = .ok (.iadd, 1) := by decide +kernel
theorem dX12_feed_42 : decode cX12_feed 42 = .ok (.putfield 182, 3) := by decide +kernel
theorem dX12_feed_45 : decode cX12_feed 45 = .ok (.aload_n 0, 1) := by decide +kernel
theorem dX12_feed_46 : decode cX12_feed 46 = .ok (.getfield 182, 3) := by decide +kernel
theorem dX12_feed_49 : decode cX12_feed 49 = .ok (.ireturn, 1) := by decide +kernel
theorem dX12_takes_0 : decode cX12_takes 0 = .ok (.aload_n 0, 1) := by decide +kernel
theorem dX12_takes_1 : decode cX12_takes 1 = .ok (.getfield 185, 3) := by decide +kernel
theorem dX12_takes_4 : decode cX12_takes 4 = .ok (.aload_n 0, 1) := by decide +kernel
theorem dX12_takes_5 : decode cX12_takes 5 = .ok (.getfield 182, 3) := by decide +kernel
theorem dX12_takes_8 : decode cX12_takes 8 = .ok (.if_icmp .eq 16, 3) := by decide +kernel
theorem dX12_takes_11 : decode cX12_takes 11 = .ok (.aload_n 0, 1) := by decide +kernel
theorem dX12_takes_12 : decode cX12_takes 12 = .ok (.getfield 33, 3) := by decide +kernel
theorem dX12_takes_15 : decode cX12_takes 15 = .ok (.aload_n 0, 1) := by decide +kernel
theorem dX12_takes_16 : decode cX12_takes 16 = .ok (.getfield 185, 3) := by decide +kernel
theorem dX12_takes_19 : decode cX12_takes 19 = .ok (.iaload, 1) := by decide +kernel
theorem dX12_takes_20 : decode cX12_takes 20 = .ok (.iload_n 1, 1) := by decide +kernel
theorem dX12_takes_21 : decode cX12_takes 21 = .ok (.if_icmp .eq 5, 3) := by decide +kernel
theorem dX12_takes_24 : decode cX12_takes 24 = .ok (.iconst 0, 1) := by decide +kernel
theorem dX12_takes_25 : decode cX12_takes 25 = .ok (.ireturn, 1) := by decide +kernel
theorem dX12_takes_26 : decode cX12_takes 26 = .ok (.aload_n 0, 1) := by decide +kernel
theorem dX12_takes_27 : decode cX12_takes 27 = .ok (.dup, 1) := by decide +kernel
theorem dX12_takes_28 : decode cX12_takes 28 = .ok (.getfield 185, 3) := by decide +kernel
theorem dX12_takes_31 : decode cX12_takes 31 = .ok (.iconst 1, 1) := by decide +kernel
theorem dX12_takes_32 : decode cX12_takes 32 = .ok (.iadd, 1) := by decide +kernel
theorem dX12_takes_33 : decode cX12_takes 33 = .ok (.putfield 185, 3) := by decide +kernel
theorem dX12_takes_36 : decode cX12_takes 36 = .ok (.iconst 1, 1) := by decide +kernel
theorem dX12_takes_37 : decode cX12_takes 37 = .ok (.ireturn, 1) := by decide +kernel
theorem dX12_isHere_0 : decode cX12_isHere 0 = .ok (.aload_n 0, 1) := by decide +kernel
theorem dX12_isHere_1 : decode cX12_isHere 1 = .ok (.getfield 185, 3) := by decide +kernel
theorem dX12_isHere_4 : decode cX12_isHere 4 = .ok (.aload_n 0, 1) := by decide +kernel
theorem dX12_isHere_5 : decode cX12_isHere 5 = .ok (.getfield 182, 3) := by decide +kernel
theorem dX12_isHere_8 : decode cX12_isHere 8 = .ok (.if_icmp .ge 24, 3) := by decide +kernel
theorem dX12_isHere_11 : decode cX12_isHere 11 = .ok (.aload_n 0, 1) := by decide +kernel
theorem dX12_isHere_12 : decode cX12_isHere 12 = .ok (.getfield 33, 3) := by decide +kernel
theorem dX12_isHere_15 : decode cX12_isHere 15 = .ok (.aload_n 0, 1) := by decide +kernel
theorem dX12_isHere_16 : decode cX12_isHere 16 = .ok (.getfield 185, 3) := by decide +kernel
theorem dX12_isHere_19 : decode cX12_isHere 19 = .ok (.iaload, 1) := by decide +kernel
theorem dX12_isHere_20 : decode cX12_isHere 20 = .ok (.iload_n 1, 1) := by decide +kernel
theorem dX12_isHere_21 : decode cX12_isHere 21 = .ok (.iload_n 2, 1) := by decide +kernel
theorem dX12_isHere_22 : decode cX12_isHere 22 = .ok (.invokestatic 92, 3) := by decide +kernel
theorem dX12_isHere_25 : decode cX12_isHere 25 = .ok (.ifCond .eq 7, 3) := by decide +kernel
theorem dX12_isHere_28 : decode cX12_isHere 28 = .ok (.iconst 1, 1) := by decide +kernel
theorem dX12_isHere_29 : decode cX12_isHere 29 = .ok (.goto 4, 3) := by decide +kernel
theorem dX12_isHere_32 : decode cX12_isHere 32 = .ok (.iconst 0, 1) := by decide +kernel
theorem dX12_isHere_33 : decode cX12_isHere 33 = .ok (.ireturn, 1) := by decide +kernel
theorem dX12_readNumber_0 : decode cX12_readNumber 0 = .ok (.aload_n 0, 1) := by decide +kernel
theorem dX12_readNumber_1 : decode cX12_readNumber 1 = .ok (.getfield 67, 3) := by decide +kernel
theorem dX12_readNumber_4 : decode cX12_readNumber 4 = .ok (.aload_n 0, 1) := by decide +kernel
theorem dX12_readNumber_5 : decode cX12_readNumber 5 = .ok (.getfield 188, 3) := by decide +kernel
theorem dX12_readNumber_8 : decode cX12_readNumber 8 = .ok (.iconst 1, 1) := by decide +kernel
theorem dX12_readNumber_9 : decode cX12_readNumber 9 = .ok (.iastore, 1) := by decide +kernel
theorem dX12_readNumber_10 : decode cX12_readNumber 10 = .ok (.aload_n 0, 1) := by decide +kernel
theorem dX12_readNumber_11 : decode cX12_readNumber 11 = .ok (.bipush 49, 2) := by decide +kernel
theorem dX12_readNumber_13 : decode cX12_readNumber 13 = .ok (.bipush 57, 2) := by decide +kernel
theorem dX12_readNumber_15 : decode cX12_readNumber 15 = .ok (.invokevirtual 191, 3) := by decide +kernel
theorem dX12_readNumber_18 : decode cX12_readNumber 18 = .ok (.ifCond .ne 4, 3) := by decide +kernel
theorem dX12_readNumber_21 : decode cX12_readNumber 21 = .ok (.return_, 1) := by decide +kernel
theorem dX12_readNumber_22 : decode cX12_readNumber 22 = .ok (.aload_n 0, 1) := by decide +kernel
theorem dX12_readNumber_23 : decode cX12_readNumber 23 = .ok (.getfield 33, 3) := by decide +kernel
theorem dX12_readNumber_26 : decode cX12_readNumber 26 = .ok (.aload_n 0, 1) := by decide +kernel
theorem dX12_readNumber_27 : decode cX12_readNumber 27 = .ok (.getfield 185, 3) := by decide +kernel
theorem dX12_readNumber_30 : decode cX12_readNumber 30 = .ok (.iaload, 1) := by decide +kernel
theorem dX12_readNumber_31 : decode cX12_readNumber 31 = .ok (.bipush 48, 2) := by decide +kernel
theorem dX12_readNumber_33 : decode cX12_readNumber 33 = .ok (.isub, 1) := by decide +kernel
theorem dX12_readNumber_34 : decode cX12_readNumber 34 = .ok (.istore_n 1, 1) := by decide +kernel
theorem dX12_readNumber_35 : decode cX12_readNumber 35 = .ok (.aload_n 0, 1) := by decide +kernel
theorem dX12_readNumber_36 : decode cX12_readNumber 36 = .ok (.dup, 1) := by decide +kernel
theorem dX12_readNumber_37 : decode cX12_readNumber 37 = .ok (.getfield 185, 3) := by decide +kernel
theorem dX12_readNumber_40 : decode cX12_readNumber 40 = .ok (.iconst 1, 1) := by decide +kernel
theorem dX12_readNumber_41 : decode cX12_readNumber 41 = .ok (.iadd, 1) := by decide +kernel
theorem dX12_readNumber_42 : decode cX12_readNumber 42 = .ok (.putfield 185, 3) := by decide +kernel
theorem dX12_readNumber_45 : decode cX12_readNumber 45 = .ok (.aload_n 0, 1) := by decide +kernel
theorem dX12_readNumber_46 : decode cX12_readNumber 46 = .ok (.bipush 48, 2) := by decide +kernel
theorem dX12_readNumber_48 : decode cX12_readNumber 48 = .ok (.bipush 57, 2) := by decide +kernel
theorem dX12_readNumber_50 : decode cX12_readNumber 50 = .ok (.invokevirtual 191, 3) := by decide +kernel
theorem dX12_readNumber_53 : decode cX12_readNumber 53 = .ok (.ifCond .eq 31, 3) := by decide +kernel
theorem dX12_readNumber_56 : decode cX12_readNumber 56 = .ok (.bipush 10, 2) := by decide +kernel
theorem dX12_readNumber_58 : decode cX12_readNumber 58 = .ok (.iload_n 1, 1) := by decide +kernel
theorem dX12_readNumber_59 : decode cX12_readNumber 59 = .ok (.imul, 1) := by decide +kernel
theorem dX12_readNumber_60 : decode cX12_readNumber 60 = .ok (.aload_n 0, 1) := by decide +kernel
theorem dX12_readNumber_61 : decode cX12_readNumber 61 = .ok (.getfield 33, 3) := by decide +kernel
theorem dX12_readNumber_64 : decode cX12_readNumber 64 = .ok (.aload_n 0, 1) := by decide +kernel
theorem dX12_readNumber_65 : decode cX12_readNumber 65 = .ok (.getfield 185, 3) := by decide +kernel
theorem dX12_readNumber_68 : decode cX12_readNumber 68 = .ok (.iaload, 1) := by decide +kernel
theorem dX12_readNumber_69 : decode cX12_readNumber 69 = .ok (.iadd, 1) := by decide +kernel
theorem dX12_readNumber_70 : decode cX12_readNumber 70 = .ok (.bipush 48, 2) := by decide +kernel
theorem dX12_readNumber_72 : decode cX12_readNumber 72 = .ok (.isub, 1) := by decide +kernel
theorem dX12_readNumber_73 : decode cX12_readNumber 73 = .ok (.istore_n 1, 1) := by decide +kernel
theorem dX12_readNumber_74 : decode cX12_readNumber 74 = .ok (.aload_n 0, 1) := by decide +kernel
theorem dX12_readNumber_75 : decode cX12_readNumber 75 = .ok (.dup, 1) := by decide +kernel
theorem dX12_readNumber_76 : decode cX12_readNumber 76 = .ok (.getfield 185, 3) := by decide +kernel
theorem dX12_readNumber_79 : decode cX12_readNumber 79 = .ok (.iconst 1, 1) := by decide +kernel
theorem dX12_readNumber_80 : decode cX12_readNumber 80 = .ok (.iadd, 1) := by decide +kernel
theorem dX12_readNumber_81 : decode cX12_readNumber 81 = .ok (.putfield 185, 3) := by decide +kernel
theorem dX12_readNumber_84 : decode cX12_readNumber 84 = .ok (.aload_n 0, 1) := by decide +kernel
theorem dX12_readNumber_85 : decode cX12_readNumber 85 = .ok (.getfield 67, 3) := by decide +kernel
theorem dX12_readNumber_88 : decode cX12_readNumber 88 = .ok (.aload_n 0, 1) := by decide +kernel
theorem dX12_readNumber_89 : decode cX12_readNumber 89 = .ok (.getfield 188, 3) := by decide +kernel
theorem dX12_readNumber_92 : decode cX12_readNumber 92 = .ok (.iload_n 1, 1) := by decide +kernel
theorem dX12_readNumber_93 : decode cX12_readNumber 93 = .ok (.iastore, 1) := by decide +kernel
theorem dX12_readNumber_94 : decode cX12_readNumber 94 = .ok (.return_, 1) := by decide +kernel
theorem dX12_readMode_0 : decode cX12_readMode 0 = .ok (.aload_n 0, 1) := by decide +kernel
theorem dX12_readMode_1 : decode cX12_readMode 1 = .ok (.bipush 45, 2) := by decide +kernel
theorem dX12_readMode_3 : decode cX12_readMode 3 = .ok (.invokevirtual 194, 3) := by decide +kernel
theorem dX12_readMode_6 : decode cX12_readMode 6 = .ok (.istore_n 1, 1) := by decide +kernel
theorem dX12_readMode_7 : decode cX12_readMode 7 = .ok (.aload_n 0, 1) := by decide +kernel
theorem dX12_readMode_8 : decode cX12_readMode 8 = .ok (.iload_n 1, 1) := by decide +kernel
theorem dX12_readMode_9 : decode cX12_readMode 9 = .ok (.ifCond .eq 8, 3) := by decide +kernel
theorem dX12_readMode_12 : decode cX12_readMode 12 = .ok (.bipush 49, 2) := by decide +kernel
theorem dX12_readMode_14 : decode cX12_readMode 14 = .ok (.goto 5, 3) := by decide +kernel
theorem dX12_readMode_17 : decode cX12_readMode 17 = .ok (.bipush 48, 2) := by decide +kernel
theorem dX12_readMode_19 : decode cX12_readMode 19 = .ok (.bipush 53, 2) := by decide +kernel
theorem dX12_readMode_21 : decode cX12_readMode 21 = .ok (.invokevirtual 191, 3) := by decide +kernel
theorem dX12_readMode_24 : decode cX12_readMode 24 = .ok (.ifCond .ne 5, 3) := by decide +kernel
theorem dX12_readMode_27 : decode cX12_readMode 27 = .ok (.iconst 0, 1) := by decide +kernel
theorem dX12_readMode_28 : decode cX12_readMode 28 = .ok (.ireturn, 1) := by decide +kernel
theorem dX12_readMode_29 : decode cX12_readMode 29 = .ok (.aload_n 0, 1) := by decide +kernel
theorem dX12_readMode_30 : decode cX12_readMode 30 = .ok (.getfield 33, 3) := by decide +kernel
theorem dX12_readMode_33 : decode cX12_readMode 33 = .ok (.aload_n 0, 1) := by decide +kernel
theorem dX12_readMode_34 : decode cX12_readMode 34 = .ok (.getfield 185, 3) := by decide +kernel
theorem dX12_readMode_37 : decode cX12_readMode 37 = .ok (.iaload, 1) := by decide +kernel
theorem dX12_readMode_38 : decode cX12_readMode 38 = .ok (.bipush 48, 2) := by decide +kernel
theorem dX12_readMode_40 : decode cX12_readMode 40 = .ok (.isub, 1) := by decide +kernel
theorem dX12_readMode_41 : decode cX12_readMode 41 = .ok (.istore_n 2, 1) := by decide +kernel
theorem dX12_readMode_42 : decode cX12_readMode 42 = .ok (.aload_n 0, 1) := by decide +kernel
theorem dX12_readMode_43 : decode cX12_readMode 43 = .ok (.dup, 1) := by decide +kernel
theorem dX12_readMode_44 : decode cX12_readMode 44 = .ok (.getfield 185, 3) := by decide +kernel
theorem dX12_readMode_47 : decode cX12_readMode 47 = .ok (.iconst 1, 1) := by decide +kernel
theorem dX12_readMode_48 : decode cX12_readMode 48 = .ok (.iadd, 1) := by decide +kernel
theorem dX12_readMode_49 : decode cX12_readMode 49 = .ok (.putfield 185, 3) := by decide +kernel
theorem dX12_readMode_52 : decode cX12_readMode 52 = .ok (.aload_n 0, 1) := by decide +kernel
theorem dX12_readMode_53 : decode cX12_readMode 53 = .ok (.getfield 73, 3) := by decide +kernel
theorem dX12_readMode_56 : decode cX12_readMode 56 = .ok (.aload_n 0, 1) := by decide +kernel
theorem dX12_readMode_57 : decode cX12_readMode 57 = .ok (.getfield 197, 3) := by decide +kernel
theorem dX12_readMode_60 : decode cX12_readMode 60 = .ok (.iload_n 1, 1) := by decide +kernel
theorem dX12_readMode_61 : decode cX12_readMode 61 = .ok (.ifCond .eq 8, 3) := by decide +kernel
theorem dX12_readMode_64 : decode cX12_readMode 64 = .ok (.iload_n 2, 1) := by decide +kernel
theorem dX12_readMode_65 : decode cX12_readMode 65 = .ok (.ineg, 1) := by decide +kernel
theorem dX12_readMode_66 : decode cX12_readMode 66 = .ok (.goto 4, 3) := by decide +kernel
theorem dX12_readMode_69 : decode cX12_readMode 69 = .ok (.iload_n 2, 1) := by decide +kernel
theorem dX12_readMode_70 : decode cX12_readMode 70 = .ok (.iastore, 1) := by decide +kernel
theorem dX12_readMode_71 : decode cX12_readMode 71 = .ok (.aload_n 0, 1) := by decide +kernel
theorem dX12_readMode_72 : decode cX12_readMode 72 = .ok (.dup, 1) := by decide +kernel
theorem dX12_readMode_73 : decode cX12_readMode 73 = .ok (.getfield 197, 3) := by decide +kernel
theorem dX12_readMode_76 : decode cX12_readMode 76 = .ok (.iconst 1, 1) := by decide +kernel
theorem dX12_readMode_77 : decode cX12_readMode 77 = .ok (.iadd, 1) := by decide +kernel
theorem dX12_readMode_78 : decode cX12_readMode 78 = .ok (.putfield 197, 3) := by decide +kernel
theorem dX12_readMode_81 : decode cX12_readMode 81 = .ok (.iconst 1, 1) := by decide +kernel
theorem dX12_readMode_82 : decode cX12_readMode 82 = .ok (.ireturn, 1) := by decide +kernel
theorem dX12_readTerm_0 : decode cX12_readTerm 0 = .ok (.aload_n 0, 1) := by decide +kernel
theorem dX12_readTerm_1 : decode cX12_readTerm 1 = .ok (.invokevirtual 200, 3) := by decide +kernel
theorem dX12_readTerm_4 : decode cX12_readTerm 4 = .ok (.aload_n 0, 1) := by decide +kernel
theorem dX12_readTerm_5 : decode cX12_readTerm 5 = .ok (.getfield 70, 3) := by decide +kernel
theorem dX12_readTerm_8 : decode cX12_readTerm 8 = .ok (.aload_n 0, 1) := by decide +kernel
theorem dX12_readTerm_9 : decode cX12_readTerm 9 = .ok (.getfield 188, 3) := by decide +kernel
theorem dX12_readTerm_12 : decode cX12_readTerm 12 = .ok (.aload_n 0, 1) := by decide +kernel
theorem dX12_readTerm_13 : decode cX12_readTerm 13 = .ok (.getfield 197, 3) := by decide +kernel
theorem dX12_readTerm_16 : decode cX12_readTerm 16 = .ok (.iastore, 1) := by decide +kernel
theorem dX12_readTerm_17 : decode cX12_readTerm 17 = .ok (.aload_n 0, 1) := by decide +kernel
theorem dX12_readTerm_18 : decode cX12_readTerm 18 = .ok (.bipush 91, 2) := by decide +kernel
theorem dX12_readTerm_20 : decode cX12_readTerm 20 = .ok (.invokevirtual 194, 3) := by decide +kernel
theorem dX12_readTerm_23 : decode cX12_readTerm 23 = .ok (.ifCond .ne 5, 3) := by decide +kernel
theorem dX12_readTerm_26 : decode cX12_readTerm 26 = .ok (.iconst 0, 1) := by decide +kernel
theorem dX12_readTerm_27 : decode cX12_readTerm 27 = .ok (.ireturn, 1) := by decide +kernel
theorem dX12_readTerm_28 : decode cX12_readTerm 28 = .ok (.aload_n 0, 1) := by decide +kernel
theorem dX12_readTerm_29 : decode cX12_readTerm 29 = .ok (.bipush 93, 2) := by decide +kernel
theorem dX12_readTerm_31 : decode cX12_readTerm 31 = .ok (.invokevirtual 194, 3) := by decide +kernel
theorem dX12_readTerm_34 : decode cX12_readTerm 34 = .ok (.ifCond .ne 32, 3) := by decide +kernel
theorem dX12_readTerm_37 : decode cX12_readTerm 37 = .ok (.aload_n 0, 1) := by decide +kernel
theorem dX12_readTerm_38 : decode cX12_readTerm 38 = .ok (.invokevirtual 203, 3) := by decide +kernel
theorem dX12_readTerm_41 : decode cX12_readTerm 41 = .ok (.ifCond .ne 5, 3) := by decide +kernel
theorem dX12_readTerm_44 : decode cX12_readTerm 44 = .ok (.iconst 0, 1) := by decide +kernel
theorem dX12_readTerm_45 : decode cX12_readTerm 45 = .ok (.ireturn, 1) := by decide +kernel
theorem dX12_readTerm_46 : decode cX12_readTerm 46 = .ok (.aload_n 0, 1) := by decide +kernel
theorem dX12_readTerm_47 : decode cX12_readTerm 47 = .ok (.bipush 32, 2) := by decide +kernel
theorem dX12_readTerm_49 : decode cX12_readTerm 49 = .ok (.invokevirtual 194, 3) := by decide +kernel
theorem dX12_readTerm_52 : decode cX12_readTerm 52 = .ok (.ifCond .ne (-15), 3) := by decide +kernel
theorem dX12_readTerm_55 : decode cX12_readTerm 55 = .ok (.aload_n 0, 1) := by decide +kernel
theorem dX12_readTerm_56 : decode cX12_readTerm 56 = .ok (.bipush 93, 2) := by decide +kernel
theorem dX12_readTerm_58 : decode cX12_readTerm 58 = .ok (.invokevirtual 194, 3) := by decide +kernel
theorem dX12_readTerm_61 : decode cX12_readTerm 61 = .ok (.ifCond .ne 5, 3) := by decide +kernel
theorem dX12_readTerm_64 : decode cX12_readTerm 64 = .ok (.iconst 0, 1) := by decide +kernel
theorem dX12_readTerm_65 : decode cX12_readTerm 65 = .ok (.ireturn, 1) := by decide +kernel
theorem dX12_readTerm_66 : decode cX12_readTerm 66 = .ok (.aload_n 0, 1) := by decide +kernel
theorem dX12_readTerm_67 : decode cX12_readTerm 67 = .ok (.dup, 1) := by decide +kernel
theorem dX12_readTerm_68 : decode cX12_readTerm 68 = .ok (.getfield 188, 3) := by decide +kernel
theorem dX12_readTerm_71 : decode cX12_readTerm 71 = .ok (.iconst 1, 1) := by decide +kernel
theorem dX12_readTerm_72 : decode cX12_readTerm 72 = .ok (.iadd, 1) := by decide +kernel
theorem dX12_readTerm_73 : decode cX12_readTerm 73 = .ok (.putfield 188, 3) := by decide +kernel
theorem dX12_readTerm_76 : decode cX12_readTerm 76 = .ok (.aload_n 0, 1) := by decide +kernel
theorem dX12_readTerm_77 : decode cX12_readTerm 77 = .ok (.getfield 70, 3) := by decide +kernel
theorem dX12_readTerm_80 : decode cX12_readTerm 80 = .ok (.aload_n 0, 1) := by decide +kernel
theorem dX12_readTerm_81 : decode cX12_readTerm 81 = .ok (.getfield 188, 3) := by decide +kernel
theorem dX12_readTerm_84 : decode cX12_readTerm 84 = .ok (.aload_n 0, 1) := by decide +kernel
theorem dX12_readTerm_85 : decode cX12_readTerm 85 = .ok (.getfield 197, 3) := by decide +kernel
theorem dX12_readTerm_88 : decode cX12_readTerm 88 = .ok (.iastore, 1) := by decide +kernel
theorem dX12_readTerm_89 : decode cX12_readTerm 89 = .ok (.iconst 1, 1) := by decide +kernel
theorem dX12_readTerm_90 : decode cX12_readTerm 90 = .ok (.ireturn, 1) := by decide +kernel
theorem dX12_readTerms_0 : decode cX12_readTerms 0 = .ok (.aload_n 0, 1) := by decide +kernel
theorem dX12_readTerms_1 : decode cX12_readTerms 1 = .ok (.iconst 0, 1) := by decide +kernel
theorem dX12_readTerms_2 : decode cX12_readTerms 2 = .ok (.putfield 185, 3) := by decide +kernel
theorem dX12_readTerms_5 : decode cX12_readTerms 5 = .ok (.aload_n 0, 1) := by decide +kernel
theorem dX12_readTerms_6 : decode cX12_readTerms 6 = .ok (.iconst 0, 1) := by decide +kernel
theorem dX12_readTerms_7 : decode cX12_readTerms 7 = .ok (.putfield 188, 3) := by decide +kernel
theorem dX12_readTerms_10 : decode cX12_readTerms 10 = .ok (.aload_n 0, 1) := by decide +kernel
theorem dX12_readTerms_11 : decode cX12_readTerms 11 = .ok (.iconst 0, 1) := by decide +kernel
theorem dX12_readTerms_12 : decode cX12_readTerms 12 = .ok (.putfield 197, 3) := by decide +kernel
theorem dX12_readTerms_15 : decode cX12_readTerms 15 = .ok (.aload_n 0, 1) := by decide +kernel
theorem dX12_readTerms_16 : decode cX12_readTerms 16 = .ok (.invokevirtual 207, 3) := by decide +kernel
theorem dX12_readTerms_19 : decode cX12_readTerms 19 = .ok (.ifCond .ne 5, 3) := by decide +kernel
theorem dX12_readTerms_22 : decode cX12_readTerms 22 = .ok (.iconst 0, 1) := by decide +kernel
theorem dX12_readTerms_23 : decode cX12_readTerms 23 = .ok (.ireturn, 1) := by decide +kernel
theorem dX12_readTerms_24 : decode cX12_readTerms 24 = .ok (.aload_n 0, 1) := by decide +kernel
theorem dX12_readTerms_25 : decode cX12_readTerms 25 = .ok (.bipush 43, 2) := by decide +kernel
theorem dX12_readTerms_27 : decode cX12_readTerms 27 = .ok (.invokevirtual 194, 3) := by decide +kernel
theorem dX12_readTerms_30 : decode cX12_readTerms 30 = .ok (.ifCond .ne (-15), 3) := by decide +kernel
theorem dX12_readTerms_33 : decode cX12_readTerms 33 = .ok (.aload_n 0, 1) := by decide +kernel
theorem dX12_readTerms_34 : decode cX12_readTerms 34 = .ok (.getfield 185, 3) := by decide +kernel
theorem dX12_readTerms_37 : decode cX12_readTerms 37 = .ok (.aload_n 0, 1) := by decide +kernel
theorem dX12_readTerms_38 : decode cX12_readTerms 38 = .ok (.getfield 182, 3) := by decide +kernel
theorem dX12_readTerms_41 : decode cX12_readTerms 41 = .ok (.if_icmp .ne 7, 3) := by decide +kernel
theorem dX12_readTerms_44 : decode cX12_readTerms 44 = .ok (.iconst 1, 1) := by decide +kernel
theorem dX12_readTerms_45 : decode cX12_readTerms 45 = .ok (.goto 4, 3) := by decide +kernel
theorem dX12_readTerms_48 : decode cX12_readTerms 48 = .ok (.iconst 0, 1) := by decide +kernel
theorem dX12_readTerms_49 : decode cX12_readTerms 49 = .ok (.ireturn, 1) := by decide +kernel
theorem dX12_levelOfTerm_0 : decode cX12_levelOfTerm 0 = .ok (.iconst 0, 1) := by decide +kernel
theorem dX12_levelOfTerm_1 : decode cX12_levelOfTerm 1 = .ok (.istore_n 2, 1) := by decide +kernel
theorem dX12_levelOfTerm_2 : decode cX12_levelOfTerm 2 = .ok (.iconst 0, 1) := by decide +kernel
theorem dX12_levelOfTerm_3 : decode cX12_levelOfTerm 3 = .ok (.istore_n 3, 1) := by decide +kernel
theorem dX12_levelOfTerm_4 : decode cX12_levelOfTerm 4 = .ok (.aload_n 0, 1) := by decide +kernel
theorem dX12_levelOfTerm_5 : decode cX12_levelOfTerm 5 = .ok (.getfield 70, 3) := by decide +kernel
theorem dX12_levelOfTerm_8 : decode cX12_levelOfTerm 8 = .ok (.iload_n 1, 1) := by decide +kernel
theorem dX12_levelOfTerm_9 : decode cX12_levelOfTerm 9 = .ok (.iconst 1, 1) := by decide +kernel
theorem dX12_levelOfTerm_10 : decode cX12_levelOfTerm 10 = .ok (.iadd, 1) := by decide +kernel
theorem dX12_levelOfTerm_11 : decode cX12_levelOfTerm 11 = .ok (.iaload, 1) := by decide +kernel
theorem dX12_levelOfTerm_12 : decode cX12_levelOfTerm 12 = .ok (.iconst 1, 1) := by decide +kernel
theorem dX12_levelOfTerm_13 : decode cX12_levelOfTerm 13 = .ok (.isub, 1) := by decide +kernel
theorem dX12_levelOfTerm_14 : decode cX12_levelOfTerm 14 = .ok (.istore 4, 2) := by decide +kernel
theorem dX12_levelOfTerm_16 : decode cX12_levelOfTerm 16 = .ok (.iload 4, 2) := by decide +kernel
theorem dX12_levelOfTerm_18 : decode cX12_levelOfTerm 18 = .ok (.aload_n 0, 1) := by decide +kernel
theorem dX12_levelOfTerm_19 : decode cX12_levelOfTerm 19 = .ok (.getfield 70, 3) := by decide +kernel
theorem dX12_levelOfTerm_22 : decode cX12_levelOfTerm 22 = .ok (.iload_n 1, 1) := by decide +kernel
theorem dX12_levelOfTerm_23 : decode cX12_levelOfTerm 23 = .ok (.iaload, 1) := by decide +kernel
theorem dX12_levelOfTerm_24 : decode cX12_levelOfTerm 24 = .ok (.if_icmp .lt 34, 3) := by decide +kernel
theorem dX12_levelOfTerm_27 : decode cX12_levelOfTerm 27 = .ok (.iload_n 2, 1) := by decide +kernel
theorem dX12_levelOfTerm_28 : decode cX12_levelOfTerm 28 = .ok (.aload_n 0, 1) := by decide +kernel
theorem dX12_levelOfTerm_29 : decode cX12_levelOfTerm 29 = .ok (.getfield 73, 3) := by decide +kernel
theorem dX12_levelOfTerm_32 : decode cX12_levelOfTerm 32 = .ok (.iload 4, 2) := by decide +kernel
theorem dX12_levelOfTerm_34 : decode cX12_levelOfTerm 34 = .ok (.iaload, 1) := by decide +kernel
theorem dX12_levelOfTerm_35 : decode cX12_levelOfTerm 35 = .ok (.isub, 1) := by decide +kernel
theorem dX12_levelOfTerm_36 : decode cX12_levelOfTerm 36 = .ok (.istore_n 2, 1) := by decide +kernel
theorem dX12_levelOfTerm_37 : decode cX12_levelOfTerm 37 = .ok (.iload_n 3, 1) := by decide +kernel
theorem dX12_levelOfTerm_38 : decode cX12_levelOfTerm 38 = .ok (.ifCond .ne 8, 3) := by decide +kernel
theorem dX12_levelOfTerm_41 : decode cX12_levelOfTerm 41 = .ok (.iload_n 2, 1) := by decide +kernel
theorem dX12_levelOfTerm_42 : decode cX12_levelOfTerm 42 = .ok (.iconst 5, 1) := by decide +kernel
theorem dX12_levelOfTerm_43 : decode cX12_levelOfTerm 43 = .ok (.if_icmp .le 7, 3) := by decide +kernel
theorem dX12_levelOfTerm_46 : decode cX12_levelOfTerm 46 = .ok (.iconst 1, 1) := by decide +kernel
theorem dX12_levelOfTerm_47 : decode cX12_levelOfTerm 47 = .ok (.goto 4, 3) := by decide +kernel
theorem dX12_levelOfTerm_50 : decode cX12_levelOfTerm 50 = .ok (.iconst 0, 1) := by decide +kernel
theorem dX12_levelOfTerm_51 : decode cX12_levelOfTerm 51 = .ok (.istore_n 3, 1) := by decide +kernel
theorem dX12_levelOfTerm_52 : decode cX12_levelOfTerm 52 = .ok (.iinc 4 (-1), 3) := by decide +kernel
theorem dX12_levelOfTerm_55 : decode cX12_levelOfTerm 55 = .ok (.goto (-39), 3) := by decide +kernel
theorem dX12_levelOfTerm_58 : decode cX12_levelOfTerm 58 = .ok (.iload_n 3, 1) := by decide +kernel
theorem dX12_levelOfTerm_59 : decode cX12_levelOfTerm 59 = .ok (.ifCond .ne 10, 3) := by decide +kernel
theorem dX12_levelOfTerm_62 : decode cX12_levelOfTerm 62 = .ok (.iload_n 2, 1) := by decide +kernel
theorem dX12_levelOfTerm_63 : decode cX12_levelOfTerm 63 = .ok (.invokestatic 96, 3) := by decide +kernel
theorem dX12_levelOfTerm_66 : decode cX12_levelOfTerm 66 = .ok (.ifCond .ne 7, 3) := by decide +kernel
theorem dX12_levelOfTerm_69 : decode cX12_levelOfTerm 69 = .ok (.iconst (-1), 1) := by decide +kernel
theorem dX12_levelOfTerm_70 : decode cX12_levelOfTerm 70 = .ok (.goto 4, 3) := by decide +kernel
theorem dX12_levelOfTerm_73 : decode cX12_levelOfTerm 73 = .ok (.iload_n 2, 1) := by decide +kernel
theorem dX12_levelOfTerm_74 : decode cX12_levelOfTerm 74 = .ok (.ireturn, 1) := by decide +kernel
theorem dX12_termDone_0 : decode cX12_termDone 0 = .ok (.aload_n 0, 1) := by decide +kernel
theorem dX12_termDone_1 : decode cX12_termDone 1 = .ok (.iconst 0, 1) := by decide +kernel
theorem dX12_termDone_2 : decode cX12_termDone 2 = .ok (.iconst 0, 1) := by decide +kernel
theorem dX12_termDone_3 : decode cX12_termDone 3 = .ok (.invokevirtual 142, 3) := by decide +kernel
theorem dX12_termDone_6 : decode cX12_termDone 6 = .ok (.iconst 0, 1) := by decide +kernel
theorem dX12_termDone_7 : decode cX12_termDone 7 = .ok (.istore_n 2, 1) := by decide +kernel
theorem dX12_termDone_8 : decode cX12_termDone 8 = .ok (.aload_n 0, 1) := by decide +kernel
theorem dX12_termDone_9 : decode cX12_termDone 9 = .ok (.getfield 70, 3) := by decide +kernel
theorem dX12_termDone_12 : decode cX12_termDone 12 = .ok (.iload_n 1, 1) := by decide +kernel
theorem dX12_termDone_13 : decode cX12_termDone 13 = .ok (.iconst 1, 1) := by decide +kernel
theorem dX12_termDone_14 : decode cX12_termDone 14 = .ok (.iadd, 1) := by decide +kernel
theorem dX12_termDone_15 : decode cX12_termDone 15 = .ok (.iaload, 1) := by decide +kernel
theorem dX12_termDone_16 : decode cX12_termDone 16 = .ok (.iconst 1, 1) := by decide +kernel
theorem dX12_termDone_17 : decode cX12_termDone 17 = .ok (.isub, 1) := by decide +kernel
theorem dX12_termDone_18 : decode cX12_termDone 18 = .ok (.istore_n 3, 1) := by decide +kernel
theorem dX12_termDone_19 : decode cX12_termDone 19 = .ok (.iload_n 3, 1) := by decide +kernel
theorem dX12_termDone_20 : decode cX12_termDone 20 = .ok (.aload_n 0, 1) := by decide +kernel
theorem dX12_termDone_21 : decode cX12_termDone 21 = .ok (.getfield 70, 3) := by decide +kernel
theorem dX12_termDone_24 : decode cX12_termDone 24 = .ok (.iload_n 1, 1) := by decide +kernel
theorem dX12_termDone_25 : decode cX12_termDone 25 = .ok (.iaload, 1) := by decide +kernel
theorem dX12_termDone_26 : decode cX12_termDone 26 = .ok (.if_icmp .lt 47, 3) := by decide +kernel
theorem dX12_termDone_29 : decode cX12_termDone 29 = .ok (.iload_n 2, 1) := by decide +kernel
theorem dX12_termDone_30 : decode cX12_termDone 30 = .ok (.ifCond .ne 43, 3) := by decide +kernel
theorem dX12_termDone_33 : decode cX12_termDone 33 = .ok (.aload_n 0, 1) := by decide +kernel
theorem dX12_termDone_34 : decode cX12_termDone 34 = .ok (.getfield 131, 3) := by decide +kernel
theorem dX12_termDone_37 : decode cX12_termDone 37 = .ok (.aload_n 0, 1) := by decide +kernel
theorem dX12_termDone_38 : decode cX12_termDone 38 = .ok (.getfield 73, 3) := by decide +kernel
theorem dX12_termDone_41 : decode cX12_termDone 41 = .ok (.iload_n 3, 1) := by decide +kernel
theorem dX12_termDone_42 : decode cX12_termDone 42 = .ok (.iaload, 1) := by decide +kernel
theorem dX12_termDone_43 : decode cX12_termDone 43 = .ok (.isub, 1) := by decide +kernel
theorem dX12_termDone_44 : decode cX12_termDone 44 = .ok (.ifCond .ge 7, 3) := by decide +kernel
theorem dX12_termDone_47 : decode cX12_termDone 47 = .ok (.iconst 1, 1) := by decide +kernel
theorem dX12_termDone_48 : decode cX12_termDone 48 = .ok (.goto 4, 3) := by decide +kernel
theorem dX12_termDone_51 : decode cX12_termDone 51 = .ok (.iconst 0, 1) := by decide +kernel
theorem dX12_termDone_52 : decode cX12_termDone 52 = .ok (.istore_n 2, 1) := by decide +kernel
theorem dX12_termDone_53 : decode cX12_termDone 53 = .ok (.iload_n 2, 1) := by decide +kernel
theorem dX12_termDone_54 : decode cX12_termDone 54 = .ok (.ifCond .ne 13, 3) := by decide +kernel
theorem dX12_termDone_57 : decode cX12_termDone 57 = .ok (.aload_n 0, 1) := by decide +kernel
theorem dX12_termDone_58 : decode cX12_termDone 58 = .ok (.aload_n 0, 1) := by decide +kernel
theorem dX12_termDone_59 : decode cX12_termDone 59 = .ok (.getfield 73, 3) := by decide +kernel
theorem dX12_termDone_62 : decode cX12_termDone 62 = .ok (.iload_n 3, 1) := by decide +kernel
theorem dX12_termDone_63 : decode cX12_termDone 63 = .ok (.iaload, 1) := by decide +kernel
theorem dX12_termDone_64 : decode cX12_termDone 64 = .ok (.invokevirtual 145, 3) := by decide +kernel
theorem dX12_termDone_67 : decode cX12_termDone 67 = .ok (.iinc 3 (-1), 3) := by decide +kernel
theorem dX12_termDone_70 : decode cX12_termDone 70 = .ok (.goto (-51), 3) := by decide +kernel
theorem dX12_termDone_73 : decode cX12_termDone 73 = .ok (.iload_n 2, 1) := by decide +kernel
theorem dX12_termDone_74 : decode cX12_termDone 74 = .ok (.ifCond .eq 13, 3) := by decide +kernel
theorem dX12_termDone_77 : decode cX12_termDone 77 = .ok (.aload_n 0, 1) := by decide +kernel
theorem dX12_termDone_78 : decode cX12_termDone 78 = .ok (.aload_n 0, 1) := by decide +kernel
theorem dX12_termDone_79 : decode cX12_termDone 79 = .ok (.iload_n 1, 1) := by decide +kernel
theorem dX12_termDone_80 : decode cX12_termDone 80 = .ok (.invokevirtual 210, 3) := by decide +kernel
theorem dX12_termDone_83 : decode cX12_termDone 83 = .ok (.iconst (-1), 1) := by decide +kernel
theorem dX12_termDone_84 : decode cX12_termDone 84 = .ok (.invokevirtual 142, 3) := by decide +kernel
theorem dX12_termDone_87 : decode cX12_termDone 87 = .ok (.return_, 1) := by decide +kernel
theorem dX12_read_0 : decode cX12_read 0 = .ok (.iload_n 1, 1) := by decide +kernel
theorem dX12_read_1 : decode cX12_read 1 = .ok (.invokestatic 213, 3) := by decide +kernel
theorem dX12_read_4 : decode cX12_read 4 = .ok (.ifCond .ne 5, 3) := by decide +kernel
theorem dX12_read_7 : decode cX12_read 7 = .ok (.iconst (-1), 1) := by decide +kernel
theorem dX12_read_8 : decode cX12_read 8 = .ok (.ireturn, 1) := by decide +kernel
theorem dX12_read_9 : decode cX12_read 9 = .ok (.aload_n 0, 1) := by decide +kernel
theorem dX12_read_10 : decode cX12_read 10 = .ok (.invokevirtual 216, 3) := by decide +kernel
theorem dX12_read_13 : decode cX12_read 13 = .ok (.istore_n 2, 1) := by decide +kernel
theorem dX12_read_14 : decode cX12_read 14 = .ok (.aload_n 0, 1) := by decide +kernel
theorem dX12_read_15 : decode cX12_read 15 = .ok (.iconst 0, 1) := by decide +kernel
theorem dX12_read_16 : decode cX12_read 16 = .ok (.putfield 182, 3) := by decide +kernel
theorem dX12_read_19 : decode cX12_read 19 = .ok (.iload_n 2, 1) := by decide +kernel
theorem dX12_read_20 : decode cX12_read 20 = .ok (.ifCond .ne 11, 3) := by decide +kernel
theorem dX12_read_23 : decode cX12_read 23 = .ok (.bipush (-100), 2) := by decide +kernel
theorem dX12_read_25 : decode cX12_read 25 = .ok (.aload_n 0, 1) := by decide +kernel
theorem dX12_read_26 : decode cX12_read 26 = .ok (.getfield 185, 3) := by decide +kernel
theorem dX12_read_29 : decode cX12_read 29 = .ok (.isub, 1) := by decide +kernel
theorem dX12_read_30 : decode cX12_read 30 = .ok (.ireturn, 1) := by decide +kernel
theorem dX12_read_31 : decode cX12_read 31 = .ok (.aload_n 0, 1) := by decide +kernel
theorem dX12_read_32 : decode cX12_read 32 = .ok (.iconst 0, 1) := by decide +kernel
theorem dX12_read_33 : decode cX12_read 33 = .ok (.invokevirtual 210, 3) := by decide +kernel
theorem dX12_read_36 : decode cX12_read 36 = .ok (.istore_n 3, 1) := by decide +kernel
theorem dX12_read_37 : decode cX12_read 37 = .ok (.iconst 0, 1) := by decide +kernel
theorem dX12_read_38 : decode cX12_read 38 = .ok (.istore 4, 2) := by decide +kernel
theorem dX12_read_40 : decode cX12_read 40 = .ok (.iload 4, 2) := by decide +kernel
theorem dX12_read_42 : decode cX12_read 42 = .ok (.aload_n 0, 1) := by decide +kernel
theorem dX12_read_43 : decode cX12_read 43 = .ok (.getfield 188, 3) := by decide +kernel
theorem dX12_read_46 : decode cX12_read 46 = .ok (.if_icmp .ge 31, 3) := by decide +kernel
theorem dX12_read_49 : decode cX12_read 49 = .ok (.aload_n 0, 1) := by decide +kernel
theorem dX12_read_50 : decode cX12_read 50 = .ok (.iload 4, 2) := by decide +kernel
theorem dX12_read_52 : decode cX12_read 52 = .ok (.invokevirtual 210, 3) := by decide +kernel
theorem dX12_read_55 : decode cX12_read 55 = .ok (.ifCond .lt 13, 3) := by decide +kernel
theorem dX12_read_58 : decode cX12_read 58 = .ok (.aload_n 0, 1) := by decide +kernel
theorem dX12_read_59 : decode cX12_read 59 = .ok (.iload 4, 2) := by decide +kernel
theorem dX12_read_61 : decode cX12_read 61 = .ok (.invokevirtual 210, 3) := by decide +kernel
theorem dX12_read_64 : decode cX12_read 64 = .ok (.iload_n 3, 1) := by decide +kernel
theorem dX12_read_65 : decode cX12_read 65 = .ok (.if_icmp .eq 6, 3) := by decide +kernel
theorem dX12_read_68 : decode cX12_read 68 = .ok (.bipush (-3), 2) := by decide +kernel
theorem dX12_read_70 : decode cX12_read 70 = .ok (.ireturn, 1) := by decide +kernel
theorem dX12_read_71 : decode cX12_read 71 = .ok (.iinc 4 1, 3) := by decide +kernel
theorem dX12_read_74 : decode cX12_read 74 = .ok (.goto (-34), 3) := by decide +kernel
theorem dX12_read_77 : decode cX12_read 77 = .ok (.aload_n 0, 1) := by decide +kernel
theorem dX12_read_78 : decode cX12_read 78 = .ok (.invokevirtual 139, 3) := by decide +kernel
theorem dX12_read_81 : decode cX12_read 81 = .ok (.iconst 0, 1) := by decide +kernel
theorem dX12_read_82 : decode cX12_read 82 = .ok (.istore 4, 2) := by decide +kernel
theorem dX12_read_84 : decode cX12_read 84 = .ok (.iload 4, 2) := by decide +kernel
theorem dX12_read_86 : decode cX12_read 86 = .ok (.bipush 7, 2) := by decide +kernel
theorem dX12_read_88 : decode cX12_read 88 = .ok (.if_icmp .ge 17, 3) := by decide +kernel
theorem dX12_read_91 : decode cX12_read 91 = .ok (.aload_n 0, 1) := by decide +kernel
theorem dX12_read_92 : decode cX12_read 92 = .ok (.getfield 76, 3) := by decide +kernel
theorem dX12_read_95 : decode cX12_read 95 = .ok (.iload 4, 2) := by decide +kernel
theorem dX12_read_97 : decode cX12_read 97 = .ok (.iconst 0, 1) := by decide +kernel
theorem dX12_read_98 : decode cX12_read 98 = .ok (.iastore, 1) := by decide +kernel
theorem dX12_read_99 : decode cX12_read 99 = .ok (.iinc 4 1, 3) := by decide +kernel
theorem dX12_read_102 : decode cX12_read 102 = .ok (.goto (-18), 3) := by decide +kernel
theorem dX12_read_105 : decode cX12_read 105 = .ok (.iconst 0, 1) := by decide +kernel
theorem dX12_read_106 : decode cX12_read 106 = .ok (.istore 4, 2) := by decide +kernel
theorem dX12_read_108 : decode cX12_read 108 = .ok (.iload 4, 2) := by decide +kernel
theorem dX12_read_110 : decode cX12_read 110 = .ok (.aload_n 0, 1) := by decide +kernel
theorem dX12_read_111 : decode cX12_read 111 = .ok (.getfield 188, 3) := by decide +kernel
theorem dX12_read_114 : decode cX12_read 114 = .ok (.if_icmp .ge 64, 3) := by decide +kernel
theorem dX12_read_117 : decode cX12_read 117 = .ok (.aload_n 0, 1) := by decide +kernel
theorem dX12_read_118 : decode cX12_read 118 = .ok (.iload 4, 2) := by decide +kernel
theorem dX12_read_120 : decode cX12_read 120 = .ok (.invokevirtual 219, 3) := by decide +kernel
theorem dX12_read_123 : decode cX12_read 123 = .ok (.iconst 0, 1) := by decide +kernel
theorem dX12_read_124 : decode cX12_read 124 = .ok (.istore 5, 2) := by decide +kernel
theorem dX12_read_126 : decode cX12_read 126 = .ok (.iload 5, 2) := by decide +kernel
theorem dX12_read_128 : decode cX12_read 128 = .ok (.bipush 7, 2) := by decide +kernel
theorem dX12_read_130 : decode cX12_read 130 = .ok (.if_icmp .ge 42, 3) := by decide +kernel
theorem dX12_read_133 : decode cX12_read 133 = .ok (.aload_n 0, 1) := by decide +kernel
theorem dX12_read_134 : decode cX12_read 134 = .ok (.getfield 76, 3) := by decide +kernel
theorem dX12_read_137 : decode cX12_read 137 = .ok (.iload 5, 2) := by decide +kernel
theorem dX12_read_139 : decode cX12_read 139 = .ok (.aload_n 0, 1) := by decide +kernel
theorem dX12_read_140 : decode cX12_read 140 = .ok (.getfield 76, 3) := by decide +kernel
theorem dX12_read_143 : decode cX12_read 143 = .ok (.iload 5, 2) := by decide +kernel
theorem dX12_read_145 : decode cX12_read 145 = .ok (.iaload, 1) := by decide +kernel
theorem dX12_read_146 : decode cX12_read 146 = .ok (.aload_n 0, 1) := by decide +kernel
theorem dX12_read_147 : decode cX12_read 147 = .ok (.getfield 55, 3) := by decide +kernel
theorem dX12_read_150 : decode cX12_read 150 = .ok (.iload 5, 2) := by decide +kernel
theorem dX12_read_152 : decode cX12_read 152 = .ok (.iaload, 1) := by decide +kernel
theorem dX12_read_153 : decode cX12_read 153 = .ok (.aload_n 0, 1) := by decide +kernel
theorem dX12_read_154 : decode cX12_read 154 = .ok (.getfield 67, 3) := by decide +kernel
theorem dX12_read_157 : decode cX12_read 157 = .ok (.iload 4, 2) := by decide +kernel
theorem dX12_read_159 : decode cX12_read 159 = .ok (.iaload, 1) := by decide +kernel
theorem dX12_read_160 : decode cX12_read 160 = .ok (.imul, 1) := by decide +kernel
theorem dX12_read_161 : decode cX12_read 161 = .ok (.iadd, 1) := by decide +kernel
theorem dX12_read_162 : decode cX12_read 162 = .ok (.bipush 101, 2) := by decide +kernel
theorem dX12_read_164 : decode cX12_read 164 = .ok (.irem, 1) := by decide +kernel
theorem dX12_read_165 : decode cX12_read 165 = .ok (.iastore, 1) := by decide +kernel
theorem dX12_read_166 : decode cX12_read 166 = .ok (.iinc 5 1, 3) := by decide +kernel
theorem dX12_read_169 : decode cX12_read 169 = .ok (.goto (-43), 3) := by decide +kernel
theorem dX12_read_172 : decode cX12_read 172 = .ok (.iinc 4 1, 3) := by decide +kernel
theorem dX12_read_175 : decode cX12_read 175 = .ok (.goto (-67), 3) := by decide +kernel
theorem dX12_read_178 : decode cX12_read 178 = .ok (.aload_n 0, 1) := by decide +kernel
theorem dX12_read_179 : decode cX12_read 179 = .ok (.getfield 27, 3) := by decide +kernel
theorem dX12_read_182 : decode cX12_read 182 = .ok (.iload_n 1, 1) := by decide +kernel
theorem dX12_read_183 : decode cX12_read 183 = .ok (.iload_n 3, 1) := by decide +kernel
theorem dX12_read_184 : decode cX12_read 184 = .ok (.iastore, 1) := by decide +kernel
theorem dX12_read_185 : decode cX12_read 185 = .ok (.iconst 0, 1) := by decide +kernel
theorem dX12_read_186 : decode cX12_read 186 = .ok (.istore 4, 2) := by decide +kernel
theorem dX12_read_188 : decode cX12_read 188 = .ok (.iload 4, 2) := by decide +kernel
theorem dX12_read_190 : decode cX12_read 190 = .ok (.bipush 7, 2) := by decide +kernel
theorem dX12_read_192 : decode cX12_read 192 = .ok (.if_icmp .ge 28, 3) := by decide +kernel
theorem dX12_read_195 : decode cX12_read 195 = .ok (.aload_n 0, 1) := by decide +kernel
theorem dX12_read_196 : decode cX12_read 196 = .ok (.getfield 30, 3) := by decide +kernel
theorem dX12_read_199 : decode cX12_read 199 = .ok (.bipush 7, 2) := by decide +kernel
theorem dX12_read_201 : decode cX12_read 201 = .ok (.iload_n 1, 1) := by decide +kernel
theorem dX12_read_202 : decode cX12_read 202 = .ok (.imul, 1) := by decide +kernel
theorem dX12_read_203 : decode cX12_read 203 = .ok (.iload 4, 2) := by decide +kernel
theorem dX12_read_205 : decode cX12_read 205 = .ok (.iadd, 1) := by decide +kernel
theorem dX12_read_206 : decode cX12_read 206 = .ok (.aload_n 0, 1) := by decide +kernel
theorem dX12_read_207 : decode cX12_read 207 = .ok (.getfield 76, 3) := by decide +kernel
theorem dX12_read_210 : decode cX12_read 210 = .ok (.iload 4, 2) := by decide +kernel
theorem dX12_read_212 : decode cX12_read 212 = .ok (.iaload, 1) := by decide +kernel
theorem dX12_read_213 : decode cX12_read 213 = .ok (.iastore, 1) := by decide +kernel
theorem dX12_read_214 : decode cX12_read 214 = .ok (.iinc 4 1, 3) := by decide +kernel
theorem dX12_read_217 : decode cX12_read 217 = .ok (.goto (-29), 3) := by decide +kernel
theorem dX12_read_220 : decode cX12_read 220 = .ok (.iload_n 3, 1) := by decide +kernel
theorem dX12_read_221 : decode cX12_read 221 = .ok (.ireturn, 1) := by decide +kernel
theorem dX12_becomesThought_0 : decode cX12_becomesThought 0 = .ok (.aload_n 0, 1) := by decide +kernel
theorem dX12_becomesThought_1 : decode cX12_becomesThought 1 = .ok (.getfield 27, 3) := by decide +kernel
theorem dX12_becomesThought_4 : decode cX12_becomesThought 4 = .ok (.iload_n 1, 1) := by decide +kernel
theorem dX12_becomesThought_5 : decode cX12_becomesThought 5 = .ok (.aload_n 0, 1) := by decide +kernel
theorem dX12_becomesThought_6 : decode cX12_becomesThought 6 = .ok (.getfield 131, 3) := by decide +kernel
theorem dX12_becomesThought_9 : decode cX12_becomesThought 9 = .ok (.iastore, 1) := by decide +kernel
theorem dX12_becomesThought_10 : decode cX12_becomesThought 10 = .ok (.iconst 0, 1) := by decide +kernel
theorem dX12_becomesThought_11 : decode cX12_becomesThought 11 = .ok (.istore_n 2, 1) := by decide +kernel
theorem dX12_becomesThought_12 : decode cX12_becomesThought 12 = .ok (.iload_n 2, 1) := by decide +kernel
theorem dX12_becomesThought_13 : decode cX12_becomesThought 13 = .ok (.bipush 7, 2) := by decide +kernel
theorem dX12_becomesThought_15 : decode cX12_becomesThought 15 = .ok (.if_icmp .ge 26, 3) := by decide +kernel
theorem dX12_becomesThought_18 : decode cX12_becomesThought 18 = .ok (.aload_n 0, 1) := by decide +kernel
theorem dX12_becomesThought_19 : decode cX12_becomesThought 19 = .ok (.getfield 30, 3) := by decide +kernel
theorem dX12_becomesThought_22 : decode cX12_becomesThought 22 = .ok (.bipush 7, 2) := by decide +kernel
theorem dX12_becomesThought_24 : decode cX12_becomesThought 24 = .ok (.iload_n 1, 1) := by decide +kernel
theorem dX12_becomesThought_25 : decode cX12_becomesThought 25 = .ok (.imul, 1) := by decide +kernel
theorem dX12_becomesThought_26 : decode cX12_becomesThought 26 = .ok (.iload_n 2, 1) := by decide +kernel
theorem dX12_becomesThought_27 : decode cX12_becomesThought 27 = .ok (.iadd, 1) := by decide +kernel
theorem dX12_becomesThought_28 : decode cX12_becomesThought 28 = .ok (.aload_n 0, 1) := by decide +kernel
theorem dX12_becomesThought_29 : decode cX12_becomesThought 29 = .ok (.getfield 55, 3) := by decide +kernel
theorem dX12_becomesThought_32 : decode cX12_becomesThought 32 = .ok (.iload_n 2, 1) := by decide +kernel
theorem dX12_becomesThought_33 : decode cX12_becomesThought 33 = .ok (.iaload, 1) := by decide +kernel
theorem dX12_becomesThought_34 : decode cX12_becomesThought 34 = .ok (.iastore, 1) := by decide +kernel
theorem dX12_becomesThought_35 : decode cX12_becomesThought 35 = .ok (.iinc 2 1, 3) := by decide +kernel
theorem dX12_becomesThought_38 : decode cX12_becomesThought 38 = .ok (.goto (-26), 3) := by decide +kernel
theorem dX12_becomesThought_41 : decode cX12_becomesThought 41 = .ok (.return_, 1) := by decide +kernel
theorem dX12_become_0 : decode cX12_become 0 = .ok (.iload_n 1, 1) := by decide +kernel
theorem dX12_become_1 : decode cX12_become 1 = .ok (.invokestatic 213, 3) := by decide +kernel
theorem dX12_become_4 : decode cX12_become 4 = .ok (.ifCond .eq 12, 3) := by decide +kernel
theorem dX12_become_7 : decode cX12_become 7 = .ok (.aload_n 0, 1) := by decide +kernel
theorem dX12_become_8 : decode cX12_become 8 = .ok (.iload_n 2, 1) := by decide +kernel
theorem dX12_become_9 : decode cX12_become 9 = .ok (.iload_n 3, 1) := by decide +kernel
theorem dX12_become_10 : decode cX12_become 10 = .ok (.invokevirtual 135, 3) := by decide +kernel
theorem dX12_become_13 : decode cX12_become 13 = .ok (.ifCond .ne 5, 3) := by decide +kernel
theorem dX12_become_16 : decode cX12_become 16 = .ok (.iconst (-1), 1) := by decide +kernel
theorem dX12_become_17 : decode cX12_become 17 = .ok (.ireturn, 1) := by decide +kernel
theorem dX12_become_18 : decode cX12_become 18 = .ok (.aload_n 0, 1) := by decide +kernel
theorem dX12_become_19 : decode cX12_become 19 = .ok (.iload_n 2, 1) := by decide +kernel
theorem dX12_become_20 : decode cX12_become 20 = .ok (.iload_n 3, 1) := by decide +kernel
theorem dX12_become_21 : decode cX12_become 21 = .ok (.invokevirtual 142, 3) := by decide +kernel
theorem dX12_become_24 : decode cX12_become 24 = .ok (.aload_n 0, 1) := by decide +kernel
theorem dX12_become_25 : decode cX12_become 25 = .ok (.iload_n 1, 1) := by decide +kernel
theorem dX12_become_26 : decode cX12_become 26 = .ok (.invokevirtual 222, 3) := by decide +kernel
theorem dX12_become_29 : decode cX12_become 29 = .ok (.iconst 1, 1) := by decide +kernel
theorem dX12_become_30 : decode cX12_become 30 = .ok (.ireturn, 1) := by decide +kernel
theorem dX12_level_0 : decode cX12_level 0 = .ok (.iload_n 1, 1) := by decide +kernel
theorem dX12_level_1 : decode cX12_level 1 = .ok (.invokestatic 213, 3) := by decide +kernel
theorem dX12_level_4 : decode cX12_level 4 = .ok (.ifCond .eq 12, 3) := by decide +kernel
theorem dX12_level_7 : decode cX12_level 7 = .ok (.aload_n 0, 1) := by decide +kernel
theorem dX12_level_8 : decode cX12_level 8 = .ok (.getfield 27, 3) := by decide +kernel
theorem dX12_level_11 : decode cX12_level 11 = .ok (.iload_n 1, 1) := by decide +kernel
theorem dX12_level_12 : decode cX12_level 12 = .ok (.iaload, 1) := by decide +kernel
theorem dX12_level_13 : decode cX12_level 13 = .ok (.goto 4, 3) := by decide +kernel
theorem dX12_level_16 : decode cX12_level 16 = .ok (.iconst (-1), 1) := by decide +kernel
theorem dX12_level_17 : decode cX12_level 17 = .ok (.ireturn, 1) := by decide +kernel
theorem dX12_isCoordinate_0 : decode cX12_isCoordinate 0 = .ok (.iload_n 1, 1) := by decide +kernel
theorem dX12_isCoordinate_1 : decode cX12_isCoordinate 1 = .ok (.invokestatic 213, 3) := by decide +kernel
theorem dX12_isCoordinate_4 : decode cX12_isCoordinate 4 = .ok (.ifCond .eq 27, 3) := by decide +kernel
theorem dX12_isCoordinate_7 : decode cX12_isCoordinate 7 = .ok (.iload_n 2, 1) := by decide +kernel
theorem dX12_isCoordinate_8 : decode cX12_isCoordinate 8 = .ok (.iconst 0, 1) := by decide +kernel
theorem dX12_isCoordinate_9 : decode cX12_isCoordinate 9 = .ok (.aload_n 0, 1) := by decide +kernel
theorem dX12_isCoordinate_10 : decode cX12_isCoordinate 10 = .ok (.aload_n 0, 1) := by decide +kernel
theorem dX12_isCoordinate_11 : decode cX12_isCoordinate 11 = .ok (.getfield 27, 3) := by decide +kernel
theorem dX12_isCoordinate_14 : decode cX12_isCoordinate 14 = .ok (.iload_n 1, 1) := by decide +kernel
theorem dX12_isCoordinate_15 : decode cX12_isCoordinate 15 = .ok (.iaload, 1) := by decide +kernel
theorem dX12_isCoordinate_16 : decode cX12_isCoordinate 16 = .ok (.invokevirtual 100, 3) := by decide +kernel
theorem dX12_isCoordinate_19 : decode cX12_isCoordinate 19 = .ok (.iconst 1, 1) := by decide +kernel
theorem dX12_isCoordinate_20 : decode cX12_isCoordinate 20 = .ok (.isub, 1) := by decide +kernel
theorem dX12_isCoordinate_21 : decode cX12_isCoordinate 21 = .ok (.invokestatic 92, 3) := by decide +kernel
theorem dX12_isCoordinate_24 : decode cX12_isCoordinate 24 = .ok (.ifCond .eq 7, 3) := by decide +kernel
theorem dX12_isCoordinate_27 : decode cX12_isCoordinate 27 = .ok (.iconst 1, 1) := by decide +kernel
theorem dX12_isCoordinate_28 : decode cX12_isCoordinate 28 = .ok (.goto 4, 3) := by decide +kernel
theorem dX12_isCoordinate_31 : decode cX12_isCoordinate 31 = .ok (.iconst 0, 1) := by decide +kernel
theorem dX12_isCoordinate_32 : decode cX12_isCoordinate 32 = .ok (.ireturn, 1) := by decide +kernel
theorem dX12_coordinate_0 : decode cX12_coordinate 0 = .ok (.aload_n 0, 1) := by decide +kernel
theorem dX12_coordinate_1 : decode cX12_coordinate 1 = .ok (.iload_n 1, 1) := by decide +kernel
theorem dX12_coordinate_2 : decode cX12_coordinate 2 = .ok (.iload_n 2, 1) := by decide +kernel
theorem dX12_coordinate_3 : decode cX12_coordinate 3 = .ok (.invokevirtual 225, 3) := by decide +kernel
theorem dX12_coordinate_6 : decode cX12_coordinate 6 = .ok (.ifCond .eq 17, 3) := by decide +kernel
theorem dX12_coordinate_9 : decode cX12_coordinate 9 = .ok (.aload_n 0, 1) := by decide +kernel
theorem dX12_coordinate_10 : decode cX12_coordinate 10 = .ok (.getfield 30, 3) := by decide +kernel
theorem dX12_coordinate_13 : decode cX12_coordinate 13 = .ok (.bipush 7, 2) := by decide +kernel
theorem dX12_coordinate_15 : decode cX12_coordinate 15 = .ok (.iload_n 1, 1) := by decide +kernel
theorem dX12_coordinate_16 : decode cX12_coordinate 16 = .ok (.imul, 1) := by decide +kernel
theorem dX12_coordinate_17 : decode cX12_coordinate 17 = .ok (.iload_n 2, 1) := by decide +kernel
theorem dX12_coordinate_18 : decode cX12_coordinate 18 = .ok (.iadd, 1) := by decide +kernel
theorem dX12_coordinate_19 : decode cX12_coordinate 19 = .ok (.iaload, 1) := by decide +kernel
theorem dX12_coordinate_20 : decode cX12_coordinate 20 = .ok (.goto 4, 3) := by decide +kernel
theorem dX12_coordinate_23 : decode cX12_coordinate 23 = .ok (.iconst (-1), 1) := by decide +kernel
theorem dX12_coordinate_24 : decode cX12_coordinate 24 = .ok (.ireturn, 1) := by decide +kernel
theorem dX12_put_0 : decode cX12_put 0 = .ok (.aload_n 0, 1) := by decide +kernel
theorem dX12_put_1 : decode cX12_put 1 = .ok (.iload_n 1, 1) := by decide +kernel
theorem dX12_put_2 : decode cX12_put 2 = .ok (.iload_n 2, 1) := by decide +kernel
theorem dX12_put_3 : decode cX12_put 3 = .ok (.invokevirtual 225, 3) := by decide +kernel
theorem dX12_put_6 : decode cX12_put 6 = .ok (.ifCond .ne 5, 3) := by decide +kernel
theorem dX12_put_9 : decode cX12_put 9 = .ok (.iconst (-1), 1) := by decide +kernel
theorem dX12_put_10 : decode cX12_put 10 = .ok (.ireturn, 1) := by decide +kernel
theorem dX12_put_11 : decode cX12_put 11 = .ok (.iload_n 3, 1) := by decide +kernel
theorem dX12_put_12 : decode cX12_put 12 = .ok (.iconst 0, 1) := by decide +kernel
theorem dX12_put_13 : decode cX12_put 13 = .ok (.bipush 100, 2) := by decide +kernel
theorem dX12_put_15 : decode cX12_put 15 = .ok (.invokestatic 92, 3) := by decide +kernel
theorem dX12_put_18 : decode cX12_put 18 = .ok (.ifCond .ne 6, 3) := by decide +kernel
theorem dX12_put_21 : decode cX12_put 21 = .ok (.bipush (-2), 2) := by decide +kernel
theorem dX12_put_23 : decode cX12_put 23 = .ok (.ireturn, 1) := by decide +kernel
theorem dX12_put_24 : decode cX12_put 24 = .ok (.aload_n 0, 1) := by decide +kernel
theorem dX12_put_25 : decode cX12_put 25 = .ok (.getfield 30, 3) := by decide +kernel
theorem dX12_put_28 : decode cX12_put 28 = .ok (.bipush 7, 2) := by decide +kernel
theorem dX12_put_30 : decode cX12_put 30 = .ok (.iload_n 1, 1) := by decide +kernel
theorem dX12_put_31 : decode cX12_put 31 = .ok (.imul, 1) := by decide +kernel
theorem dX12_put_32 : decode cX12_put 32 = .ok (.iload_n 2, 1) := by decide +kernel
theorem dX12_put_33 : decode cX12_put 33 = .ok (.iadd, 1) := by decide +kernel
theorem dX12_put_34 : decode cX12_put 34 = .ok (.iaload, 1) := by decide +kernel
theorem dX12_put_35 : decode cX12_put 35 = .ok (.istore 4, 2) := by decide +kernel
theorem dX12_put_37 : decode cX12_put 37 = .ok (.aload_n 0, 1) := by decide +kernel
theorem dX12_put_38 : decode cX12_put 38 = .ok (.getfield 30, 3) := by decide +kernel
theorem dX12_put_41 : decode cX12_put 41 = .ok (.bipush 7, 2) := by decide +kernel
theorem dX12_put_43 : decode cX12_put 43 = .ok (.iload_n 1, 1) := by decide +kernel
theorem dX12_put_44 : decode cX12_put 44 = .ok (.imul, 1) := by decide +kernel
theorem dX12_put_45 : decode cX12_put 45 = .ok (.iload_n 2, 1) := by decide +kernel
theorem dX12_put_46 : decode cX12_put 46 = .ok (.iadd, 1) := by decide +kernel
theorem dX12_put_47 : decode cX12_put 47 = .ok (.iload_n 3, 1) := by decide +kernel
theorem dX12_put_48 : decode cX12_put 48 = .ok (.iastore, 1) := by decide +kernel
theorem dX12_put_49 : decode cX12_put 49 = .ok (.iload 4, 2) := by decide +kernel
theorem dX12_put_51 : decode cX12_put 51 = .ok (.ireturn, 1) := by decide +kernel
theorem dX12_raise_0 : decode cX12_raise 0 = .ok (.iload_n 1, 1) := by decide +kernel
theorem dX12_raise_1 : decode cX12_raise 1 = .ok (.invokestatic 213, 3) := by decide +kernel
theorem dX12_raise_4 : decode cX12_raise 4 = .ok (.ifCond .eq 10, 3) := by decide +kernel
theorem dX12_raise_7 : decode cX12_raise 7 = .ok (.iload_n 2, 1) := by decide +kernel
theorem dX12_raise_8 : decode cX12_raise 8 = .ok (.invokestatic 107, 3) := by decide +kernel
theorem dX12_raise_11 : decode cX12_raise 11 = .ok (.ifCond .ne 5, 3) := by decide +kernel
theorem dX12_raise_14 : decode cX12_raise 14 = .ok (.iconst (-1), 1) := by decide +kernel
theorem dX12_raise_15 : decode cX12_raise 15 = .ok (.ireturn, 1) := by decide +kernel
theorem dX12_raise_16 : decode cX12_raise 16 = .ok (.aload_n 0, 1) := by decide +kernel
theorem dX12_raise_17 : decode cX12_raise 17 = .ok (.getfield 27, 3) := by decide +kernel
theorem dX12_raise_20 : decode cX12_raise 20 = .ok (.iload_n 1, 1) := by decide +kernel
theorem dX12_raise_21 : decode cX12_raise 21 = .ok (.iaload, 1) := by decide +kernel
theorem dX12_raise_22 : decode cX12_raise 22 = .ok (.iload_n 2, 1) := by decide +kernel
theorem dX12_raise_23 : decode cX12_raise 23 = .ok (.isub, 1) := by decide +kernel
theorem dX12_raise_24 : decode cX12_raise 24 = .ok (.invokestatic 96, 3) := by decide +kernel
theorem dX12_raise_27 : decode cX12_raise 27 = .ok (.ifCond .ne 6, 3) := by decide +kernel
theorem dX12_raise_30 : decode cX12_raise 30 = .ok (.bipush (-3), 2) := by decide +kernel
theorem dX12_raise_32 : decode cX12_raise 32 = .ok (.ireturn, 1) := by decide +kernel
theorem dX12_raise_33 : decode cX12_raise 33 = .ok (.aload_n 0, 1) := by decide +kernel
theorem dX12_raise_34 : decode cX12_raise 34 = .ok (.invokevirtual 139, 3) := by decide +kernel
theorem dX12_raise_37 : decode cX12_raise 37 = .ok (.aload_n 0, 1) := by decide +kernel
theorem dX12_raise_38 : decode cX12_raise 38 = .ok (.iload_n 1, 1) := by decide +kernel
theorem dX12_raise_39 : decode cX12_raise 39 = .ok (.invokevirtual 228, 3) := by decide +kernel
theorem dX12_raise_42 : decode cX12_raise 42 = .ok (.aload_n 0, 1) := by decide +kernel
theorem dX12_raise_43 : decode cX12_raise 43 = .ok (.iload_n 2, 1) := by decide +kernel
theorem dX12_raise_44 : decode cX12_raise 44 = .ok (.invokevirtual 145, 3) := by decide +kernel
theorem dX12_raise_47 : decode cX12_raise 47 = .ok (.aload_n 0, 1) := by decide +kernel
theorem dX12_raise_48 : decode cX12_raise 48 = .ok (.iload_n 1, 1) := by decide +kernel
theorem dX12_raise_49 : decode cX12_raise 49 = .ok (.invokevirtual 222, 3) := by decide +kernel
theorem dX12_raise_52 : decode cX12_raise 52 = .ok (.aload_n 0, 1) := by decide +kernel
theorem dX12_raise_53 : decode cX12_raise 53 = .ok (.getfield 131, 3) := by decide +kernel
theorem dX12_raise_56 : decode cX12_raise 56 = .ok (.ireturn, 1) := by decide +kernel
theorem dX12_add_0 : decode cX12_add 0 = .ok (.iload_n 1, 1) := by decide +kernel
theorem dX12_add_1 : decode cX12_add 1 = .ok (.invokestatic 213, 3) := by decide +kernel
theorem dX12_add_4 : decode cX12_add 4 = .ok (.ifCond .eq 10, 3) := by decide +kernel
theorem dX12_add_7 : decode cX12_add 7 = .ok (.iload_n 2, 1) := by decide +kernel
theorem dX12_add_8 : decode cX12_add 8 = .ok (.invokestatic 213, 3) := by decide +kernel
theorem dX12_add_11 : decode cX12_add 11 = .ok (.ifCond .ne 5, 3) := by decide +kernel
theorem dX12_add_14 : decode cX12_add 14 = .ok (.iconst (-1), 1) := by decide +kernel
theorem dX12_add_15 : decode cX12_add 15 = .ok (.ireturn, 1) := by decide +kernel
theorem dX12_add_16 : decode cX12_add 16 = .ok (.iload_n 3, 1) := by decide +kernel
theorem dX12_add_17 : decode cX12_add 17 = .ok (.iconst 0, 1) := by decide +kernel
theorem dX12_add_18 : decode cX12_add 18 = .ok (.bipush 100, 2) := by decide +kernel
theorem dX12_add_20 : decode cX12_add 20 = .ok (.invokestatic 92, 3) := by decide +kernel
theorem dX12_add_23 : decode cX12_add 23 = .ok (.ifCond .ne 6, 3) := by decide +kernel
theorem dX12_add_26 : decode cX12_add 26 = .ok (.bipush (-2), 2) := by decide +kernel
theorem dX12_add_28 : decode cX12_add 28 = .ok (.ireturn, 1) := by decide +kernel
theorem dX12_add_29 : decode cX12_add 29 = .ok (.aload_n 0, 1) := by decide +kernel
theorem dX12_add_30 : decode cX12_add 30 = .ok (.getfield 27, 3) := by decide +kernel
theorem dX12_add_33 : decode cX12_add 33 = .ok (.iload_n 1, 1) := by decide +kernel
theorem dX12_add_34 : decode cX12_add 34 = .ok (.iaload, 1) := by decide +kernel
theorem dX12_add_35 : decode cX12_add 35 = .ok (.aload_n 0, 1) := by decide +kernel
theorem dX12_add_36 : decode cX12_add 36 = .ok (.getfield 27, 3) := by decide +kernel
theorem dX12_add_39 : decode cX12_add 39 = .ok (.iload_n 2, 1) := by decide +kernel
theorem dX12_add_40 : decode cX12_add 40 = .ok (.iaload, 1) := by decide +kernel
theorem dX12_add_41 : decode cX12_add 41 = .ok (.if_icmp .eq 6, 3) := by decide +kernel
theorem dX12_add_44 : decode cX12_add 44 = .ok (.bipush (-3), 2) := by decide +kernel
theorem dX12_add_46 : decode cX12_add 46 = .ok (.ireturn, 1) := by decide +kernel
theorem dX12_add_47 : decode cX12_add 47 = .ok (.iconst 0, 1) := by decide +kernel
theorem dX12_add_48 : decode cX12_add 48 = .ok (.istore 4, 2) := by decide +kernel
theorem dX12_add_50 : decode cX12_add 50 = .ok (.iload 4, 2) := by decide +kernel
theorem dX12_add_52 : decode cX12_add 52 = .ok (.bipush 7, 2) := by decide +kernel
theorem dX12_add_54 : decode cX12_add 54 = .ok (.if_icmp .ge 51, 3) := by decide +kernel
theorem dX12_add_57 : decode cX12_add 57 = .ok (.aload_n 0, 1) := by decide +kernel
theorem dX12_add_58 : decode cX12_add 58 = .ok (.getfield 30, 3) := by decide +kernel
theorem dX12_add_61 : decode cX12_add 61 = .ok (.bipush 7, 2) := by decide +kernel
theorem dX12_add_63 : decode cX12_add 63 = .ok (.iload_n 1, 1) := by decide +kernel
theorem dX12_add_64 : decode cX12_add 64 = .ok (.imul, 1) := by decide +kernel
theorem dX12_add_65 : decode cX12_add 65 = .ok (.iload 4, 2) := by decide +kernel
theorem dX12_add_67 : decode cX12_add 67 = .ok (.iadd, 1) := by decide +kernel
theorem dX12_add_68 : decode cX12_add 68 = .ok (.aload_n 0, 1) := by decide +kernel
theorem dX12_add_69 : decode cX12_add 69 = .ok (.getfield 30, 3) := by decide +kernel
theorem dX12_add_72 : decode cX12_add 72 = .ok (.bipush 7, 2) := by decide +kernel
theorem dX12_add_74 : decode cX12_add 74 = .ok (.iload_n 1, 1) := by decide +kernel
theorem dX12_add_75 : decode cX12_add 75 = .ok (.imul, 1) := by decide +kernel
theorem dX12_add_76 : decode cX12_add 76 = .ok (.iload 4, 2) := by decide +kernel
theorem dX12_add_78 : decode cX12_add 78 = .ok (.iadd, 1) := by decide +kernel
theorem dX12_add_79 : decode cX12_add 79 = .ok (.iaload, 1) := by decide +kernel
theorem dX12_add_80 : decode cX12_add 80 = .ok (.aload_n 0, 1) := by decide +kernel
theorem dX12_add_81 : decode cX12_add 81 = .ok (.getfield 30, 3) := by decide +kernel
theorem dX12_add_84 : decode cX12_add 84 = .ok (.bipush 7, 2) := by decide +kernel
theorem dX12_add_86 : decode cX12_add 86 = .ok (.iload_n 2, 1) := by decide +kernel
theorem dX12_add_87 : decode cX12_add 87 = .ok (.imul, 1) := by decide +kernel
theorem dX12_add_88 : decode cX12_add 88 = .ok (.iload 4, 2) := by decide +kernel
theorem dX12_add_90 : decode cX12_add 90 = .ok (.iadd, 1) := by decide +kernel
theorem dX12_add_91 : decode cX12_add 91 = .ok (.iaload, 1) := by decide +kernel
theorem dX12_add_92 : decode cX12_add 92 = .ok (.iload_n 3, 1) := by decide +kernel
theorem dX12_add_93 : decode cX12_add 93 = .ok (.imul, 1) := by decide +kernel
theorem dX12_add_94 : decode cX12_add 94 = .ok (.iadd, 1) := by decide +kernel
theorem dX12_add_95 : decode cX12_add 95 = .ok (.bipush 101, 2) := by decide +kernel
theorem dX12_add_97 : decode cX12_add 97 = .ok (.irem, 1) := by decide +kernel
theorem dX12_add_98 : decode cX12_add 98 = .ok (.iastore, 1) := by decide +kernel
theorem dX12_add_99 : decode cX12_add 99 = .ok (.iinc 4 1, 3) := by decide +kernel
theorem dX12_add_102 : decode cX12_add 102 = .ok (.goto (-52), 3) := by decide +kernel
theorem dX12_add_105 : decode cX12_add 105 = .ok (.aload_n 0, 1) := by decide +kernel
theorem dX12_add_106 : decode cX12_add 106 = .ok (.getfield 27, 3) := by decide +kernel
theorem dX12_add_109 : decode cX12_add 109 = .ok (.iload_n 1, 1) := by decide +kernel
theorem dX12_add_110 : decode cX12_add 110 = .ok (.iaload, 1) := by decide +kernel
theorem dX12_add_111 : decode cX12_add 111 = .ok (.ireturn, 1) := by decide +kernel
theorem dX12_product_0 : decode cX12_product 0 = .ok (.iload_n 1, 1) := by decide +kernel
theorem dX12_product_1 : decode cX12_product 1 = .ok (.invokestatic 213, 3) := by decide +kernel
theorem dX12_product_4 : decode cX12_product 4 = .ok (.ifCond .eq 10, 3) := by decide +kernel
theorem dX12_product_7 : decode cX12_product 7 = .ok (.iload_n 2, 1) := by decide +kernel
theorem dX12_product_8 : decode cX12_product 8 = .ok (.invokestatic 213, 3) := by decide +kernel
theorem dX12_product_11 : decode cX12_product 11 = .ok (.ifCond .ne 5, 3) := by decide +kernel
theorem dX12_product_14 : decode cX12_product 14 = .ok (.iconst (-1), 1) := by decide +kernel
theorem dX12_product_15 : decode cX12_product 15 = .ok (.ireturn, 1) := by decide +kernel
theorem dX12_product_16 : decode cX12_product 16 = .ok (.aload_n 0, 1) := by decide +kernel
theorem dX12_product_17 : decode cX12_product 17 = .ok (.getfield 27, 3) := by decide +kernel
theorem dX12_product_20 : decode cX12_product 20 = .ok (.iload_n 1, 1) := by decide +kernel
theorem dX12_product_21 : decode cX12_product 21 = .ok (.iaload, 1) := by decide +kernel
theorem dX12_product_22 : decode cX12_product 22 = .ok (.aload_n 0, 1) := by decide +kernel
theorem dX12_product_23 : decode cX12_product 23 = .ok (.getfield 27, 3) := by decide +kernel
theorem dX12_product_26 : decode cX12_product 26 = .ok (.iload_n 2, 1) := by decide +kernel
theorem dX12_product_27 : decode cX12_product 27 = .ok (.iaload, 1) := by decide +kernel
theorem dX12_product_28 : decode cX12_product 28 = .ok (.if_icmp .eq 5, 3) := by decide +kernel
theorem dX12_product_31 : decode cX12_product 31 = .ok (.iconst 0, 1) := by decide +kernel
theorem dX12_product_32 : decode cX12_product 32 = .ok (.ireturn, 1) := by decide +kernel
theorem dX12_product_33 : decode cX12_product 33 = .ok (.aload_n 0, 1) := by decide +kernel
theorem dX12_product_34 : decode cX12_product 34 = .ok (.invokevirtual 139, 3) := by decide +kernel
theorem dX12_product_37 : decode cX12_product 37 = .ok (.aload_n 0, 1) := by decide +kernel
theorem dX12_product_38 : decode cX12_product 38 = .ok (.getfield 27, 3) := by decide +kernel
theorem dX12_product_41 : decode cX12_product 41 = .ok (.iload_n 1, 1) := by decide +kernel
theorem dX12_product_42 : decode cX12_product 42 = .ok (.iaload, 1) := by decide +kernel
theorem dX12_product_43 : decode cX12_product 43 = .ok (.istore_n 3, 1) := by decide +kernel
theorem dX12_product_44 : decode cX12_product 44 = .ok (.iconst 0, 1) := by decide +kernel
theorem dX12_product_45 : decode cX12_product 45 = .ok (.istore 4, 2) := by decide +kernel
theorem dX12_product_47 : decode cX12_product 47 = .ok (.iconst 0, 1) := by decide +kernel
theorem dX12_product_48 : decode cX12_product 48 = .ok (.istore 5, 2) := by decide +kernel
theorem dX12_product_50 : decode cX12_product 50 = .ok (.iload 5, 2) := by decide +kernel
theorem dX12_product_52 : decode cX12_product 52 = .ok (.aload_n 0, 1) := by decide +kernel
theorem dX12_product_53 : decode cX12_product 53 = .ok (.iload_n 3, 1) := by decide +kernel
theorem dX12_product_54 : decode cX12_product 54 = .ok (.invokevirtual 100, 3) := by decide +kernel
theorem dX12_product_57 : decode cX12_product 57 = .ok (.if_icmp .ge 74, 3) := by decide +kernel
theorem dX12_product_60 : decode cX12_product 60 = .ok (.iconst 0, 1) := by decide +kernel
theorem dX12_product_61 : decode cX12_product 61 = .ok (.istore 6, 2) := by decide +kernel
theorem dX12_product_63 : decode cX12_product 63 = .ok (.iload 6, 2) := by decide +kernel
theorem dX12_product_65 : decode cX12_product 65 = .ok (.aload_n 0, 1) := by decide +kernel
theorem dX12_product_66 : decode cX12_product 66 = .ok (.iload_n 3, 1) := by decide +kernel
theorem dX12_product_67 : decode cX12_product 67 = .ok (.invokevirtual 100, 3) := by decide +kernel
theorem dX12_product_70 : decode cX12_product 70 = .ok (.if_icmp .ge 55, 3) := by decide +kernel
theorem dX12_product_73 : decode cX12_product 73 = .ok (.iload 4, 2) := by decide +kernel
theorem dX12_product_75 : decode cX12_product 75 = .ok (.aload_n 0, 1) := by decide +kernel
theorem dX12_product_76 : decode cX12_product 76 = .ok (.getfield 30, 3) := by decide +kernel
theorem dX12_product_79 : decode cX12_product 79 = .ok (.bipush 7, 2) := by decide +kernel
theorem dX12_product_81 : decode cX12_product 81 = .ok (.iload_n 1, 1) := by decide +kernel
theorem dX12_product_82 : decode cX12_product 82 = .ok (.imul, 1) := by decide +kernel
theorem dX12_product_83 : decode cX12_product 83 = .ok (.iload 5, 2) := by decide +kernel
theorem dX12_product_85 : decode cX12_product 85 = .ok (.iadd, 1) := by decide +kernel
theorem dX12_product_86 : decode cX12_product 86 = .ok (.iaload, 1) := by decide +kernel
theorem dX12_product_87 : decode cX12_product 87 = .ok (.aload_n 0, 1) := by decide +kernel
theorem dX12_product_88 : decode cX12_product 88 = .ok (.getfield 30, 3) := by decide +kernel
theorem dX12_product_91 : decode cX12_product 91 = .ok (.bipush 7, 2) := by decide +kernel
theorem dX12_product_93 : decode cX12_product 93 = .ok (.iload_n 2, 1) := by decide +kernel
theorem dX12_product_94 : decode cX12_product 94 = .ok (.imul, 1) := by decide +kernel
theorem dX12_product_95 : decode cX12_product 95 = .ok (.iload 6, 2) := by decide +kernel
theorem dX12_product_97 : decode cX12_product 97 = .ok (.iadd, 1) := by decide +kernel
theorem dX12_product_98 : decode cX12_product 98 = .ok (.iaload, 1) := by decide +kernel
theorem dX12_product_99 : decode cX12_product 99 = .ok (.imul, 1) := by decide +kernel
theorem dX12_product_100 : decode cX12_product 100 = .ok (.bipush 101, 2) := by decide +kernel
theorem dX12_product_102 : decode cX12_product 102 = .ok (.irem, 1) := by decide +kernel
theorem dX12_product_103 : decode cX12_product 103 = .ok (.aload_n 0, 1) := by decide +kernel
theorem dX12_product_104 : decode cX12_product 104 = .ok (.iload_n 3, 1) := by decide +kernel
theorem dX12_product_105 : decode cX12_product 105 = .ok (.iload 5, 2) := by decide +kernel
theorem dX12_product_107 : decode cX12_product 107 = .ok (.iload 6, 2) := by decide +kernel
theorem dX12_product_109 : decode cX12_product 109 = .ok (.invokevirtual 148, 3) := by decide +kernel
theorem dX12_product_112 : decode cX12_product 112 = .ok (.imul, 1) := by decide +kernel
theorem dX12_product_113 : decode cX12_product 113 = .ok (.iadd, 1) := by decide +kernel
theorem dX12_product_114 : decode cX12_product 114 = .ok (.bipush 101, 2) := by decide +kernel
theorem dX12_product_116 : decode cX12_product 116 = .ok (.irem, 1) := by decide +kernel
theorem dX12_product_117 : decode cX12_product 117 = .ok (.istore 4, 2) := by decide +kernel
theorem dX12_product_119 : decode cX12_product 119 = .ok (.iinc 6 1, 3) := by decide +kernel
theorem dX12_product_122 : decode cX12_product 122 = .ok (.goto (-59), 3) := by decide +kernel
theorem dX12_product_125 : decode cX12_product 125 = .ok (.iinc 5 1, 3) := by decide +kernel
theorem dX12_product_128 : decode cX12_product 128 = .ok (.goto (-78), 3) := by decide +kernel
theorem dX12_product_131 : decode cX12_product 131 = .ok (.iload 4, 2) := by decide +kernel
theorem dX12_product_133 : decode cX12_product 133 = .ok (.ireturn, 1) := by decide +kernel
theorem dX12_isLowest_0 : decode cX12_isLowest 0 = .ok (.iload_n 1, 1) := by decide +kernel
theorem dX12_isLowest_1 : decode cX12_isLowest 1 = .ok (.invokestatic 213, 3) := by decide +kernel
theorem dX12_isLowest_4 : decode cX12_isLowest 4 = .ok (.ifCond .ne 5, 3) := by decide +kernel
theorem dX12_isLowest_7 : decode cX12_isLowest 7 = .ok (.iconst (-1), 1) := by decide +kernel
theorem dX12_isLowest_8 : decode cX12_isLowest 8 = .ok (.ireturn, 1) := by decide +kernel
theorem dX12_isLowest_9 : decode cX12_isLowest 9 = .ok (.aload_n 0, 1) := by decide +kernel
theorem dX12_isLowest_10 : decode cX12_isLowest 10 = .ok (.invokevirtual 139, 3) := by decide +kernel
theorem dX12_isLowest_13 : decode cX12_isLowest 13 = .ok (.iconst 1, 1) := by decide +kernel
theorem dX12_isLowest_14 : decode cX12_isLowest 14 = .ok (.istore_n 2, 1) := by decide +kernel
theorem dX12_isLowest_15 : decode cX12_isLowest 15 = .ok (.iload_n 2, 1) := by decide +kernel
theorem dX12_isLowest_16 : decode cX12_isLowest 16 = .ok (.aload_n 0, 1) := by decide +kernel
theorem dX12_isLowest_17 : decode cX12_isLowest 17 = .ok (.getfield 27, 3) := by decide +kernel
theorem dX12_isLowest_20 : decode cX12_isLowest 20 = .ok (.iload_n 1, 1) := by decide +kernel
theorem dX12_isLowest_21 : decode cX12_isLowest 21 = .ok (.iaload, 1) := by decide +kernel
theorem dX12_isLowest_22 : decode cX12_isLowest 22 = .ok (.if_icmp .gt 28, 3) := by decide +kernel
theorem dX12_isLowest_25 : decode cX12_isLowest 25 = .ok (.aload_n 0, 1) := by decide +kernel
theorem dX12_isLowest_26 : decode cX12_isLowest 26 = .ok (.iload_n 1, 1) := by decide +kernel
theorem dX12_isLowest_27 : decode cX12_isLowest 27 = .ok (.invokevirtual 228, 3) := by decide +kernel
theorem dX12_isLowest_30 : decode cX12_isLowest 30 = .ok (.aload_n 0, 1) := by decide +kernel
theorem dX12_isLowest_31 : decode cX12_isLowest 31 = .ok (.iload_n 2, 1) := by decide +kernel
theorem dX12_isLowest_32 : decode cX12_isLowest 32 = .ok (.invokevirtual 145, 3) := by decide +kernel
theorem dX12_isLowest_35 : decode cX12_isLowest 35 = .ok (.aload_n 0, 1) := by decide +kernel
theorem dX12_isLowest_36 : decode cX12_isLowest 36 = .ok (.invokevirtual 231, 3) := by decide +kernel
theorem dX12_isLowest_39 : decode cX12_isLowest 39 = .ok (.ifCond .ne 5, 3) := by decide +kernel
theorem dX12_isLowest_42 : decode cX12_isLowest 42 = .ok (.iconst 0, 1) := by decide +kernel
theorem dX12_isLowest_43 : decode cX12_isLowest 43 = .ok (.ireturn, 1) := by decide +kernel
theorem dX12_isLowest_44 : decode cX12_isLowest 44 = .ok (.iinc 2 1, 3) := by decide +kernel
theorem dX12_isLowest_47 : decode cX12_isLowest 47 = .ok (.goto (-32), 3) := by decide +kernel
theorem dX12_isLowest_50 : decode cX12_isLowest 50 = .ok (.iconst 1, 1) := by decide +kernel
theorem dX12_isLowest_51 : decode cX12_isLowest 51 = .ok (.ireturn, 1) := by decide +kernel
theorem dX12_endsAsNought_0 : decode cX12_endsAsNought 0 = .ok (.iload_n 2, 1) := by decide +kernel
theorem dX12_endsAsNought_1 : decode cX12_endsAsNought 1 = .ok (.istore_n 3, 1) := by decide +kernel
theorem dX12_endsAsNought_2 : decode cX12_endsAsNought 2 = .ok (.aload_n 0, 1) := by decide +kernel
theorem dX12_endsAsNought_3 : decode cX12_endsAsNought 3 = .ok (.iconst 0, 1) := by decide +kernel
theorem dX12_endsAsNought_4 : decode cX12_endsAsNought 4 = .ok (.iconst 0, 1) := by decide +kernel
theorem dX12_endsAsNought_5 : decode cX12_endsAsNought 5 = .ok (.invokevirtual 142, 3) := by decide +kernel
theorem dX12_endsAsNought_8 : decode cX12_endsAsNought 8 = .ok (.iconst 0, 1) := by decide +kernel
theorem dX12_endsAsNought_9 : decode cX12_endsAsNought 9 = .ok (.istore 4, 2) := by decide +kernel
theorem dX12_endsAsNought_11 : decode cX12_endsAsNought 11 = .ok (.iload 4, 2) := by decide +kernel
theorem dX12_endsAsNought_13 : decode cX12_endsAsNought 13 = .ok (.iload_n 1, 1) := by decide +kernel
theorem dX12_endsAsNought_14 : decode cX12_endsAsNought 14 = .ok (.if_icmp .ge 58, 3) := by decide +kernel
theorem dX12_endsAsNought_17 : decode cX12_endsAsNought 17 = .ok (.iload_n 3, 1) := by decide +kernel
theorem dX12_endsAsNought_18 : decode cX12_endsAsNought 18 = .ok (.ldc 234, 2) := by decide +kernel
theorem dX12_endsAsNought_20 : decode cX12_endsAsNought 20 = .ok (.imul, 1) := by decide +kernel
theorem dX12_endsAsNought_21 : decode cX12_endsAsNought 21 = .ok (.sipush 12345, 3) := by decide +kernel
theorem dX12_endsAsNought_24 : decode cX12_endsAsNought 24 = .ok (.iadd, 1) := by decide +kernel
theorem dX12_endsAsNought_25 : decode cX12_endsAsNought 25 = .ok (.istore_n 3, 1) := by decide +kernel
theorem dX12_endsAsNought_26 : decode cX12_endsAsNought 26 = .ok (.iload_n 3, 1) := by decide +kernel
theorem dX12_endsAsNought_27 : decode cX12_endsAsNought 27 = .ok (.bipush 16, 2) := by decide +kernel
theorem dX12_endsAsNought_29 : decode cX12_endsAsNought 29 = .ok (.iushr, 1) := by decide +kernel
theorem dX12_endsAsNought_30 : decode cX12_endsAsNought 30 = .ok (.iconst 5, 1) := by decide +kernel
theorem dX12_endsAsNought_31 : decode cX12_endsAsNought 31 = .ok (.irem, 1) := by decide +kernel
theorem dX12_endsAsNought_32 : decode cX12_endsAsNought 32 = .ok (.iconst 2, 1) := by decide +kernel
theorem dX12_endsAsNought_33 : decode cX12_endsAsNought 33 = .ok (.isub, 1) := by decide +kernel
theorem dX12_endsAsNought_34 : decode cX12_endsAsNought 34 = .ok (.istore 5, 2) := by decide +kernel
theorem dX12_endsAsNought_36 : decode cX12_endsAsNought 36 = .ok (.aload_n 0, 1) := by decide +kernel
theorem dX12_endsAsNought_37 : decode cX12_endsAsNought 37 = .ok (.getfield 131, 3) := by decide +kernel
theorem dX12_endsAsNought_40 : decode cX12_endsAsNought 40 = .ok (.iload 5, 2) := by decide +kernel
theorem dX12_endsAsNought_42 : decode cX12_endsAsNought 42 = .ok (.isub, 1) := by decide +kernel
theorem dX12_endsAsNought_43 : decode cX12_endsAsNought 43 = .ok (.ifCond .ge 5, 3) := by decide +kernel
theorem dX12_endsAsNought_46 : decode cX12_endsAsNought 46 = .ok (.iconst 1, 1) := by decide +kernel
theorem dX12_endsAsNought_47 : decode cX12_endsAsNought 47 = .ok (.ireturn, 1) := by decide +kernel
theorem dX12_endsAsNought_48 : decode cX12_endsAsNought 48 = .ok (.aload_n 0, 1) := by decide +kernel
theorem dX12_endsAsNought_49 : decode cX12_endsAsNought 49 = .ok (.getfield 131, 3) := by decide +kernel
theorem dX12_endsAsNought_52 : decode cX12_endsAsNought 52 = .ok (.iload 5, 2) := by decide +kernel
theorem dX12_endsAsNought_54 : decode cX12_endsAsNought 54 = .ok (.isub, 1) := by decide +kernel
theorem dX12_endsAsNought_55 : decode cX12_endsAsNought 55 = .ok (.bipush 6, 2) := by decide +kernel
theorem dX12_endsAsNought_57 : decode cX12_endsAsNought 57 = .ok (.if_icmp .ge 9, 3) := by decide +kernel
theorem dX12_endsAsNought_60 : decode cX12_endsAsNought 60 = .ok (.aload_n 0, 1) := by decide +kernel
theorem dX12_endsAsNought_61 : decode cX12_endsAsNought 61 = .ok (.iload 5, 2) := by decide +kernel
theorem dX12_endsAsNought_63 : decode cX12_endsAsNought 63 = .ok (.invokevirtual 145, 3) := by decide +kernel
theorem dX12_endsAsNought_66 : decode cX12_endsAsNought 66 = .ok (.iinc 4 1, 3) := by decide +kernel
theorem dX12_endsAsNought_69 : decode cX12_endsAsNought 69 = .ok (.goto (-58), 3) := by decide +kernel
theorem dX12_endsAsNought_72 : decode cX12_endsAsNought 72 = .ok (.aload_n 0, 1) := by decide +kernel
theorem dX12_endsAsNought_73 : decode cX12_endsAsNought 73 = .ok (.invokevirtual 231, 3) := by decide +kernel
theorem dX12_endsAsNought_76 : decode cX12_endsAsNought 76 = .ok (.ireturn, 1) := by decide +kernel
theorem dX12_odds_0 : decode cX12_odds 0 = .ok (.iload_n 1, 1) := by decide +kernel
theorem dX12_odds_1 : decode cX12_odds 1 = .ok (.iconst 1, 1) := by decide +kernel
theorem dX12_odds_2 : decode cX12_odds 2 = .ok (.bipush 9, 2) := by decide +kernel
theorem dX12_odds_4 : decode cX12_odds 4 = .ok (.invokestatic 92, 3) := by decide +kernel
theorem dX12_odds_7 : decode cX12_odds 7 = .ok (.ifCond .eq 23, 3) := by decide +kernel
theorem dX12_odds_10 : decode cX12_odds 10 = .ok (.iload_n 3, 1) := by decide +kernel
theorem dX12_odds_11 : decode cX12_odds 11 = .ok (.iconst 1, 1) := by decide +kernel
theorem dX12_odds_12 : decode cX12_odds 12 = .ok (.bipush 30, 2) := by decide +kernel
theorem dX12_odds_14 : decode cX12_odds 14 = .ok (.invokestatic 92, 3) := by decide +kernel
theorem dX12_odds_17 : decode cX12_odds 17 = .ok (.ifCond .eq 13, 3) := by decide +kernel
theorem dX12_odds_20 : decode cX12_odds 20 = .ok (.iload 4, 2) := by decide +kernel
theorem dX12_odds_22 : decode cX12_odds 22 = .ok (.iconst 0, 1) := by decide +kernel
theorem dX12_odds_23 : decode cX12_odds 23 = .ok (.iconst 1, 1) := by decide +kernel
theorem dX12_odds_24 : decode cX12_odds 24 = .ok (.invokestatic 92, 3) := by decide +kernel
theorem dX12_odds_27 : decode cX12_odds 27 = .ok (.ifCond .ne 7, 3) := by decide +kernel
theorem dX12_odds_30 : decode cX12_odds 30 = .ok (.ldc2_w 235, 3) := by decide +kernel
theorem dX12_odds_33 : decode cX12_odds 33 = .ok (.lreturn, 1) := by decide +kernel
theorem dX12_odds_34 : decode cX12_odds 34 = .ok (.aload_n 0, 1) := by decide +kernel
theorem dX12_odds_35 : decode cX12_odds 35 = .ok (.invokevirtual 139, 3) := by decide +kernel
theorem dX12_odds_38 : decode cX12_odds 38 = .ok (.iconst 0, 1) := by decide +kernel
theorem dX12_odds_39 : decode cX12_odds 39 = .ok (.istore 5, 2) := by decide +kernel
theorem dX12_odds_41 : decode cX12_odds 41 = .ok (.iconst 0, 1) := by decide +kernel
theorem dX12_odds_42 : decode cX12_odds 42 = .ok (.istore 6, 2) := by decide +kernel
theorem dX12_odds_44 : decode cX12_odds 44 = .ok (.iload 6, 2) := by decide +kernel
theorem dX12_odds_46 : decode cX12_odds 46 = .ok (.iload_n 3, 1) := by decide +kernel
theorem dX12_odds_47 : decode cX12_odds 47 = .ok (.if_icmp .ge 31, 3) := by decide +kernel
theorem dX12_odds_50 : decode cX12_odds 50 = .ok (.iload 5, 2) := by decide +kernel
theorem dX12_odds_52 : decode cX12_odds 52 = .ok (.aload_n 0, 1) := by decide +kernel
theorem dX12_odds_53 : decode cX12_odds 53 = .ok (.iload_n 1, 1) := by decide +kernel
theorem dX12_odds_54 : decode cX12_odds 54 = .ok (.iload_n 2, 1) := by decide +kernel
theorem dX12_odds_55 : decode cX12_odds 55 = .ok (.iload 6, 2) := by decide +kernel
theorem dX12_odds_57 : decode cX12_odds 57 = .ok (.iadd, 1) := by decide +kernel
theorem dX12_odds_58 : decode cX12_odds 58 = .ok (.invokevirtual 237, 3) := by decide +kernel
theorem dX12_odds_61 : decode cX12_odds 61 = .ok (.ifCond .eq 7, 3) := by decide +kernel
theorem dX12_odds_64 : decode cX12_odds 64 = .ok (.iconst 1, 1) := by decide +kernel
theorem dX12_odds_65 : decode cX12_odds 65 = .ok (.goto 4, 3) := by decide +kernel
theorem dX12_odds_68 : decode cX12_odds 68 = .ok (.iconst 0, 1) := by decide +kernel
theorem dX12_odds_69 : decode cX12_odds 69 = .ok (.iadd, 1) := by decide +kernel
theorem dX12_odds_70 : decode cX12_odds 70 = .ok (.istore 5, 2) := by decide +kernel
theorem dX12_odds_72 : decode cX12_odds 72 = .ok (.iinc 6 1, 3) := by decide +kernel
theorem dX12_odds_75 : decode cX12_odds 75 = .ok (.goto (-31), 3) := by decide +kernel
theorem dX12_odds_78 : decode cX12_odds 78 = .ok (.iload 5, 2) := by decide +kernel
theorem dX12_odds_80 : decode cX12_odds 80 = .ok (.istore 6, 2) := by decide +kernel
theorem dX12_odds_82 : decode cX12_odds 82 = .ok (.iload_n 3, 1) := by decide +kernel
theorem dX12_odds_83 : decode cX12_odds 83 = .ok (.istore 7, 2) := by decide +kernel
theorem dX12_odds_85 : decode cX12_odds 85 = .ok (.iload 7, 2) := by decide +kernel
theorem dX12_odds_87 : decode cX12_odds 87 = .ok (.ifCond .eq 21, 3) := by decide +kernel
theorem dX12_odds_90 : decode cX12_odds 90 = .ok (.iload 6, 2) := by decide +kernel
theorem dX12_odds_92 : decode cX12_odds 92 = .ok (.iload 7, 2) := by decide +kernel
theorem dX12_odds_94 : decode cX12_odds 94 = .ok (.irem, 1) := by decide +kernel
theorem dX12_odds_95 : decode cX12_odds 95 = .ok (.istore 8, 2) := by decide +kernel
theorem dX12_odds_97 : decode cX12_odds 97 = .ok (.iload 7, 2) := by decide +kernel
theorem dX12_odds_99 : decode cX12_odds 99 = .ok (.istore 6, 2) := by decide +kernel
theorem dX12_odds_101 : decode cX12_odds 101 = .ok (.iload 8, 2) := by decide +kernel
theorem dX12_odds_103 : decode cX12_odds 103 = .ok (.istore 7, 2) := by decide +kernel
theorem dX12_odds_105 : decode cX12_odds 105 = .ok (.goto (-20), 3) := by decide +kernel
theorem dX12_odds_108 : decode cX12_odds 108 = .ok (.iload 4, 2) := by decide +kernel
theorem dX12_odds_110 : decode cX12_odds 110 = .ok (.ifCond .ne 12, 3) := by decide +kernel
theorem dX12_odds_113 : decode cX12_odds 113 = .ok (.iload 5, 2) := by decide +kernel
theorem dX12_odds_115 : decode cX12_odds 115 = .ok (.iload 6, 2) := by decide +kernel
theorem dX12_odds_117 : decode cX12_odds 117 = .ok (.idiv, 1) := by decide +kernel
theorem dX12_odds_118 : decode cX12_odds 118 = .ok (.i2l, 1) := by decide +kernel
theorem dX12_odds_119 : decode cX12_odds 119 = .ok (.goto 8, 3) := by decide +kernel
theorem dX12_odds_122 : decode cX12_odds 122 = .ok (.iload_n 3, 1) := by decide +kernel
theorem dX12_odds_123 : decode cX12_odds 123 = .ok (.iload 6, 2) := by decide +kernel
theorem dX12_odds_125 : decode cX12_odds 125 = .ok (.idiv, 1) := by decide +kernel
theorem dX12_odds_126 : decode cX12_odds 126 = .ok (.i2l, 1) := by decide +kernel
theorem dX12_odds_127 : decode cX12_odds 127 = .ok (.lreturn, 1) := by decide +kernel
theorem dX12_plan_0 : decode cX12_plan 0 = .ok (.iload_n 1, 1) := by decide +kernel
theorem dX12_plan_1 : decode cX12_plan 1 = .ok (.iconst (-1), 1) := by decide +kernel
theorem dX12_plan_2 : decode cX12_plan 2 = .ok (.if_icmp .ne 10, 3) := by decide +kernel
theorem dX12_plan_5 : decode cX12_plan 5 = .ok (.aload_n 0, 1) := by decide +kernel
theorem dX12_plan_6 : decode cX12_plan 6 = .ok (.iconst 0, 1) := by decide +kernel
theorem dX12_plan_7 : decode cX12_plan 7 = .ok (.putfield 240, 3) := by decide +kernel
theorem dX12_plan_10 : decode cX12_plan 10 = .ok (.iconst 0, 1) := by decide +kernel
theorem dX12_plan_11 : decode cX12_plan 11 = .ok (.ireturn, 1) := by decide +kernel
theorem dX12_plan_12 : decode cX12_plan 12 = .ok (.iload_n 1, 1) := by decide +kernel
theorem dX12_plan_13 : decode cX12_plan 13 = .ok (.iconst 0, 1) := by decide +kernel
theorem dX12_plan_14 : decode cX12_plan 14 = .ok (.iconst 2, 1) := by decide +kernel
theorem dX12_plan_15 : decode cX12_plan 15 = .ok (.invokestatic 92, 3) := by decide +kernel
theorem dX12_plan_18 : decode cX12_plan 18 = .ok (.ifCond .ne 5, 3) := by decide +kernel
theorem dX12_plan_21 : decode cX12_plan 21 = .ok (.iconst (-1), 1) := by decide +kernel
theorem dX12_plan_22 : decode cX12_plan 22 = .ok (.ireturn, 1) := by decide +kernel
theorem dX12_plan_23 : decode cX12_plan 23 = .ok (.iload_n 1, 1) := by decide +kernel
theorem dX12_plan_24 : decode cX12_plan 24 = .ok (.ifCond .ne 13, 3) := by decide +kernel
theorem dX12_plan_27 : decode cX12_plan 27 = .ok (.iload_n 2, 1) := by decide +kernel
theorem dX12_plan_28 : decode cX12_plan 28 = .ok (.invokestatic 107, 3) := by decide +kernel
theorem dX12_plan_31 : decode cX12_plan 31 = .ok (.ifCond .ne 34, 3) := by decide +kernel
theorem dX12_plan_34 : decode cX12_plan 34 = .ok (.goto 28, 3) := by decide +kernel
theorem dX12_plan_37 : decode cX12_plan 37 = .ok (.iload_n 1, 1) := by decide +kernel
theorem dX12_plan_38 : decode cX12_plan 38 = .ok (.iconst 1, 1) := by decide +kernel
theorem dX12_plan_39 : decode cX12_plan 39 = .ok (.if_icmp .ne 16, 3) := by decide +kernel
theorem dX12_plan_42 : decode cX12_plan 42 = .ok (.iload_n 2, 1) := by decide +kernel
theorem dX12_plan_43 : decode cX12_plan 43 = .ok (.iconst 0, 1) := by decide +kernel
theorem dX12_plan_44 : decode cX12_plan 44 = .ok (.bipush 100, 2) := by decide +kernel
theorem dX12_plan_46 : decode cX12_plan 46 = .ok (.invokestatic 92, 3) := by decide +kernel
theorem dX12_plan_49 : decode cX12_plan 49 = .ok (.ifCond .ne 16, 3) := by decide +kernel
theorem dX12_plan_52 : decode cX12_plan 52 = .ok (.goto 10, 3) := by decide +kernel
theorem dX12_plan_55 : decode cX12_plan 55 = .ok (.iload_n 2, 1) := by decide +kernel
theorem dX12_plan_56 : decode cX12_plan 56 = .ok (.invokestatic 213, 3) := by decide +kernel
theorem dX12_plan_59 : decode cX12_plan 59 = .ok (.ifCond .ne 6, 3) := by decide +kernel
theorem dX12_plan_62 : decode cX12_plan 62 = .ok (.bipush (-2), 2) := by decide +kernel
theorem dX12_plan_64 : decode cX12_plan 64 = .ok (.ireturn, 1) := by decide +kernel
theorem dX12_plan_65 : decode cX12_plan 65 = .ok (.aload_n 0, 1) := by decide +kernel
theorem dX12_plan_66 : decode cX12_plan 66 = .ok (.getfield 240, 3) := by decide +kernel
theorem dX12_plan_69 : decode cX12_plan 69 = .ok (.bipush 8, 2) := by decide +kernel
theorem dX12_plan_71 : decode cX12_plan 71 = .ok (.if_icmp .ne 6, 3) := by decide +kernel
theorem dX12_plan_74 : decode cX12_plan 74 = .ok (.bipush (-4), 2) := by decide +kernel
theorem dX12_plan_76 : decode cX12_plan 76 = .ok (.ireturn, 1) := by decide +kernel
theorem dX12_plan_77 : decode cX12_plan 77 = .ok (.aload_n 0, 1) := by decide +kernel
theorem dX12_plan_78 : decode cX12_plan 78 = .ok (.getfield 39, 3) := by decide +kernel
theorem dX12_plan_81 : decode cX12_plan 81 = .ok (.aload_n 0, 1) := by decide +kernel
theorem dX12_plan_82 : decode cX12_plan 82 = .ok (.getfield 240, 3) := by decide +kernel
theorem dX12_plan_85 : decode cX12_plan 85 = .ok (.iload_n 1, 1) := by decide +kernel
theorem dX12_plan_86 : decode cX12_plan 86 = .ok (.iastore, 1) := by decide +kernel
theorem dX12_plan_87 : decode cX12_plan 87 = .ok (.aload_n 0, 1) := by decide +kernel
theorem dX12_plan_88 : decode cX12_plan 88 = .ok (.getfield 42, 3) := by decide +kernel
theorem dX12_plan_91 : decode cX12_plan 91 = .ok (.aload_n 0, 1) := by decide +kernel
theorem dX12_plan_92 : decode cX12_plan 92 = .ok (.getfield 240, 3) := by decide +kernel
theorem dX12_plan_95 : decode cX12_plan 95 = .ok (.iload_n 2, 1) := by decide +kernel
theorem dX12_plan_96 : decode cX12_plan 96 = .ok (.iastore, 1) := by decide +kernel
theorem dX12_plan_97 : decode cX12_plan 97 = .ok (.aload_n 0, 1) := by decide +kernel
theorem dX12_plan_98 : decode cX12_plan 98 = .ok (.dup, 1) := by decide +kernel
theorem dX12_plan_99 : decode cX12_plan 99 = .ok (.getfield 240, 3) := by decide +kernel
theorem dX12_plan_102 : decode cX12_plan 102 = .ok (.iconst 1, 1) := by decide +kernel
theorem dX12_plan_103 : decode cX12_plan 103 = .ok (.iadd, 1) := by decide +kernel
theorem dX12_plan_104 : decode cX12_plan 104 = .ok (.putfield 240, 3) := by decide +kernel
theorem dX12_plan_107 : decode cX12_plan 107 = .ok (.aload_n 0, 1) := by decide +kernel
theorem dX12_plan_108 : decode cX12_plan 108 = .ok (.getfield 240, 3) := by decide +kernel
theorem dX12_plan_111 : decode cX12_plan 111 = .ok (.ireturn, 1) := by decide +kernel
theorem dX12_rowDone_0 : decode cX12_rowDone 0 = .ok (.iload_n 1, 1) := by decide +kernel
theorem dX12_rowDone_1 : decode cX12_rowDone 1 = .ok (.ifCond .ne 38, 3) := by decide +kernel
theorem dX12_rowDone_4 : decode cX12_rowDone 4 = .ok (.aload_n 0, 1) := by decide +kernel
theorem dX12_rowDone_5 : decode cX12_rowDone 5 = .ok (.getfield 131, 3) := by decide +kernel
theorem dX12_rowDone_8 : decode cX12_rowDone 8 = .ok (.iload_n 2, 1) := by decide +kernel
theorem dX12_rowDone_9 : decode cX12_rowDone 9 = .ok (.isub, 1) := by decide +kernel
theorem dX12_rowDone_10 : decode cX12_rowDone 10 = .ok (.ifCond .ge 12, 3) := by decide +kernel
theorem dX12_rowDone_13 : decode cX12_rowDone 13 = .ok (.aload_n 0, 1) := by decide +kernel
theorem dX12_rowDone_14 : decode cX12_rowDone 14 = .ok (.iconst 0, 1) := by decide +kernel
theorem dX12_rowDone_15 : decode cX12_rowDone 15 = .ok (.iconst (-1), 1) := by decide +kernel
theorem dX12_rowDone_16 : decode cX12_rowDone 16 = .ok (.invokevirtual 142, 3) := by decide +kernel
theorem dX12_rowDone_19 : decode cX12_rowDone 19 = .ok (.goto 19, 3) := by decide +kernel
theorem dX12_rowDone_22 : decode cX12_rowDone 22 = .ok (.aload_n 0, 1) := by decide +kernel
theorem dX12_rowDone_23 : decode cX12_rowDone 23 = .ok (.getfield 131, 3) := by decide +kernel
theorem dX12_rowDone_26 : decode cX12_rowDone 26 = .ok (.iload_n 2, 1) := by decide +kernel
theorem dX12_rowDone_27 : decode cX12_rowDone 27 = .ok (.isub, 1) := by decide +kernel
theorem dX12_rowDone_28 : decode cX12_rowDone 28 = .ok (.bipush 6, 2) := by decide +kernel
theorem dX12_rowDone_30 : decode cX12_rowDone 30 = .ok (.if_icmp .ge 8, 3) := by decide +kernel
theorem dX12_rowDone_33 : decode cX12_rowDone 33 = .ok (.aload_n 0, 1) := by decide +kernel
theorem dX12_rowDone_34 : decode cX12_rowDone 34 = .ok (.iload_n 2, 1) := by decide +kernel
theorem dX12_rowDone_35 : decode cX12_rowDone 35 = .ok (.invokevirtual 145, 3) := by decide +kernel
theorem dX12_rowDone_38 : decode cX12_rowDone 38 = .ok (.return_, 1) := by decide +kernel
theorem dX12_rowDone_39 : decode cX12_rowDone 39 = .ok (.iconst 0, 1) := by decide +kernel
theorem dX12_rowDone_40 : decode cX12_rowDone 40 = .ok (.istore_n 3, 1) := by decide +kernel
theorem dX12_rowDone_41 : decode cX12_rowDone 41 = .ok (.iload_n 3, 1) := by decide +kernel
theorem dX12_rowDone_42 : decode cX12_rowDone 42 = .ok (.bipush 7, 2) := by decide +kernel
theorem dX12_rowDone_44 : decode cX12_rowDone 44 = .ok (.if_icmp .ge 74, 3) := by decide +kernel
theorem dX12_rowDone_47 : decode cX12_rowDone 47 = .ok (.iload_n 1, 1) := by decide +kernel
theorem dX12_rowDone_48 : decode cX12_rowDone 48 = .ok (.iconst 1, 1) := by decide +kernel
theorem dX12_rowDone_49 : decode cX12_rowDone 49 = .ok (.if_icmp .ne 23, 3) := by decide +kernel
theorem dX12_rowDone_52 : decode cX12_rowDone 52 = .ok (.aload_n 0, 1) := by decide +kernel
theorem dX12_rowDone_53 : decode cX12_rowDone 53 = .ok (.getfield 55, 3) := by decide +kernel
theorem dX12_rowDone_56 : decode cX12_rowDone 56 = .ok (.iload_n 3, 1) := by decide +kernel
theorem dX12_rowDone_57 : decode cX12_rowDone 57 = .ok (.aload_n 0, 1) := by decide +kernel
theorem dX12_rowDone_58 : decode cX12_rowDone 58 = .ok (.getfield 55, 3) := by decide +kernel
theorem dX12_rowDone_61 : decode cX12_rowDone 61 = .ok (.iload_n 3, 1) := by decide +kernel
theorem dX12_rowDone_62 : decode cX12_rowDone 62 = .ok (.iaload, 1) := by decide +kernel
theorem dX12_rowDone_63 : decode cX12_rowDone 63 = .ok (.iload_n 2, 1) := by decide +kernel
theorem dX12_rowDone_64 : decode cX12_rowDone 64 = .ok (.imul, 1) := by decide +kernel
theorem dX12_rowDone_65 : decode cX12_rowDone 65 = .ok (.bipush 101, 2) := by decide +kernel
theorem dX12_rowDone_67 : decode cX12_rowDone 67 = .ok (.irem, 1) := by decide +kernel
theorem dX12_rowDone_68 : decode cX12_rowDone 68 = .ok (.iastore, 1) := by decide +kernel
theorem dX12_rowDone_69 : decode cX12_rowDone 69 = .ok (.goto 43, 3) := by decide +kernel
theorem dX12_rowDone_72 : decode cX12_rowDone 72 = .ok (.aload_n 0, 1) := by decide +kernel
theorem dX12_rowDone_73 : decode cX12_rowDone 73 = .ok (.getfield 27, 3) := by decide +kernel
theorem dX12_rowDone_76 : decode cX12_rowDone 76 = .ok (.iload_n 2, 1) := by decide +kernel
theorem dX12_rowDone_77 : decode cX12_rowDone 77 = .ok (.iaload, 1) := by decide +kernel
theorem dX12_rowDone_78 : decode cX12_rowDone 78 = .ok (.aload_n 0, 1) := by decide +kernel
theorem dX12_rowDone_79 : decode cX12_rowDone 79 = .ok (.getfield 131, 3) := by decide +kernel
theorem dX12_rowDone_82 : decode cX12_rowDone 82 = .ok (.if_icmp .ne 30, 3) := by decide +kernel
theorem dX12_rowDone_85 : decode cX12_rowDone 85 = .ok (.aload_n 0, 1) := by decide +kernel
theorem dX12_rowDone_86 : decode cX12_rowDone 86 = .ok (.getfield 55, 3) := by decide +kernel
theorem dX12_rowDone_89 : decode cX12_rowDone 89 = .ok (.iload_n 3, 1) := by decide +kernel
theorem dX12_rowDone_90 : decode cX12_rowDone 90 = .ok (.aload_n 0, 1) := by decide +kernel
theorem dX12_rowDone_91 : decode cX12_rowDone 91 = .ok (.getfield 55, 3) := by decide +kernel
theorem dX12_rowDone_94 : decode cX12_rowDone 94 = .ok (.iload_n 3, 1) := by decide +kernel
theorem dX12_rowDone_95 : decode cX12_rowDone 95 = .ok (.iaload, 1) := by decide +kernel
theorem dX12_rowDone_96 : decode cX12_rowDone 96 = .ok (.aload_n 0, 1) := by decide +kernel
theorem dX12_rowDone_97 : decode cX12_rowDone 97 = .ok (.getfield 30, 3) := by decide +kernel
theorem dX12_rowDone_100 : decode cX12_rowDone 100 = .ok (.bipush 7, 2) := by decide +kernel
theorem dX12_rowDone_102 : decode cX12_rowDone 102 = .ok (.iload_n 2, 1) := by decide +kernel
theorem dX12_rowDone_103 : decode cX12_rowDone 103 = .ok (.imul, 1) := by decide +kernel
theorem dX12_rowDone_104 : decode cX12_rowDone 104 = .ok (.iload_n 3, 1) := by decide +kernel
theorem dX12_rowDone_105 : decode cX12_rowDone 105 = .ok (.iadd, 1) := by decide +kernel
theorem dX12_rowDone_106 : decode cX12_rowDone 106 = .ok (.iaload, 1) := by decide +kernel
theorem dX12_rowDone_107 : decode cX12_rowDone 107 = .ok (.iadd, 1) := by decide +kernel
theorem dX12_rowDone_108 : decode cX12_rowDone 108 = .ok (.bipush 101, 2) := by decide +kernel
theorem dX12_rowDone_110 : decode cX12_rowDone 110 = .ok (.irem, 1) := by decide +kernel
theorem dX12_rowDone_111 : decode cX12_rowDone 111 = .ok (.iastore, 1) := by decide +kernel
theorem dX12_rowDone_112 : decode cX12_rowDone 112 = .ok (.iinc 3 1, 3) := by decide +kernel
theorem dX12_rowDone_115 : decode cX12_rowDone 115 = .ok (.goto (-74), 3) := by decide +kernel
theorem dX12_rowDone_118 : decode cX12_rowDone 118 = .ok (.return_, 1) := by decide +kernel
theorem dX12_behind_0 : decode cX12_behind 0 = .ok (.iload_n 1, 1) := by decide +kernel
theorem dX12_behind_1 : decode cX12_behind 1 = .ok (.invokestatic 213, 3) := by decide +kernel
theorem dX12_behind_4 : decode cX12_behind 4 = .ok (.ifCond .ne 5, 3) := by decide +kernel
theorem dX12_behind_7 : decode cX12_behind 7 = .ok (.iconst (-1), 1) := by decide +kernel
theorem dX12_behind_8 : decode cX12_behind 8 = .ok (.ireturn, 1) := by decide +kernel
theorem dX12_behind_9 : decode cX12_behind 9 = .ok (.aload_n 0, 1) := by decide +kernel
theorem dX12_behind_10 : decode cX12_behind 10 = .ok (.invokevirtual 139, 3) := by decide +kernel
theorem dX12_behind_13 : decode cX12_behind 13 = .ok (.aload_n 0, 1) := by decide +kernel
theorem dX12_behind_14 : decode cX12_behind 14 = .ok (.iload_n 1, 1) := by decide +kernel
theorem dX12_behind_15 : decode cX12_behind 15 = .ok (.invokevirtual 228, 3) := by decide +kernel
theorem dX12_behind_18 : decode cX12_behind 18 = .ok (.iconst 0, 1) := by decide +kernel
theorem dX12_behind_19 : decode cX12_behind 19 = .ok (.istore_n 3, 1) := by decide +kernel
theorem dX12_behind_20 : decode cX12_behind 20 = .ok (.iload_n 3, 1) := by decide +kernel
theorem dX12_behind_21 : decode cX12_behind 21 = .ok (.aload_n 0, 1) := by decide +kernel
theorem dX12_behind_22 : decode cX12_behind 22 = .ok (.getfield 240, 3) := by decide +kernel
theorem dX12_behind_25 : decode cX12_behind 25 = .ok (.if_icmp .ge 25, 3) := by decide +kernel
theorem dX12_behind_28 : decode cX12_behind 28 = .ok (.aload_n 0, 1) := by decide +kernel
theorem dX12_behind_29 : decode cX12_behind 29 = .ok (.aload_n 0, 1) := by decide +kernel
theorem dX12_behind_30 : decode cX12_behind 30 = .ok (.getfield 39, 3) := by decide +kernel
theorem dX12_behind_33 : decode cX12_behind 33 = .ok (.iload_n 3, 1) := by decide +kernel
theorem dX12_behind_34 : decode cX12_behind 34 = .ok (.iaload, 1) := by decide +kernel
theorem dX12_behind_35 : decode cX12_behind 35 = .ok (.aload_n 0, 1) := by decide +kernel
theorem dX12_behind_36 : decode cX12_behind 36 = .ok (.getfield 42, 3) := by decide +kernel
theorem dX12_behind_39 : decode cX12_behind 39 = .ok (.iload_n 3, 1) := by decide +kernel
theorem dX12_behind_40 : decode cX12_behind 40 = .ok (.iaload, 1) := by decide +kernel
theorem dX12_behind_41 : decode cX12_behind 41 = .ok (.invokevirtual 243, 3) := by decide +kernel
theorem dX12_behind_44 : decode cX12_behind 44 = .ok (.iinc 3 1, 3) := by decide +kernel
theorem dX12_behind_47 : decode cX12_behind 47 = .ok (.goto (-27), 3) := by decide +kernel
theorem dX12_behind_50 : decode cX12_behind 50 = .ok (.iload_n 2, 1) := by decide +kernel
theorem dX12_behind_51 : decode cX12_behind 51 = .ok (.iconst (-1), 1) := by decide +kernel
theorem dX12_behind_52 : decode cX12_behind 52 = .ok (.if_icmp .ne 10, 3) := by decide +kernel
theorem dX12_behind_55 : decode cX12_behind 55 = .ok (.aload_n 0, 1) := by decide +kernel
theorem dX12_behind_56 : decode cX12_behind 56 = .ok (.getfield 131, 3) := by decide +kernel
theorem dX12_behind_59 : decode cX12_behind 59 = .ok (.goto 32, 3) := by decide +kernel
theorem dX12_behind_62 : decode cX12_behind 62 = .ok (.iload_n 2, 1) := by decide +kernel
theorem dX12_behind_63 : decode cX12_behind 63 = .ok (.iconst 0, 1) := by decide +kernel
theorem dX12_behind_64 : decode cX12_behind 64 = .ok (.aload_n 0, 1) := by decide +kernel
theorem dX12_behind_65 : decode cX12_behind 65 = .ok (.aload_n 0, 1) := by decide +kernel
theorem dX12_behind_66 : decode cX12_behind 66 = .ok (.getfield 131, 3) := by decide +kernel
theorem dX12_behind_69 : decode cX12_behind 69 = .ok (.invokevirtual 100, 3) := by decide +kernel
theorem dX12_behind_72 : decode cX12_behind 72 = .ok (.iconst 1, 1) := by decide +kernel
theorem dX12_behind_73 : decode cX12_behind 73 = .ok (.isub, 1) := by decide +kernel
theorem dX12_behind_74 : decode cX12_behind 74 = .ok (.invokestatic 92, 3) := by decide +kernel
theorem dX12_behind_77 : decode cX12_behind 77 = .ok (.ifCond .eq 12, 3) := by decide +kernel
theorem dX12_behind_80 : decode cX12_behind 80 = .ok (.aload_n 0, 1) := by decide +kernel
theorem dX12_behind_81 : decode cX12_behind 81 = .ok (.getfield 55, 3) := by decide +kernel
theorem dX12_behind_84 : decode cX12_behind 84 = .ok (.iload_n 2, 1) := by decide +kernel
theorem dX12_behind_85 : decode cX12_behind 85 = .ok (.iaload, 1) := by decide +kernel
theorem dX12_behind_86 : decode cX12_behind 86 = .ok (.goto 5, 3) := by decide +kernel
theorem dX12_behind_89 : decode cX12_behind 89 = .ok (.bipush (-5), 2) := by decide +kernel
theorem dX12_behind_91 : decode cX12_behind 91 = .ok (.ireturn, 1) := by decide +kernel
theorem dX12_writes_0 : decode cX12_writes 0 = .ok (.aload_n 0, 1) := by decide +kernel
theorem dX12_writes_1 : decode cX12_writes 1 = .ok (.getfield 36, 3) := by decide +kernel
theorem dX12_writes_4 : decode cX12_writes 4 = .ok (.aload_n 0, 1) := by decide +kernel
theorem dX12_writes_5 : decode cX12_writes 5 = .ok (.getfield 246, 3) := by decide +kernel
theorem dX12_writes_8 : decode cX12_writes 8 = .ok (.iload_n 1, 1) := by decide +kernel
theorem dX12_writes_9 : decode cX12_writes 9 = .ok (.iastore, 1) := by decide +kernel
theorem dX12_writes_10 : decode cX12_writes 10 = .ok (.aload_n 0, 1) := by decide +kernel
theorem dX12_writes_11 : decode cX12_writes 11 = .ok (.dup, 1) := by decide +kernel
theorem dX12_writes_12 : decode cX12_writes 12 = .ok (.getfield 246, 3) := by decide +kernel
theorem dX12_writes_15 : decode cX12_writes 15 = .ok (.iconst 1, 1) := by decide +kernel
theorem dX12_writes_16 : decode cX12_writes 16 = .ok (.iadd, 1) := by decide +kernel
theorem dX12_writes_17 : decode cX12_writes 17 = .ok (.putfield 246, 3) := by decide +kernel
theorem dX12_writes_20 : decode cX12_writes 20 = .ok (.return_, 1) := by decide +kernel
theorem dX12_writesNumber_0 : decode cX12_writesNumber 0 = .ok (.iload_n 1, 1) := by decide +kernel
theorem dX12_writesNumber_1 : decode cX12_writesNumber 1 = .ok (.bipush 100, 2) := by decide +kernel
theorem dX12_writesNumber_3 : decode cX12_writesNumber 3 = .ok (.if_icmp .lt 14, 3) := by decide +kernel
theorem dX12_writesNumber_6 : decode cX12_writesNumber 6 = .ok (.aload_n 0, 1) := by decide +kernel
theorem dX12_writesNumber_7 : decode cX12_writesNumber 7 = .ok (.bipush 48, 2) := by decide +kernel
theorem dX12_writesNumber_9 : decode cX12_writesNumber 9 = .ok (.iload_n 1, 1) := by decide +kernel
theorem dX12_writesNumber_10 : decode cX12_writesNumber 10 = .ok (.bipush 100, 2) := by decide +kernel
theorem dX12_writesNumber_12 : decode cX12_writesNumber 12 = .ok (.idiv, 1) := by decide +kernel
theorem dX12_writesNumber_13 : decode cX12_writesNumber 13 = .ok (.iadd, 1) := by decide +kernel
theorem dX12_writesNumber_14 : decode cX12_writesNumber 14 = .ok (.invokevirtual 249, 3) := by decide +kernel
theorem dX12_writesNumber_17 : decode cX12_writesNumber 17 = .ok (.iload_n 1, 1) := by decide +kernel
theorem dX12_writesNumber_18 : decode cX12_writesNumber 18 = .ok (.bipush 10, 2) := by decide +kernel
theorem dX12_writesNumber_20 : decode cX12_writesNumber 20 = .ok (.if_icmp .lt 17, 3) := by decide +kernel
theorem dX12_writesNumber_23 : decode cX12_writesNumber 23 = .ok (.aload_n 0, 1) := by decide +kernel
theorem dX12_writesNumber_24 : decode cX12_writesNumber 24 = .ok (.bipush 48, 2) := by decide +kernel
theorem dX12_writesNumber_26 : decode cX12_writesNumber 26 = .ok (.iload_n 1, 1) := by decide +kernel
theorem dX12_writesNumber_27 : decode cX12_writesNumber 27 = .ok (.bipush 10, 2) := by decide +kernel
theorem dX12_writesNumber_29 : decode cX12_writesNumber 29 = .ok (.idiv, 1) := by decide +kernel
theorem dX12_writesNumber_30 : decode cX12_writesNumber 30 = .ok (.bipush 10, 2) := by decide +kernel
theorem dX12_writesNumber_32 : decode cX12_writesNumber 32 = .ok (.irem, 1) := by decide +kernel
theorem dX12_writesNumber_33 : decode cX12_writesNumber 33 = .ok (.iadd, 1) := by decide +kernel
theorem dX12_writesNumber_34 : decode cX12_writesNumber 34 = .ok (.invokevirtual 249, 3) := by decide +kernel
theorem dX12_writesNumber_37 : decode cX12_writesNumber 37 = .ok (.aload_n 0, 1) := by decide +kernel
theorem dX12_writesNumber_38 : decode cX12_writesNumber 38 = .ok (.bipush 48, 2) := by decide +kernel
theorem dX12_writesNumber_40 : decode cX12_writesNumber 40 = .ok (.iload_n 1, 1) := by decide +kernel
theorem dX12_writesNumber_41 : decode cX12_writesNumber 41 = .ok (.bipush 10, 2) := by decide +kernel
theorem dX12_writesNumber_43 : decode cX12_writesNumber 43 = .ok (.irem, 1) := by decide +kernel
theorem dX12_writesNumber_44 : decode cX12_writesNumber 44 = .ok (.iadd, 1) := by decide +kernel
theorem dX12_writesNumber_45 : decode cX12_writesNumber 45 = .ok (.invokevirtual 249, 3) := by decide +kernel
theorem dX12_writesNumber_48 : decode cX12_writesNumber 48 = .ok (.return_, 1) := by decide +kernel
theorem dX12_write_0 : decode cX12_write 0 = .ok (.iload_n 1, 1) := by decide +kernel
theorem dX12_write_1 : decode cX12_write 1 = .ok (.invokestatic 213, 3) := by decide +kernel
theorem dX12_write_4 : decode cX12_write 4 = .ok (.ifCond .ne 5, 3) := by decide +kernel
theorem dX12_write_7 : decode cX12_write 7 = .ok (.iconst (-1), 1) := by decide +kernel
theorem dX12_write_8 : decode cX12_write 8 = .ok (.ireturn, 1) := by decide +kernel
theorem dX12_write_9 : decode cX12_write 9 = .ok (.aload_n 0, 1) := by decide +kernel
theorem dX12_write_10 : decode cX12_write 10 = .ok (.iconst 0, 1) := by decide +kernel
theorem dX12_write_11 : decode cX12_write 11 = .ok (.putfield 246, 3) := by decide +kernel
theorem dX12_write_14 : decode cX12_write 14 = .ok (.iconst 0, 1) := by decide +kernel
theorem dX12_write_15 : decode cX12_write 15 = .ok (.istore_n 2, 1) := by decide +kernel
theorem dX12_write_16 : decode cX12_write 16 = .ok (.iload_n 2, 1) := by decide +kernel
theorem dX12_write_17 : decode cX12_write 17 = .ok (.aload_n 0, 1) := by decide +kernel
theorem dX12_write_18 : decode cX12_write 18 = .ok (.aload_n 0, 1) := by decide +kernel
theorem dX12_write_19 : decode cX12_write 19 = .ok (.getfield 27, 3) := by decide +kernel
theorem dX12_write_22 : decode cX12_write 22 = .ok (.iload_n 1, 1) := by decide +kernel
theorem dX12_write_23 : decode cX12_write 23 = .ok (.iaload, 1) := by decide +kernel
theorem dX12_write_24 : decode cX12_write 24 = .ok (.invokevirtual 100, 3) := by decide +kernel
theorem dX12_write_27 : decode cX12_write 27 = .ok (.if_icmp .ge 135, 3) := by decide +kernel
theorem dX12_write_30 : decode cX12_write 30 = .ok (.aload_n 0, 1) := by decide +kernel
theorem dX12_write_31 : decode cX12_write 31 = .ok (.getfield 30, 3) := by decide +kernel
theorem dX12_write_34 : decode cX12_write 34 = .ok (.bipush 7, 2) := by decide +kernel
theorem dX12_write_36 : decode cX12_write 36 = .ok (.iload_n 1, 1) := by decide +kernel
theorem dX12_write_37 : decode cX12_write 37 = .ok (.imul, 1) := by decide +kernel
theorem dX12_write_38 : decode cX12_write 38 = .ok (.iload_n 2, 1) := by decide +kernel
theorem dX12_write_39 : decode cX12_write 39 = .ok (.iadd, 1) := by decide +kernel
theorem dX12_write_40 : decode cX12_write 40 = .ok (.iaload, 1) := by decide +kernel
theorem dX12_write_41 : decode cX12_write 41 = .ok (.istore_n 3, 1) := by decide +kernel
theorem dX12_write_42 : decode cX12_write 42 = .ok (.aload_n 0, 1) := by decide +kernel
theorem dX12_write_43 : decode cX12_write 43 = .ok (.getfield 15, 3) := by decide +kernel
theorem dX12_write_46 : decode cX12_write 46 = .ok (.aload_n 0, 1) := by decide +kernel
theorem dX12_write_47 : decode cX12_write 47 = .ok (.getfield 27, 3) := by decide +kernel
theorem dX12_write_50 : decode cX12_write 50 = .ok (.iload_n 1, 1) := by decide +kernel
theorem dX12_write_51 : decode cX12_write 51 = .ok (.iaload, 1) := by decide +kernel
theorem dX12_write_52 : decode cX12_write 52 = .ok (.iaload, 1) := by decide +kernel
theorem dX12_write_53 : decode cX12_write 53 = .ok (.iload_n 2, 1) := by decide +kernel
theorem dX12_write_54 : decode cX12_write 54 = .ok (.iadd, 1) := by decide +kernel
theorem dX12_write_55 : decode cX12_write 55 = .ok (.istore 4, 2) := by decide +kernel
theorem dX12_write_57 : decode cX12_write 57 = .ok (.iload_n 3, 1) := by decide +kernel
theorem dX12_write_58 : decode cX12_write 58 = .ok (.ifCond .ne 6, 3) := by decide +kernel
theorem dX12_write_61 : decode cX12_write 61 = .ok (.goto 95, 3) := by decide +kernel
theorem dX12_write_64 : decode cX12_write 64 = .ok (.aload_n 0, 1) := by decide +kernel
theorem dX12_write_65 : decode cX12_write 65 = .ok (.getfield 246, 3) := by decide +kernel
theorem dX12_write_68 : decode cX12_write 68 = .ok (.ifCond .le 9, 3) := by decide +kernel
theorem dX12_write_71 : decode cX12_write 71 = .ok (.aload_n 0, 1) := by decide +kernel
theorem dX12_write_72 : decode cX12_write 72 = .ok (.bipush 43, 2) := by decide +kernel
theorem dX12_write_74 : decode cX12_write 74 = .ok (.invokevirtual 249, 3) := by decide +kernel
theorem dX12_write_77 : decode cX12_write 77 = .ok (.iload_n 3, 1) := by decide +kernel
theorem dX12_write_78 : decode cX12_write 78 = .ok (.iconst 1, 1) := by decide +kernel
theorem dX12_write_79 : decode cX12_write 79 = .ok (.if_icmp .le 8, 3) := by decide +kernel
theorem dX12_write_82 : decode cX12_write 82 = .ok (.aload_n 0, 1) := by decide +kernel
theorem dX12_write_83 : decode cX12_write 83 = .ok (.iload_n 3, 1) := by decide +kernel
theorem dX12_write_84 : decode cX12_write 84 = .ok (.invokevirtual 252, 3) := by decide +kernel
theorem dX12_write_87 : decode cX12_write 87 = .ok (.aload_n 0, 1) := by decide +kernel
theorem dX12_write_88 : decode cX12_write 88 = .ok (.bipush 91, 2) := by decide +kernel
theorem dX12_write_90 : decode cX12_write 90 = .ok (.invokevirtual 249, 3) := by decide +kernel
theorem dX12_write_93 : decode cX12_write 93 = .ok (.iconst 0, 1) := by decide +kernel
theorem dX12_write_94 : decode cX12_write 94 = .ok (.istore 5, 2) := by decide +kernel
theorem dX12_write_96 : decode cX12_write 96 = .ok (.iload 5, 2) := by decide +kernel
theorem dX12_write_98 : decode cX12_write 98 = .ok (.aload_n 0, 1) := by decide +kernel
theorem dX12_write_99 : decode cX12_write 99 = .ok (.getfield 21, 3) := by decide +kernel
theorem dX12_write_102 : decode cX12_write 102 = .ok (.iload 4, 2) := by decide +kernel
theorem dX12_write_104 : decode cX12_write 104 = .ok (.iaload, 1) := by decide +kernel
theorem dX12_write_105 : decode cX12_write 105 = .ok (.if_icmp .ge 45, 3) := by decide +kernel
theorem dX12_write_108 : decode cX12_write 108 = .ok (.iload 5, 2) := by decide +kernel
theorem dX12_write_110 : decode cX12_write 110 = .ok (.ifCond .le 9, 3) := by decide +kernel
theorem dX12_write_113 : decode cX12_write 113 = .ok (.aload_n 0, 1) := by decide +kernel
theorem dX12_write_114 : decode cX12_write 114 = .ok (.bipush 32, 2) := by decide +kernel
theorem dX12_write_116 : decode cX12_write 116 = .ok (.invokevirtual 249, 3) := by decide +kernel
theorem dX12_write_119 : decode cX12_write 119 = .ok (.aload_n 0, 1) := by decide +kernel
theorem dX12_write_120 : decode cX12_write 120 = .ok (.bipush 45, 2) := by decide +kernel
theorem dX12_write_122 : decode cX12_write 122 = .ok (.invokevirtual 249, 3) := by decide +kernel
theorem dX12_write_125 : decode cX12_write 125 = .ok (.aload_n 0, 1) := by decide +kernel
theorem dX12_write_126 : decode cX12_write 126 = .ok (.bipush 48, 2) := by decide +kernel
theorem dX12_write_128 : decode cX12_write 128 = .ok (.aload_n 0, 1) := by decide +kernel
theorem dX12_write_129 : decode cX12_write 129 = .ok (.getfield 24, 3) := by decide +kernel
theorem dX12_write_132 : decode cX12_write 132 = .ok (.iconst 5, 1) := by decide +kernel
theorem dX12_write_133 : decode cX12_write 133 = .ok (.iload 4, 2) := by decide +kernel
theorem dX12_write_135 : decode cX12_write 135 = .ok (.imul, 1) := by decide +kernel
theorem dX12_write_136 : decode cX12_write 136 = .ok (.iload 5, 2) := by decide +kernel
theorem dX12_write_138 : decode cX12_write 138 = .ok (.iadd, 1) := by decide +kernel
theorem dX12_write_139 : decode cX12_write 139 = .ok (.iaload, 1) := by decide +kernel
theorem dX12_write_140 : decode cX12_write 140 = .ok (.iadd, 1) := by decide +kernel
theorem dX12_write_141 : decode cX12_write 141 = .ok (.invokevirtual 249, 3) := by decide +kernel
theorem dX12_write_144 : decode cX12_write 144 = .ok (.iinc 5 1, 3) := by decide +kernel
theorem dX12_write_147 : decode cX12_write 147 = .ok (.goto (-51), 3) := by decide +kernel
theorem dX12_write_150 : decode cX12_write 150 = .ok (.aload_n 0, 1) := by decide +kernel
theorem dX12_write_151 : decode cX12_write 151 = .ok (.bipush 93, 2) := by decide +kernel
theorem dX12_write_153 : decode cX12_write 153 = .ok (.invokevirtual 249, 3) := by decide +kernel
theorem dX12_write_156 : decode cX12_write 156 = .ok (.iinc 2 1, 3) := by decide +kernel
theorem dX12_write_159 : decode cX12_write 159 = .ok (.goto (-143), 3) := by decide +kernel
theorem dX12_write_162 : decode cX12_write 162 = .ok (.aload_n 0, 1) := by decide +kernel
theorem dX12_write_163 : decode cX12_write 163 = .ok (.getfield 246, 3) := by decide +kernel
theorem dX12_write_166 : decode cX12_write 166 = .ok (.ireturn, 1) := by decide +kernel
theorem dX12_paper_0 : decode cX12_paper 0 = .ok (.iload_n 1, 1) := by decide +kernel
theorem dX12_paper_1 : decode cX12_paper 1 = .ok (.iconst 0, 1) := by decide +kernel
theorem dX12_paper_2 : decode cX12_paper 2 = .ok (.aload_n 0, 1) := by decide +kernel
theorem dX12_paper_3 : decode cX12_paper 3 = .ok (.getfield 246, 3) := by decide +kernel
theorem dX12_paper_6 : decode cX12_paper 6 = .ok (.iconst 1, 1) := by decide +kernel
theorem dX12_paper_7 : decode cX12_paper 7 = .ok (.isub, 1) := by decide +kernel
theorem dX12_paper_8 : decode cX12_paper 8 = .ok (.invokestatic 92, 3) := by decide +kernel
theorem dX12_paper_11 : decode cX12_paper 11 = .ok (.ifCond .eq 12, 3) := by decide +kernel
theorem dX12_paper_14 : decode cX12_paper 14 = .ok (.aload_n 0, 1) := by decide +kernel
theorem dX12_paper_15 : decode cX12_paper 15 = .ok (.getfield 36, 3) := by decide +kernel
theorem dX12_paper_18 : decode cX12_paper 18 = .ok (.iload_n 1, 1) := by decide +kernel
theorem dX12_paper_19 : decode cX12_paper 19 = .ok (.iaload, 1) := by decide +kernel
theorem dX12_paper_20 : decode cX12_paper 20 = .ok (.goto 4, 3) := by decide +kernel
theorem dX12_paper_23 : decode cX12_paper 23 = .ok (.iconst (-1), 1) := by decide +kernel
theorem dX12_paper_24 : decode cX12_paper 24 = .ok (.ireturn, 1) := by decide +kernel
theorem dX12_isList_0 : decode cX12_isList 0 = .ok (.iload_n 0, 1) := by decide +kernel
theorem dX12_isList_1 : decode cX12_isList 1 = .ok (.iconst 0, 1) := by decide +kernel
theorem dX12_isList_2 : decode cX12_isList 2 = .ok (.iconst 3, 1) := by decide +kernel
theorem dX12_isList_3 : decode cX12_isList 3 = .ok (.invokestatic 92, 3) := by decide +kernel
theorem dX12_isList_6 : decode cX12_isList 6 = .ok (.ireturn, 1) := by decide +kernel
theorem dX12_judge_0 : decode cX12_judge 0 = .ok (.iload_n 1, 1) := by decide +kernel
theorem dX12_judge_1 : decode cX12_judge 1 = .ok (.invokestatic 255, 3) := by decide +kernel
theorem dX12_judge_4 : decode cX12_judge 4 = .ok (.ifCond .eq 10, 3) := by decide +kernel
theorem dX12_judge_7 : decode cX12_judge 7 = .ok (.iload_n 2, 1) := by decide +kernel
theorem dX12_judge_8 : decode cX12_judge 8 = .ok (.invokestatic 213, 3) := by decide +kernel
theorem dX12_judge_11 : decode cX12_judge 11 = .ok (.ifCond .ne 5, 3) := by decide +kernel
theorem dX12_judge_14 : decode cX12_judge 14 = .ok (.iconst (-1), 1) := by decide +kernel
theorem dX12_judge_15 : decode cX12_judge 15 = .ok (.ireturn, 1) := by decide +kernel
theorem dX12_judge_16 : decode cX12_judge 16 = .ok (.aload_n 0, 1) := by decide +kernel
theorem dX12_judge_17 : decode cX12_judge 17 = .ok (.getfield 45, 3) := by decide +kernel
theorem dX12_judge_20 : decode cX12_judge 20 = .ok (.iload_n 1, 1) := by decide +kernel
theorem dX12_judge_21 : decode cX12_judge 21 = .ok (.iaload, 1) := by decide +kernel
theorem dX12_judge_22 : decode cX12_judge 22 = .ok (.ifCond .ge 6, 3) := by decide +kernel
theorem dX12_judge_25 : decode cX12_judge 25 = .ok (.bipush (-11), 2) := by decide +kernel
theorem dX12_judge_27 : decode cX12_judge 27 = .ok (.ireturn, 1) := by decide +kernel
theorem dX12_judge_28 : decode cX12_judge 28 = .ok (.iconst 0, 1) := by decide +kernel
theorem dX12_judge_29 : decode cX12_judge 29 = .ok (.istore_n 3, 1) := by decide +kernel
theorem dX12_judge_30 : decode cX12_judge 30 = .ok (.iload_n 3, 1) := by decide +kernel
theorem dX12_judge_31 : decode cX12_judge 31 = .ok (.aload_n 0, 1) := by decide +kernel
theorem dX12_judge_32 : decode cX12_judge 32 = .ok (.getfield 45, 3) := by decide +kernel
theorem dX12_judge_35 : decode cX12_judge 35 = .ok (.iload_n 1, 1) := by decide +kernel
theorem dX12_judge_36 : decode cX12_judge 36 = .ok (.iaload, 1) := by decide +kernel
theorem dX12_judge_37 : decode cX12_judge 37 = .ok (.if_icmp .ge 48, 3) := by decide +kernel
theorem dX12_judge_40 : decode cX12_judge 40 = .ok (.aload_n 0, 1) := by decide +kernel
theorem dX12_judge_41 : decode cX12_judge 41 = .ok (.getfield 48, 3) := by decide +kernel
theorem dX12_judge_44 : decode cX12_judge 44 = .ok (.bipush 12, 2) := by decide +kernel
theorem dX12_judge_46 : decode cX12_judge 46 = .ok (.iload_n 1, 1) := by decide +kernel
theorem dX12_judge_47 : decode cX12_judge 47 = .ok (.imul, 1) := by decide +kernel
theorem dX12_judge_48 : decode cX12_judge 48 = .ok (.iload_n 3, 1) := by decide +kernel
theorem dX12_judge_49 : decode cX12_judge 49 = .ok (.iadd, 1) := by decide +kernel
theorem dX12_judge_50 : decode cX12_judge 50 = .ok (.laload, 1) := by decide +kernel
theorem dX12_judge_51 : decode cX12_judge 51 = .ok (.iload_n 3, 1) := by decide +kernel
theorem dX12_judge_52 : decode cX12_judge 52 = .ok (.bipush 7, 2) := by decide +kernel
theorem dX12_judge_54 : decode cX12_judge 54 = .ok (.if_icmp .ge 17, 3) := by decide +kernel
theorem dX12_judge_57 : decode cX12_judge 57 = .ok (.aload_n 0, 1) := by decide +kernel
theorem dX12_judge_58 : decode cX12_judge 58 = .ok (.getfield 30, 3) := by decide +kernel
theorem dX12_judge_61 : decode cX12_judge 61 = .ok (.bipush 7, 2) := by decide +kernel
theorem dX12_judge_63 : decode cX12_judge 63 = .ok (.iload_n 2, 1) := by decide +kernel
theorem dX12_judge_64 : decode cX12_judge 64 = .ok (.imul, 1) := by decide +kernel
theorem dX12_judge_65 : decode cX12_judge 65 = .ok (.iload_n 3, 1) := by decide +kernel
theorem dX12_judge_66 : decode cX12_judge 66 = .ok (.iadd, 1) := by decide +kernel
theorem dX12_judge_67 : decode cX12_judge 67 = .ok (.iaload, 1) := by decide +kernel
theorem dX12_judge_68 : decode cX12_judge 68 = .ok (.goto 4, 3) := by decide +kernel
theorem dX12_judge_71 : decode cX12_judge 71 = .ok (.iconst 0, 1) := by decide +kernel
theorem dX12_judge_72 : decode cX12_judge 72 = .ok (.i2l, 1) := by decide +kernel
theorem dX12_judge_73 : decode cX12_judge 73 = .ok (.lcmp, 1) := by decide +kernel
theorem dX12_judge_74 : decode cX12_judge 74 = .ok (.ifCond .eq 5, 3) := by decide +kernel
theorem dX12_judge_77 : decode cX12_judge 77 = .ok (.iload_n 3, 1) := by decide +kernel
theorem dX12_judge_78 : decode cX12_judge 78 = .ok (.ireturn, 1) := by decide +kernel
theorem dX12_judge_79 : decode cX12_judge 79 = .ok (.iinc 3 1, 3) := by decide +kernel
theorem dX12_judge_82 : decode cX12_judge 82 = .ok (.goto (-52), 3) := by decide +kernel
theorem dX12_judge_85 : decode cX12_judge 85 = .ok (.bipush (-5), 2) := by decide +kernel
theorem dX12_judge_87 : decode cX12_judge 87 = .ok (.ireturn, 1) := by decide +kernel
theorem dX12_list_0 : decode cX12_list 0 = .ok (.iload_n 1, 1) := by decide +kernel
theorem dX12_list_1 : decode cX12_list 1 = .ok (.invokestatic 255, 3) := by decide +kernel
theorem dX12_list_4 : decode cX12_list 4 = .ok (.ifCond .ne 5, 3) := by decide +kernel
theorem dX12_list_7 : decode cX12_list 7 = .ok (.iconst (-1), 1) := by decide +kernel
theorem dX12_list_8 : decode cX12_list 8 = .ok (.ireturn, 1) := by decide +kernel
theorem dX12_list_9 : decode cX12_list 9 = .ok (.iload_n 2, 1) := by decide +kernel
theorem dX12_list_10 : decode cX12_list 10 = .ok (.bipush 12, 2) := by decide +kernel
theorem dX12_list_12 : decode cX12_list 12 = .ok (.if_icmp .le 6, 3) := by decide +kernel
theorem dX12_list_15 : decode cX12_list 15 = .ok (.bipush (-2), 2) := by decide +kernel
theorem dX12_list_17 : decode cX12_list 17 = .ok (.ireturn, 1) := by decide +kernel
theorem dX12_list_18 : decode cX12_list 18 = .ok (.iload_n 2, 1) := by decide +kernel
theorem dX12_list_19 : decode cX12_list 19 = .ok (.ifCond .ge 6, 3) := by decide +kernel
theorem dX12_list_22 : decode cX12_list 22 = .ok (.bipush (-14), 2) := by decide +kernel
theorem dX12_list_24 : decode cX12_list 24 = .ok (.ireturn, 1) := by decide +kernel
theorem dX12_list_25 : decode cX12_list 25 = .ok (.aload_n 0, 1) := by decide +kernel
theorem dX12_list_26 : decode cX12_list 26 = .ok (.getfield 45, 3) := by decide +kernel
theorem dX12_list_29 : decode cX12_list 29 = .ok (.iload_n 1, 1) := by decide +kernel
theorem dX12_list_30 : decode cX12_list 30 = .ok (.iload_n 2, 1) := by decide +kernel
theorem dX12_list_31 : decode cX12_list 31 = .ok (.iastore, 1) := by decide +kernel
theorem dX12_list_32 : decode cX12_list 32 = .ok (.iconst 0, 1) := by decide +kernel
theorem dX12_list_33 : decode cX12_list 33 = .ok (.istore_n 3, 1) := by decide +kernel
theorem dX12_list_34 : decode cX12_list 34 = .ok (.iload_n 3, 1) := by decide +kernel
theorem dX12_list_35 : decode cX12_list 35 = .ok (.iload_n 2, 1) := by decide +kernel
theorem dX12_list_36 : decode cX12_list 36 = .ok (.if_icmp .ge 21, 3) := by decide +kernel
theorem dX12_list_39 : decode cX12_list 39 = .ok (.aload_n 0, 1) := by decide +kernel
theorem dX12_list_40 : decode cX12_list 40 = .ok (.getfield 48, 3) := by decide +kernel
theorem dX12_list_43 : decode cX12_list 43 = .ok (.bipush 12, 2) := by decide +kernel
theorem dX12_list_45 : decode cX12_list 45 = .ok (.iload_n 1, 1) := by decide +kernel
theorem dX12_list_46 : decode cX12_list 46 = .ok (.imul, 1) := by decide +kernel
theorem dX12_list_47 : decode cX12_list 47 = .ok (.iload_n 3, 1) := by decide +kernel
theorem dX12_list_48 : decode cX12_list 48 = .ok (.iadd, 1) := by decide +kernel
theorem dX12_list_49 : decode cX12_list 49 = .ok (.lconst 0, 1) := by decide +kernel
theorem dX12_list_50 : decode cX12_list 50 = .ok (.lastore, 1) := by decide +kernel
theorem dX12_list_51 : decode cX12_list 51 = .ok (.iinc 3 1, 3) := by decide +kernel
theorem dX12_list_54 : decode cX12_list 54 = .ok (.goto (-20), 3) := by decide +kernel
theorem dX12_list_57 : decode cX12_list 57 = .ok (.iconst 1, 1) := by decide +kernel
theorem dX12_list_58 : decode cX12_list 58 = .ok (.ireturn, 1) := by decide +kernel
theorem dX12_lay_0 : decode cX12_lay 0 = .ok (.iload_n 1, 1) := by decide +kernel
theorem dX12_lay_1 : decode cX12_lay 1 = .ok (.invokestatic 255, 3) := by decide +kernel
theorem dX12_lay_4 : decode cX12_lay 4 = .ok (.ifCond .ne 5, 3) := by decide +kernel
theorem dX12_lay_7 : decode cX12_lay 7 = .ok (.iconst (-1), 1) := by decide +kernel
theorem dX12_lay_8 : decode cX12_lay 8 = .ok (.ireturn, 1) := by decide +kernel
theorem dX12_lay_9 : decode cX12_lay 9 = .ok (.aload_n 0, 1) := by decide +kernel
theorem dX12_lay_10 : decode cX12_lay 10 = .ok (.getfield 45, 3) := by decide +kernel
theorem dX12_lay_13 : decode cX12_lay 13 = .ok (.iload_n 1, 1) := by decide +kernel
theorem dX12_lay_14 : decode cX12_lay 14 = .ok (.iaload, 1) := by decide +kernel
theorem dX12_lay_15 : decode cX12_lay 15 = .ok (.ifCond .ge 6, 3) := by decide +kernel
theorem dX12_lay_18 : decode cX12_lay 18 = .ok (.bipush (-11), 2) := by decide +kernel
theorem dX12_lay_20 : decode cX12_lay 20 = .ok (.ireturn, 1) := by decide +kernel
theorem dX12_lay_21 : decode cX12_lay 21 = .ok (.iload_n 2, 1) := by decide +kernel
theorem dX12_lay_22 : decode cX12_lay 22 = .ok (.iconst 0, 1) := by decide +kernel
theorem dX12_lay_23 : decode cX12_lay 23 = .ok (.aload_n 0, 1) := by decide +kernel
theorem dX12_lay_24 : decode cX12_lay 24 = .ok (.getfield 45, 3) := by decide +kernel
theorem dX12_lay_27 : decode cX12_lay 27 = .ok (.iload_n 1, 1) := by decide +kernel
theorem dX12_lay_28 : decode cX12_lay 28 = .ok (.iaload, 1) := by decide +kernel
theorem dX12_lay_29 : decode cX12_lay 29 = .ok (.iconst 1, 1) := by decide +kernel
theorem dX12_lay_30 : decode cX12_lay 30 = .ok (.isub, 1) := by decide +kernel
theorem dX12_lay_31 : decode cX12_lay 31 = .ok (.invokestatic 92, 3) := by decide +kernel
theorem dX12_lay_34 : decode cX12_lay 34 = .ok (.ifCond .ne 6, 3) := by decide +kernel
theorem dX12_lay_37 : decode cX12_lay 37 = .ok (.bipush (-13), 2) := by decide +kernel
theorem dX12_lay_39 : decode cX12_lay 39 = .ok (.ireturn, 1) := by decide +kernel
theorem dX12_lay_40 : decode cX12_lay 40 = .ok (.aload_n 0, 1) := by decide +kernel
theorem dX12_lay_41 : decode cX12_lay 41 = .ok (.getfield 48, 3) := by decide +kernel
theorem dX12_lay_44 : decode cX12_lay 44 = .ok (.bipush 12, 2) := by decide +kernel
theorem dX12_lay_46 : decode cX12_lay 46 = .ok (.iload_n 1, 1) := by decide +kernel
theorem dX12_lay_47 : decode cX12_lay 47 = .ok (.imul, 1) := by decide +kernel
theorem dX12_lay_48 : decode cX12_lay 48 = .ok (.iload_n 2, 1) := by decide +kernel
theorem dX12_lay_49 : decode cX12_lay 49 = .ok (.iadd, 1) := by decide +kernel
theorem dX12_lay_50 : decode cX12_lay 50 = .ok (.lload_n 3, 1) := by decide +kernel
theorem dX12_lay_51 : decode cX12_lay 51 = .ok (.lastore, 1) := by decide +kernel
theorem dX12_lay_52 : decode cX12_lay 52 = .ok (.iconst 1, 1) := by decide +kernel
theorem dX12_lay_53 : decode cX12_lay 53 = .ok (.ireturn, 1) := by decide +kernel
theorem dX12_get_0 : decode cX12_get 0 = .ok (.iload_n 1, 1) := by decide +kernel
theorem dX12_get_1 : decode cX12_get 1 = .ok (.invokestatic 255, 3) := by decide +kernel
theorem dX12_get_4 : decode cX12_get 4 = .ok (.ifCond .eq 33, 3) := by decide +kernel
theorem dX12_get_7 : decode cX12_get 7 = .ok (.iload_n 2, 1) := by decide +kernel
theorem dX12_get_8 : decode cX12_get 8 = .ok (.iconst 0, 1) := by decide +kernel
theorem dX12_get_9 : decode cX12_get 9 = .ok (.aload_n 0, 1) := by decide +kernel
theorem dX12_get_10 : decode cX12_get 10 = .ok (.getfield 45, 3) := by decide +kernel
theorem dX12_get_13 : decode cX12_get 13 = .ok (.iload_n 1, 1) := by decide +kernel
theorem dX12_get_14 : decode cX12_get 14 = .ok (.iaload, 1) := by decide +kernel
theorem dX12_get_15 : decode cX12_get 15 = .ok (.iconst 1, 1) := by decide +kernel
theorem dX12_get_16 : decode cX12_get 16 = .ok (.isub, 1) := by decide +kernel
theorem dX12_get_17 : decode cX12_get 17 = .ok (.invokestatic 92, 3) := by decide +kernel
theorem dX12_get_20 : decode cX12_get 20 = .ok (.ifCond .eq 17, 3) := by decide +kernel
theorem dX12_get_23 : decode cX12_get 23 = .ok (.aload_n 0, 1) := by decide +kernel
theorem dX12_get_24 : decode cX12_get 24 = .ok (.getfield 48, 3) := by decide +kernel
theorem dX12_get_27 : decode cX12_get 27 = .ok (.bipush 12, 2) := by decide +kernel
theorem dX12_get_29 : decode cX12_get 29 = .ok (.iload_n 1, 1) := by decide +kernel
theorem dX12_get_30 : decode cX12_get 30 = .ok (.imul, 1) := by decide +kernel
theorem dX12_get_31 : decode cX12_get 31 = .ok (.iload_n 2, 1) := by decide +kernel
theorem dX12_get_32 : decode cX12_get 32 = .ok (.iadd, 1) := by decide +kernel
theorem dX12_get_33 : decode cX12_get 33 = .ok (.laload, 1) := by decide +kernel
theorem dX12_get_34 : decode cX12_get 34 = .ok (.goto 6, 3) := by decide +kernel
theorem dX12_get_37 : decode cX12_get 37 = .ok (.ldc2_w 235, 3) := by decide +kernel
theorem dX12_get_40 : decode cX12_get 40 = .ok (.lreturn, 1) := by decide +kernel
theorem dX12_image_0 : decode cX12_image 0 = .ok (.aload_n 0, 1) := by decide +kernel
theorem dX12_image_1 : decode cX12_image 1 = .ok (.iconst 1, 1) := by decide +kernel
theorem dX12_image_2 : decode cX12_image 2 = .ok (.putfield 258, 3) := by decide +kernel
theorem dX12_image_5 : decode cX12_image 5 = .ok (.iconst 0, 1) := by decide +kernel
theorem dX12_image_6 : decode cX12_image 6 = .ok (.istore_n 1, 1) := by decide +kernel
theorem dX12_image_7 : decode cX12_image 7 = .ok (.iload_n 1, 1) := by decide +kernel
theorem dX12_image_8 : decode cX12_image 8 = .ok (.iconst 4, 1) := by decide +kernel
theorem dX12_image_9 : decode cX12_image 9 = .ok (.if_icmp .ge 35, 3) := by decide +kernel
theorem dX12_image_12 : decode cX12_image 12 = .ok (.aload_n 0, 1) := by decide +kernel
theorem dX12_image_13 : decode cX12_image 13 = .ok (.getfield 79, 3) := by decide +kernel
theorem dX12_image_16 : decode cX12_image 16 = .ok (.iload_n 1, 1) := by decide +kernel
theorem dX12_image_17 : decode cX12_image 17 = .ok (.aload_n 0, 1) := by decide +kernel
theorem dX12_image_18 : decode cX12_image 18 = .ok (.getfield 9, 3) := by decide +kernel
theorem dX12_image_21 : decode cX12_image 21 = .ok (.iload_n 1, 1) := by decide +kernel
theorem dX12_image_22 : decode cX12_image 22 = .ok (.iaload, 1) := by decide +kernel
theorem dX12_image_23 : decode cX12_image 23 = .ok (.iastore, 1) := by decide +kernel
theorem dX12_image_24 : decode cX12_image 24 = .ok (.aload_n 0, 1) := by decide +kernel
theorem dX12_image_25 : decode cX12_image 25 = .ok (.getfield 79, 3) := by decide +kernel
theorem dX12_image_28 : decode cX12_image 28 = .ok (.iconst 4, 1) := by decide +kernel
theorem dX12_image_29 : decode cX12_image 29 = .ok (.iload_n 1, 1) := by decide +kernel
theorem dX12_image_30 : decode cX12_image 30 = .ok (.iadd, 1) := by decide +kernel
theorem dX12_image_31 : decode cX12_image 31 = .ok (.aload_n 0, 1) := by decide +kernel
theorem dX12_image_32 : decode cX12_image 32 = .ok (.getfield 27, 3) := by decide +kernel
theorem dX12_image_35 : decode cX12_image 35 = .ok (.iload_n 1, 1) := by decide +kernel
theorem dX12_image_36 : decode cX12_image 36 = .ok (.iaload, 1) := by decide +kernel
theorem dX12_image_37 : decode cX12_image 37 = .ok (.iastore, 1) := by decide +kernel
theorem dX12_image_38 : decode cX12_image 38 = .ok (.iinc 1 1, 3) := by decide +kernel
theorem dX12_image_41 : decode cX12_image 41 = .ok (.goto (-34), 3) := by decide +kernel
theorem dX12_image_44 : decode cX12_image 44 = .ok (.iconst 0, 1) := by decide +kernel
theorem dX12_image_45 : decode cX12_image 45 = .ok (.istore_n 1, 1) := by decide +kernel
theorem dX12_image_46 : decode cX12_image 46 = .ok (.iload_n 1, 1) := by decide +kernel
theorem dX12_image_47 : decode cX12_image 47 = .ok (.bipush 28, 2) := by decide +kernel
theorem dX12_image_49 : decode cX12_image 49 = .ok (.if_icmp .ge 24, 3) := by decide +kernel
theorem dX12_image_52 : decode cX12_image 52 = .ok (.aload_n 0, 1) := by decide +kernel
theorem dX12_image_53 : decode cX12_image 53 = .ok (.getfield 79, 3) := by decide +kernel
theorem dX12_image_56 : decode cX12_image 56 = .ok (.bipush 8, 2) := by decide +kernel
theorem dX12_image_58 : decode cX12_image 58 = .ok (.iload_n 1, 1) := by decide +kernel
theorem dX12_image_59 : decode cX12_image 59 = .ok (.iadd, 1) := by decide +kernel
theorem dX12_image_60 : decode cX12_image 60 = .ok (.aload_n 0, 1) := by decide +kernel
theorem dX12_image_61 : decode cX12_image 61 = .ok (.getfield 30, 3) := by decide +kernel
theorem dX12_image_64 : decode cX12_image 64 = .ok (.iload_n 1, 1) := by decide +kernel
theorem dX12_image_65 : decode cX12_image 65 = .ok (.iaload, 1) := by decide +kernel
theorem dX12_image_66 : decode cX12_image 66 = .ok (.iastore, 1) := by decide +kernel
theorem dX12_image_67 : decode cX12_image 67 = .ok (.iinc 1 1, 3) := by decide +kernel
theorem dX12_image_70 : decode cX12_image 70 = .ok (.goto (-24), 3) := by decide +kernel
theorem dX12_image_73 : decode cX12_image 73 = .ok (.iconst 0, 1) := by decide +kernel
theorem dX12_image_74 : decode cX12_image 74 = .ok (.istore_n 1, 1) := by decide +kernel
theorem dX12_image_75 : decode cX12_image 75 = .ok (.iload_n 1, 1) := by decide +kernel
theorem dX12_image_76 : decode cX12_image 76 = .ok (.bipush 8, 2) := by decide +kernel
theorem dX12_image_78 : decode cX12_image 78 = .ok (.if_icmp .ge 39, 3) := by decide +kernel
theorem dX12_image_81 : decode cX12_image 81 = .ok (.aload_n 0, 1) := by decide +kernel
theorem dX12_image_82 : decode cX12_image 82 = .ok (.getfield 79, 3) := by decide +kernel
theorem dX12_image_85 : decode cX12_image 85 = .ok (.bipush 36, 2) := by decide +kernel
theorem dX12_image_87 : decode cX12_image 87 = .ok (.iload_n 1, 1) := by decide +kernel
theorem dX12_image_88 : decode cX12_image 88 = .ok (.iadd, 1) := by decide +kernel
theorem dX12_image_89 : decode cX12_image 89 = .ok (.aload_n 0, 1) := by decide +kernel
theorem dX12_image_90 : decode cX12_image 90 = .ok (.getfield 39, 3) := by decide +kernel
theorem dX12_image_93 : decode cX12_image 93 = .ok (.iload_n 1, 1) := by decide +kernel
theorem dX12_image_94 : decode cX12_image 94 = .ok (.iaload, 1) := by decide +kernel
theorem dX12_image_95 : decode cX12_image 95 = .ok (.iastore, 1) := by decide +kernel
theorem dX12_image_96 : decode cX12_image 96 = .ok (.aload_n 0, 1) := by decide +kernel
theorem dX12_image_97 : decode cX12_image 97 = .ok (.getfield 79, 3) := by decide +kernel
theorem dX12_image_100 : decode cX12_image 100 = .ok (.bipush 44, 2) := by decide +kernel
theorem dX12_image_102 : decode cX12_image 102 = .ok (.iload_n 1, 1) := by decide +kernel
theorem dX12_image_103 : decode cX12_image 103 = .ok (.iadd, 1) := by decide +kernel
theorem dX12_image_104 : decode cX12_image 104 = .ok (.aload_n 0, 1) := by decide +kernel
theorem dX12_image_105 : decode cX12_image 105 = .ok (.getfield 42, 3) := by decide +kernel
theorem dX12_image_108 : decode cX12_image 108 = .ok (.iload_n 1, 1) := by decide +kernel
theorem dX12_image_109 : decode cX12_image 109 = .ok (.iaload, 1) := by decide +kernel
theorem dX12_image_110 : decode cX12_image 110 = .ok (.iastore, 1) := by decide +kernel
theorem dX12_image_111 : decode cX12_image 111 = .ok (.iinc 1 1, 3) := by decide +kernel
theorem dX12_image_114 : decode cX12_image 114 = .ok (.goto (-39), 3) := by decide +kernel
theorem dX12_image_117 : decode cX12_image 117 = .ok (.aload_n 0, 1) := by decide +kernel
theorem dX12_image_118 : decode cX12_image 118 = .ok (.getfield 79, 3) := by decide +kernel
theorem dX12_image_121 : decode cX12_image 121 = .ok (.bipush 52, 2) := by decide +kernel
theorem dX12_image_123 : decode cX12_image 123 = .ok (.aload_n 0, 1) := by decide +kernel
theorem dX12_image_124 : decode cX12_image 124 = .ok (.getfield 240, 3) := by decide +kernel
theorem dX12_image_127 : decode cX12_image 127 = .ok (.iastore, 1) := by decide +kernel
theorem dX12_image_128 : decode cX12_image 128 = .ok (.aload_n 0, 1) := by decide +kernel
theorem dX12_image_129 : decode cX12_image 129 = .ok (.getfield 9, 3) := by decide +kernel
theorem dX12_image_132 : decode cX12_image 132 = .ok (.iconst 0, 1) := by decide +kernel
theorem dX12_image_133 : decode cX12_image 133 = .ok (.iaload, 1) := by decide +kernel
theorem dX12_image_134 : decode cX12_image 134 = .ok (.ireturn, 1) := by decide +kernel
theorem dX12_undo_0 : decode cX12_undo 0 = .ok (.aload_n 0, 1) := by decide +kernel
theorem dX12_undo_1 : decode cX12_undo 1 = .ok (.getfield 258, 3) := by decide +kernel
theorem dX12_undo_4 : decode cX12_undo 4 = .ok (.ifCond .ne 6, 3) := by decide +kernel
theorem dX12_undo_7 : decode cX12_undo 7 = .ok (.bipush (-3), 2) := by decide +kernel
theorem dX12_undo_9 : decode cX12_undo 9 = .ok (.ireturn, 1) := by decide +kernel
theorem dX12_undo_10 : decode cX12_undo 10 = .ok (.iconst 0, 1) := by decide +kernel
theorem dX12_undo_11 : decode cX12_undo 11 = .ok (.istore_n 1, 1) := by decide +kernel
theorem dX12_undo_12 : decode cX12_undo 12 = .ok (.iload_n 1, 1) := by decide +kernel
theorem dX12_undo_13 : decode cX12_undo 13 = .ok (.iconst 4, 1) := by decide +kernel
theorem dX12_undo_14 : decode cX12_undo 14 = .ok (.if_icmp .ge 35, 3) := by decide +kernel
theorem dX12_undo_17 : decode cX12_undo 17 = .ok (.aload_n 0, 1) := by decide +kernel
theorem dX12_undo_18 : decode cX12_undo 18 = .ok (.getfield 9, 3) := by decide +kernel
theorem dX12_undo_21 : decode cX12_undo 21 = .ok (.iload_n 1, 1) := by decide +kernel
theorem dX12_undo_22 : decode cX12_undo 22 = .ok (.aload_n 0, 1) := by decide +kernel
theorem dX12_undo_23 : decode cX12_undo 23 = .ok (.getfield 79, 3) := by decide +kernel
theorem dX12_undo_26 : decode cX12_undo 26 = .ok (.iload_n 1, 1) := by decide +kernel
theorem dX12_undo_27 : decode cX12_undo 27 = .ok (.iaload, 1) := by decide +kernel
theorem dX12_undo_28 : decode cX12_undo 28 = .ok (.iastore, 1) := by decide +kernel
theorem dX12_undo_29 : decode cX12_undo 29 = .ok (.aload_n 0, 1) := by decide +kernel
theorem dX12_undo_30 : decode cX12_undo 30 = .ok (.getfield 27, 3) := by decide +kernel
theorem dX12_undo_33 : decode cX12_undo 33 = .ok (.iload_n 1, 1) := by decide +kernel
theorem dX12_undo_34 : decode cX12_undo 34 = .ok (.aload_n 0, 1) := by decide +kernel
theorem dX12_undo_35 : decode cX12_undo 35 = .ok (.getfield 79, 3) := by decide +kernel
theorem dX12_undo_38 : decode cX12_undo 38 = .ok (.iconst 4, 1) := by decide +kernel
theorem dX12_undo_39 : decode cX12_undo 39 = .ok (.iload_n 1, 1) := by decide +kernel
theorem dX12_undo_40 : decode cX12_undo 40 = .ok (.iadd, 1) := by decide +kernel
theorem dX12_undo_41 : decode cX12_undo 41 = .ok (.iaload, 1) := by decide +kernel
theorem dX12_undo_42 : decode cX12_undo 42 = .ok (.iastore, 1) := by decide +kernel
theorem dX12_undo_43 : decode cX12_undo 43 = .ok (.iinc 1 1, 3) := by decide +kernel
theorem dX12_undo_46 : decode cX12_undo 46 = .ok (.goto (-34), 3) := by decide +kernel
theorem dX12_undo_49 : decode cX12_undo 49 = .ok (.iconst 0, 1) := by decide +kernel
theorem dX12_undo_50 : decode cX12_undo 50 = .ok (.istore_n 1, 1) := by decide +kernel
theorem dX12_undo_51 : decode cX12_undo 51 = .ok (.iload_n 1, 1) := by decide +kernel
theorem dX12_undo_52 : decode cX12_undo 52 = .ok (.bipush 28, 2) := by decide +kernel
theorem dX12_undo_54 : decode cX12_undo 54 = .ok (.if_icmp .ge 24, 3) := by decide +kernel
theorem dX12_undo_57 : decode cX12_undo 57 = .ok (.aload_n 0, 1) := by decide +kernel
theorem dX12_undo_58 : decode cX12_undo 58 = .ok (.getfield 30, 3) := by decide +kernel
theorem dX12_undo_61 : decode cX12_undo 61 = .ok (.iload_n 1, 1) := by decide +kernel
theorem dX12_undo_62 : decode cX12_undo 62 = .ok (.aload_n 0, 1) := by decide +kernel
theorem dX12_undo_63 : decode cX12_undo 63 = .ok (.getfield 79, 3) := by decide +kernel
theorem dX12_undo_66 : decode cX12_undo 66 = .ok (.bipush 8, 2) := by decide +kernel
theorem dX12_undo_68 : decode cX12_undo 68 = .ok (.iload_n 1, 1) := by decide +kernel
theorem dX12_undo_69 : decode cX12_undo 69 = .ok (.iadd, 1) := by decide +kernel
theorem dX12_undo_70 : decode cX12_undo 70 = .ok (.iaload, 1) := by decide +kernel
theorem dX12_undo_71 : decode cX12_undo 71 = .ok (.iastore, 1) := by decide +kernel
theorem dX12_undo_72 : decode cX12_undo 72 = .ok (.iinc 1 1, 3) := by decide +kernel
theorem dX12_undo_75 : decode cX12_undo 75 = .ok (.goto (-24), 3) := by decide +kernel
theorem dX12_undo_78 : decode cX12_undo 78 = .ok (.iconst 0, 1) := by decide +kernel
theorem dX12_undo_79 : decode cX12_undo 79 = .ok (.istore_n 1, 1) := by decide +kernel
theorem dX12_undo_80 : decode cX12_undo 80 = .ok (.iload_n 1, 1) := by decide +kernel
theorem dX12_undo_81 : decode cX12_undo 81 = .ok (.bipush 8, 2) := by decide +kernel
theorem dX12_undo_83 : decode cX12_undo 83 = .ok (.if_icmp .ge 39, 3) := by decide +kernel
theorem dX12_undo_86 : decode cX12_undo 86 = .ok (.aload_n 0, 1) := by decide +kernel
theorem dX12_undo_87 : decode cX12_undo 87 = .ok (.getfield 39, 3) := by decide +kernel
theorem dX12_undo_90 : decode cX12_undo 90 = .ok (.iload_n 1, 1) := by decide +kernel
theorem dX12_undo_91 : decode cX12_undo 91 = .ok (.aload_n 0, 1) := by decide +kernel
theorem dX12_undo_92 : decode cX12_undo 92 = .ok (.getfield 79, 3) := by decide +kernel
theorem dX12_undo_95 : decode cX12_undo 95 = .ok (.bipush 36, 2) := by decide +kernel
theorem dX12_undo_97 : decode cX12_undo 97 = .ok (.iload_n 1, 1) := by decide +kernel
theorem dX12_undo_98 : decode cX12_undo 98 = .ok (.iadd, 1) := by decide +kernel
theorem dX12_undo_99 : decode cX12_undo 99 = .ok (.iaload, 1) := by decide +kernel
theorem dX12_undo_100 : decode cX12_undo 100 = .ok (.iastore, 1) := by decide +kernel
theorem dX12_undo_101 : decode cX12_undo 101 = .ok (.aload_n 0, 1) := by decide +kernel
theorem dX12_undo_102 : decode cX12_undo 102 = .ok (.getfield 42, 3) := by decide +kernel
theorem dX12_undo_105 : decode cX12_undo 105 = .ok (.iload_n 1, 1) := by decide +kernel
theorem dX12_undo_106 : decode cX12_undo 106 = .ok (.aload_n 0, 1) := by decide +kernel
theorem dX12_undo_107 : decode cX12_undo 107 = .ok (.getfield 79, 3) := by decide +kernel
theorem dX12_undo_110 : decode cX12_undo 110 = .ok (.bipush 44, 2) := by decide +kernel
theorem dX12_undo_112 : decode cX12_undo 112 = .ok (.iload_n 1, 1) := by decide +kernel
theorem dX12_undo_113 : decode cX12_undo 113 = .ok (.iadd, 1) := by decide +kernel
theorem dX12_undo_114 : decode cX12_undo 114 = .ok (.iaload, 1) := by decide +kernel
theorem dX12_undo_115 : decode cX12_undo 115 = .ok (.iastore, 1) := by decide +kernel
theorem dX12_undo_116 : decode cX12_undo 116 = .ok (.iinc 1 1, 3) := by decide +kernel
theorem dX12_undo_119 : decode cX12_undo 119 = .ok (.goto (-39), 3) := by decide +kernel
theorem dX12_undo_122 : decode cX12_undo 122 = .ok (.aload_n 0, 1) := by decide +kernel
theorem dX12_undo_123 : decode cX12_undo 123 = .ok (.aload_n 0, 1) := by decide +kernel
theorem dX12_undo_124 : decode cX12_undo 124 = .ok (.getfield 79, 3) := by decide +kernel
theorem dX12_undo_127 : decode cX12_undo 127 = .ok (.bipush 52, 2) := by decide +kernel
theorem dX12_undo_129 : decode cX12_undo 129 = .ok (.iaload, 1) := by decide +kernel
theorem dX12_undo_130 : decode cX12_undo 130 = .ok (.putfield 240, 3) := by decide +kernel
theorem dX12_undo_133 : decode cX12_undo 133 = .ok (.aload_n 0, 1) := by decide +kernel
theorem dX12_undo_134 : decode cX12_undo 134 = .ok (.getfield 9, 3) := by decide +kernel
theorem dX12_undo_137 : decode cX12_undo 137 = .ok (.iconst 0, 1) := by decide +kernel
theorem dX12_undo_138 : decode cX12_undo 138 = .ok (.iaload, 1) := by decide +kernel
theorem dX12_undo_139 : decode cX12_undo 139 = .ok (.ireturn, 1) := by decide +kernel
theorem dX12_count_0 : decode cX12_count 0 = .ok (.iload_n 1, 1) := by decide +kernel
theorem dX12_count_1 : decode cX12_count 1 = .ok (.iconst 0, 1) := by decide +kernel
theorem dX12_count_2 : decode cX12_count 2 = .ok (.iconst 3, 1) := by decide +kernel
theorem dX12_count_3 : decode cX12_count 3 = .ok (.invokestatic 92, 3) := by decide +kernel
theorem dX12_count_6 : decode cX12_count 6 = .ok (.ifCond .ne 6, 3) := by decide +kernel
theorem dX12_count_9 : decode cX12_count 9 = .ok (.bipush (-2), 2) := by decide +kernel
theorem dX12_count_11 : decode cX12_count 11 = .ok (.ireturn, 1) := by decide +kernel
theorem dX12_count_12 : decode cX12_count 12 = .ok (.iload_n 1, 1) := by decide +kernel
theorem dX12_count_13 : decode cX12_count 13 = .ok (.ifCond .le 32, 3) := by decide +kernel
theorem dX12_count_16 : decode cX12_count 16 = .ok (.iload_n 1, 1) := by decide +kernel
theorem dX12_count_17 : decode cX12_count 17 = .ok (.iconst 1, 1) := by decide +kernel
theorem dX12_count_18 : decode cX12_count 18 = .ok (.if_icmp .ne 10, 3) := by decide +kernel
theorem dX12_count_21 : decode cX12_count 21 = .ok (.aload_n 0, 1) := by decide +kernel
theorem dX12_count_22 : decode cX12_count 22 = .ok (.getfield 182, 3) := by decide +kernel
theorem dX12_count_25 : decode cX12_count 25 = .ok (.goto 19, 3) := by decide +kernel
theorem dX12_count_28 : decode cX12_count 28 = .ok (.iload_n 1, 1) := by decide +kernel
theorem dX12_count_29 : decode cX12_count 29 = .ok (.iconst 2, 1) := by decide +kernel
theorem dX12_count_30 : decode cX12_count 30 = .ok (.if_icmp .ne 10, 3) := by decide +kernel
theorem dX12_count_33 : decode cX12_count 33 = .ok (.aload_n 0, 1) := by decide +kernel
theorem dX12_count_34 : decode cX12_count 34 = .ok (.getfield 246, 3) := by decide +kernel
theorem dX12_count_37 : decode cX12_count 37 = .ok (.goto 7, 3) := by decide +kernel
theorem dX12_count_40 : decode cX12_count 40 = .ok (.aload_n 0, 1) := by decide +kernel
theorem dX12_count_41 : decode cX12_count 41 = .ok (.getfield 240, 3) := by decide +kernel
theorem dX12_count_44 : decode cX12_count 44 = .ok (.ireturn, 1) := by decide +kernel
theorem dX12_count_45 : decode cX12_count 45 = .ok (.iconst 0, 1) := by decide +kernel
theorem dX12_count_46 : decode cX12_count 46 = .ok (.istore_n 2, 1) := by decide +kernel
theorem dX12_count_47 : decode cX12_count 47 = .ok (.iconst 0, 1) := by decide +kernel
theorem dX12_count_48 : decode cX12_count 48 = .ok (.istore_n 3, 1) := by decide +kernel
theorem dX12_count_49 : decode cX12_count 49 = .ok (.iload_n 3, 1) := by decide +kernel
theorem dX12_count_50 : decode cX12_count 50 = .ok (.bipush 28, 2) := by decide +kernel
theorem dX12_count_52 : decode cX12_count 52 = .ok (.if_icmp .ge 26, 3) := by decide +kernel
theorem dX12_count_55 : decode cX12_count 55 = .ok (.iload_n 2, 1) := by decide +kernel
theorem dX12_count_56 : decode cX12_count 56 = .ok (.aload_n 0, 1) := by decide +kernel
theorem dX12_count_57 : decode cX12_count 57 = .ok (.getfield 30, 3) := by decide +kernel
theorem dX12_count_60 : decode cX12_count 60 = .ok (.iload_n 3, 1) := by decide +kernel
theorem dX12_count_61 : decode cX12_count 61 = .ok (.iaload, 1) := by decide +kernel
theorem dX12_count_62 : decode cX12_count 62 = .ok (.ifCond .eq 7, 3) := by decide +kernel
theorem dX12_count_65 : decode cX12_count 65 = .ok (.iconst 1, 1) := by decide +kernel
theorem dX12_count_66 : decode cX12_count 66 = .ok (.goto 4, 3) := by decide +kernel
theorem dX12_count_69 : decode cX12_count 69 = .ok (.iconst 0, 1) := by decide +kernel
theorem dX12_count_70 : decode cX12_count 70 = .ok (.iadd, 1) := by decide +kernel
theorem dX12_count_71 : decode cX12_count 71 = .ok (.istore_n 2, 1) := by decide +kernel
theorem dX12_count_72 : decode cX12_count 72 = .ok (.iinc 3 1, 3) := by decide +kernel
theorem dX12_count_75 : decode cX12_count 75 = .ok (.goto (-26), 3) := by decide +kernel
theorem dX12_count_78 : decode cX12_count 78 = .ok (.iload_n 2, 1) := by decide +kernel
theorem dX12_count_79 : decode cX12_count 79 = .ok (.ireturn, 1) := by decide +kernel
theorem dJ9_floorMod_7cf53_0 : decode cJ9_floorMod_7cf53 0 = .ok (.iload_n 0, 1) := by decide +kernel
theorem dJ9_floorMod_7cf53_1 : decode cJ9_floorMod_7cf53 1 = .ok (.iload_n 1, 1) := by decide +kernel
theorem dJ9_floorMod_7cf53_2 : decode cJ9_floorMod_7cf53 2 = .ok (.irem, 1) := by decide +kernel
theorem dJ9_floorMod_7cf53_3 : decode cJ9_floorMod_7cf53 3 = .ok (.istore_n 2, 1) := by decide +kernel
theorem dJ9_floorMod_7cf53_4 : decode cJ9_floorMod_7cf53 4 = .ok (.iload_n 0, 1) := by decide +kernel
theorem dJ9_floorMod_7cf53_5 : decode cJ9_floorMod_7cf53 5 = .ok (.iload_n 1, 1) := by decide +kernel
theorem dJ9_floorMod_7cf53_6 : decode cJ9_floorMod_7cf53 6 = .ok (.ixor, 1) := by decide +kernel
theorem dJ9_floorMod_7cf53_7 : decode cJ9_floorMod_7cf53 7 = .ok (.ifCond .ge 11, 3) := by decide +kernel
theorem dJ9_floorMod_7cf53_10 : decode cJ9_floorMod_7cf53 10 = .ok (.iload_n 2, 1) := by decide +kernel
theorem dJ9_floorMod_7cf53_11 : decode cJ9_floorMod_7cf53 11 = .ok (.ifCond .eq 7, 3) := by decide +kernel
theorem dJ9_floorMod_7cf53_14 : decode cJ9_floorMod_7cf53 14 = .ok (.iload_n 2, 1) := by decide +kernel
theorem dJ9_floorMod_7cf53_15 : decode cJ9_floorMod_7cf53 15 = .ok (.iload_n 1, 1) := by decide +kernel
theorem dJ9_floorMod_7cf53_16 : decode cJ9_floorMod_7cf53 16 = .ok (.iadd, 1) := by decide +kernel
theorem dJ9_floorMod_7cf53_17 : decode cJ9_floorMod_7cf53 17 = .ok (.ireturn, 1) := by decide +kernel
theorem dJ9_floorMod_7cf53_18 : decode cJ9_floorMod_7cf53 18 = .ok (.iload_n 2, 1) := by decide +kernel
theorem dJ9_floorMod_7cf53_19 : decode cJ9_floorMod_7cf53 19 = .ok (.ireturn, 1) := by decide +kernel
theorem dJ9_max_7cf53_0 : decode cJ9_max_7cf53 0 = .ok (.iload_n 0, 1) := by decide +kernel
theorem dJ9_max_7cf53_1 : decode cJ9_max_7cf53 1 = .ok (.iload_n 1, 1) := by decide +kernel
theorem dJ9_max_7cf53_2 : decode cJ9_max_7cf53 2 = .ok (.if_icmp .lt 7, 3) := by decide +kernel
theorem dJ9_max_7cf53_5 : decode cJ9_max_7cf53 5 = .ok (.iload_n 0, 1) := by decide +kernel
theorem dJ9_max_7cf53_6 : decode cJ9_max_7cf53 6 = .ok (.goto 4, 3) := by decide +kernel
theorem dJ9_max_7cf53_9 : decode cJ9_max_7cf53 9 = .ok (.iload_n 1, 1) := by decide +kernel
theorem dJ9_max_7cf53_10 : decode cJ9_max_7cf53 10 = .ok (.ireturn, 1) := by decide +kernel
theorem dJ9_min_7cf53_0 : decode cJ9_min_7cf53 0 = .ok (.iload_n 0, 1) := by decide +kernel
theorem dJ9_min_7cf53_1 : decode cJ9_min_7cf53 1 = .ok (.iload_n 1, 1) := by decide +kernel
theorem dJ9_min_7cf53_2 : decode cJ9_min_7cf53 2 = .ok (.if_icmp .gt 7, 3) := by decide +kernel
theorem dJ9_min_7cf53_5 : decode cJ9_min_7cf53 5 = .ok (.iload_n 0, 1) := by decide +kernel
theorem dJ9_min_7cf53_6 : decode cJ9_min_7cf53 6 = .ok (.goto 4, 3) := by decide +kernel
theorem dJ9_min_7cf53_9 : decode cJ9_min_7cf53 9 = .ok (.iload_n 1, 1) := by decide +kernel
theorem dJ9_min_7cf53_10 : decode cJ9_min_7cf53 10 = .ok (.ireturn, 1) := by decide +kernel
theorem dL_law_0 : decode cL_law 0 = .ok (.new 7, 3) := by decide +kernel
theorem dL_law_3 : decode cL_law 3 = .ok (.dup, 1) := by decide +kernel
theorem dL_law_4 : decode cL_law 4 = .ok (.invokespecial 9, 3) := by decide +kernel
theorem dL_law_7 : decode cL_law 7 = .ok (.astore_n 1, 1) := by decide +kernel
theorem dL_law_8 : decode cL_law 8 = .ok (.new 10, 3) := by decide +kernel
theorem dL_law_11 : decode cL_law 11 = .ok (.dup, 1) := by decide +kernel
theorem dL_law_12 : decode cL_law 12 = .ok (.invokespecial 12, 3) := by decide +kernel
theorem dL_law_15 : decode cL_law 15 = .ok (.astore_n 2, 1) := by decide +kernel
theorem dL_law_16 : decode cL_law 16 = .ok (.iconst 0, 1) := by decide +kernel
theorem dL_law_17 : decode cL_law 17 = .ok (.istore_n 3, 1) := by decide +kernel
theorem dL_law_18 : decode cL_law 18 = .ok (.iload_n 3, 1) := by decide +kernel
theorem dL_law_19 : decode cL_law 19 = .ok (.aload_n 0, 1) := by decide +kernel
theorem dL_law_20 : decode cL_law 20 = .ok (.arraylength, 1) := by decide +kernel
theorem dL_law_21 : decode cL_law 21 = .ok (.iconst 5, 1) := by decide +kernel
theorem dL_law_22 : decode cL_law 22 = .ok (.isub, 1) := by decide +kernel
theorem dL_law_23 : decode cL_law 23 = .ok (.if_icmp .gt 1264, 3) := by decide +kernel
theorem dL_law_26 : decode cL_law 26 = .ok (.aload_n 0, 1) := by decide +kernel
theorem dL_law_27 : decode cL_law 27 = .ok (.iload_n 3, 1) := by decide +kernel
theorem dL_law_28 : decode cL_law 28 = .ok (.iaload, 1) := by decide +kernel
theorem dL_law_29 : decode cL_law 29 = .ok (.bipush 63, 2) := by decide +kernel
theorem dL_law_31 : decode cL_law 31 = .ok (.iand, 1) := by decide +kernel
theorem dL_law_32 : decode cL_law 32 = .ok (.tableswitch 1249 0 32 #[148, 181, 204, 247, 290, 343, 386, 409, 432, 465, 498, 541, 564, 587, 630, 653, 686, 729, 762, 805, 838, 861, 915, 948, 981, 1004, 1027, 1060, 1093, 1166, 1200, 1213, 1226], 148) := by decide +kernel
theorem dL_law_180 : decode cL_law 180 = .ok (.aload_n 1, 1) := by decide +kernel
theorem dL_law_181 : decode cL_law 181 = .ok (.aload_n 0, 1) := by decide +kernel
theorem dL_law_182 : decode cL_law 182 = .ok (.iload_n 3, 1) := by decide +kernel
theorem dL_law_183 : decode cL_law 183 = .ok (.iconst 1, 1) := by decide +kernel
theorem dL_law_184 : decode cL_law 184 = .ok (.iadd, 1) := by decide +kernel
theorem dL_law_185 : decode cL_law 185 = .ok (.iaload, 1) := by decide +kernel
theorem dL_law_186 : decode cL_law 186 = .ok (.aload_n 0, 1) := by decide +kernel
theorem dL_law_187 : decode cL_law 187 = .ok (.iload_n 3, 1) := by decide +kernel
theorem dL_law_188 : decode cL_law 188 = .ok (.iconst 2, 1) := by decide +kernel
theorem dL_law_189 : decode cL_law 189 = .ok (.iadd, 1) := by decide +kernel
theorem dL_law_190 : decode cL_law 190 = .ok (.iaload, 1) := by decide +kernel
theorem dL_law_191 : decode cL_law 191 = .ok (.invokevirtual 13, 3) := by decide +kernel
theorem dL_law_194 : decode cL_law 194 = .ok (.aload_n 2, 1) := by decide +kernel
theorem dL_law_195 : decode cL_law 195 = .ok (.aload_n 0, 1) := by decide +kernel
theorem dL_law_196 : decode cL_law 196 = .ok (.iload_n 3, 1) := by decide +kernel
theorem dL_law_197 : decode cL_law 197 = .ok (.iconst 1, 1) := by decide +kernel
theorem dL_law_198 : decode cL_law 198 = .ok (.iadd, 1) := by decide +kernel
theorem dL_law_199 : decode cL_law 199 = .ok (.iaload, 1) := by decide +kernel
theorem dL_law_200 : decode cL_law 200 = .ok (.aload_n 0, 1) := by decide +kernel
theorem dL_law_201 : decode cL_law 201 = .ok (.iload_n 3, 1) := by decide +kernel
theorem dL_law_202 : decode cL_law 202 = .ok (.iconst 2, 1) := by decide +kernel
theorem dL_law_203 : decode cL_law 203 = .ok (.iadd, 1) := by decide +kernel
theorem dL_law_204 : decode cL_law 204 = .ok (.iaload, 1) := by decide +kernel
theorem dL_law_205 : decode cL_law 205 = .ok (.invokevirtual 17, 3) := by decide +kernel
theorem dL_law_208 : decode cL_law 208 = .ok (.if_icmp .eq 1073, 3) := by decide +kernel
theorem dL_law_211 : decode cL_law 211 = .ok (.iconst 0, 1) := by decide +kernel
theorem dL_law_212 : decode cL_law 212 = .ok (.ireturn, 1) := by decide +kernel
theorem dL_law_213 : decode cL_law 213 = .ok (.aload_n 1, 1) := by decide +kernel
theorem dL_law_214 : decode cL_law 214 = .ok (.aload_n 0, 1) := by decide +kernel
theorem dL_law_215 : decode cL_law 215 = .ok (.iload_n 3, 1) := by decide +kernel
theorem dL_law_216 : decode cL_law 216 = .ok (.iconst 1, 1) := by decide +kernel
theorem dL_law_217 : decode cL_law 217 = .ok (.iadd, 1) := by decide +kernel
theorem dL_law_218 : decode cL_law 218 = .ok (.iaload, 1) := by decide +kernel
theorem dL_law_219 : decode cL_law 219 = .ok (.invokevirtual 18, 3) := by decide +kernel
theorem dL_law_222 : decode cL_law 222 = .ok (.aload_n 2, 1) := by decide +kernel
theorem dL_law_223 : decode cL_law 223 = .ok (.aload_n 0, 1) := by decide +kernel
theorem dL_law_224 : decode cL_law 224 = .ok (.iload_n 3, 1) := by decide +kernel
theorem dL_law_225 : decode cL_law 225 = .ok (.iconst 1, 1) := by decide +kernel
theorem dL_law_226 : decode cL_law 226 = .ok (.iadd, 1) := by decide +kernel
theorem dL_law_227 : decode cL_law 227 = .ok (.iaload, 1) := by decide +kernel
theorem dL_law_228 : decode cL_law 228 = .ok (.invokevirtual 22, 3) := by decide +kernel
theorem dL_law_231 : decode cL_law 231 = .ok (.if_icmp .eq 1050, 3) := by decide +kernel
theorem dL_law_234 : decode cL_law 234 = .ok (.iconst 0, 1) := by decide +kernel
theorem dL_law_235 : decode cL_law 235 = .ok (.ireturn, 1) := by decide +kernel
theorem dL_law_236 : decode cL_law 236 = .ok (.aload_n 1, 1) := by decide +kernel
theorem dL_law_237 : decode cL_law 237 = .ok (.aload_n 0, 1) := by decide +kernel
theorem dL_law_238 : decode cL_law 238 = .ok (.iload_n 3, 1) := by decide +kernel
theorem dL_law_239 : decode cL_law 239 = .ok (.iconst 1, 1) := by decide +kernel
theorem dL_law_240 : decode cL_law 240 = .ok (.iadd, 1) := by decide +kernel
theorem dL_law_241 : decode cL_law 241 = .ok (.iaload, 1) := by decide +kernel
theorem dL_law_242 : decode cL_law 242 = .ok (.aload_n 0, 1) := by decide +kernel
theorem dL_law_243 : decode cL_law 243 = .ok (.iload_n 3, 1) := by decide +kernel
theorem dL_law_244 : decode cL_law 244 = .ok (.iconst 2, 1) := by decide +kernel
theorem dL_law_245 : decode cL_law 245 = .ok (.iadd, 1) := by decide +kernel
theorem dL_law_246 : decode cL_law 246 = .ok (.iaload, 1) := by decide +kernel
theorem dL_law_247 : decode cL_law 247 = .ok (.aload_n 0, 1) := by decide +kernel
theorem dL_law_248 : decode cL_law 248 = .ok (.iload_n 3, 1) := by decide +kernel
theorem dL_law_249 : decode cL_law 249 = .ok (.iconst 3, 1) := by decide +kernel
theorem dL_law_250 : decode cL_law 250 = .ok (.iadd, 1) := by decide +kernel
theorem dL_law_251 : decode cL_law 251 = .ok (.iaload, 1) := by decide +kernel
theorem dL_law_252 : decode cL_law 252 = .ok (.invokevirtual 23, 3) := by decide +kernel
theorem dL_law_255 : decode cL_law 255 = .ok (.aload_n 2, 1) := by decide +kernel
theorem dL_law_256 : decode cL_law 256 = .ok (.aload_n 0, 1) := by decide +kernel
theorem dL_law_257 : decode cL_law 257 = .ok (.iload_n 3, 1) := by decide +kernel
theorem dL_law_258 : decode cL_law 258 = .ok (.iconst 1, 1) := by decide +kernel
theorem dL_law_259 : decode cL_law 259 = .ok (.iadd, 1) := by decide +kernel
theorem dL_law_260 : decode cL_law 260 = .ok (.iaload, 1) := by decide +kernel
theorem dL_law_261 : decode cL_law 261 = .ok (.aload_n 0, 1) := by decide +kernel
theorem dL_law_262 : decode cL_law 262 = .ok (.iload_n 3, 1) := by decide +kernel
theorem dL_law_263 : decode cL_law 263 = .ok (.iconst 2, 1) := by decide +kernel
theorem dL_law_264 : decode cL_law 264 = .ok (.iadd, 1) := by decide +kernel
theorem dL_law_265 : decode cL_law 265 = .ok (.iaload, 1) := by decide +kernel
theorem dL_law_266 : decode cL_law 266 = .ok (.aload_n 0, 1) := by decide +kernel
theorem dL_law_267 : decode cL_law 267 = .ok (.iload_n 3, 1) := by decide +kernel
theorem dL_law_268 : decode cL_law 268 = .ok (.iconst 3, 1) := by decide +kernel
theorem dL_law_269 : decode cL_law 269 = .ok (.iadd, 1) := by decide +kernel
theorem dL_law_270 : decode cL_law 270 = .ok (.iaload, 1) := by decide +kernel
theorem dL_law_271 : decode cL_law 271 = .ok (.invokevirtual 27, 3) := by decide +kernel
theorem dL_law_274 : decode cL_law 274 = .ok (.if_icmp .eq 1007, 3) := by decide +kernel
theorem dL_law_277 : decode cL_law 277 = .ok (.iconst 0, 1) := by decide +kernel
theorem dL_law_278 : decode cL_law 278 = .ok (.ireturn, 1) := by decide +kernel
theorem dL_law_279 : decode cL_law 279 = .ok (.aload_n 1, 1) := by decide +kernel
theorem dL_law_280 : decode cL_law 280 = .ok (.aload_n 0, 1) := by decide +kernel
theorem dL_law_281 : decode cL_law 281 = .ok (.iload_n 3, 1) := by decide +kernel
theorem dL_law_282 : decode cL_law 282 = .ok (.iconst 1, 1) := by decide +kernel
theorem dL_law_283 : decode cL_law 283 = .ok (.iadd, 1) := by decide +kernel
theorem dL_law_284 : decode cL_law 284 = .ok (.iaload, 1) := by decide +kernel
theorem dL_law_285 : decode cL_law 285 = .ok (.aload_n 0, 1) := by decide +kernel
theorem dL_law_286 : decode cL_law 286 = .ok (.iload_n 3, 1) := by decide +kernel
theorem dL_law_287 : decode cL_law 287 = .ok (.iconst 2, 1) := by decide +kernel
theorem dL_law_288 : decode cL_law 288 = .ok (.iadd, 1) := by decide +kernel
theorem dL_law_289 : decode cL_law 289 = .ok (.iaload, 1) := by decide +kernel
theorem dL_law_290 : decode cL_law 290 = .ok (.aload_n 0, 1) := by decide +kernel
theorem dL_law_291 : decode cL_law 291 = .ok (.iload_n 3, 1) := by decide +kernel
theorem dL_law_292 : decode cL_law 292 = .ok (.iconst 3, 1) := by decide +kernel
theorem dL_law_293 : decode cL_law 293 = .ok (.iadd, 1) := by decide +kernel
theorem dL_law_294 : decode cL_law 294 = .ok (.iaload, 1) := by decide +kernel
theorem dL_law_295 : decode cL_law 295 = .ok (.invokevirtual 28, 3) := by decide +kernel
theorem dL_law_298 : decode cL_law 298 = .ok (.aload_n 2, 1) := by decide +kernel
theorem dL_law_299 : decode cL_law 299 = .ok (.aload_n 0, 1) := by decide +kernel
theorem dL_law_300 : decode cL_law 300 = .ok (.iload_n 3, 1) := by decide +kernel
theorem dL_law_301 : decode cL_law 301 = .ok (.iconst 1, 1) := by decide +kernel
theorem dL_law_302 : decode cL_law 302 = .ok (.iadd, 1) := by decide +kernel
theorem dL_law_303 : decode cL_law 303 = .ok (.iaload, 1) := by decide +kernel
theorem dL_law_304 : decode cL_law 304 = .ok (.aload_n 0, 1) := by decide +kernel
theorem dL_law_305 : decode cL_law 305 = .ok (.iload_n 3, 1) := by decide +kernel
theorem dL_law_306 : decode cL_law 306 = .ok (.iconst 2, 1) := by decide +kernel
theorem dL_law_307 : decode cL_law 307 = .ok (.iadd, 1) := by decide +kernel
theorem dL_law_308 : decode cL_law 308 = .ok (.iaload, 1) := by decide +kernel
theorem dL_law_309 : decode cL_law 309 = .ok (.aload_n 0, 1) := by decide +kernel
theorem dL_law_310 : decode cL_law 310 = .ok (.iload_n 3, 1) := by decide +kernel
theorem dL_law_311 : decode cL_law 311 = .ok (.iconst 3, 1) := by decide +kernel
theorem dL_law_312 : decode cL_law 312 = .ok (.iadd, 1) := by decide +kernel
theorem dL_law_313 : decode cL_law 313 = .ok (.iaload, 1) := by decide +kernel
theorem dL_law_314 : decode cL_law 314 = .ok (.invokevirtual 31, 3) := by decide +kernel
theorem dL_law_317 : decode cL_law 317 = .ok (.if_icmp .eq 964, 3) := by decide +kernel
theorem dL_law_320 : decode cL_law 320 = .ok (.iconst 0, 1) := by decide +kernel
theorem dL_law_321 : decode cL_law 321 = .ok (.ireturn, 1) := by decide +kernel
theorem dL_law_322 : decode cL_law 322 = .ok (.aload_n 1, 1) := by decide +kernel
theorem dL_law_323 : decode cL_law 323 = .ok (.aload_n 0, 1) := by decide +kernel
theorem dL_law_324 : decode cL_law 324 = .ok (.iload_n 3, 1) := by decide +kernel
theorem dL_law_325 : decode cL_law 325 = .ok (.iconst 1, 1) := by decide +kernel
theorem dL_law_326 : decode cL_law 326 = .ok (.iadd, 1) := by decide +kernel
theorem dL_law_327 : decode cL_law 327 = .ok (.iaload, 1) := by decide +kernel
theorem dL_law_328 : decode cL_law 328 = .ok (.aload_n 0, 1) := by decide +kernel
theorem dL_law_329 : decode cL_law 329 = .ok (.iload_n 3, 1) := by decide +kernel
theorem dL_law_330 : decode cL_law 330 = .ok (.iconst 2, 1) := by decide +kernel
theorem dL_law_331 : decode cL_law 331 = .ok (.iadd, 1) := by decide +kernel
theorem dL_law_332 : decode cL_law 332 = .ok (.iaload, 1) := by decide +kernel
theorem dL_law_333 : decode cL_law 333 = .ok (.aload_n 0, 1) := by decide +kernel
theorem dL_law_334 : decode cL_law 334 = .ok (.iload_n 3, 1) := by decide +kernel
theorem dL_law_335 : decode cL_law 335 = .ok (.iconst 3, 1) := by decide +kernel
theorem dL_law_336 : decode cL_law 336 = .ok (.iadd, 1) := by decide +kernel
theorem dL_law_337 : decode cL_law 337 = .ok (.iaload, 1) := by decide +kernel
theorem dL_law_338 : decode cL_law 338 = .ok (.aload_n 0, 1) := by decide +kernel
theorem dL_law_339 : decode cL_law 339 = .ok (.iload_n 3, 1) := by decide +kernel
theorem dL_law_340 : decode cL_law 340 = .ok (.iconst 4, 1) := by decide +kernel
theorem dL_law_341 : decode cL_law 341 = .ok (.iadd, 1) := by decide +kernel
theorem dL_law_342 : decode cL_law 342 = .ok (.iaload, 1) := by decide +kernel
theorem dL_law_343 : decode cL_law 343 = .ok (.invokevirtual 32, 3) := by decide +kernel
theorem dL_law_346 : decode cL_law 346 = .ok (.aload_n 2, 1) := by decide +kernel
theorem dL_law_347 : decode cL_law 347 = .ok (.aload_n 0, 1) := by decide +kernel
theorem dL_law_348 : decode cL_law 348 = .ok (.iload_n 3, 1) := by decide +kernel
theorem dL_law_349 : decode cL_law 349 = .ok (.iconst 1, 1) := by decide +kernel
theorem dL_law_350 : decode cL_law 350 = .ok (.iadd, 1) := by decide +kernel
theorem dL_law_351 : decode cL_law 351 = .ok (.iaload, 1) := by decide +kernel
theorem dL_law_352 : decode cL_law 352 = .ok (.aload_n 0, 1) := by decide +kernel
theorem dL_law_353 : decode cL_law 353 = .ok (.iload_n 3, 1) := by decide +kernel
theorem dL_law_354 : decode cL_law 354 = .ok (.iconst 2, 1) := by decide +kernel
theorem dL_law_355 : decode cL_law 355 = .ok (.iadd, 1) := by decide +kernel
theorem dL_law_356 : decode cL_law 356 = .ok (.iaload, 1) := by decide +kernel
theorem dL_law_357 : decode cL_law 357 = .ok (.aload_n 0, 1) := by decide +kernel
theorem dL_law_358 : decode cL_law 358 = .ok (.iload_n 3, 1) := by decide +kernel
theorem dL_law_359 : decode cL_law 359 = .ok (.iconst 3, 1) := by decide +kernel
theorem dL_law_360 : decode cL_law 360 = .ok (.iadd, 1) := by decide +kernel
theorem dL_law_361 : decode cL_law 361 = .ok (.iaload, 1) := by decide +kernel
theorem dL_law_362 : decode cL_law 362 = .ok (.aload_n 0, 1) := by decide +kernel
theorem dL_law_363 : decode cL_law 363 = .ok (.iload_n 3, 1) := by decide +kernel
theorem dL_law_364 : decode cL_law 364 = .ok (.iconst 4, 1) := by decide +kernel
theorem dL_law_365 : decode cL_law 365 = .ok (.iadd, 1) := by decide +kernel
theorem dL_law_366 : decode cL_law 366 = .ok (.iaload, 1) := by decide +kernel
theorem dL_law_367 : decode cL_law 367 = .ok (.invokevirtual 36, 3) := by decide +kernel
theorem dL_law_370 : decode cL_law 370 = .ok (.if_icmp .eq 911, 3) := by decide +kernel
theorem dL_law_373 : decode cL_law 373 = .ok (.iconst 0, 1) := by decide +kernel
theorem dL_law_374 : decode cL_law 374 = .ok (.ireturn, 1) := by decide +kernel
theorem dL_law_375 : decode cL_law 375 = .ok (.aload_n 1, 1) := by decide +kernel
theorem dL_law_376 : decode cL_law 376 = .ok (.aload_n 0, 1) := by decide +kernel
theorem dL_law_377 : decode cL_law 377 = .ok (.iload_n 3, 1) := by decide +kernel
theorem dL_law_378 : decode cL_law 378 = .ok (.iconst 1, 1) := by decide +kernel
theorem dL_law_379 : decode cL_law 379 = .ok (.iadd, 1) := by decide +kernel
theorem dL_law_380 : decode cL_law 380 = .ok (.iaload, 1) := by decide +kernel
theorem dL_law_381 : decode cL_law 381 = .ok (.aload_n 0, 1) := by decide +kernel
theorem dL_law_382 : decode cL_law 382 = .ok (.iload_n 3, 1) := by decide +kernel
theorem dL_law_383 : decode cL_law 383 = .ok (.iconst 2, 1) := by decide +kernel
theorem dL_law_384 : decode cL_law 384 = .ok (.iadd, 1) := by decide +kernel
theorem dL_law_385 : decode cL_law 385 = .ok (.iaload, 1) := by decide +kernel
theorem dL_law_386 : decode cL_law 386 = .ok (.aload_n 0, 1) := by decide +kernel
theorem dL_law_387 : decode cL_law 387 = .ok (.iload_n 3, 1) := by decide +kernel
theorem dL_law_388 : decode cL_law 388 = .ok (.iconst 3, 1) := by decide +kernel
theorem dL_law_389 : decode cL_law 389 = .ok (.iadd, 1) := by decide +kernel
theorem dL_law_390 : decode cL_law 390 = .ok (.iaload, 1) := by decide +kernel
theorem dL_law_391 : decode cL_law 391 = .ok (.invokevirtual 37, 3) := by decide +kernel
theorem dL_law_394 : decode cL_law 394 = .ok (.aload_n 2, 1) := by decide +kernel
theorem dL_law_395 : decode cL_law 395 = .ok (.aload_n 0, 1) := by decide +kernel
theorem dL_law_396 : decode cL_law 396 = .ok (.iload_n 3, 1) := by decide +kernel
theorem dL_law_397 : decode cL_law 397 = .ok (.iconst 1, 1) := by decide +kernel
theorem dL_law_398 : decode cL_law 398 = .ok (.iadd, 1) := by decide +kernel
theorem dL_law_399 : decode cL_law 399 = .ok (.iaload, 1) := by decide +kernel
theorem dL_law_400 : decode cL_law 400 = .ok (.aload_n 0, 1) := by decide +kernel
theorem dL_law_401 : decode cL_law 401 = .ok (.iload_n 3, 1) := by decide +kernel
theorem dL_law_402 : decode cL_law 402 = .ok (.iconst 2, 1) := by decide +kernel
theorem dL_law_403 : decode cL_law 403 = .ok (.iadd, 1) := by decide +kernel
theorem dL_law_404 : decode cL_law 404 = .ok (.iaload, 1) := by decide +kernel
theorem dL_law_405 : decode cL_law 405 = .ok (.aload_n 0, 1) := by decide +kernel
theorem dL_law_406 : decode cL_law 406 = .ok (.iload_n 3, 1) := by decide +kernel
theorem dL_law_407 : decode cL_law 407 = .ok (.iconst 3, 1) := by decide +kernel
theorem dL_law_408 : decode cL_law 408 = .ok (.iadd, 1) := by decide +kernel
theorem dL_law_409 : decode cL_law 409 = .ok (.iaload, 1) := by decide +kernel
theorem dL_law_410 : decode cL_law 410 = .ok (.invokevirtual 40, 3) := by decide +kernel
theorem dL_law_413 : decode cL_law 413 = .ok (.if_icmp .eq 868, 3) := by decide +kernel
theorem dL_law_416 : decode cL_law 416 = .ok (.iconst 0, 1) := by decide +kernel
theorem dL_law_417 : decode cL_law 417 = .ok (.ireturn, 1) := by decide +kernel
theorem dL_law_418 : decode cL_law 418 = .ok (.aload_n 1, 1) := by decide +kernel
theorem dL_law_419 : decode cL_law 419 = .ok (.aload_n 0, 1) := by decide +kernel
theorem dL_law_420 : decode cL_law 420 = .ok (.iload_n 3, 1) := by decide +kernel
theorem dL_law_421 : decode cL_law 421 = .ok (.iconst 1, 1) := by decide +kernel
theorem dL_law_422 : decode cL_law 422 = .ok (.iadd, 1) := by decide +kernel
theorem dL_law_423 : decode cL_law 423 = .ok (.iaload, 1) := by decide +kernel
theorem dL_law_424 : decode cL_law 424 = .ok (.invokevirtual 41, 3) := by decide +kernel
theorem dL_law_427 : decode cL_law 427 = .ok (.aload_n 2, 1) := by decide +kernel
theorem dL_law_428 : decode cL_law 428 = .ok (.aload_n 0, 1) := by decide +kernel
theorem dL_law_429 : decode cL_law 429 = .ok (.iload_n 3, 1) := by decide +kernel
theorem dL_law_430 : decode cL_law 430 = .ok (.iconst 1, 1) := by decide +kernel
theorem dL_law_431 : decode cL_law 431 = .ok (.iadd, 1) := by decide +kernel
theorem dL_law_432 : decode cL_law 432 = .ok (.iaload, 1) := by decide +kernel
theorem dL_law_433 : decode cL_law 433 = .ok (.invokevirtual 44, 3) := by decide +kernel
theorem dL_law_436 : decode cL_law 436 = .ok (.if_icmp .eq 845, 3) := by decide +kernel
theorem dL_law_439 : decode cL_law 439 = .ok (.iconst 0, 1) := by decide +kernel
theorem dL_law_440 : decode cL_law 440 = .ok (.ireturn, 1) := by decide +kernel
theorem dL_law_441 : decode cL_law 441 = .ok (.aload_n 1, 1) := by decide +kernel
theorem dL_law_442 : decode cL_law 442 = .ok (.aload_n 0, 1) := by decide +kernel
theorem dL_law_443 : decode cL_law 443 = .ok (.iload_n 3, 1) := by decide +kernel
theorem dL_law_444 : decode cL_law 444 = .ok (.iconst 1, 1) := by decide +kernel
theorem dL_law_445 : decode cL_law 445 = .ok (.iadd, 1) := by decide +kernel
theorem dL_law_446 : decode cL_law 446 = .ok (.iaload, 1) := by decide +kernel
theorem dL_law_447 : decode cL_law 447 = .ok (.invokevirtual 45, 3) := by decide +kernel
theorem dL_law_450 : decode cL_law 450 = .ok (.aload_n 2, 1) := by decide +kernel
theorem dL_law_451 : decode cL_law 451 = .ok (.aload_n 0, 1) := by decide +kernel
theorem dL_law_452 : decode cL_law 452 = .ok (.iload_n 3, 1) := by decide +kernel
theorem dL_law_453 : decode cL_law 453 = .ok (.iconst 1, 1) := by decide +kernel
theorem dL_law_454 : decode cL_law 454 = .ok (.iadd, 1) := by decide +kernel
theorem dL_law_455 : decode cL_law 455 = .ok (.iaload, 1) := by decide +kernel
theorem dL_law_456 : decode cL_law 456 = .ok (.invokevirtual 48, 3) := by decide +kernel
theorem dL_law_459 : decode cL_law 459 = .ok (.if_icmp .eq 822, 3) := by decide +kernel
theorem dL_law_462 : decode cL_law 462 = .ok (.iconst 0, 1) := by decide +kernel
theorem dL_law_463 : decode cL_law 463 = .ok (.ireturn, 1) := by decide +kernel
theorem dL_law_464 : decode cL_law 464 = .ok (.aload_n 1, 1) := by decide +kernel
theorem dL_law_465 : decode cL_law 465 = .ok (.aload_n 0, 1) := by decide +kernel
theorem dL_law_466 : decode cL_law 466 = .ok (.iload_n 3, 1) := by decide +kernel
theorem dL_law_467 : decode cL_law 467 = .ok (.iconst 1, 1) := by decide +kernel
theorem dL_law_468 : decode cL_law 468 = .ok (.iadd, 1) := by decide +kernel
theorem dL_law_469 : decode cL_law 469 = .ok (.iaload, 1) := by decide +kernel
theorem dL_law_470 : decode cL_law 470 = .ok (.aload_n 0, 1) := by decide +kernel
theorem dL_law_471 : decode cL_law 471 = .ok (.iload_n 3, 1) := by decide +kernel
theorem dL_law_472 : decode cL_law 472 = .ok (.iconst 2, 1) := by decide +kernel
theorem dL_law_473 : decode cL_law 473 = .ok (.iadd, 1) := by decide +kernel
theorem dL_law_474 : decode cL_law 474 = .ok (.iaload, 1) := by decide +kernel
theorem dL_law_475 : decode cL_law 475 = .ok (.invokevirtual 49, 3) := by decide +kernel
theorem dL_law_478 : decode cL_law 478 = .ok (.aload_n 2, 1) := by decide +kernel
theorem dL_law_479 : decode cL_law 479 = .ok (.aload_n 0, 1) := by decide +kernel
theorem dL_law_480 : decode cL_law 480 = .ok (.iload_n 3, 1) := by decide +kernel
theorem dL_law_481 : decode cL_law 481 = .ok (.iconst 1, 1) := by decide +kernel
theorem dL_law_482 : decode cL_law 482 = .ok (.iadd, 1) := by decide +kernel
theorem dL_law_483 : decode cL_law 483 = .ok (.iaload, 1) := by decide +kernel
theorem dL_law_484 : decode cL_law 484 = .ok (.aload_n 0, 1) := by decide +kernel
theorem dL_law_485 : decode cL_law 485 = .ok (.iload_n 3, 1) := by decide +kernel
theorem dL_law_486 : decode cL_law 486 = .ok (.iconst 2, 1) := by decide +kernel
theorem dL_law_487 : decode cL_law 487 = .ok (.iadd, 1) := by decide +kernel
theorem dL_law_488 : decode cL_law 488 = .ok (.iaload, 1) := by decide +kernel
theorem dL_law_489 : decode cL_law 489 = .ok (.invokevirtual 52, 3) := by decide +kernel
theorem dL_law_492 : decode cL_law 492 = .ok (.if_icmp .eq 789, 3) := by decide +kernel
theorem dL_law_495 : decode cL_law 495 = .ok (.iconst 0, 1) := by decide +kernel
theorem dL_law_496 : decode cL_law 496 = .ok (.ireturn, 1) := by decide +kernel
theorem dL_law_497 : decode cL_law 497 = .ok (.aload_n 1, 1) := by decide +kernel
theorem dL_law_498 : decode cL_law 498 = .ok (.aload_n 0, 1) := by decide +kernel
theorem dL_law_499 : decode cL_law 499 = .ok (.iload_n 3, 1) := by decide +kernel
theorem dL_law_500 : decode cL_law 500 = .ok (.iconst 1, 1) := by decide +kernel
theorem dL_law_501 : decode cL_law 501 = .ok (.iadd, 1) := by decide +kernel
theorem dL_law_502 : decode cL_law 502 = .ok (.iaload, 1) := by decide +kernel
theorem dL_law_503 : decode cL_law 503 = .ok (.aload_n 0, 1) := by decide +kernel
theorem dL_law_504 : decode cL_law 504 = .ok (.iload_n 3, 1) := by decide +kernel
theorem dL_law_505 : decode cL_law 505 = .ok (.iconst 2, 1) := by decide +kernel
theorem dL_law_506 : decode cL_law 506 = .ok (.iadd, 1) := by decide +kernel
theorem dL_law_507 : decode cL_law 507 = .ok (.iaload, 1) := by decide +kernel
theorem dL_law_508 : decode cL_law 508 = .ok (.invokevirtual 53, 3) := by decide +kernel
theorem dL_law_511 : decode cL_law 511 = .ok (.aload_n 2, 1) := by decide +kernel
theorem dL_law_512 : decode cL_law 512 = .ok (.aload_n 0, 1) := by decide +kernel
theorem dL_law_513 : decode cL_law 513 = .ok (.iload_n 3, 1) := by decide +kernel
theorem dL_law_514 : decode cL_law 514 = .ok (.iconst 1, 1) := by decide +kernel
theorem dL_law_515 : decode cL_law 515 = .ok (.iadd, 1) := by decide +kernel
theorem dL_law_516 : decode cL_law 516 = .ok (.iaload, 1) := by decide +kernel
theorem dL_law_517 : decode cL_law 517 = .ok (.aload_n 0, 1) := by decide +kernel
theorem dL_law_518 : decode cL_law 518 = .ok (.iload_n 3, 1) := by decide +kernel
theorem dL_law_519 : decode cL_law 519 = .ok (.iconst 2, 1) := by decide +kernel
theorem dL_law_520 : decode cL_law 520 = .ok (.iadd, 1) := by decide +kernel
theorem dL_law_521 : decode cL_law 521 = .ok (.iaload, 1) := by decide +kernel
theorem dL_law_522 : decode cL_law 522 = .ok (.invokevirtual 56, 3) := by decide +kernel
theorem dL_law_525 : decode cL_law 525 = .ok (.if_icmp .eq 756, 3) := by decide +kernel
theorem dL_law_528 : decode cL_law 528 = .ok (.iconst 0, 1) := by decide +kernel
theorem dL_law_529 : decode cL_law 529 = .ok (.ireturn, 1) := by decide +kernel
theorem dL_law_530 : decode cL_law 530 = .ok (.aload_n 1, 1) := by decide +kernel
theorem dL_law_531 : decode cL_law 531 = .ok (.aload_n 0, 1) := by decide +kernel
theorem dL_law_532 : decode cL_law 532 = .ok (.iload_n 3, 1) := by decide +kernel
theorem dL_law_533 : decode cL_law 533 = .ok (.iconst 1, 1) := by decide +kernel
theorem dL_law_534 : decode cL_law 534 = .ok (.iadd, 1) := by decide +kernel
theorem dL_law_535 : decode cL_law 535 = .ok (.iaload, 1) := by decide +kernel
theorem dL_law_536 : decode cL_law 536 = .ok (.aload_n 0, 1) := by decide +kernel
theorem dL_law_537 : decode cL_law 537 = .ok (.iload_n 3, 1) := by decide +kernel
theorem dL_law_538 : decode cL_law 538 = .ok (.iconst 2, 1) := by decide +kernel
theorem dL_law_539 : decode cL_law 539 = .ok (.iadd, 1) := by decide +kernel
theorem dL_law_540 : decode cL_law 540 = .ok (.iaload, 1) := by decide +kernel
theorem dL_law_541 : decode cL_law 541 = .ok (.aload_n 0, 1) := by decide +kernel
theorem dL_law_542 : decode cL_law 542 = .ok (.iload_n 3, 1) := by decide +kernel
theorem dL_law_543 : decode cL_law 543 = .ok (.iconst 3, 1) := by decide +kernel
theorem dL_law_544 : decode cL_law 544 = .ok (.iadd, 1) := by decide +kernel
theorem dL_law_545 : decode cL_law 545 = .ok (.iaload, 1) := by decide +kernel
theorem dL_law_546 : decode cL_law 546 = .ok (.invokevirtual 57, 3) := by decide +kernel
theorem dL_law_549 : decode cL_law 549 = .ok (.aload_n 2, 1) := by decide +kernel
theorem dL_law_550 : decode cL_law 550 = .ok (.aload_n 0, 1) := by decide +kernel
theorem dL_law_551 : decode cL_law 551 = .ok (.iload_n 3, 1) := by decide +kernel
theorem dL_law_552 : decode cL_law 552 = .ok (.iconst 1, 1) := by decide +kernel
theorem dL_law_553 : decode cL_law 553 = .ok (.iadd, 1) := by decide +kernel
theorem dL_law_554 : decode cL_law 554 = .ok (.iaload, 1) := by decide +kernel
theorem dL_law_555 : decode cL_law 555 = .ok (.aload_n 0, 1) := by decide +kernel
theorem dL_law_556 : decode cL_law 556 = .ok (.iload_n 3, 1) := by decide +kernel
theorem dL_law_557 : decode cL_law 557 = .ok (.iconst 2, 1) := by decide +kernel
theorem dL_law_558 : decode cL_law 558 = .ok (.iadd, 1) := by decide +kernel
theorem dL_law_559 : decode cL_law 559 = .ok (.iaload, 1) := by decide +kernel
theorem dL_law_560 : decode cL_law 560 = .ok (.aload_n 0, 1) := by decide +kernel
theorem dL_law_561 : decode cL_law 561 = .ok (.iload_n 3, 1) := by decide +kernel
theorem dL_law_562 : decode cL_law 562 = .ok (.iconst 3, 1) := by decide +kernel
theorem dL_law_563 : decode cL_law 563 = .ok (.iadd, 1) := by decide +kernel
theorem dL_law_564 : decode cL_law 564 = .ok (.iaload, 1) := by decide +kernel
theorem dL_law_565 : decode cL_law 565 = .ok (.invokevirtual 60, 3) := by decide +kernel
theorem dL_law_568 : decode cL_law 568 = .ok (.if_icmp .eq 713, 3) := by decide +kernel
theorem dL_law_571 : decode cL_law 571 = .ok (.iconst 0, 1) := by decide +kernel
theorem dL_law_572 : decode cL_law 572 = .ok (.ireturn, 1) := by decide +kernel
theorem dL_law_573 : decode cL_law 573 = .ok (.aload_n 1, 1) := by decide +kernel
theorem dL_law_574 : decode cL_law 574 = .ok (.aload_n 0, 1) := by decide +kernel
theorem dL_law_575 : decode cL_law 575 = .ok (.iload_n 3, 1) := by decide +kernel
theorem dL_law_576 : decode cL_law 576 = .ok (.iconst 1, 1) := by decide +kernel
theorem dL_law_577 : decode cL_law 577 = .ok (.iadd, 1) := by decide +kernel
theorem dL_law_578 : decode cL_law 578 = .ok (.iaload, 1) := by decide +kernel
theorem dL_law_579 : decode cL_law 579 = .ok (.invokevirtual 61, 3) := by decide +kernel
theorem dL_law_582 : decode cL_law 582 = .ok (.aload_n 2, 1) := by decide +kernel
theorem dL_law_583 : decode cL_law 583 = .ok (.aload_n 0, 1) := by decide +kernel
theorem dL_law_584 : decode cL_law 584 = .ok (.iload_n 3, 1) := by decide +kernel
theorem dL_law_585 : decode cL_law 585 = .ok (.iconst 1, 1) := by decide +kernel
theorem dL_law_586 : decode cL_law 586 = .ok (.iadd, 1) := by decide +kernel
theorem dL_law_587 : decode cL_law 587 = .ok (.iaload, 1) := by decide +kernel
theorem dL_law_588 : decode cL_law 588 = .ok (.invokevirtual 64, 3) := by decide +kernel
theorem dL_law_591 : decode cL_law 591 = .ok (.if_icmp .eq 690, 3) := by decide +kernel
theorem dL_law_594 : decode cL_law 594 = .ok (.iconst 0, 1) := by decide +kernel
theorem dL_law_595 : decode cL_law 595 = .ok (.ireturn, 1) := by decide +kernel
theorem dL_law_596 : decode cL_law 596 = .ok (.aload_n 1, 1) := by decide +kernel
theorem dL_law_597 : decode cL_law 597 = .ok (.aload_n 0, 1) := by decide +kernel
theorem dL_law_598 : decode cL_law 598 = .ok (.iload_n 3, 1) := by decide +kernel
theorem dL_law_599 : decode cL_law 599 = .ok (.iconst 1, 1) := by decide +kernel
theorem dL_law_600 : decode cL_law 600 = .ok (.iadd, 1) := by decide +kernel
theorem dL_law_601 : decode cL_law 601 = .ok (.iaload, 1) := by decide +kernel
theorem dL_law_602 : decode cL_law 602 = .ok (.invokevirtual 65, 3) := by decide +kernel
theorem dL_law_605 : decode cL_law 605 = .ok (.aload_n 2, 1) := by decide +kernel
theorem dL_law_606 : decode cL_law 606 = .ok (.aload_n 0, 1) := by decide +kernel
theorem dL_law_607 : decode cL_law 607 = .ok (.iload_n 3, 1) := by decide +kernel
theorem dL_law_608 : decode cL_law 608 = .ok (.iconst 1, 1) := by decide +kernel
theorem dL_law_609 : decode cL_law 609 = .ok (.iadd, 1) := by decide +kernel
theorem dL_law_610 : decode cL_law 610 = .ok (.iaload, 1) := by decide +kernel
theorem dL_law_611 : decode cL_law 611 = .ok (.invokevirtual 68, 3) := by decide +kernel
theorem dL_law_614 : decode cL_law 614 = .ok (.if_icmp .eq 667, 3) := by decide +kernel
theorem dL_law_617 : decode cL_law 617 = .ok (.iconst 0, 1) := by decide +kernel
theorem dL_law_618 : decode cL_law 618 = .ok (.ireturn, 1) := by decide +kernel
theorem dL_law_619 : decode cL_law 619 = .ok (.aload_n 1, 1) := by decide +kernel
theorem dL_law_620 : decode cL_law 620 = .ok (.aload_n 0, 1) := by decide +kernel
theorem dL_law_621 : decode cL_law 621 = .ok (.iload_n 3, 1) := by decide +kernel
theorem dL_law_622 : decode cL_law 622 = .ok (.iconst 1, 1) := by decide +kernel
theorem dL_law_623 : decode cL_law 623 = .ok (.iadd, 1) := by decide +kernel
theorem dL_law_624 : decode cL_law 624 = .ok (.iaload, 1) := by decide +kernel
theorem dL_law_625 : decode cL_law 625 = .ok (.aload_n 0, 1) := by decide +kernel
theorem dL_law_626 : decode cL_law 626 = .ok (.iload_n 3, 1) := by decide +kernel
theorem dL_law_627 : decode cL_law 627 = .ok (.iconst 2, 1) := by decide +kernel
theorem dL_law_628 : decode cL_law 628 = .ok (.iadd, 1) := by decide +kernel
theorem dL_law_629 : decode cL_law 629 = .ok (.iaload, 1) := by decide +kernel
theorem dL_law_630 : decode cL_law 630 = .ok (.aload_n 0, 1) := by decide +kernel
theorem dL_law_631 : decode cL_law 631 = .ok (.iload_n 3, 1) := by decide +kernel
theorem dL_law_632 : decode cL_law 632 = .ok (.iconst 3, 1) := by decide +kernel
theorem dL_law_633 : decode cL_law 633 = .ok (.iadd, 1) := by decide +kernel
theorem dL_law_634 : decode cL_law 634 = .ok (.iaload, 1) := by decide +kernel
theorem dL_law_635 : decode cL_law 635 = .ok (.invokevirtual 69, 3) := by decide +kernel
theorem dL_law_638 : decode cL_law 638 = .ok (.aload_n 2, 1) := by decide +kernel
theorem dL_law_639 : decode cL_law 639 = .ok (.aload_n 0, 1) := by decide +kernel
theorem dL_law_640 : decode cL_law 640 = .ok (.iload_n 3, 1) := by decide +kernel
theorem dL_law_641 : decode cL_law 641 = .ok (.iconst 1, 1) := by decide +kernel
theorem dL_law_642 : decode cL_law 642 = .ok (.iadd, 1) := by decide +kernel
theorem dL_law_643 : decode cL_law 643 = .ok (.iaload, 1) := by decide +kernel
theorem dL_law_644 : decode cL_law 644 = .ok (.aload_n 0, 1) := by decide +kernel
theorem dL_law_645 : decode cL_law 645 = .ok (.iload_n 3, 1) := by decide +kernel
theorem dL_law_646 : decode cL_law 646 = .ok (.iconst 2, 1) := by decide +kernel
theorem dL_law_647 : decode cL_law 647 = .ok (.iadd, 1) := by decide +kernel
theorem dL_law_648 : decode cL_law 648 = .ok (.iaload, 1) := by decide +kernel
theorem dL_law_649 : decode cL_law 649 = .ok (.aload_n 0, 1) := by decide +kernel
theorem dL_law_650 : decode cL_law 650 = .ok (.iload_n 3, 1) := by decide +kernel
theorem dL_law_651 : decode cL_law 651 = .ok (.iconst 3, 1) := by decide +kernel
theorem dL_law_652 : decode cL_law 652 = .ok (.iadd, 1) := by decide +kernel
theorem dL_law_653 : decode cL_law 653 = .ok (.iaload, 1) := by decide +kernel
theorem dL_law_654 : decode cL_law 654 = .ok (.invokevirtual 72, 3) := by decide +kernel
theorem dL_law_657 : decode cL_law 657 = .ok (.if_icmp .eq 624, 3) := by decide +kernel
theorem dL_law_660 : decode cL_law 660 = .ok (.iconst 0, 1) := by decide +kernel
theorem dL_law_661 : decode cL_law 661 = .ok (.ireturn, 1) := by decide +kernel
theorem dL_law_662 : decode cL_law 662 = .ok (.aload_n 1, 1) := by decide +kernel
theorem dL_law_663 : decode cL_law 663 = .ok (.aload_n 0, 1) := by decide +kernel
theorem dL_law_664 : decode cL_law 664 = .ok (.iload_n 3, 1) := by decide +kernel
theorem dL_law_665 : decode cL_law 665 = .ok (.iconst 1, 1) := by decide +kernel
theorem dL_law_666 : decode cL_law 666 = .ok (.iadd, 1) := by decide +kernel
theorem dL_law_667 : decode cL_law 667 = .ok (.iaload, 1) := by decide +kernel
theorem dL_law_668 : decode cL_law 668 = .ok (.invokevirtual 73, 3) := by decide +kernel
theorem dL_law_671 : decode cL_law 671 = .ok (.aload_n 2, 1) := by decide +kernel
theorem dL_law_672 : decode cL_law 672 = .ok (.aload_n 0, 1) := by decide +kernel
theorem dL_law_673 : decode cL_law 673 = .ok (.iload_n 3, 1) := by decide +kernel
theorem dL_law_674 : decode cL_law 674 = .ok (.iconst 1, 1) := by decide +kernel
theorem dL_law_675 : decode cL_law 675 = .ok (.iadd, 1) := by decide +kernel
theorem dL_law_676 : decode cL_law 676 = .ok (.iaload, 1) := by decide +kernel
theorem dL_law_677 : decode cL_law 677 = .ok (.invokevirtual 76, 3) := by decide +kernel
theorem dL_law_680 : decode cL_law 680 = .ok (.if_icmp .eq 601, 3) := by decide +kernel
theorem dL_law_683 : decode cL_law 683 = .ok (.iconst 0, 1) := by decide +kernel
theorem dL_law_684 : decode cL_law 684 = .ok (.ireturn, 1) := by decide +kernel
theorem dL_law_685 : decode cL_law 685 = .ok (.aload_n 1, 1) := by decide +kernel
theorem dL_law_686 : decode cL_law 686 = .ok (.aload_n 0, 1) := by decide +kernel
theorem dL_law_687 : decode cL_law 687 = .ok (.iload_n 3, 1) := by decide +kernel
theorem dL_law_688 : decode cL_law 688 = .ok (.iconst 1, 1) := by decide +kernel
theorem dL_law_689 : decode cL_law 689 = .ok (.iadd, 1) := by decide +kernel
theorem dL_law_690 : decode cL_law 690 = .ok (.iaload, 1) := by decide +kernel
theorem dL_law_691 : decode cL_law 691 = .ok (.aload_n 0, 1) := by decide +kernel
theorem dL_law_692 : decode cL_law 692 = .ok (.iload_n 3, 1) := by decide +kernel
theorem dL_law_693 : decode cL_law 693 = .ok (.iconst 2, 1) := by decide +kernel
theorem dL_law_694 : decode cL_law 694 = .ok (.iadd, 1) := by decide +kernel
theorem dL_law_695 : decode cL_law 695 = .ok (.iaload, 1) := by decide +kernel
theorem dL_law_696 : decode cL_law 696 = .ok (.invokevirtual 77, 3) := by decide +kernel
theorem dL_law_699 : decode cL_law 699 = .ok (.aload_n 2, 1) := by decide +kernel
theorem dL_law_700 : decode cL_law 700 = .ok (.aload_n 0, 1) := by decide +kernel
theorem dL_law_701 : decode cL_law 701 = .ok (.iload_n 3, 1) := by decide +kernel
theorem dL_law_702 : decode cL_law 702 = .ok (.iconst 1, 1) := by decide +kernel
theorem dL_law_703 : decode cL_law 703 = .ok (.iadd, 1) := by decide +kernel
theorem dL_law_704 : decode cL_law 704 = .ok (.iaload, 1) := by decide +kernel
theorem dL_law_705 : decode cL_law 705 = .ok (.aload_n 0, 1) := by decide +kernel
theorem dL_law_706 : decode cL_law 706 = .ok (.iload_n 3, 1) := by decide +kernel
theorem dL_law_707 : decode cL_law 707 = .ok (.iconst 2, 1) := by decide +kernel
theorem dL_law_708 : decode cL_law 708 = .ok (.iadd, 1) := by decide +kernel
theorem dL_law_709 : decode cL_law 709 = .ok (.iaload, 1) := by decide +kernel
theorem dL_law_710 : decode cL_law 710 = .ok (.invokevirtual 80, 3) := by decide +kernel
theorem dL_law_713 : decode cL_law 713 = .ok (.if_icmp .eq 568, 3) := by decide +kernel
theorem dL_law_716 : decode cL_law 716 = .ok (.iconst 0, 1) := by decide +kernel
theorem dL_law_717 : decode cL_law 717 = .ok (.ireturn, 1) := by decide +kernel
theorem dL_law_718 : decode cL_law 718 = .ok (.aload_n 1, 1) := by decide +kernel
theorem dL_law_719 : decode cL_law 719 = .ok (.aload_n 0, 1) := by decide +kernel
theorem dL_law_720 : decode cL_law 720 = .ok (.iload_n 3, 1) := by decide +kernel
theorem dL_law_721 : decode cL_law 721 = .ok (.iconst 1, 1) := by decide +kernel
theorem dL_law_722 : decode cL_law 722 = .ok (.iadd, 1) := by decide +kernel
theorem dL_law_723 : decode cL_law 723 = .ok (.iaload, 1) := by decide +kernel
theorem dL_law_724 : decode cL_law 724 = .ok (.aload_n 0, 1) := by decide +kernel
theorem dL_law_725 : decode cL_law 725 = .ok (.iload_n 3, 1) := by decide +kernel
theorem dL_law_726 : decode cL_law 726 = .ok (.iconst 2, 1) := by decide +kernel
theorem dL_law_727 : decode cL_law 727 = .ok (.iadd, 1) := by decide +kernel
theorem dL_law_728 : decode cL_law 728 = .ok (.iaload, 1) := by decide +kernel
theorem dL_law_729 : decode cL_law 729 = .ok (.aload_n 0, 1) := by decide +kernel
theorem dL_law_730 : decode cL_law 730 = .ok (.iload_n 3, 1) := by decide +kernel
theorem dL_law_731 : decode cL_law 731 = .ok (.iconst 3, 1) := by decide +kernel
theorem dL_law_732 : decode cL_law 732 = .ok (.iadd, 1) := by decide +kernel
theorem dL_law_733 : decode cL_law 733 = .ok (.iaload, 1) := by decide +kernel
theorem dL_law_734 : decode cL_law 734 = .ok (.invokevirtual 81, 3) := by decide +kernel
theorem dL_law_737 : decode cL_law 737 = .ok (.aload_n 2, 1) := by decide +kernel
theorem dL_law_738 : decode cL_law 738 = .ok (.aload_n 0, 1) := by decide +kernel
theorem dL_law_739 : decode cL_law 739 = .ok (.iload_n 3, 1) := by decide +kernel
theorem dL_law_740 : decode cL_law 740 = .ok (.iconst 1, 1) := by decide +kernel
theorem dL_law_741 : decode cL_law 741 = .ok (.iadd, 1) := by decide +kernel
theorem dL_law_742 : decode cL_law 742 = .ok (.iaload, 1) := by decide +kernel
theorem dL_law_743 : decode cL_law 743 = .ok (.aload_n 0, 1) := by decide +kernel
theorem dL_law_744 : decode cL_law 744 = .ok (.iload_n 3, 1) := by decide +kernel
theorem dL_law_745 : decode cL_law 745 = .ok (.iconst 2, 1) := by decide +kernel
theorem dL_law_746 : decode cL_law 746 = .ok (.iadd, 1) := by decide +kernel
theorem dL_law_747 : decode cL_law 747 = .ok (.iaload, 1) := by decide +kernel
theorem dL_law_748 : decode cL_law 748 = .ok (.aload_n 0, 1) := by decide +kernel
theorem dL_law_749 : decode cL_law 749 = .ok (.iload_n 3, 1) := by decide +kernel
theorem dL_law_750 : decode cL_law 750 = .ok (.iconst 3, 1) := by decide +kernel
theorem dL_law_751 : decode cL_law 751 = .ok (.iadd, 1) := by decide +kernel
theorem dL_law_752 : decode cL_law 752 = .ok (.iaload, 1) := by decide +kernel
theorem dL_law_753 : decode cL_law 753 = .ok (.invokevirtual 84, 3) := by decide +kernel
theorem dL_law_756 : decode cL_law 756 = .ok (.if_icmp .eq 525, 3) := by decide +kernel
theorem dL_law_759 : decode cL_law 759 = .ok (.iconst 0, 1) := by decide +kernel
theorem dL_law_760 : decode cL_law 760 = .ok (.ireturn, 1) := by decide +kernel
theorem dL_law_761 : decode cL_law 761 = .ok (.aload_n 1, 1) := by decide +kernel
theorem dL_law_762 : decode cL_law 762 = .ok (.aload_n 0, 1) := by decide +kernel
theorem dL_law_763 : decode cL_law 763 = .ok (.iload_n 3, 1) := by decide +kernel
theorem dL_law_764 : decode cL_law 764 = .ok (.iconst 1, 1) := by decide +kernel
theorem dL_law_765 : decode cL_law 765 = .ok (.iadd, 1) := by decide +kernel
theorem dL_law_766 : decode cL_law 766 = .ok (.iaload, 1) := by decide +kernel
theorem dL_law_767 : decode cL_law 767 = .ok (.aload_n 0, 1) := by decide +kernel
theorem dL_law_768 : decode cL_law 768 = .ok (.iload_n 3, 1) := by decide +kernel
theorem dL_law_769 : decode cL_law 769 = .ok (.iconst 2, 1) := by decide +kernel
theorem dL_law_770 : decode cL_law 770 = .ok (.iadd, 1) := by decide +kernel
theorem dL_law_771 : decode cL_law 771 = .ok (.iaload, 1) := by decide +kernel
theorem dL_law_772 : decode cL_law 772 = .ok (.invokevirtual 85, 3) := by decide +kernel
theorem dL_law_775 : decode cL_law 775 = .ok (.aload_n 2, 1) := by decide +kernel
theorem dL_law_776 : decode cL_law 776 = .ok (.aload_n 0, 1) := by decide +kernel
theorem dL_law_777 : decode cL_law 777 = .ok (.iload_n 3, 1) := by decide +kernel
theorem dL_law_778 : decode cL_law 778 = .ok (.iconst 1, 1) := by decide +kernel
theorem dL_law_779 : decode cL_law 779 = .ok (.iadd, 1) := by decide +kernel
theorem dL_law_780 : decode cL_law 780 = .ok (.iaload, 1) := by decide +kernel
theorem dL_law_781 : decode cL_law 781 = .ok (.aload_n 0, 1) := by decide +kernel
theorem dL_law_782 : decode cL_law 782 = .ok (.iload_n 3, 1) := by decide +kernel
theorem dL_law_783 : decode cL_law 783 = .ok (.iconst 2, 1) := by decide +kernel
theorem dL_law_784 : decode cL_law 784 = .ok (.iadd, 1) := by decide +kernel
theorem dL_law_785 : decode cL_law 785 = .ok (.iaload, 1) := by decide +kernel
theorem dL_law_786 : decode cL_law 786 = .ok (.invokevirtual 88, 3) := by decide +kernel
theorem dL_law_789 : decode cL_law 789 = .ok (.if_icmp .eq 492, 3) := by decide +kernel
theorem dL_law_792 : decode cL_law 792 = .ok (.iconst 0, 1) := by decide +kernel
theorem dL_law_793 : decode cL_law 793 = .ok (.ireturn, 1) := by decide +kernel
theorem dL_law_794 : decode cL_law 794 = .ok (.aload_n 1, 1) := by decide +kernel
theorem dL_law_795 : decode cL_law 795 = .ok (.aload_n 0, 1) := by decide +kernel
theorem dL_law_796 : decode cL_law 796 = .ok (.iload_n 3, 1) := by decide +kernel
theorem dL_law_797 : decode cL_law 797 = .ok (.iconst 1, 1) := by decide +kernel
theorem dL_law_798 : decode cL_law 798 = .ok (.iadd, 1) := by decide +kernel
theorem dL_law_799 : decode cL_law 799 = .ok (.iaload, 1) := by decide +kernel
theorem dL_law_800 : decode cL_law 800 = .ok (.aload_n 0, 1) := by decide +kernel
theorem dL_law_801 : decode cL_law 801 = .ok (.iload_n 3, 1) := by decide +kernel
theorem dL_law_802 : decode cL_law 802 = .ok (.iconst 2, 1) := by decide +kernel
theorem dL_law_803 : decode cL_law 803 = .ok (.iadd, 1) := by decide +kernel
theorem dL_law_804 : decode cL_law 804 = .ok (.iaload, 1) := by decide +kernel
theorem dL_law_805 : decode cL_law 805 = .ok (.aload_n 0, 1) := by decide +kernel
theorem dL_law_806 : decode cL_law 806 = .ok (.iload_n 3, 1) := by decide +kernel
theorem dL_law_807 : decode cL_law 807 = .ok (.iconst 3, 1) := by decide +kernel
theorem dL_law_808 : decode cL_law 808 = .ok (.iadd, 1) := by decide +kernel
theorem dL_law_809 : decode cL_law 809 = .ok (.iaload, 1) := by decide +kernel
theorem dL_law_810 : decode cL_law 810 = .ok (.invokevirtual 89, 3) := by decide +kernel
theorem dL_law_813 : decode cL_law 813 = .ok (.aload_n 2, 1) := by decide +kernel
theorem dL_law_814 : decode cL_law 814 = .ok (.aload_n 0, 1) := by decide +kernel
theorem dL_law_815 : decode cL_law 815 = .ok (.iload_n 3, 1) := by decide +kernel
theorem dL_law_816 : decode cL_law 816 = .ok (.iconst 1, 1) := by decide +kernel
theorem dL_law_817 : decode cL_law 817 = .ok (.iadd, 1) := by decide +kernel
theorem dL_law_818 : decode cL_law 818 = .ok (.iaload, 1) := by decide +kernel
theorem dL_law_819 : decode cL_law 819 = .ok (.aload_n 0, 1) := by decide +kernel
theorem dL_law_820 : decode cL_law 820 = .ok (.iload_n 3, 1) := by decide +kernel
theorem dL_law_821 : decode cL_law 821 = .ok (.iconst 2, 1) := by decide +kernel
theorem dL_law_822 : decode cL_law 822 = .ok (.iadd, 1) := by decide +kernel
theorem dL_law_823 : decode cL_law 823 = .ok (.iaload, 1) := by decide +kernel
theorem dL_law_824 : decode cL_law 824 = .ok (.aload_n 0, 1) := by decide +kernel
theorem dL_law_825 : decode cL_law 825 = .ok (.iload_n 3, 1) := by decide +kernel
theorem dL_law_826 : decode cL_law 826 = .ok (.iconst 3, 1) := by decide +kernel
theorem dL_law_827 : decode cL_law 827 = .ok (.iadd, 1) := by decide +kernel
theorem dL_law_828 : decode cL_law 828 = .ok (.iaload, 1) := by decide +kernel
theorem dL_law_829 : decode cL_law 829 = .ok (.invokevirtual 92, 3) := by decide +kernel
theorem dL_law_832 : decode cL_law 832 = .ok (.if_icmp .eq 449, 3) := by decide +kernel
theorem dL_law_835 : decode cL_law 835 = .ok (.iconst 0, 1) := by decide +kernel
theorem dL_law_836 : decode cL_law 836 = .ok (.ireturn, 1) := by decide +kernel
theorem dL_law_837 : decode cL_law 837 = .ok (.aload_n 1, 1) := by decide +kernel
theorem dL_law_838 : decode cL_law 838 = .ok (.aload_n 0, 1) := by decide +kernel
theorem dL_law_839 : decode cL_law 839 = .ok (.iload_n 3, 1) := by decide +kernel
theorem dL_law_840 : decode cL_law 840 = .ok (.iconst 1, 1) := by decide +kernel
theorem dL_law_841 : decode cL_law 841 = .ok (.iadd, 1) := by decide +kernel
theorem dL_law_842 : decode cL_law 842 = .ok (.iaload, 1) := by decide +kernel
theorem dL_law_843 : decode cL_law 843 = .ok (.aload_n 0, 1) := by decide +kernel
theorem dL_law_844 : decode cL_law 844 = .ok (.iload_n 3, 1) := by decide +kernel
theorem dL_law_845 : decode cL_law 845 = .ok (.iconst 2, 1) := by decide +kernel
theorem dL_law_846 : decode cL_law 846 = .ok (.iadd, 1) := by decide +kernel
theorem dL_law_847 : decode cL_law 847 = .ok (.iaload, 1) := by decide +kernel
theorem dL_law_848 : decode cL_law 848 = .ok (.invokevirtual 93, 3) := by decide +kernel
theorem dL_law_851 : decode cL_law 851 = .ok (.aload_n 2, 1) := by decide +kernel
theorem dL_law_852 : decode cL_law 852 = .ok (.aload_n 0, 1) := by decide +kernel
theorem dL_law_853 : decode cL_law 853 = .ok (.iload_n 3, 1) := by decide +kernel
theorem dL_law_854 : decode cL_law 854 = .ok (.iconst 1, 1) := by decide +kernel
theorem dL_law_855 : decode cL_law 855 = .ok (.iadd, 1) := by decide +kernel
theorem dL_law_856 : decode cL_law 856 = .ok (.iaload, 1) := by decide +kernel
theorem dL_law_857 : decode cL_law 857 = .ok (.aload_n 0, 1) := by decide +kernel
theorem dL_law_858 : decode cL_law 858 = .ok (.iload_n 3, 1) := by decide +kernel
theorem dL_law_859 : decode cL_law 859 = .ok (.iconst 2, 1) := by decide +kernel
theorem dL_law_860 : decode cL_law 860 = .ok (.iadd, 1) := by decide +kernel
theorem dL_law_861 : decode cL_law 861 = .ok (.iaload, 1) := by decide +kernel
theorem dL_law_862 : decode cL_law 862 = .ok (.invokevirtual 96, 3) := by decide +kernel
theorem dL_law_865 : decode cL_law 865 = .ok (.if_icmp .eq 416, 3) := by decide +kernel
theorem dL_law_868 : decode cL_law 868 = .ok (.iconst 0, 1) := by decide +kernel
theorem dL_law_869 : decode cL_law 869 = .ok (.ireturn, 1) := by decide +kernel
theorem dL_law_870 : decode cL_law 870 = .ok (.aload_n 1, 1) := by decide +kernel
theorem dL_law_871 : decode cL_law 871 = .ok (.aload_n 0, 1) := by decide +kernel
theorem dL_law_872 : decode cL_law 872 = .ok (.iload_n 3, 1) := by decide +kernel
theorem dL_law_873 : decode cL_law 873 = .ok (.iconst 1, 1) := by decide +kernel
theorem dL_law_874 : decode cL_law 874 = .ok (.iadd, 1) := by decide +kernel
theorem dL_law_875 : decode cL_law 875 = .ok (.iaload, 1) := by decide +kernel
theorem dL_law_876 : decode cL_law 876 = .ok (.invokevirtual 97, 3) := by decide +kernel
theorem dL_law_879 : decode cL_law 879 = .ok (.aload_n 2, 1) := by decide +kernel
theorem dL_law_880 : decode cL_law 880 = .ok (.aload_n 0, 1) := by decide +kernel
theorem dL_law_881 : decode cL_law 881 = .ok (.iload_n 3, 1) := by decide +kernel
theorem dL_law_882 : decode cL_law 882 = .ok (.iconst 1, 1) := by decide +kernel
theorem dL_law_883 : decode cL_law 883 = .ok (.iadd, 1) := by decide +kernel
theorem dL_law_884 : decode cL_law 884 = .ok (.iaload, 1) := by decide +kernel
theorem dL_law_885 : decode cL_law 885 = .ok (.invokevirtual 100, 3) := by decide +kernel
theorem dL_law_888 : decode cL_law 888 = .ok (.if_icmp .eq 393, 3) := by decide +kernel
theorem dL_law_891 : decode cL_law 891 = .ok (.iconst 0, 1) := by decide +kernel
theorem dL_law_892 : decode cL_law 892 = .ok (.ireturn, 1) := by decide +kernel
theorem dL_law_893 : decode cL_law 893 = .ok (.aload_n 1, 1) := by decide +kernel
theorem dL_law_894 : decode cL_law 894 = .ok (.aload_n 0, 1) := by decide +kernel
theorem dL_law_895 : decode cL_law 895 = .ok (.iload_n 3, 1) := by decide +kernel
theorem dL_law_896 : decode cL_law 896 = .ok (.iconst 1, 1) := by decide +kernel
theorem dL_law_897 : decode cL_law 897 = .ok (.iadd, 1) := by decide +kernel
theorem dL_law_898 : decode cL_law 898 = .ok (.iaload, 1) := by decide +kernel
theorem dL_law_899 : decode cL_law 899 = .ok (.aload_n 0, 1) := by decide +kernel
theorem dL_law_900 : decode cL_law 900 = .ok (.iload_n 3, 1) := by decide +kernel
theorem dL_law_901 : decode cL_law 901 = .ok (.iconst 2, 1) := by decide +kernel
theorem dL_law_902 : decode cL_law 902 = .ok (.iadd, 1) := by decide +kernel
theorem dL_law_903 : decode cL_law 903 = .ok (.iaload, 1) := by decide +kernel
theorem dL_law_904 : decode cL_law 904 = .ok (.aload_n 0, 1) := by decide +kernel
theorem dL_law_905 : decode cL_law 905 = .ok (.iload_n 3, 1) := by decide +kernel
theorem dL_law_906 : decode cL_law 906 = .ok (.iconst 3, 1) := by decide +kernel
theorem dL_law_907 : decode cL_law 907 = .ok (.iadd, 1) := by decide +kernel
theorem dL_law_908 : decode cL_law 908 = .ok (.iaload, 1) := by decide +kernel
theorem dL_law_909 : decode cL_law 909 = .ok (.aload_n 0, 1) := by decide +kernel
theorem dL_law_910 : decode cL_law 910 = .ok (.iload_n 3, 1) := by decide +kernel
theorem dL_law_911 : decode cL_law 911 = .ok (.iconst 4, 1) := by decide +kernel
theorem dL_law_912 : decode cL_law 912 = .ok (.iadd, 1) := by decide +kernel
theorem dL_law_913 : decode cL_law 913 = .ok (.iaload, 1) := by decide +kernel
theorem dL_law_914 : decode cL_law 914 = .ok (.invokevirtual 101, 3) := by decide +kernel
theorem dL_law_917 : decode cL_law 917 = .ok (.aload_n 2, 1) := by decide +kernel
theorem dL_law_918 : decode cL_law 918 = .ok (.aload_n 0, 1) := by decide +kernel
theorem dL_law_919 : decode cL_law 919 = .ok (.iload_n 3, 1) := by decide +kernel
theorem dL_law_920 : decode cL_law 920 = .ok (.iconst 1, 1) := by decide +kernel
theorem dL_law_921 : decode cL_law 921 = .ok (.iadd, 1) := by decide +kernel
theorem dL_law_922 : decode cL_law 922 = .ok (.iaload, 1) := by decide +kernel
theorem dL_law_923 : decode cL_law 923 = .ok (.aload_n 0, 1) := by decide +kernel
theorem dL_law_924 : decode cL_law 924 = .ok (.iload_n 3, 1) := by decide +kernel
theorem dL_law_925 : decode cL_law 925 = .ok (.iconst 2, 1) := by decide +kernel
theorem dL_law_926 : decode cL_law 926 = .ok (.iadd, 1) := by decide +kernel
theorem dL_law_927 : decode cL_law 927 = .ok (.iaload, 1) := by decide +kernel
theorem dL_law_928 : decode cL_law 928 = .ok (.aload_n 0, 1) := by decide +kernel
theorem dL_law_929 : decode cL_law 929 = .ok (.iload_n 3, 1) := by decide +kernel
theorem dL_law_930 : decode cL_law 930 = .ok (.iconst 3, 1) := by decide +kernel
theorem dL_law_931 : decode cL_law 931 = .ok (.iadd, 1) := by decide +kernel
theorem dL_law_932 : decode cL_law 932 = .ok (.iaload, 1) := by decide +kernel
theorem dL_law_933 : decode cL_law 933 = .ok (.aload_n 0, 1) := by decide +kernel
theorem dL_law_934 : decode cL_law 934 = .ok (.iload_n 3, 1) := by decide +kernel
theorem dL_law_935 : decode cL_law 935 = .ok (.iconst 4, 1) := by decide +kernel
theorem dL_law_936 : decode cL_law 936 = .ok (.iadd, 1) := by decide +kernel
theorem dL_law_937 : decode cL_law 937 = .ok (.iaload, 1) := by decide +kernel
theorem dL_law_938 : decode cL_law 938 = .ok (.invokevirtual 105, 3) := by decide +kernel
theorem dL_law_941 : decode cL_law 941 = .ok (.lcmp, 1) := by decide +kernel
theorem dL_law_942 : decode cL_law 942 = .ok (.ifCond .eq 339, 3) := by decide +kernel
theorem dL_law_945 : decode cL_law 945 = .ok (.iconst 0, 1) := by decide +kernel
theorem dL_law_946 : decode cL_law 946 = .ok (.ireturn, 1) := by decide +kernel
theorem dL_law_947 : decode cL_law 947 = .ok (.aload_n 1, 1) := by decide +kernel
theorem dL_law_948 : decode cL_law 948 = .ok (.aload_n 0, 1) := by decide +kernel
theorem dL_law_949 : decode cL_law 949 = .ok (.iload_n 3, 1) := by decide +kernel
theorem dL_law_950 : decode cL_law 950 = .ok (.iconst 1, 1) := by decide +kernel
theorem dL_law_951 : decode cL_law 951 = .ok (.iadd, 1) := by decide +kernel
theorem dL_law_952 : decode cL_law 952 = .ok (.iaload, 1) := by decide +kernel
theorem dL_law_953 : decode cL_law 953 = .ok (.aload_n 0, 1) := by decide +kernel
theorem dL_law_954 : decode cL_law 954 = .ok (.iload_n 3, 1) := by decide +kernel
theorem dL_law_955 : decode cL_law 955 = .ok (.iconst 2, 1) := by decide +kernel
theorem dL_law_956 : decode cL_law 956 = .ok (.iadd, 1) := by decide +kernel
theorem dL_law_957 : decode cL_law 957 = .ok (.iaload, 1) := by decide +kernel
theorem dL_law_958 : decode cL_law 958 = .ok (.invokevirtual 106, 3) := by decide +kernel
theorem dL_law_961 : decode cL_law 961 = .ok (.aload_n 2, 1) := by decide +kernel
theorem dL_law_962 : decode cL_law 962 = .ok (.aload_n 0, 1) := by decide +kernel
theorem dL_law_963 : decode cL_law 963 = .ok (.iload_n 3, 1) := by decide +kernel
theorem dL_law_964 : decode cL_law 964 = .ok (.iconst 1, 1) := by decide +kernel
theorem dL_law_965 : decode cL_law 965 = .ok (.iadd, 1) := by decide +kernel
theorem dL_law_966 : decode cL_law 966 = .ok (.iaload, 1) := by decide +kernel
theorem dL_law_967 : decode cL_law 967 = .ok (.aload_n 0, 1) := by decide +kernel
theorem dL_law_968 : decode cL_law 968 = .ok (.iload_n 3, 1) := by decide +kernel
theorem dL_law_969 : decode cL_law 969 = .ok (.iconst 2, 1) := by decide +kernel
theorem dL_law_970 : decode cL_law 970 = .ok (.iadd, 1) := by decide +kernel
theorem dL_law_971 : decode cL_law 971 = .ok (.iaload, 1) := by decide +kernel
theorem dL_law_972 : decode cL_law 972 = .ok (.invokevirtual 109, 3) := by decide +kernel
theorem dL_law_975 : decode cL_law 975 = .ok (.if_icmp .eq 306, 3) := by decide +kernel
theorem dL_law_978 : decode cL_law 978 = .ok (.iconst 0, 1) := by decide +kernel
theorem dL_law_979 : decode cL_law 979 = .ok (.ireturn, 1) := by decide +kernel
theorem dL_law_980 : decode cL_law 980 = .ok (.aload_n 1, 1) := by decide +kernel
theorem dL_law_981 : decode cL_law 981 = .ok (.aload_n 0, 1) := by decide +kernel
theorem dL_law_982 : decode cL_law 982 = .ok (.iload_n 3, 1) := by decide +kernel
theorem dL_law_983 : decode cL_law 983 = .ok (.iconst 1, 1) := by decide +kernel
theorem dL_law_984 : decode cL_law 984 = .ok (.iadd, 1) := by decide +kernel
theorem dL_law_985 : decode cL_law 985 = .ok (.iaload, 1) := by decide +kernel
theorem dL_law_986 : decode cL_law 986 = .ok (.aload_n 0, 1) := by decide +kernel
theorem dL_law_987 : decode cL_law 987 = .ok (.iload_n 3, 1) := by decide +kernel
theorem dL_law_988 : decode cL_law 988 = .ok (.iconst 2, 1) := by decide +kernel
theorem dL_law_989 : decode cL_law 989 = .ok (.iadd, 1) := by decide +kernel
theorem dL_law_990 : decode cL_law 990 = .ok (.iaload, 1) := by decide +kernel
theorem dL_law_991 : decode cL_law 991 = .ok (.invokevirtual 110, 3) := by decide +kernel
theorem dL_law_994 : decode cL_law 994 = .ok (.aload_n 2, 1) := by decide +kernel
theorem dL_law_995 : decode cL_law 995 = .ok (.aload_n 0, 1) := by decide +kernel
theorem dL_law_996 : decode cL_law 996 = .ok (.iload_n 3, 1) := by decide +kernel
theorem dL_law_997 : decode cL_law 997 = .ok (.iconst 1, 1) := by decide +kernel
theorem dL_law_998 : decode cL_law 998 = .ok (.iadd, 1) := by decide +kernel
theorem dL_law_999 : decode cL_law 999 = .ok (.iaload, 1) := by decide +kernel
theorem dL_law_1000 : decode cL_law 1000 = .ok (.aload_n 0, 1) := by decide +kernel
theorem dL_law_1001 : decode cL_law 1001 = .ok (.iload_n 3, 1) := by decide +kernel
theorem dL_law_1002 : decode cL_law 1002 = .ok (.iconst 2, 1) := by decide +kernel
theorem dL_law_1003 : decode cL_law 1003 = .ok (.iadd, 1) := by decide +kernel
theorem dL_law_1004 : decode cL_law 1004 = .ok (.iaload, 1) := by decide +kernel
theorem dL_law_1005 : decode cL_law 1005 = .ok (.invokevirtual 113, 3) := by decide +kernel
theorem dL_law_1008 : decode cL_law 1008 = .ok (.if_icmp .eq 273, 3) := by decide +kernel
theorem dL_law_1011 : decode cL_law 1011 = .ok (.iconst 0, 1) := by decide +kernel
theorem dL_law_1012 : decode cL_law 1012 = .ok (.ireturn, 1) := by decide +kernel
theorem dL_law_1013 : decode cL_law 1013 = .ok (.aload_n 1, 1) := by decide +kernel
theorem dL_law_1014 : decode cL_law 1014 = .ok (.aload_n 0, 1) := by decide +kernel
theorem dL_law_1015 : decode cL_law 1015 = .ok (.iload_n 3, 1) := by decide +kernel
theorem dL_law_1016 : decode cL_law 1016 = .ok (.iconst 1, 1) := by decide +kernel
theorem dL_law_1017 : decode cL_law 1017 = .ok (.iadd, 1) := by decide +kernel
theorem dL_law_1018 : decode cL_law 1018 = .ok (.iaload, 1) := by decide +kernel
theorem dL_law_1019 : decode cL_law 1019 = .ok (.invokevirtual 114, 3) := by decide +kernel
theorem dL_law_1022 : decode cL_law 1022 = .ok (.aload_n 2, 1) := by decide +kernel
theorem dL_law_1023 : decode cL_law 1023 = .ok (.aload_n 0, 1) := by decide +kernel
theorem dL_law_1024 : decode cL_law 1024 = .ok (.iload_n 3, 1) := by decide +kernel
theorem dL_law_1025 : decode cL_law 1025 = .ok (.iconst 1, 1) := by decide +kernel
theorem dL_law_1026 : decode cL_law 1026 = .ok (.iadd, 1) := by decide +kernel
theorem dL_law_1027 : decode cL_law 1027 = .ok (.iaload, 1) := by decide +kernel
theorem dL_law_1028 : decode cL_law 1028 = .ok (.invokevirtual 117, 3) := by decide +kernel
theorem dL_law_1031 : decode cL_law 1031 = .ok (.if_icmp .eq 250, 3) := by decide +kernel
theorem dL_law_1034 : decode cL_law 1034 = .ok (.iconst 0, 1) := by decide +kernel
theorem dL_law_1035 : decode cL_law 1035 = .ok (.ireturn, 1) := by decide +kernel
theorem dL_law_1036 : decode cL_law 1036 = .ok (.aload_n 1, 1) := by decide +kernel
theorem dL_law_1037 : decode cL_law 1037 = .ok (.aload_n 0, 1) := by decide +kernel
theorem dL_law_1038 : decode cL_law 1038 = .ok (.iload_n 3, 1) := by decide +kernel
theorem dL_law_1039 : decode cL_law 1039 = .ok (.iconst 1, 1) := by decide +kernel
theorem dL_law_1040 : decode cL_law 1040 = .ok (.iadd, 1) := by decide +kernel
theorem dL_law_1041 : decode cL_law 1041 = .ok (.iaload, 1) := by decide +kernel
theorem dL_law_1042 : decode cL_law 1042 = .ok (.invokevirtual 118, 3) := by decide +kernel
theorem dL_law_1045 : decode cL_law 1045 = .ok (.aload_n 2, 1) := by decide +kernel
theorem dL_law_1046 : decode cL_law 1046 = .ok (.aload_n 0, 1) := by decide +kernel
theorem dL_law_1047 : decode cL_law 1047 = .ok (.iload_n 3, 1) := by decide +kernel
theorem dL_law_1048 : decode cL_law 1048 = .ok (.iconst 1, 1) := by decide +kernel
theorem dL_law_1049 : decode cL_law 1049 = .ok (.iadd, 1) := by decide +kernel
theorem dL_law_1050 : decode cL_law 1050 = .ok (.iaload, 1) := by decide +kernel
theorem dL_law_1051 : decode cL_law 1051 = .ok (.invokevirtual 121, 3) := by decide +kernel
theorem dL_law_1054 : decode cL_law 1054 = .ok (.if_icmp .eq 227, 3) := by decide +kernel
theorem dL_law_1057 : decode cL_law 1057 = .ok (.iconst 0, 1) := by decide +kernel
theorem dL_law_1058 : decode cL_law 1058 = .ok (.ireturn, 1) := by decide +kernel
theorem dL_law_1059 : decode cL_law 1059 = .ok (.aload_n 1, 1) := by decide +kernel
theorem dL_law_1060 : decode cL_law 1060 = .ok (.aload_n 0, 1) := by decide +kernel
theorem dL_law_1061 : decode cL_law 1061 = .ok (.iload_n 3, 1) := by decide +kernel
theorem dL_law_1062 : decode cL_law 1062 = .ok (.iconst 1, 1) := by decide +kernel
theorem dL_law_1063 : decode cL_law 1063 = .ok (.iadd, 1) := by decide +kernel
theorem dL_law_1064 : decode cL_law 1064 = .ok (.iaload, 1) := by decide +kernel
theorem dL_law_1065 : decode cL_law 1065 = .ok (.aload_n 0, 1) := by decide +kernel
theorem dL_law_1066 : decode cL_law 1066 = .ok (.iload_n 3, 1) := by decide +kernel
theorem dL_law_1067 : decode cL_law 1067 = .ok (.iconst 2, 1) := by decide +kernel
theorem dL_law_1068 : decode cL_law 1068 = .ok (.iadd, 1) := by decide +kernel
theorem dL_law_1069 : decode cL_law 1069 = .ok (.iaload, 1) := by decide +kernel
theorem dL_law_1070 : decode cL_law 1070 = .ok (.invokevirtual 122, 3) := by decide +kernel
theorem dL_law_1073 : decode cL_law 1073 = .ok (.aload_n 2, 1) := by decide +kernel
theorem dL_law_1074 : decode cL_law 1074 = .ok (.aload_n 0, 1) := by decide +kernel
theorem dL_law_1075 : decode cL_law 1075 = .ok (.iload_n 3, 1) := by decide +kernel
theorem dL_law_1076 : decode cL_law 1076 = .ok (.iconst 1, 1) := by decide +kernel
theorem dL_law_1077 : decode cL_law 1077 = .ok (.iadd, 1) := by decide +kernel
theorem dL_law_1078 : decode cL_law 1078 = .ok (.iaload, 1) := by decide +kernel
theorem dL_law_1079 : decode cL_law 1079 = .ok (.aload_n 0, 1) := by decide +kernel
theorem dL_law_1080 : decode cL_law 1080 = .ok (.iload_n 3, 1) := by decide +kernel
theorem dL_law_1081 : decode cL_law 1081 = .ok (.iconst 2, 1) := by decide +kernel
theorem dL_law_1082 : decode cL_law 1082 = .ok (.iadd, 1) := by decide +kernel
theorem dL_law_1083 : decode cL_law 1083 = .ok (.iaload, 1) := by decide +kernel
theorem dL_law_1084 : decode cL_law 1084 = .ok (.invokevirtual 125, 3) := by decide +kernel
theorem dL_law_1087 : decode cL_law 1087 = .ok (.if_icmp .eq 194, 3) := by decide +kernel
theorem dL_law_1090 : decode cL_law 1090 = .ok (.iconst 0, 1) := by decide +kernel
theorem dL_law_1091 : decode cL_law 1091 = .ok (.ireturn, 1) := by decide +kernel
theorem dL_law_1092 : decode cL_law 1092 = .ok (.aload_n 1, 1) := by decide +kernel
theorem dL_law_1093 : decode cL_law 1093 = .ok (.aload_n 0, 1) := by decide +kernel
theorem dL_law_1094 : decode cL_law 1094 = .ok (.iload_n 3, 1) := by decide +kernel
theorem dL_law_1095 : decode cL_law 1095 = .ok (.iconst 1, 1) := by decide +kernel
theorem dL_law_1096 : decode cL_law 1096 = .ok (.iadd, 1) := by decide +kernel
theorem dL_law_1097 : decode cL_law 1097 = .ok (.iaload, 1) := by decide +kernel
theorem dL_law_1098 : decode cL_law 1098 = .ok (.aload_n 0, 1) := by decide +kernel
theorem dL_law_1099 : decode cL_law 1099 = .ok (.iload_n 3, 1) := by decide +kernel
theorem dL_law_1100 : decode cL_law 1100 = .ok (.iconst 2, 1) := by decide +kernel
theorem dL_law_1101 : decode cL_law 1101 = .ok (.iadd, 1) := by decide +kernel
theorem dL_law_1102 : decode cL_law 1102 = .ok (.iaload, 1) := by decide +kernel
theorem dL_law_1103 : decode cL_law 1103 = .ok (.invokevirtual 126, 3) := by decide +kernel
theorem dL_law_1106 : decode cL_law 1106 = .ok (.aload_n 2, 1) := by decide +kernel
theorem dL_law_1107 : decode cL_law 1107 = .ok (.aload_n 0, 1) := by decide +kernel
theorem dL_law_1108 : decode cL_law 1108 = .ok (.iload_n 3, 1) := by decide +kernel
theorem dL_law_1109 : decode cL_law 1109 = .ok (.iconst 1, 1) := by decide +kernel
theorem dL_law_1110 : decode cL_law 1110 = .ok (.iadd, 1) := by decide +kernel
theorem dL_law_1111 : decode cL_law 1111 = .ok (.iaload, 1) := by decide +kernel
theorem dL_law_1112 : decode cL_law 1112 = .ok (.aload_n 0, 1) := by decide +kernel
theorem dL_law_1113 : decode cL_law 1113 = .ok (.iload_n 3, 1) := by decide +kernel
theorem dL_law_1114 : decode cL_law 1114 = .ok (.iconst 2, 1) := by decide +kernel
theorem dL_law_1115 : decode cL_law 1115 = .ok (.iadd, 1) := by decide +kernel
theorem dL_law_1116 : decode cL_law 1116 = .ok (.iaload, 1) := by decide +kernel
theorem dL_law_1117 : decode cL_law 1117 = .ok (.invokevirtual 129, 3) := by decide +kernel
theorem dL_law_1120 : decode cL_law 1120 = .ok (.if_icmp .eq 161, 3) := by decide +kernel
theorem dL_law_1123 : decode cL_law 1123 = .ok (.iconst 0, 1) := by decide +kernel
theorem dL_law_1124 : decode cL_law 1124 = .ok (.ireturn, 1) := by decide +kernel
theorem dL_law_1125 : decode cL_law 1125 = .ok (.aload_n 1, 1) := by decide +kernel
theorem dL_law_1126 : decode cL_law 1126 = .ok (.aload_n 0, 1) := by decide +kernel
theorem dL_law_1127 : decode cL_law 1127 = .ok (.iload_n 3, 1) := by decide +kernel
theorem dL_law_1128 : decode cL_law 1128 = .ok (.iconst 1, 1) := by decide +kernel
theorem dL_law_1129 : decode cL_law 1129 = .ok (.iadd, 1) := by decide +kernel
theorem dL_law_1130 : decode cL_law 1130 = .ok (.iaload, 1) := by decide +kernel
theorem dL_law_1131 : decode cL_law 1131 = .ok (.aload_n 0, 1) := by decide +kernel
theorem dL_law_1132 : decode cL_law 1132 = .ok (.iload_n 3, 1) := by decide +kernel
theorem dL_law_1133 : decode cL_law 1133 = .ok (.iconst 2, 1) := by decide +kernel
theorem dL_law_1134 : decode cL_law 1134 = .ok (.iadd, 1) := by decide +kernel
theorem dL_law_1135 : decode cL_law 1135 = .ok (.iaload, 1) := by decide +kernel
theorem dL_law_1136 : decode cL_law 1136 = .ok (.aload_n 0, 1) := by decide +kernel
theorem dL_law_1137 : decode cL_law 1137 = .ok (.iload_n 3, 1) := by decide +kernel
theorem dL_law_1138 : decode cL_law 1138 = .ok (.iconst 3, 1) := by decide +kernel
theorem dL_law_1139 : decode cL_law 1139 = .ok (.iadd, 1) := by decide +kernel
theorem dL_law_1140 : decode cL_law 1140 = .ok (.iaload, 1) := by decide +kernel
theorem dL_law_1141 : decode cL_law 1141 = .ok (.i2l, 1) := by decide +kernel
theorem dL_law_1142 : decode cL_law 1142 = .ok (.bipush 32, 2) := by decide +kernel
theorem dL_law_1144 : decode cL_law 1144 = .ok (.lshl, 1) := by decide +kernel
theorem dL_law_1145 : decode cL_law 1145 = .ok (.aload_n 0, 1) := by decide +kernel
theorem dL_law_1146 : decode cL_law 1146 = .ok (.iload_n 3, 1) := by decide +kernel
theorem dL_law_1147 : decode cL_law 1147 = .ok (.iconst 4, 1) := by decide +kernel
theorem dL_law_1148 : decode cL_law 1148 = .ok (.iadd, 1) := by decide +kernel
theorem dL_law_1149 : decode cL_law 1149 = .ok (.iaload, 1) := by decide +kernel
theorem dL_law_1150 : decode cL_law 1150 = .ok (.i2l, 1) := by decide +kernel
theorem dL_law_1151 : decode cL_law 1151 = .ok (.ldc2_w 130, 3) := by decide +kernel
theorem dL_law_1154 : decode cL_law 1154 = .ok (.land, 1) := by decide +kernel
theorem dL_law_1155 : decode cL_law 1155 = .ok (.lor, 1) := by decide +kernel
theorem dL_law_1156 : decode cL_law 1156 = .ok (.invokevirtual 132, 3) := by decide +kernel
theorem dL_law_1159 : decode cL_law 1159 = .ok (.aload_n 2, 1) := by decide +kernel
theorem dL_law_1160 : decode cL_law 1160 = .ok (.aload_n 0, 1) := by decide +kernel
theorem dL_law_1161 : decode cL_law 1161 = .ok (.iload_n 3, 1) := by decide +kernel
theorem dL_law_1162 : decode cL_law 1162 = .ok (.iconst 1, 1) := by decide +kernel
theorem dL_law_1163 : decode cL_law 1163 = .ok (.iadd, 1) := by decide +kernel
theorem dL_law_1164 : decode cL_law 1164 = .ok (.iaload, 1) := by decide +kernel
theorem dL_law_1165 : decode cL_law 1165 = .ok (.aload_n 0, 1) := by decide +kernel
theorem dL_law_1166 : decode cL_law 1166 = .ok (.iload_n 3, 1) := by decide +kernel
theorem dL_law_1167 : decode cL_law 1167 = .ok (.iconst 2, 1) := by decide +kernel
theorem dL_law_1168 : decode cL_law 1168 = .ok (.iadd, 1) := by decide +kernel
theorem dL_law_1169 : decode cL_law 1169 = .ok (.iaload, 1) := by decide +kernel
theorem dL_law_1170 : decode cL_law 1170 = .ok (.aload_n 0, 1) := by decide +kernel
theorem dL_law_1171 : decode cL_law 1171 = .ok (.iload_n 3, 1) := by decide +kernel
theorem dL_law_1172 : decode cL_law 1172 = .ok (.iconst 3, 1) := by decide +kernel
theorem dL_law_1173 : decode cL_law 1173 = .ok (.iadd, 1) := by decide +kernel
theorem dL_law_1174 : decode cL_law 1174 = .ok (.iaload, 1) := by decide +kernel
theorem dL_law_1175 : decode cL_law 1175 = .ok (.i2l, 1) := by decide +kernel
theorem dL_law_1176 : decode cL_law 1176 = .ok (.bipush 32, 2) := by decide +kernel
theorem dL_law_1178 : decode cL_law 1178 = .ok (.lshl, 1) := by decide +kernel
theorem dL_law_1179 : decode cL_law 1179 = .ok (.aload_n 0, 1) := by decide +kernel
theorem dL_law_1180 : decode cL_law 1180 = .ok (.iload_n 3, 1) := by decide +kernel
theorem dL_law_1181 : decode cL_law 1181 = .ok (.iconst 4, 1) := by decide +kernel
theorem dL_law_1182 : decode cL_law 1182 = .ok (.iadd, 1) := by decide +kernel
theorem dL_law_1183 : decode cL_law 1183 = .ok (.iaload, 1) := by decide +kernel
theorem dL_law_1184 : decode cL_law 1184 = .ok (.i2l, 1) := by decide +kernel
theorem dL_law_1185 : decode cL_law 1185 = .ok (.ldc2_w 130, 3) := by decide +kernel
theorem dL_law_1188 : decode cL_law 1188 = .ok (.land, 1) := by decide +kernel
theorem dL_law_1189 : decode cL_law 1189 = .ok (.lor, 1) := by decide +kernel
theorem dL_law_1190 : decode cL_law 1190 = .ok (.invokevirtual 136, 3) := by decide +kernel
theorem dL_law_1193 : decode cL_law 1193 = .ok (.if_icmp .eq 88, 3) := by decide +kernel
theorem dL_law_1196 : decode cL_law 1196 = .ok (.iconst 0, 1) := by decide +kernel
theorem dL_law_1197 : decode cL_law 1197 = .ok (.ireturn, 1) := by decide +kernel
theorem dL_law_1198 : decode cL_law 1198 = .ok (.aload_n 1, 1) := by decide +kernel
theorem dL_law_1199 : decode cL_law 1199 = .ok (.aload_n 0, 1) := by decide +kernel
theorem dL_law_1200 : decode cL_law 1200 = .ok (.iload_n 3, 1) := by decide +kernel
theorem dL_law_1201 : decode cL_law 1201 = .ok (.iconst 1, 1) := by decide +kernel
theorem dL_law_1202 : decode cL_law 1202 = .ok (.iadd, 1) := by decide +kernel
theorem dL_law_1203 : decode cL_law 1203 = .ok (.iaload, 1) := by decide +kernel
theorem dL_law_1204 : decode cL_law 1204 = .ok (.aload_n 0, 1) := by decide +kernel
theorem dL_law_1205 : decode cL_law 1205 = .ok (.iload_n 3, 1) := by decide +kernel
theorem dL_law_1206 : decode cL_law 1206 = .ok (.iconst 2, 1) := by decide +kernel
theorem dL_law_1207 : decode cL_law 1207 = .ok (.iadd, 1) := by decide +kernel
theorem dL_law_1208 : decode cL_law 1208 = .ok (.iaload, 1) := by decide +kernel
theorem dL_law_1209 : decode cL_law 1209 = .ok (.invokevirtual 137, 3) := by decide +kernel
theorem dL_law_1212 : decode cL_law 1212 = .ok (.aload_n 2, 1) := by decide +kernel
theorem dL_law_1213 : decode cL_law 1213 = .ok (.aload_n 0, 1) := by decide +kernel
theorem dL_law_1214 : decode cL_law 1214 = .ok (.iload_n 3, 1) := by decide +kernel
theorem dL_law_1215 : decode cL_law 1215 = .ok (.iconst 1, 1) := by decide +kernel
theorem dL_law_1216 : decode cL_law 1216 = .ok (.iadd, 1) := by decide +kernel
theorem dL_law_1217 : decode cL_law 1217 = .ok (.iaload, 1) := by decide +kernel
theorem dL_law_1218 : decode cL_law 1218 = .ok (.aload_n 0, 1) := by decide +kernel
theorem dL_law_1219 : decode cL_law 1219 = .ok (.iload_n 3, 1) := by decide +kernel
theorem dL_law_1220 : decode cL_law 1220 = .ok (.iconst 2, 1) := by decide +kernel
theorem dL_law_1221 : decode cL_law 1221 = .ok (.iadd, 1) := by decide +kernel
theorem dL_law_1222 : decode cL_law 1222 = .ok (.iaload, 1) := by decide +kernel
theorem dL_law_1223 : decode cL_law 1223 = .ok (.invokevirtual 141, 3) := by decide +kernel
theorem dL_law_1226 : decode cL_law 1226 = .ok (.lcmp, 1) := by decide +kernel
theorem dL_law_1227 : decode cL_law 1227 = .ok (.ifCond .eq 54, 3) := by decide +kernel
theorem dL_law_1230 : decode cL_law 1230 = .ok (.iconst 0, 1) := by decide +kernel
theorem dL_law_1231 : decode cL_law 1231 = .ok (.ireturn, 1) := by decide +kernel
theorem dL_law_1232 : decode cL_law 1232 = .ok (.aload_n 1, 1) := by decide +kernel
theorem dL_law_1233 : decode cL_law 1233 = .ok (.invokevirtual 142, 3) := by decide +kernel
theorem dL_law_1236 : decode cL_law 1236 = .ok (.aload_n 2, 1) := by decide +kernel
theorem dL_law_1237 : decode cL_law 1237 = .ok (.invokevirtual 146, 3) := by decide +kernel
theorem dL_law_1240 : decode cL_law 1240 = .ok (.if_icmp .eq 41, 3) := by decide +kernel
theorem dL_law_1243 : decode cL_law 1243 = .ok (.iconst 0, 1) := by decide +kernel
theorem dL_law_1244 : decode cL_law 1244 = .ok (.ireturn, 1) := by decide +kernel
theorem dL_law_1245 : decode cL_law 1245 = .ok (.aload_n 1, 1) := by decide +kernel
theorem dL_law_1246 : decode cL_law 1246 = .ok (.invokevirtual 147, 3) := by decide +kernel
theorem dL_law_1249 : decode cL_law 1249 = .ok (.aload_n 2, 1) := by decide +kernel
theorem dL_law_1250 : decode cL_law 1250 = .ok (.invokevirtual 150, 3) := by decide +kernel
theorem dL_law_1253 : decode cL_law 1253 = .ok (.if_icmp .eq 28, 3) := by decide +kernel
theorem dL_law_1256 : decode cL_law 1256 = .ok (.iconst 0, 1) := by decide +kernel
theorem dL_law_1257 : decode cL_law 1257 = .ok (.ireturn, 1) := by decide +kernel
theorem dL_law_1258 : decode cL_law 1258 = .ok (.aload_n 1, 1) := by decide +kernel
theorem dL_law_1259 : decode cL_law 1259 = .ok (.aload_n 0, 1) := by decide +kernel
theorem dL_law_1260 : decode cL_law 1260 = .ok (.iload_n 3, 1) := by decide +kernel
theorem dL_law_1261 : decode cL_law 1261 = .ok (.iconst 1, 1) := by decide +kernel
theorem dL_law_1262 : decode cL_law 1262 = .ok (.iadd, 1) := by decide +kernel
theorem dL_law_1263 : decode cL_law 1263 = .ok (.iaload, 1) := by decide +kernel
theorem dL_law_1264 : decode cL_law 1264 = .ok (.invokevirtual 151, 3) := by decide +kernel
theorem dL_law_1267 : decode cL_law 1267 = .ok (.aload_n 2, 1) := by decide +kernel
theorem dL_law_1268 : decode cL_law 1268 = .ok (.aload_n 0, 1) := by decide +kernel
theorem dL_law_1269 : decode cL_law 1269 = .ok (.iload_n 3, 1) := by decide +kernel
theorem dL_law_1270 : decode cL_law 1270 = .ok (.iconst 1, 1) := by decide +kernel
theorem dL_law_1271 : decode cL_law 1271 = .ok (.iadd, 1) := by decide +kernel
theorem dL_law_1272 : decode cL_law 1272 = .ok (.iaload, 1) := by decide +kernel
theorem dL_law_1273 : decode cL_law 1273 = .ok (.invokevirtual 154, 3) := by decide +kernel
theorem dL_law_1276 : decode cL_law 1276 = .ok (.if_icmp .eq 5, 3) := by decide +kernel
theorem dL_law_1279 : decode cL_law 1279 = .ok (.iconst 0, 1) := by decide +kernel
theorem dL_law_1280 : decode cL_law 1280 = .ok (.ireturn, 1) := by decide +kernel
theorem dL_law_1281 : decode cL_law 1281 = .ok (.iinc 3 5, 3) := by decide +kernel
theorem dL_law_1284 : decode cL_law 1284 = .ok (.goto (-1266), 3) := by decide +kernel
theorem dL_law_1287 : decode cL_law 1287 = .ok (.iconst 1, 1) := by decide +kernel
theorem dL_law_1288 : decode cL_law 1288 = .ok (.ireturn, 1) := by decide +kernel
