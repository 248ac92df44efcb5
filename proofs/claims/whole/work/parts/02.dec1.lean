theorem dX11_add_51 : decode cX11_add 51 = .ok (.iload_n 2, 1) := by decide +kernel
theorem dX11_add_52 : decode cX11_add 52 = .ok (.aaload, 1) := by decide +kernel
theorem dX11_add_53 : decode cX11_add 53 = .ok (.getfield 191, 3) := by decide +kernel
theorem dX11_add_56 : decode cX11_add 56 = .ok (.if_icmp .eq 6, 3) := by decide +kernel
theorem dX11_add_59 : decode cX11_add 59 = .ok (.bipush (-3), 2) := by decide +kernel
theorem dX11_add_61 : decode cX11_add 61 = .ok (.ireturn, 1) := by decide +kernel
theorem dX11_add_62 : decode cX11_add 62 = .ok (.aload 4, 2) := by decide +kernel
theorem dX11_add_64 : decode cX11_add 64 = .ok (.aload_n 0, 1) := by decide +kernel
theorem dX11_add_65 : decode cX11_add 65 = .ok (.getfield 12, 3) := by decide +kernel
theorem dX11_add_68 : decode cX11_add 68 = .ok (.getfield 176, 3) := by decide +kernel
theorem dX11_add_71 : decode cX11_add 71 = .ok (.iload_n 2, 1) := by decide +kernel
theorem dX11_add_72 : decode cX11_add 72 = .ok (.aaload, 1) := by decide +kernel
theorem dX11_add_73 : decode cX11_add 73 = .ok (.iload_n 3, 1) := by decide +kernel
theorem dX11_add_74 : decode cX11_add 74 = .ok (.invokevirtual 204, 3) := by decide +kernel
theorem dX11_add_77 : decode cX11_add 77 = .ok (.aload 4, 2) := by decide +kernel
theorem dX11_add_79 : decode cX11_add 79 = .ok (.getfield 191, 3) := by decide +kernel
theorem dX11_add_82 : decode cX11_add 82 = .ok (.ireturn, 1) := by decide +kernel
theorem dX11_product_0 : decode cX11_product 0 = .ok (.iload_n 1, 1) := by decide +kernel
theorem dX11_product_1 : decode cX11_product 1 = .ok (.invokestatic 166, 3) := by decide +kernel
theorem dX11_product_4 : decode cX11_product 4 = .ok (.ifCond .eq 10, 3) := by decide +kernel
theorem dX11_product_7 : decode cX11_product 7 = .ok (.iload_n 2, 1) := by decide +kernel
theorem dX11_product_8 : decode cX11_product 8 = .ok (.invokestatic 166, 3) := by decide +kernel
theorem dX11_product_11 : decode cX11_product 11 = .ok (.ifCond .ne 5, 3) := by decide +kernel
theorem dX11_product_14 : decode cX11_product 14 = .ok (.iconst (-1), 1) := by decide +kernel
theorem dX11_product_15 : decode cX11_product 15 = .ok (.ireturn, 1) := by decide +kernel
theorem dX11_product_16 : decode cX11_product 16 = .ok (.aload_n 0, 1) := by decide +kernel
theorem dX11_product_17 : decode cX11_product 17 = .ok (.getfield 12, 3) := by decide +kernel
theorem dX11_product_20 : decode cX11_product 20 = .ok (.getfield 176, 3) := by decide +kernel
theorem dX11_product_23 : decode cX11_product 23 = .ok (.iload_n 1, 1) := by decide +kernel
theorem dX11_product_24 : decode cX11_product 24 = .ok (.aaload, 1) := by decide +kernel
theorem dX11_product_25 : decode cX11_product 25 = .ok (.astore_n 3, 1) := by decide +kernel
theorem dX11_product_26 : decode cX11_product 26 = .ok (.aload_n 3, 1) := by decide +kernel
theorem dX11_product_27 : decode cX11_product 27 = .ok (.getfield 191, 3) := by decide +kernel
theorem dX11_product_30 : decode cX11_product 30 = .ok (.aload_n 0, 1) := by decide +kernel
theorem dX11_product_31 : decode cX11_product 31 = .ok (.getfield 12, 3) := by decide +kernel
theorem dX11_product_34 : decode cX11_product 34 = .ok (.getfield 176, 3) := by decide +kernel
theorem dX11_product_37 : decode cX11_product 37 = .ok (.iload_n 2, 1) := by decide +kernel
theorem dX11_product_38 : decode cX11_product 38 = .ok (.aaload, 1) := by decide +kernel
theorem dX11_product_39 : decode cX11_product 39 = .ok (.getfield 191, 3) := by decide +kernel
theorem dX11_product_42 : decode cX11_product 42 = .ok (.if_icmp .eq 5, 3) := by decide +kernel
theorem dX11_product_45 : decode cX11_product 45 = .ok (.iconst 0, 1) := by decide +kernel
theorem dX11_product_46 : decode cX11_product 46 = .ok (.ireturn, 1) := by decide +kernel
theorem dX11_product_47 : decode cX11_product 47 = .ok (.aload_n 0, 1) := by decide +kernel
theorem dX11_product_48 : decode cX11_product 48 = .ok (.getfield 24, 3) := by decide +kernel
theorem dX11_product_51 : decode cX11_product 51 = .ok (.aload_n 0, 1) := by decide +kernel
theorem dX11_product_52 : decode cX11_product 52 = .ok (.getfield 12, 3) := by decide +kernel
theorem dX11_product_55 : decode cX11_product 55 = .ok (.getfield 70, 3) := by decide +kernel
theorem dX11_product_58 : decode cX11_product 58 = .ok (.aload_n 3, 1) := by decide +kernel
theorem dX11_product_59 : decode cX11_product 59 = .ok (.getfield 191, 3) := by decide +kernel
theorem dX11_product_62 : decode cX11_product 62 = .ok (.invokevirtual 115, 3) := by decide +kernel
theorem dX11_product_65 : decode cX11_product 65 = .ok (.aload_n 0, 1) := by decide +kernel
theorem dX11_product_66 : decode cX11_product 66 = .ok (.getfield 24, 3) := by decide +kernel
theorem dX11_product_69 : decode cX11_product 69 = .ok (.aload_n 3, 1) := by decide +kernel
theorem dX11_product_70 : decode cX11_product 70 = .ok (.aload_n 0, 1) := by decide +kernel
theorem dX11_product_71 : decode cX11_product 71 = .ok (.getfield 12, 3) := by decide +kernel
theorem dX11_product_74 : decode cX11_product 74 = .ok (.getfield 176, 3) := by decide +kernel
theorem dX11_product_77 : decode cX11_product 77 = .ok (.iload_n 2, 1) := by decide +kernel
theorem dX11_product_78 : decode cX11_product 78 = .ok (.aaload, 1) := by decide +kernel
theorem dX11_product_79 : decode cX11_product 79 = .ok (.invokevirtual 207, 3) := by decide +kernel
theorem dX11_product_82 : decode cX11_product 82 = .ok (.ireturn, 1) := by decide +kernel
theorem dX11_isLowest_0 : decode cX11_isLowest 0 = .ok (.iload_n 1, 1) := by decide +kernel
theorem dX11_isLowest_1 : decode cX11_isLowest 1 = .ok (.invokestatic 166, 3) := by decide +kernel
theorem dX11_isLowest_4 : decode cX11_isLowest 4 = .ok (.ifCond .ne 5, 3) := by decide +kernel
theorem dX11_isLowest_7 : decode cX11_isLowest 7 = .ok (.iconst (-1), 1) := by decide +kernel
theorem dX11_isLowest_8 : decode cX11_isLowest 8 = .ok (.ireturn, 1) := by decide +kernel
theorem dX11_isLowest_9 : decode cX11_isLowest 9 = .ok (.aload_n 0, 1) := by decide +kernel
theorem dX11_isLowest_10 : decode cX11_isLowest 10 = .ok (.getfield 12, 3) := by decide +kernel
theorem dX11_isLowest_13 : decode cX11_isLowest 13 = .ok (.getfield 176, 3) := by decide +kernel
theorem dX11_isLowest_16 : decode cX11_isLowest 16 = .ok (.iload_n 1, 1) := by decide +kernel
theorem dX11_isLowest_17 : decode cX11_isLowest 17 = .ok (.aaload, 1) := by decide +kernel
theorem dX11_isLowest_18 : decode cX11_isLowest 18 = .ok (.astore_n 2, 1) := by decide +kernel
theorem dX11_isLowest_19 : decode cX11_isLowest 19 = .ok (.aload_n 0, 1) := by decide +kernel
theorem dX11_isLowest_20 : decode cX11_isLowest 20 = .ok (.getfield 24, 3) := by decide +kernel
theorem dX11_isLowest_23 : decode cX11_isLowest 23 = .ok (.aload_n 0, 1) := by decide +kernel
theorem dX11_isLowest_24 : decode cX11_isLowest 24 = .ok (.getfield 12, 3) := by decide +kernel
theorem dX11_isLowest_27 : decode cX11_isLowest 27 = .ok (.getfield 70, 3) := by decide +kernel
theorem dX11_isLowest_30 : decode cX11_isLowest 30 = .ok (.aload_n 2, 1) := by decide +kernel
theorem dX11_isLowest_31 : decode cX11_isLowest 31 = .ok (.getfield 191, 3) := by decide +kernel
theorem dX11_isLowest_34 : decode cX11_isLowest 34 = .ok (.invokevirtual 115, 3) := by decide +kernel
theorem dX11_isLowest_37 : decode cX11_isLowest 37 = .ok (.iconst 1, 1) := by decide +kernel
theorem dX11_isLowest_38 : decode cX11_isLowest 38 = .ok (.istore_n 3, 1) := by decide +kernel
theorem dX11_isLowest_39 : decode cX11_isLowest 39 = .ok (.iload_n 3, 1) := by decide +kernel
theorem dX11_isLowest_40 : decode cX11_isLowest 40 = .ok (.aload_n 2, 1) := by decide +kernel
theorem dX11_isLowest_41 : decode cX11_isLowest 41 = .ok (.getfield 191, 3) := by decide +kernel
theorem dX11_isLowest_44 : decode cX11_isLowest 44 = .ok (.if_icmp .gt 41, 3) := by decide +kernel
theorem dX11_isLowest_47 : decode cX11_isLowest 47 = .ok (.aload_n 0, 1) := by decide +kernel
theorem dX11_isLowest_48 : decode cX11_isLowest 48 = .ok (.getfield 50, 3) := by decide +kernel
theorem dX11_isLowest_51 : decode cX11_isLowest 51 = .ok (.aload_n 2, 1) := by decide +kernel
theorem dX11_isLowest_52 : decode cX11_isLowest 52 = .ok (.invokevirtual 180, 3) := by decide +kernel
theorem dX11_isLowest_55 : decode cX11_isLowest 55 = .ok (.aload_n 0, 1) := by decide +kernel
theorem dX11_isLowest_56 : decode cX11_isLowest 56 = .ok (.getfield 24, 3) := by decide +kernel
theorem dX11_isLowest_59 : decode cX11_isLowest 59 = .ok (.aload_n 0, 1) := by decide +kernel
theorem dX11_isLowest_60 : decode cX11_isLowest 60 = .ok (.getfield 50, 3) := by decide +kernel
theorem dX11_isLowest_63 : decode cX11_isLowest 63 = .ok (.iload_n 3, 1) := by decide +kernel
theorem dX11_isLowest_64 : decode cX11_isLowest 64 = .ok (.invokevirtual 200, 3) := by decide +kernel
theorem dX11_isLowest_67 : decode cX11_isLowest 67 = .ok (.aload_n 0, 1) := by decide +kernel
theorem dX11_isLowest_68 : decode cX11_isLowest 68 = .ok (.getfield 50, 3) := by decide +kernel
theorem dX11_isLowest_71 : decode cX11_isLowest 71 = .ok (.invokevirtual 211, 3) := by decide +kernel
theorem dX11_isLowest_74 : decode cX11_isLowest 74 = .ok (.ifCond .ne 5, 3) := by decide +kernel
theorem dX11_isLowest_77 : decode cX11_isLowest 77 = .ok (.iconst 0, 1) := by decide +kernel
theorem dX11_isLowest_78 : decode cX11_isLowest 78 = .ok (.ireturn, 1) := by decide +kernel
theorem dX11_isLowest_79 : decode cX11_isLowest 79 = .ok (.iinc 3 1, 3) := by decide +kernel
theorem dX11_isLowest_82 : decode cX11_isLowest 82 = .ok (.goto (-43), 3) := by decide +kernel
theorem dX11_isLowest_85 : decode cX11_isLowest 85 = .ok (.iconst 1, 1) := by decide +kernel
theorem dX11_isLowest_86 : decode cX11_isLowest 86 = .ok (.ireturn, 1) := by decide +kernel
theorem dX11_odds_0 : decode cX11_odds 0 = .ok (.iload_n 1, 1) := by decide +kernel
theorem dX11_odds_1 : decode cX11_odds 1 = .ok (.iconst 1, 1) := by decide +kernel
theorem dX11_odds_2 : decode cX11_odds 2 = .ok (.if_icmp .lt 29, 3) := by decide +kernel
theorem dX11_odds_5 : decode cX11_odds 5 = .ok (.iload_n 1, 1) := by decide +kernel
theorem dX11_odds_6 : decode cX11_odds 6 = .ok (.bipush 9, 2) := by decide +kernel
theorem dX11_odds_8 : decode cX11_odds 8 = .ok (.if_icmp .gt 23, 3) := by decide +kernel
theorem dX11_odds_11 : decode cX11_odds 11 = .ok (.iload_n 3, 1) := by decide +kernel
theorem dX11_odds_12 : decode cX11_odds 12 = .ok (.iconst 1, 1) := by decide +kernel
theorem dX11_odds_13 : decode cX11_odds 13 = .ok (.if_icmp .lt 18, 3) := by decide +kernel
theorem dX11_odds_16 : decode cX11_odds 16 = .ok (.iload_n 3, 1) := by decide +kernel
theorem dX11_odds_17 : decode cX11_odds 17 = .ok (.bipush 30, 2) := by decide +kernel
theorem dX11_odds_19 : decode cX11_odds 19 = .ok (.if_icmp .gt 12, 3) := by decide +kernel
theorem dX11_odds_22 : decode cX11_odds 22 = .ok (.iload 4, 2) := by decide +kernel
theorem dX11_odds_24 : decode cX11_odds 24 = .ok (.iconst 1, 1) := by decide +kernel
theorem dX11_odds_25 : decode cX11_odds 25 = .ok (.invokestatic 66, 3) := by decide +kernel
theorem dX11_odds_28 : decode cX11_odds 28 = .ok (.ifCond .ne 7, 3) := by decide +kernel
theorem dX11_odds_31 : decode cX11_odds 31 = .ok (.ldc2_w 215, 3) := by decide +kernel
theorem dX11_odds_34 : decode cX11_odds 34 = .ok (.lreturn, 1) := by decide +kernel
theorem dX11_odds_35 : decode cX11_odds 35 = .ok (.aload_n 0, 1) := by decide +kernel
theorem dX11_odds_36 : decode cX11_odds 36 = .ok (.getfield 24, 3) := by decide +kernel
theorem dX11_odds_39 : decode cX11_odds 39 = .ok (.aload_n 0, 1) := by decide +kernel
theorem dX11_odds_40 : decode cX11_odds 40 = .ok (.getfield 12, 3) := by decide +kernel
theorem dX11_odds_43 : decode cX11_odds 43 = .ok (.getfield 70, 3) := by decide +kernel
theorem dX11_odds_46 : decode cX11_odds 46 = .ok (.iconst 5, 1) := by decide +kernel
theorem dX11_odds_47 : decode cX11_odds 47 = .ok (.invokevirtual 115, 3) := by decide +kernel
theorem dX11_odds_50 : decode cX11_odds 50 = .ok (.iconst 0, 1) := by decide +kernel
theorem dX11_odds_51 : decode cX11_odds 51 = .ok (.istore 5, 2) := by decide +kernel
theorem dX11_odds_53 : decode cX11_odds 53 = .ok (.iconst 0, 1) := by decide +kernel
theorem dX11_odds_54 : decode cX11_odds 54 = .ok (.istore 6, 2) := by decide +kernel
theorem dX11_odds_56 : decode cX11_odds 56 = .ok (.iload 6, 2) := by decide +kernel
theorem dX11_odds_58 : decode cX11_odds 58 = .ok (.iload_n 3, 1) := by decide +kernel
theorem dX11_odds_59 : decode cX11_odds 59 = .ok (.if_icmp .ge 24, 3) := by decide +kernel
theorem dX11_odds_62 : decode cX11_odds 62 = .ok (.aload_n 0, 1) := by decide +kernel
theorem dX11_odds_63 : decode cX11_odds 63 = .ok (.iload_n 1, 1) := by decide +kernel
theorem dX11_odds_64 : decode cX11_odds 64 = .ok (.iload_n 2, 1) := by decide +kernel
theorem dX11_odds_65 : decode cX11_odds 65 = .ok (.iload 6, 2) := by decide +kernel
theorem dX11_odds_67 : decode cX11_odds 67 = .ok (.iadd, 1) := by decide +kernel
theorem dX11_odds_68 : decode cX11_odds 68 = .ok (.invokevirtual 217, 3) := by decide +kernel
theorem dX11_odds_71 : decode cX11_odds 71 = .ok (.ifCond .eq 6, 3) := by decide +kernel
theorem dX11_odds_74 : decode cX11_odds 74 = .ok (.iinc 5 1, 3) := by decide +kernel
theorem dX11_odds_77 : decode cX11_odds 77 = .ok (.iinc 6 1, 3) := by decide +kernel
theorem dX11_odds_80 : decode cX11_odds 80 = .ok (.goto (-24), 3) := by decide +kernel
theorem dX11_odds_83 : decode cX11_odds 83 = .ok (.iload 5, 2) := by decide +kernel
theorem dX11_odds_85 : decode cX11_odds 85 = .ok (.iload_n 3, 1) := by decide +kernel
theorem dX11_odds_86 : decode cX11_odds 86 = .ok (.invokestatic 220, 3) := by decide +kernel
theorem dX11_odds_89 : decode cX11_odds 89 = .ok (.istore 6, 2) := by decide +kernel
theorem dX11_odds_91 : decode cX11_odds 91 = .ok (.iload 4, 2) := by decide +kernel
theorem dX11_odds_93 : decode cX11_odds 93 = .ok (.ifCond .ne 12, 3) := by decide +kernel
theorem dX11_odds_96 : decode cX11_odds 96 = .ok (.iload 5, 2) := by decide +kernel
theorem dX11_odds_98 : decode cX11_odds 98 = .ok (.iload 6, 2) := by decide +kernel
theorem dX11_odds_100 : decode cX11_odds 100 = .ok (.idiv, 1) := by decide +kernel
theorem dX11_odds_101 : decode cX11_odds 101 = .ok (.i2l, 1) := by decide +kernel
theorem dX11_odds_102 : decode cX11_odds 102 = .ok (.goto 8, 3) := by decide +kernel
theorem dX11_odds_105 : decode cX11_odds 105 = .ok (.iload_n 3, 1) := by decide +kernel
theorem dX11_odds_106 : decode cX11_odds 106 = .ok (.iload 6, 2) := by decide +kernel
theorem dX11_odds_108 : decode cX11_odds 108 = .ok (.idiv, 1) := by decide +kernel
theorem dX11_odds_109 : decode cX11_odds 109 = .ok (.i2l, 1) := by decide +kernel
theorem dX11_odds_110 : decode cX11_odds 110 = .ok (.lreturn, 1) := by decide +kernel
theorem dX11_plan_0 : decode cX11_plan 0 = .ok (.iload_n 1, 1) := by decide +kernel
theorem dX11_plan_1 : decode cX11_plan 1 = .ok (.iconst (-1), 1) := by decide +kernel
theorem dX11_plan_2 : decode cX11_plan 2 = .ok (.if_icmp .ne 13, 3) := by decide +kernel
theorem dX11_plan_5 : decode cX11_plan 5 = .ok (.aload_n 0, 1) := by decide +kernel
theorem dX11_plan_6 : decode cX11_plan 6 = .ok (.getfield 12, 3) := by decide +kernel
theorem dX11_plan_9 : decode cX11_plan 9 = .ok (.iconst 0, 1) := by decide +kernel
theorem dX11_plan_10 : decode cX11_plan 10 = .ok (.putfield 223, 3) := by decide +kernel
theorem dX11_plan_13 : decode cX11_plan 13 = .ok (.iconst 0, 1) := by decide +kernel
theorem dX11_plan_14 : decode cX11_plan 14 = .ok (.ireturn, 1) := by decide +kernel
theorem dX11_plan_15 : decode cX11_plan 15 = .ok (.iload_n 1, 1) := by decide +kernel
theorem dX11_plan_16 : decode cX11_plan 16 = .ok (.iconst 2, 1) := by decide +kernel
theorem dX11_plan_17 : decode cX11_plan 17 = .ok (.invokestatic 66, 3) := by decide +kernel
theorem dX11_plan_20 : decode cX11_plan 20 = .ok (.ifCond .ne 5, 3) := by decide +kernel
theorem dX11_plan_23 : decode cX11_plan 23 = .ok (.iconst (-1), 1) := by decide +kernel
theorem dX11_plan_24 : decode cX11_plan 24 = .ok (.ireturn, 1) := by decide +kernel
theorem dX11_plan_25 : decode cX11_plan 25 = .ok (.iload_n 1, 1) := by decide +kernel
theorem dX11_plan_26 : decode cX11_plan 26 = .ok (.iload_n 2, 1) := by decide +kernel
theorem dX11_plan_27 : decode cX11_plan 27 = .ok (.invokestatic 226, 3) := by decide +kernel
theorem dX11_plan_30 : decode cX11_plan 30 = .ok (.ifCond .ne 6, 3) := by decide +kernel
theorem dX11_plan_33 : decode cX11_plan 33 = .ok (.bipush (-2), 2) := by decide +kernel
theorem dX11_plan_35 : decode cX11_plan 35 = .ok (.ireturn, 1) := by decide +kernel
theorem dX11_plan_36 : decode cX11_plan 36 = .ok (.aload_n 0, 1) := by decide +kernel
theorem dX11_plan_37 : decode cX11_plan 37 = .ok (.getfield 12, 3) := by decide +kernel
theorem dX11_plan_40 : decode cX11_plan 40 = .ok (.getfield 223, 3) := by decide +kernel
theorem dX11_plan_43 : decode cX11_plan 43 = .ok (.bipush 8, 2) := by decide +kernel
theorem dX11_plan_45 : decode cX11_plan 45 = .ok (.if_icmp .lt 6, 3) := by decide +kernel
theorem dX11_plan_48 : decode cX11_plan 48 = .ok (.bipush (-4), 2) := by decide +kernel
theorem dX11_plan_50 : decode cX11_plan 50 = .ok (.ireturn, 1) := by decide +kernel
theorem dX11_plan_51 : decode cX11_plan 51 = .ok (.aload_n 0, 1) := by decide +kernel
theorem dX11_plan_52 : decode cX11_plan 52 = .ok (.getfield 12, 3) := by decide +kernel
theorem dX11_plan_55 : decode cX11_plan 55 = .ok (.getfield 229, 3) := by decide +kernel
theorem dX11_plan_58 : decode cX11_plan 58 = .ok (.aload_n 0, 1) := by decide +kernel
theorem dX11_plan_59 : decode cX11_plan 59 = .ok (.getfield 12, 3) := by decide +kernel
theorem dX11_plan_62 : decode cX11_plan 62 = .ok (.getfield 223, 3) := by decide +kernel
theorem dX11_plan_65 : decode cX11_plan 65 = .ok (.iload_n 1, 1) := by decide +kernel
theorem dX11_plan_66 : decode cX11_plan 66 = .ok (.iastore, 1) := by decide +kernel
theorem dX11_plan_67 : decode cX11_plan 67 = .ok (.aload_n 0, 1) := by decide +kernel
theorem dX11_plan_68 : decode cX11_plan 68 = .ok (.getfield 12, 3) := by decide +kernel
theorem dX11_plan_71 : decode cX11_plan 71 = .ok (.getfield 232, 3) := by decide +kernel
theorem dX11_plan_74 : decode cX11_plan 74 = .ok (.aload_n 0, 1) := by decide +kernel
theorem dX11_plan_75 : decode cX11_plan 75 = .ok (.getfield 12, 3) := by decide +kernel
theorem dX11_plan_78 : decode cX11_plan 78 = .ok (.getfield 223, 3) := by decide +kernel
theorem dX11_plan_81 : decode cX11_plan 81 = .ok (.iload_n 2, 1) := by decide +kernel
theorem dX11_plan_82 : decode cX11_plan 82 = .ok (.iastore, 1) := by decide +kernel
theorem dX11_plan_83 : decode cX11_plan 83 = .ok (.aload_n 0, 1) := by decide +kernel
theorem dX11_plan_84 : decode cX11_plan 84 = .ok (.getfield 12, 3) := by decide +kernel
theorem dX11_plan_87 : decode cX11_plan 87 = .ok (.dup, 1) := by decide +kernel
theorem dX11_plan_88 : decode cX11_plan 88 = .ok (.getfield 223, 3) := by decide +kernel
theorem dX11_plan_91 : decode cX11_plan 91 = .ok (.iconst 1, 1) := by decide +kernel
theorem dX11_plan_92 : decode cX11_plan 92 = .ok (.iadd, 1) := by decide +kernel
theorem dX11_plan_93 : decode cX11_plan 93 = .ok (.putfield 223, 3) := by decide +kernel
theorem dX11_plan_96 : decode cX11_plan 96 = .ok (.aload_n 0, 1) := by decide +kernel
theorem dX11_plan_97 : decode cX11_plan 97 = .ok (.getfield 12, 3) := by decide +kernel
theorem dX11_plan_100 : decode cX11_plan 100 = .ok (.getfield 223, 3) := by decide +kernel
theorem dX11_plan_103 : decode cX11_plan 103 = .ok (.ireturn, 1) := by decide +kernel
theorem dX11_behind_0 : decode cX11_behind 0 = .ok (.iload_n 1, 1) := by decide +kernel
theorem dX11_behind_1 : decode cX11_behind 1 = .ok (.invokestatic 166, 3) := by decide +kernel
theorem dX11_behind_4 : decode cX11_behind 4 = .ok (.ifCond .ne 5, 3) := by decide +kernel
theorem dX11_behind_7 : decode cX11_behind 7 = .ok (.iconst (-1), 1) := by decide +kernel
theorem dX11_behind_8 : decode cX11_behind 8 = .ok (.ireturn, 1) := by decide +kernel
theorem dX11_behind_9 : decode cX11_behind 9 = .ok (.aload_n 0, 1) := by decide +kernel
theorem dX11_behind_10 : decode cX11_behind 10 = .ok (.getfield 24, 3) := by decide +kernel
theorem dX11_behind_13 : decode cX11_behind 13 = .ok (.aload_n 0, 1) := by decide +kernel
theorem dX11_behind_14 : decode cX11_behind 14 = .ok (.getfield 12, 3) := by decide +kernel
theorem dX11_behind_17 : decode cX11_behind 17 = .ok (.getfield 70, 3) := by decide +kernel
theorem dX11_behind_20 : decode cX11_behind 20 = .ok (.iconst 5, 1) := by decide +kernel
theorem dX11_behind_21 : decode cX11_behind 21 = .ok (.invokevirtual 115, 3) := by decide +kernel
theorem dX11_behind_24 : decode cX11_behind 24 = .ok (.aload_n 0, 1) := by decide +kernel
theorem dX11_behind_25 : decode cX11_behind 25 = .ok (.getfield 50, 3) := by decide +kernel
theorem dX11_behind_28 : decode cX11_behind 28 = .ok (.aload_n 0, 1) := by decide +kernel
theorem dX11_behind_29 : decode cX11_behind 29 = .ok (.getfield 12, 3) := by decide +kernel
theorem dX11_behind_32 : decode cX11_behind 32 = .ok (.getfield 176, 3) := by decide +kernel
theorem dX11_behind_35 : decode cX11_behind 35 = .ok (.iload_n 1, 1) := by decide +kernel
theorem dX11_behind_36 : decode cX11_behind 36 = .ok (.aaload, 1) := by decide +kernel
theorem dX11_behind_37 : decode cX11_behind 37 = .ok (.invokevirtual 180, 3) := by decide +kernel
theorem dX11_behind_40 : decode cX11_behind 40 = .ok (.iconst 0, 1) := by decide +kernel
theorem dX11_behind_41 : decode cX11_behind 41 = .ok (.istore_n 3, 1) := by decide +kernel
theorem dX11_behind_42 : decode cX11_behind 42 = .ok (.iload_n 3, 1) := by decide +kernel
theorem dX11_behind_43 : decode cX11_behind 43 = .ok (.aload_n 0, 1) := by decide +kernel
theorem dX11_behind_44 : decode cX11_behind 44 = .ok (.getfield 12, 3) := by decide +kernel
theorem dX11_behind_47 : decode cX11_behind 47 = .ok (.getfield 223, 3) := by decide +kernel
theorem dX11_behind_50 : decode cX11_behind 50 = .ok (.if_icmp .ge 31, 3) := by decide +kernel
theorem dX11_behind_53 : decode cX11_behind 53 = .ok (.aload_n 0, 1) := by decide +kernel
theorem dX11_behind_54 : decode cX11_behind 54 = .ok (.aload_n 0, 1) := by decide +kernel
theorem dX11_behind_55 : decode cX11_behind 55 = .ok (.getfield 12, 3) := by decide +kernel
theorem dX11_behind_58 : decode cX11_behind 58 = .ok (.getfield 229, 3) := by decide +kernel
theorem dX11_behind_61 : decode cX11_behind 61 = .ok (.iload_n 3, 1) := by decide +kernel
theorem dX11_behind_62 : decode cX11_behind 62 = .ok (.iaload, 1) := by decide +kernel
theorem dX11_behind_63 : decode cX11_behind 63 = .ok (.aload_n 0, 1) := by decide +kernel
theorem dX11_behind_64 : decode cX11_behind 64 = .ok (.getfield 12, 3) := by decide +kernel
theorem dX11_behind_67 : decode cX11_behind 67 = .ok (.getfield 232, 3) := by decide +kernel
theorem dX11_behind_70 : decode cX11_behind 70 = .ok (.iload_n 3, 1) := by decide +kernel
theorem dX11_behind_71 : decode cX11_behind 71 = .ok (.iaload, 1) := by decide +kernel
theorem dX11_behind_72 : decode cX11_behind 72 = .ok (.invokevirtual 235, 3) := by decide +kernel
theorem dX11_behind_75 : decode cX11_behind 75 = .ok (.iinc 3 1, 3) := by decide +kernel
theorem dX11_behind_78 : decode cX11_behind 78 = .ok (.goto (-36), 3) := by decide +kernel
theorem dX11_behind_81 : decode cX11_behind 81 = .ok (.iload_n 2, 1) := by decide +kernel
theorem dX11_behind_82 : decode cX11_behind 82 = .ok (.iconst (-1), 1) := by decide +kernel
theorem dX11_behind_83 : decode cX11_behind 83 = .ok (.if_icmp .ne 11, 3) := by decide +kernel
theorem dX11_behind_86 : decode cX11_behind 86 = .ok (.aload_n 0, 1) := by decide +kernel
theorem dX11_behind_87 : decode cX11_behind 87 = .ok (.getfield 50, 3) := by decide +kernel
theorem dX11_behind_90 : decode cX11_behind 90 = .ok (.getfield 191, 3) := by decide +kernel
theorem dX11_behind_93 : decode cX11_behind 93 = .ok (.ireturn, 1) := by decide +kernel
theorem dX11_behind_94 : decode cX11_behind 94 = .ok (.aload_n 0, 1) := by decide +kernel
theorem dX11_behind_95 : decode cX11_behind 95 = .ok (.getfield 50, 3) := by decide +kernel
theorem dX11_behind_98 : decode cX11_behind 98 = .ok (.getfield 191, 3) := by decide +kernel
theorem dX11_behind_101 : decode cX11_behind 101 = .ok (.iload_n 2, 1) := by decide +kernel
theorem dX11_behind_102 : decode cX11_behind 102 = .ok (.invokestatic 95, 3) := by decide +kernel
theorem dX11_behind_105 : decode cX11_behind 105 = .ok (.ifCond .eq 15, 3) := by decide +kernel
theorem dX11_behind_108 : decode cX11_behind 108 = .ok (.aload_n 0, 1) := by decide +kernel
theorem dX11_behind_109 : decode cX11_behind 109 = .ok (.getfield 50, 3) := by decide +kernel
theorem dX11_behind_112 : decode cX11_behind 112 = .ok (.getfield 197, 3) := by decide +kernel
theorem dX11_behind_115 : decode cX11_behind 115 = .ok (.iload_n 2, 1) := by decide +kernel
theorem dX11_behind_116 : decode cX11_behind 116 = .ok (.iaload, 1) := by decide +kernel
theorem dX11_behind_117 : decode cX11_behind 117 = .ok (.goto 5, 3) := by decide +kernel
theorem dX11_behind_120 : decode cX11_behind 120 = .ok (.bipush (-5), 2) := by decide +kernel
theorem dX11_behind_122 : decode cX11_behind 122 = .ok (.ireturn, 1) := by decide +kernel
theorem dX11_write_0 : decode cX11_write 0 = .ok (.iload_n 1, 1) := by decide +kernel
theorem dX11_write_1 : decode cX11_write 1 = .ok (.invokestatic 166, 3) := by decide +kernel
theorem dX11_write_4 : decode cX11_write 4 = .ok (.ifCond .ne 5, 3) := by decide +kernel
theorem dX11_write_7 : decode cX11_write 7 = .ok (.iconst (-1), 1) := by decide +kernel
theorem dX11_write_8 : decode cX11_write 8 = .ok (.ireturn, 1) := by decide +kernel
theorem dX11_write_9 : decode cX11_write 9 = .ok (.aload_n 0, 1) := by decide +kernel
theorem dX11_write_10 : decode cX11_write 10 = .ok (.getfield 44, 3) := by decide +kernel
theorem dX11_write_13 : decode cX11_write 13 = .ok (.invokevirtual 184, 3) := by decide +kernel
theorem dX11_write_16 : decode cX11_write 16 = .ok (.aload_n 0, 1) := by decide +kernel
theorem dX11_write_17 : decode cX11_write 17 = .ok (.getfield 44, 3) := by decide +kernel
theorem dX11_write_20 : decode cX11_write 20 = .ok (.aload_n 0, 1) := by decide +kernel
theorem dX11_write_21 : decode cX11_write 21 = .ok (.getfield 12, 3) := by decide +kernel
theorem dX11_write_24 : decode cX11_write 24 = .ok (.getfield 176, 3) := by decide +kernel
theorem dX11_write_27 : decode cX11_write 27 = .ok (.iload_n 1, 1) := by decide +kernel
theorem dX11_write_28 : decode cX11_write 28 = .ok (.aaload, 1) := by decide +kernel
theorem dX11_write_29 : decode cX11_write 29 = .ok (.invokevirtual 238, 3) := by decide +kernel
theorem dX11_write_32 : decode cX11_write 32 = .ok (.aload_n 0, 1) := by decide +kernel
theorem dX11_write_33 : decode cX11_write 33 = .ok (.getfield 44, 3) := by decide +kernel
theorem dX11_write_36 : decode cX11_write 36 = .ok (.getfield 163, 3) := by decide +kernel
theorem dX11_write_39 : decode cX11_write 39 = .ok (.ireturn, 1) := by decide +kernel
theorem dX11_paper_0 : decode cX11_paper 0 = .ok (.iload_n 1, 1) := by decide +kernel
theorem dX11_paper_1 : decode cX11_paper 1 = .ok (.aload_n 0, 1) := by decide +kernel
theorem dX11_paper_2 : decode cX11_paper 2 = .ok (.getfield 44, 3) := by decide +kernel
theorem dX11_paper_5 : decode cX11_paper 5 = .ok (.getfield 163, 3) := by decide +kernel
theorem dX11_paper_8 : decode cX11_paper 8 = .ok (.iconst 1, 1) := by decide +kernel
theorem dX11_paper_9 : decode cX11_paper 9 = .ok (.isub, 1) := by decide +kernel
theorem dX11_paper_10 : decode cX11_paper 10 = .ok (.invokestatic 66, 3) := by decide +kernel
theorem dX11_paper_13 : decode cX11_paper 13 = .ok (.ifCond .eq 15, 3) := by decide +kernel
theorem dX11_paper_16 : decode cX11_paper 16 = .ok (.aload_n 0, 1) := by decide +kernel
theorem dX11_paper_17 : decode cX11_paper 17 = .ok (.getfield 44, 3) := by decide +kernel
theorem dX11_paper_20 : decode cX11_paper 20 = .ok (.getfield 241, 3) := by decide +kernel
theorem dX11_paper_23 : decode cX11_paper 23 = .ok (.iload_n 1, 1) := by decide +kernel
theorem dX11_paper_24 : decode cX11_paper 24 = .ok (.baload, 1) := by decide +kernel
theorem dX11_paper_25 : decode cX11_paper 25 = .ok (.goto 4, 3) := by decide +kernel
theorem dX11_paper_28 : decode cX11_paper 28 = .ok (.iconst (-1), 1) := by decide +kernel
theorem dX11_paper_29 : decode cX11_paper 29 = .ok (.ireturn, 1) := by decide +kernel
theorem dX11_judge_0 : decode cX11_judge 0 = .ok (.iload_n 1, 1) := by decide +kernel
theorem dX11_judge_1 : decode cX11_judge 1 = .ok (.iconst 3, 1) := by decide +kernel
theorem dX11_judge_2 : decode cX11_judge 2 = .ok (.invokestatic 66, 3) := by decide +kernel
theorem dX11_judge_5 : decode cX11_judge 5 = .ok (.ifCond .eq 10, 3) := by decide +kernel
theorem dX11_judge_8 : decode cX11_judge 8 = .ok (.iload_n 2, 1) := by decide +kernel
theorem dX11_judge_9 : decode cX11_judge 9 = .ok (.invokestatic 166, 3) := by decide +kernel
theorem dX11_judge_12 : decode cX11_judge 12 = .ok (.ifCond .ne 5, 3) := by decide +kernel
theorem dX11_judge_15 : decode cX11_judge 15 = .ok (.iconst (-1), 1) := by decide +kernel
theorem dX11_judge_16 : decode cX11_judge 16 = .ok (.ireturn, 1) := by decide +kernel
theorem dX11_judge_17 : decode cX11_judge 17 = .ok (.aload_n 0, 1) := by decide +kernel
theorem dX11_judge_18 : decode cX11_judge 18 = .ok (.getfield 62, 3) := by decide +kernel
theorem dX11_judge_21 : decode cX11_judge 21 = .ok (.iload_n 1, 1) := by decide +kernel
theorem dX11_judge_22 : decode cX11_judge 22 = .ok (.iaload, 1) := by decide +kernel
theorem dX11_judge_23 : decode cX11_judge 23 = .ok (.ifCond .ge 6, 3) := by decide +kernel
theorem dX11_judge_26 : decode cX11_judge 26 = .ok (.bipush (-11), 2) := by decide +kernel
theorem dX11_judge_28 : decode cX11_judge 28 = .ok (.ireturn, 1) := by decide +kernel
theorem dX11_judge_29 : decode cX11_judge 29 = .ok (.aload_n 0, 1) := by decide +kernel
theorem dX11_judge_30 : decode cX11_judge 30 = .ok (.getfield 12, 3) := by decide +kernel
theorem dX11_judge_33 : decode cX11_judge 33 = .ok (.getfield 176, 3) := by decide +kernel
theorem dX11_judge_36 : decode cX11_judge 36 = .ok (.iload_n 2, 1) := by decide +kernel
theorem dX11_judge_37 : decode cX11_judge 37 = .ok (.aaload, 1) := by decide +kernel
theorem dX11_judge_38 : decode cX11_judge 38 = .ok (.getfield 197, 3) := by decide +kernel
theorem dX11_judge_41 : decode cX11_judge 41 = .ok (.astore_n 3, 1) := by decide +kernel
theorem dX11_judge_42 : decode cX11_judge 42 = .ok (.iconst 0, 1) := by decide +kernel
theorem dX11_judge_43 : decode cX11_judge 43 = .ok (.istore 4, 2) := by decide +kernel
theorem dX11_judge_45 : decode cX11_judge 45 = .ok (.iload 4, 2) := by decide +kernel
theorem dX11_judge_47 : decode cX11_judge 47 = .ok (.aload_n 0, 1) := by decide +kernel
theorem dX11_judge_48 : decode cX11_judge 48 = .ok (.getfield 62, 3) := by decide +kernel
theorem dX11_judge_51 : decode cX11_judge 51 = .ok (.iload_n 1, 1) := by decide +kernel
theorem dX11_judge_52 : decode cX11_judge 52 = .ok (.iaload, 1) := by decide +kernel
theorem dX11_judge_53 : decode cX11_judge 53 = .ok (.if_icmp .ge 41, 3) := by decide +kernel
theorem dX11_judge_56 : decode cX11_judge 56 = .ok (.aload_n 0, 1) := by decide +kernel
theorem dX11_judge_57 : decode cX11_judge 57 = .ok (.getfield 59, 3) := by decide +kernel
theorem dX11_judge_60 : decode cX11_judge 60 = .ok (.iload_n 1, 1) := by decide +kernel
theorem dX11_judge_61 : decode cX11_judge 61 = .ok (.aaload, 1) := by decide +kernel
theorem dX11_judge_62 : decode cX11_judge 62 = .ok (.iload 4, 2) := by decide +kernel
theorem dX11_judge_64 : decode cX11_judge 64 = .ok (.laload, 1) := by decide +kernel
theorem dX11_judge_65 : decode cX11_judge 65 = .ok (.iload 4, 2) := by decide +kernel
theorem dX11_judge_67 : decode cX11_judge 67 = .ok (.aload_n 3, 1) := by decide +kernel
theorem dX11_judge_68 : decode cX11_judge 68 = .ok (.arraylength, 1) := by decide +kernel
theorem dX11_judge_69 : decode cX11_judge 69 = .ok (.if_icmp .ge 10, 3) := by decide +kernel
theorem dX11_judge_72 : decode cX11_judge 72 = .ok (.aload_n 3, 1) := by decide +kernel
theorem dX11_judge_73 : decode cX11_judge 73 = .ok (.iload 4, 2) := by decide +kernel
theorem dX11_judge_75 : decode cX11_judge 75 = .ok (.iaload, 1) := by decide +kernel
theorem dX11_judge_76 : decode cX11_judge 76 = .ok (.goto 4, 3) := by decide +kernel
theorem dX11_judge_79 : decode cX11_judge 79 = .ok (.iconst 0, 1) := by decide +kernel
theorem dX11_judge_80 : decode cX11_judge 80 = .ok (.i2l, 1) := by decide +kernel
theorem dX11_judge_81 : decode cX11_judge 81 = .ok (.lcmp, 1) := by decide +kernel
theorem dX11_judge_82 : decode cX11_judge 82 = .ok (.ifCond .eq 6, 3) := by decide +kernel
theorem dX11_judge_85 : decode cX11_judge 85 = .ok (.iload 4, 2) := by decide +kernel
theorem dX11_judge_87 : decode cX11_judge 87 = .ok (.ireturn, 1) := by decide +kernel
theorem dX11_judge_88 : decode cX11_judge 88 = .ok (.iinc 4 1, 3) := by decide +kernel
theorem dX11_judge_91 : decode cX11_judge 91 = .ok (.goto (-46), 3) := by decide +kernel
theorem dX11_judge_94 : decode cX11_judge 94 = .ok (.bipush (-5), 2) := by decide +kernel
theorem dX11_judge_96 : decode cX11_judge 96 = .ok (.ireturn, 1) := by decide +kernel
theorem dX11_list_0 : decode cX11_list 0 = .ok (.iload_n 1, 1) := by decide +kernel
theorem dX11_list_1 : decode cX11_list 1 = .ok (.iconst 3, 1) := by decide +kernel
theorem dX11_list_2 : decode cX11_list 2 = .ok (.invokestatic 66, 3) := by decide +kernel
theorem dX11_list_5 : decode cX11_list 5 = .ok (.ifCond .ne 5, 3) := by decide +kernel
theorem dX11_list_8 : decode cX11_list 8 = .ok (.iconst (-1), 1) := by decide +kernel
theorem dX11_list_9 : decode cX11_list 9 = .ok (.ireturn, 1) := by decide +kernel
theorem dX11_list_10 : decode cX11_list 10 = .ok (.iload_n 2, 1) := by decide +kernel
theorem dX11_list_11 : decode cX11_list 11 = .ok (.bipush 12, 2) := by decide +kernel
theorem dX11_list_13 : decode cX11_list 13 = .ok (.if_icmp .le 6, 3) := by decide +kernel
theorem dX11_list_16 : decode cX11_list 16 = .ok (.bipush (-2), 2) := by decide +kernel
theorem dX11_list_18 : decode cX11_list 18 = .ok (.ireturn, 1) := by decide +kernel
theorem dX11_list_19 : decode cX11_list 19 = .ok (.iload_n 2, 1) := by decide +kernel
theorem dX11_list_20 : decode cX11_list 20 = .ok (.ifCond .ge 6, 3) := by decide +kernel
theorem dX11_list_23 : decode cX11_list 23 = .ok (.bipush (-14), 2) := by decide +kernel
theorem dX11_list_25 : decode cX11_list 25 = .ok (.ireturn, 1) := by decide +kernel
theorem dX11_list_26 : decode cX11_list 26 = .ok (.iconst 0, 1) := by decide +kernel
theorem dX11_list_27 : decode cX11_list 27 = .ok (.istore_n 3, 1) := by decide +kernel
theorem dX11_list_28 : decode cX11_list 28 = .ok (.iload_n 3, 1) := by decide +kernel
theorem dX11_list_29 : decode cX11_list 29 = .ok (.iload_n 2, 1) := by decide +kernel
theorem dX11_list_30 : decode cX11_list 30 = .ok (.if_icmp .ge 18, 3) := by decide +kernel
theorem dX11_list_33 : decode cX11_list 33 = .ok (.aload_n 0, 1) := by decide +kernel
theorem dX11_list_34 : decode cX11_list 34 = .ok (.getfield 59, 3) := by decide +kernel
theorem dX11_list_37 : decode cX11_list 37 = .ok (.iload_n 1, 1) := by decide +kernel
theorem dX11_list_38 : decode cX11_list 38 = .ok (.aaload, 1) := by decide +kernel
theorem dX11_list_39 : decode cX11_list 39 = .ok (.iload_n 3, 1) := by decide +kernel
theorem dX11_list_40 : decode cX11_list 40 = .ok (.lconst 0, 1) := by decide +kernel
theorem dX11_list_41 : decode cX11_list 41 = .ok (.lastore, 1) := by decide +kernel
theorem dX11_list_42 : decode cX11_list 42 = .ok (.iinc 3 1, 3) := by decide +kernel
theorem dX11_list_45 : decode cX11_list 45 = .ok (.goto (-17), 3) := by decide +kernel
theorem dX11_list_48 : decode cX11_list 48 = .ok (.aload_n 0, 1) := by decide +kernel
theorem dX11_list_49 : decode cX11_list 49 = .ok (.getfield 62, 3) := by decide +kernel
theorem dX11_list_52 : decode cX11_list 52 = .ok (.iload_n 1, 1) := by decide +kernel
theorem dX11_list_53 : decode cX11_list 53 = .ok (.iload_n 2, 1) := by decide +kernel
theorem dX11_list_54 : decode cX11_list 54 = .ok (.iastore, 1) := by decide +kernel
theorem dX11_list_55 : decode cX11_list 55 = .ok (.iconst 1, 1) := by decide +kernel
theorem dX11_list_56 : decode cX11_list 56 = .ok (.ireturn, 1) := by decide +kernel
theorem dX11_lay_0 : decode cX11_lay 0 = .ok (.iload_n 1, 1) := by decide +kernel
theorem dX11_lay_1 : decode cX11_lay 1 = .ok (.iconst 3, 1) := by decide +kernel
theorem dX11_lay_2 : decode cX11_lay 2 = .ok (.invokestatic 66, 3) := by decide +kernel
theorem dX11_lay_5 : decode cX11_lay 5 = .ok (.ifCond .ne 5, 3) := by decide +kernel
theorem dX11_lay_8 : decode cX11_lay 8 = .ok (.iconst (-1), 1) := by decide +kernel
theorem dX11_lay_9 : decode cX11_lay 9 = .ok (.ireturn, 1) := by decide +kernel
theorem dX11_lay_10 : decode cX11_lay 10 = .ok (.aload_n 0, 1) := by decide +kernel
theorem dX11_lay_11 : decode cX11_lay 11 = .ok (.getfield 62, 3) := by decide +kernel
theorem dX11_lay_14 : decode cX11_lay 14 = .ok (.iload_n 1, 1) := by decide +kernel
theorem dX11_lay_15 : decode cX11_lay 15 = .ok (.iaload, 1) := by decide +kernel
theorem dX11_lay_16 : decode cX11_lay 16 = .ok (.ifCond .ge 6, 3) := by decide +kernel
theorem dX11_lay_19 : decode cX11_lay 19 = .ok (.bipush (-11), 2) := by decide +kernel
theorem dX11_lay_21 : decode cX11_lay 21 = .ok (.ireturn, 1) := by decide +kernel
theorem dX11_lay_22 : decode cX11_lay 22 = .ok (.iload_n 2, 1) := by decide +kernel
theorem dX11_lay_23 : decode cX11_lay 23 = .ok (.aload_n 0, 1) := by decide +kernel
theorem dX11_lay_24 : decode cX11_lay 24 = .ok (.getfield 62, 3) := by decide +kernel
theorem dX11_lay_27 : decode cX11_lay 27 = .ok (.iload_n 1, 1) := by decide +kernel
theorem dX11_lay_28 : decode cX11_lay 28 = .ok (.iaload, 1) := by decide +kernel
theorem dX11_lay_29 : decode cX11_lay 29 = .ok (.iconst 1, 1) := by decide +kernel
theorem dX11_lay_30 : decode cX11_lay 30 = .ok (.isub, 1) := by decide +kernel
theorem dX11_lay_31 : decode cX11_lay 31 = .ok (.invokestatic 66, 3) := by decide +kernel
theorem dX11_lay_34 : decode cX11_lay 34 = .ok (.ifCond .ne 6, 3) := by decide +kernel
theorem dX11_lay_37 : decode cX11_lay 37 = .ok (.bipush (-13), 2) := by decide +kernel
theorem dX11_lay_39 : decode cX11_lay 39 = .ok (.ireturn, 1) := by decide +kernel
theorem dX11_lay_40 : decode cX11_lay 40 = .ok (.aload_n 0, 1) := by decide +kernel
theorem dX11_lay_41 : decode cX11_lay 41 = .ok (.getfield 59, 3) := by decide +kernel
theorem dX11_lay_44 : decode cX11_lay 44 = .ok (.iload_n 1, 1) := by decide +kernel
theorem dX11_lay_45 : decode cX11_lay 45 = .ok (.aaload, 1) := by decide +kernel
theorem dX11_lay_46 : decode cX11_lay 46 = .ok (.iload_n 2, 1) := by decide +kernel
theorem dX11_lay_47 : decode cX11_lay 47 = .ok (.lload_n 3, 1) := by decide +kernel
theorem dX11_lay_48 : decode cX11_lay 48 = .ok (.lastore, 1) := by decide +kernel
theorem dX11_lay_49 : decode cX11_lay 49 = .ok (.iconst 1, 1) := by decide +kernel
theorem dX11_lay_50 : decode cX11_lay 50 = .ok (.ireturn, 1) := by decide +kernel
theorem dX11_get_0 : decode cX11_get 0 = .ok (.iload_n 1, 1) := by decide +kernel
theorem dX11_get_1 : decode cX11_get 1 = .ok (.iconst 3, 1) := by decide +kernel
theorem dX11_get_2 : decode cX11_get 2 = .ok (.invokestatic 66, 3) := by decide +kernel
theorem dX11_get_5 : decode cX11_get 5 = .ok (.ifCond .eq 18, 3) := by decide +kernel
theorem dX11_get_8 : decode cX11_get 8 = .ok (.iload_n 2, 1) := by decide +kernel
theorem dX11_get_9 : decode cX11_get 9 = .ok (.aload_n 0, 1) := by decide +kernel
theorem dX11_get_10 : decode cX11_get 10 = .ok (.getfield 62, 3) := by decide +kernel
theorem dX11_get_13 : decode cX11_get 13 = .ok (.iload_n 1, 1) := by decide +kernel
theorem dX11_get_14 : decode cX11_get 14 = .ok (.iaload, 1) := by decide +kernel
theorem dX11_get_15 : decode cX11_get 15 = .ok (.iconst 1, 1) := by decide +kernel
theorem dX11_get_16 : decode cX11_get 16 = .ok (.isub, 1) := by decide +kernel
theorem dX11_get_17 : decode cX11_get 17 = .ok (.invokestatic 66, 3) := by decide +kernel
theorem dX11_get_20 : decode cX11_get 20 = .ok (.ifCond .ne 7, 3) := by decide +kernel
theorem dX11_get_23 : decode cX11_get 23 = .ok (.ldc2_w 215, 3) := by decide +kernel
theorem dX11_get_26 : decode cX11_get 26 = .ok (.lreturn, 1) := by decide +kernel
theorem dX11_get_27 : decode cX11_get 27 = .ok (.aload_n 0, 1) := by decide +kernel
theorem dX11_get_28 : decode cX11_get 28 = .ok (.getfield 59, 3) := by decide +kernel
theorem dX11_get_31 : decode cX11_get 31 = .ok (.iload_n 1, 1) := by decide +kernel
theorem dX11_get_32 : decode cX11_get 32 = .ok (.aaload, 1) := by decide +kernel
theorem dX11_get_33 : decode cX11_get 33 = .ok (.iload_n 2, 1) := by decide +kernel
theorem dX11_get_34 : decode cX11_get 34 = .ok (.laload, 1) := by decide +kernel
theorem dX11_get_35 : decode cX11_get 35 = .ok (.lreturn, 1) := by decide +kernel
theorem dX11_image_0 : decode cX11_image 0 = .ok (.aload_n 0, 1) := by decide +kernel
theorem dX11_image_1 : decode cX11_image 1 = .ok (.getfield 18, 3) := by decide +kernel
theorem dX11_image_4 : decode cX11_image 4 = .ok (.aload_n 0, 1) := by decide +kernel
theorem dX11_image_5 : decode cX11_image 5 = .ok (.getfield 12, 3) := by decide +kernel
theorem dX11_image_8 : decode cX11_image 8 = .ok (.invokevirtual 245, 3) := by decide +kernel
theorem dX11_image_11 : decode cX11_image 11 = .ok (.aload_n 0, 1) := by decide +kernel
theorem dX11_image_12 : decode cX11_image 12 = .ok (.iconst 1, 1) := by decide +kernel
theorem dX11_image_13 : decode cX11_image 13 = .ok (.putfield 248, 3) := by decide +kernel
theorem dX11_image_16 : decode cX11_image 16 = .ok (.aload_n 0, 1) := by decide +kernel
theorem dX11_image_17 : decode cX11_image 17 = .ok (.getfield 12, 3) := by decide +kernel
theorem dX11_image_20 : decode cX11_image 20 = .ok (.getfield 70, 3) := by decide +kernel
theorem dX11_image_23 : decode cX11_image 23 = .ok (.iconst 0, 1) := by decide +kernel
theorem dX11_image_24 : decode cX11_image 24 = .ok (.iaload, 1) := by decide +kernel
theorem dX11_image_25 : decode cX11_image 25 = .ok (.ireturn, 1) := by decide +kernel
theorem dX11_undo_0 : decode cX11_undo 0 = .ok (.aload_n 0, 1) := by decide +kernel
theorem dX11_undo_1 : decode cX11_undo 1 = .ok (.getfield 248, 3) := by decide +kernel
theorem dX11_undo_4 : decode cX11_undo 4 = .ok (.ifCond .ne 6, 3) := by decide +kernel
theorem dX11_undo_7 : decode cX11_undo 7 = .ok (.bipush (-3), 2) := by decide +kernel
theorem dX11_undo_9 : decode cX11_undo 9 = .ok (.ireturn, 1) := by decide +kernel
theorem dX11_undo_10 : decode cX11_undo 10 = .ok (.aload_n 0, 1) := by decide +kernel
theorem dX11_undo_11 : decode cX11_undo 11 = .ok (.getfield 12, 3) := by decide +kernel
theorem dX11_undo_14 : decode cX11_undo 14 = .ok (.aload_n 0, 1) := by decide +kernel
theorem dX11_undo_15 : decode cX11_undo 15 = .ok (.getfield 18, 3) := by decide +kernel
theorem dX11_undo_18 : decode cX11_undo 18 = .ok (.invokevirtual 245, 3) := by decide +kernel
theorem dX11_undo_21 : decode cX11_undo 21 = .ok (.aload_n 0, 1) := by decide +kernel
theorem dX11_undo_22 : decode cX11_undo 22 = .ok (.getfield 12, 3) := by decide +kernel
theorem dX11_undo_25 : decode cX11_undo 25 = .ok (.getfield 70, 3) := by decide +kernel
theorem dX11_undo_28 : decode cX11_undo 28 = .ok (.iconst 0, 1) := by decide +kernel
theorem dX11_undo_29 : decode cX11_undo 29 = .ok (.iaload, 1) := by decide +kernel
theorem dX11_undo_30 : decode cX11_undo 30 = .ok (.ireturn, 1) := by decide +kernel
theorem dX11_count_0 : decode cX11_count 0 = .ok (.iload_n 1, 1) := by decide +kernel
theorem dX11_count_1 : decode cX11_count 1 = .ok (.tableswitch 63 0 3 #[31, 39, 47, 55], 31) := by decide +kernel
theorem dX11_count_32 : decode cX11_count 32 = .ok (.aload_n 0, 1) := by decide +kernel
theorem dX11_count_33 : decode cX11_count 33 = .ok (.getfield 12, 3) := by decide +kernel
theorem dX11_count_36 : decode cX11_count 36 = .ok (.invokevirtual 252, 3) := by decide +kernel
theorem dX11_count_39 : decode cX11_count 39 = .ok (.ireturn, 1) := by decide +kernel
theorem dX11_count_40 : decode cX11_count 40 = .ok (.aload_n 0, 1) := by decide +kernel
theorem dX11_count_41 : decode cX11_count 41 = .ok (.getfield 40, 3) := by decide +kernel
theorem dX11_count_44 : decode cX11_count 44 = .ok (.getfield 163, 3) := by decide +kernel
theorem dX11_count_47 : decode cX11_count 47 = .ok (.ireturn, 1) := by decide +kernel
theorem dX11_count_48 : decode cX11_count 48 = .ok (.aload_n 0, 1) := by decide +kernel
theorem dX11_count_49 : decode cX11_count 49 = .ok (.getfield 44, 3) := by decide +kernel
theorem dX11_count_52 : decode cX11_count 52 = .ok (.getfield 163, 3) := by decide +kernel
theorem dX11_count_55 : decode cX11_count 55 = .ok (.ireturn, 1) := by decide +kernel
theorem dX11_count_56 : decode cX11_count 56 = .ok (.aload_n 0, 1) := by decide +kernel
theorem dX11_count_57 : decode cX11_count 57 = .ok (.getfield 12, 3) := by decide +kernel
theorem dX11_count_60 : decode cX11_count 60 = .ok (.getfield 223, 3) := by decide +kernel
theorem dX11_count_63 : decode cX11_count 63 = .ok (.ireturn, 1) := by decide +kernel
theorem dX11_count_64 : decode cX11_count 64 = .ok (.bipush (-2), 2) := by decide +kernel
theorem dX11_count_66 : decode cX11_count 66 = .ok (.ireturn, 1) := by decide +kernel
theorem dX11_isWithin_0 : decode cX11_isWithin 0 = .ok (.iload_n 0, 1) := by decide +kernel
theorem dX11_isWithin_1 : decode cX11_isWithin 1 = .ok (.ifCond .lt 12, 3) := by decide +kernel
theorem dX11_isWithin_4 : decode cX11_isWithin 4 = .ok (.iload_n 0, 1) := by decide +kernel
theorem dX11_isWithin_5 : decode cX11_isWithin 5 = .ok (.iload_n 1, 1) := by decide +kernel
theorem dX11_isWithin_6 : decode cX11_isWithin 6 = .ok (.if_icmp .gt 7, 3) := by decide +kernel
theorem dX11_isWithin_9 : decode cX11_isWithin 9 = .ok (.iconst 1, 1) := by decide +kernel
theorem dX11_isWithin_10 : decode cX11_isWithin 10 = .ok (.goto 4, 3) := by decide +kernel
theorem dX11_isWithin_13 : decode cX11_isWithin 13 = .ok (.iconst 0, 1) := by decide +kernel
theorem dX11_isWithin_14 : decode cX11_isWithin 14 = .ok (.ireturn, 1) := by decide +kernel
theorem dX11_isMode_0 : decode cX11_isMode 0 = .ok (.iload_n 0, 1) := by decide +kernel
theorem dX11_isMode_1 : decode cX11_isMode 1 = .ok (.bipush (-5), 2) := by decide +kernel
theorem dX11_isMode_3 : decode cX11_isMode 3 = .ok (.if_icmp .lt 12, 3) := by decide +kernel
theorem dX11_isMode_6 : decode cX11_isMode 6 = .ok (.iload_n 0, 1) := by decide +kernel
theorem dX11_isMode_7 : decode cX11_isMode 7 = .ok (.iconst 5, 1) := by decide +kernel
theorem dX11_isMode_8 : decode cX11_isMode 8 = .ok (.if_icmp .gt 7, 3) := by decide +kernel
theorem dX11_isMode_11 : decode cX11_isMode 11 = .ok (.iconst 1, 1) := by decide +kernel
theorem dX11_isMode_12 : decode cX11_isMode 12 = .ok (.goto 4, 3) := by decide +kernel
theorem dX11_isMode_15 : decode cX11_isMode 15 = .ok (.iconst 0, 1) := by decide +kernel
theorem dX11_isMode_16 : decode cX11_isMode 16 = .ok (.ireturn, 1) := by decide +kernel
theorem dX11_isLevel_0 : decode cX11_isLevel 0 = .ok (.iload_n 0, 1) := by decide +kernel
theorem dX11_isLevel_1 : decode cX11_isLevel 1 = .ok (.iconst 5, 1) := by decide +kernel
theorem dX11_isLevel_2 : decode cX11_isLevel 2 = .ok (.invokestatic 66, 3) := by decide +kernel
theorem dX11_isLevel_5 : decode cX11_isLevel 5 = .ok (.ireturn, 1) := by decide +kernel
theorem dX11_isBasis_0 : decode cX11_isBasis 0 = .ok (.iload_n 0, 1) := by decide +kernel
theorem dX11_isBasis_1 : decode cX11_isBasis 1 = .ok (.invokestatic 107, 3) := by decide +kernel
theorem dX11_isBasis_4 : decode cX11_isBasis 4 = .ok (.ifCond .eq 29, 3) := by decide +kernel
theorem dX11_isBasis_7 : decode cX11_isBasis 7 = .ok (.iload_n 1, 1) := by decide +kernel
theorem dX11_isBasis_8 : decode cX11_isBasis 8 = .ok (.getstatic 98, 3) := by decide +kernel
theorem dX11_isBasis_11 : decode cX11_isBasis 11 = .ok (.iload_n 0, 1) := by decide +kernel
theorem dX11_isBasis_12 : decode cX11_isBasis 12 = .ok (.iconst 1, 1) := by decide +kernel
theorem dX11_isBasis_13 : decode cX11_isBasis 13 = .ok (.iadd, 1) := by decide +kernel
theorem dX11_isBasis_14 : decode cX11_isBasis 14 = .ok (.iaload, 1) := by decide +kernel
theorem dX11_isBasis_15 : decode cX11_isBasis 15 = .ok (.getstatic 98, 3) := by decide +kernel
theorem dX11_isBasis_18 : decode cX11_isBasis 18 = .ok (.iload_n 0, 1) := by decide +kernel
theorem dX11_isBasis_19 : decode cX11_isBasis 19 = .ok (.iaload, 1) := by decide +kernel
theorem dX11_isBasis_20 : decode cX11_isBasis 20 = .ok (.isub, 1) := by decide +kernel
theorem dX11_isBasis_21 : decode cX11_isBasis 21 = .ok (.iconst 1, 1) := by decide +kernel
theorem dX11_isBasis_22 : decode cX11_isBasis 22 = .ok (.isub, 1) := by decide +kernel
theorem dX11_isBasis_23 : decode cX11_isBasis 23 = .ok (.invokestatic 66, 3) := by decide +kernel
theorem dX11_isBasis_26 : decode cX11_isBasis 26 = .ok (.ifCond .eq 7, 3) := by decide +kernel
theorem dX11_isBasis_29 : decode cX11_isBasis 29 = .ok (.iconst 1, 1) := by decide +kernel
theorem dX11_isBasis_30 : decode cX11_isBasis 30 = .ok (.goto 4, 3) := by decide +kernel
theorem dX11_isBasis_33 : decode cX11_isBasis 33 = .ok (.iconst 0, 1) := by decide +kernel
theorem dX11_isBasis_34 : decode cX11_isBasis 34 = .ok (.ireturn, 1) := by decide +kernel
theorem dX11_isVector_0 : decode cX11_isVector 0 = .ok (.iload_n 0, 1) := by decide +kernel
theorem dX11_isVector_1 : decode cX11_isVector 1 = .ok (.iconst 3, 1) := by decide +kernel
theorem dX11_isVector_2 : decode cX11_isVector 2 = .ok (.invokestatic 66, 3) := by decide +kernel
theorem dX11_isVector_5 : decode cX11_isVector 5 = .ok (.ireturn, 1) := by decide +kernel
theorem dX11_hasNumber_0 : decode cX11_hasNumber 0 = .ok (.iload_n 1, 1) := by decide +kernel
theorem dX11_hasNumber_1 : decode cX11_hasNumber 1 = .ok (.invokestatic 166, 3) := by decide +kernel
theorem dX11_hasNumber_4 : decode cX11_hasNumber 4 = .ok (.ifCond .eq 26, 3) := by decide +kernel
theorem dX11_hasNumber_7 : decode cX11_hasNumber 7 = .ok (.aload_n 0, 1) := by decide +kernel
theorem dX11_hasNumber_8 : decode cX11_hasNumber 8 = .ok (.getfield 12, 3) := by decide +kernel
theorem dX11_hasNumber_11 : decode cX11_hasNumber 11 = .ok (.getfield 176, 3) := by decide +kernel
theorem dX11_hasNumber_14 : decode cX11_hasNumber 14 = .ok (.iload_n 1, 1) := by decide +kernel
theorem dX11_hasNumber_15 : decode cX11_hasNumber 15 = .ok (.aaload, 1) := by decide +kernel
theorem dX11_hasNumber_16 : decode cX11_hasNumber 16 = .ok (.getfield 191, 3) := by decide +kernel
theorem dX11_hasNumber_19 : decode cX11_hasNumber 19 = .ok (.iload_n 2, 1) := by decide +kernel
theorem dX11_hasNumber_20 : decode cX11_hasNumber 20 = .ok (.invokestatic 95, 3) := by decide +kernel
theorem dX11_hasNumber_23 : decode cX11_hasNumber 23 = .ok (.ifCond .eq 7, 3) := by decide +kernel
theorem dX11_hasNumber_26 : decode cX11_hasNumber 26 = .ok (.iconst 1, 1) := by decide +kernel
theorem dX11_hasNumber_27 : decode cX11_hasNumber 27 = .ok (.goto 4, 3) := by decide +kernel
theorem dX11_hasNumber_30 : decode cX11_hasNumber 30 = .ok (.iconst 0, 1) := by decide +kernel
theorem dX11_hasNumber_31 : decode cX11_hasNumber 31 = .ok (.ireturn, 1) := by decide +kernel
theorem dX11_isRowNumber_0 : decode cX11_isRowNumber 0 = .ok (.iload_n 0, 1) := by decide +kernel
theorem dX11_isRowNumber_1 : decode cX11_isRowNumber 1 = .ok (.lookupswitch 39 #[(0, 27), (1, 32)], 27) := by decide +kernel
theorem dX11_isRowNumber_28 : decode cX11_isRowNumber 28 = .ok (.iload_n 1, 1) := by decide +kernel
theorem dX11_isRowNumber_29 : decode cX11_isRowNumber 29 = .ok (.invokestatic 73, 3) := by decide +kernel
theorem dX11_isRowNumber_32 : decode cX11_isRowNumber 32 = .ok (.ireturn, 1) := by decide +kernel
theorem dX11_isRowNumber_33 : decode cX11_isRowNumber 33 = .ok (.iload_n 1, 1) := by decide +kernel
theorem dX11_isRowNumber_34 : decode cX11_isRowNumber 34 = .ok (.bipush 100, 2) := by decide +kernel
theorem dX11_isRowNumber_36 : decode cX11_isRowNumber 36 = .ok (.invokestatic 66, 3) := by decide +kernel
theorem dX11_isRowNumber_39 : decode cX11_isRowNumber 39 = .ok (.ireturn, 1) := by decide +kernel
theorem dX11_isRowNumber_40 : decode cX11_isRowNumber 40 = .ok (.iload_n 1, 1) := by decide +kernel
theorem dX11_isRowNumber_41 : decode cX11_isRowNumber 41 = .ok (.invokestatic 166, 3) := by decide +kernel
theorem dX11_isRowNumber_44 : decode cX11_isRowNumber 44 = .ok (.ireturn, 1) := by decide +kernel
theorem dX11_part_0 : decode cX11_part 0 = .ok (.iload_n 0, 1) := by decide +kernel
theorem dX11_part_1 : decode cX11_part 1 = .ok (.istore_n 2, 1) := by decide +kernel
theorem dX11_part_2 : decode cX11_part 2 = .ok (.iconst 0, 1) := by decide +kernel
theorem dX11_part_3 : decode cX11_part 3 = .ok (.istore_n 3, 1) := by decide +kernel
theorem dX11_part_4 : decode cX11_part 4 = .ok (.iload_n 3, 1) := by decide +kernel
theorem dX11_part_5 : decode cX11_part 5 = .ok (.iload_n 1, 1) := by decide +kernel
theorem dX11_part_6 : decode cX11_part 6 = .ok (.if_icmp .ge 15, 3) := by decide +kernel
theorem dX11_part_9 : decode cX11_part 9 = .ok (.getstatic 255, 3) := by decide +kernel
theorem dX11_part_12 : decode cX11_part 12 = .ok (.iload_n 2, 1) := by decide +kernel
theorem dX11_part_13 : decode cX11_part 13 = .ok (.iaload, 1) := by decide +kernel
theorem dX11_part_14 : decode cX11_part 14 = .ok (.istore_n 2, 1) := by decide +kernel
theorem dX11_part_15 : decode cX11_part 15 = .ok (.iinc 3 1, 3) := by decide +kernel
theorem dX11_part_18 : decode cX11_part 18 = .ok (.goto (-14), 3) := by decide +kernel
theorem dX11_part_21 : decode cX11_part 21 = .ok (.getstatic 258, 3) := by decide +kernel
theorem dX11_part_24 : decode cX11_part 24 = .ok (.iload_n 2, 1) := by decide +kernel
theorem dX11_part_25 : decode cX11_part 25 = .ok (.iaload, 1) := by decide +kernel
theorem dX11_part_26 : decode cX11_part 26 = .ok (.ireturn, 1) := by decide +kernel
theorem dX11_modulo_0 : decode cX11_modulo 0 = .ok (.iload_n 0, 1) := by decide +kernel
theorem dX11_modulo_1 : decode cX11_modulo 1 = .ok (.bipush 101, 2) := by decide +kernel
theorem dX11_modulo_3 : decode cX11_modulo 3 = .ok (.invokestatic 261, 3) := by decide +kernel
theorem dX11_modulo_6 : decode cX11_modulo 6 = .ok (.ireturn, 1) := by decide +kernel
theorem dX11_inverse_0 : decode cX11_inverse 0 = .ok (.iconst 1, 1) := by decide +kernel
theorem dX11_inverse_1 : decode cX11_inverse 1 = .ok (.istore_n 1, 1) := by decide +kernel
theorem dX11_inverse_2 : decode cX11_inverse 2 = .ok (.iload_n 1, 1) := by decide +kernel
theorem dX11_inverse_3 : decode cX11_inverse 3 = .ok (.bipush 101, 2) := by decide +kernel
theorem dX11_inverse_5 : decode cX11_inverse 5 = .ok (.if_icmp .ge 21, 3) := by decide +kernel
theorem dX11_inverse_8 : decode cX11_inverse 8 = .ok (.iload_n 0, 1) := by decide +kernel
theorem dX11_inverse_9 : decode cX11_inverse 9 = .ok (.iload_n 1, 1) := by decide +kernel
theorem dX11_inverse_10 : decode cX11_inverse 10 = .ok (.imul, 1) := by decide +kernel
theorem dX11_inverse_11 : decode cX11_inverse 11 = .ok (.bipush 101, 2) := by decide +kernel
theorem dX11_inverse_13 : decode cX11_inverse 13 = .ok (.irem, 1) := by decide +kernel
theorem dX11_inverse_14 : decode cX11_inverse 14 = .ok (.iconst 1, 1) := by decide +kernel
theorem dX11_inverse_15 : decode cX11_inverse 15 = .ok (.if_icmp .ne 5, 3) := by decide +kernel
theorem dX11_inverse_18 : decode cX11_inverse 18 = .ok (.iload_n 1, 1) := by decide +kernel
theorem dX11_inverse_19 : decode cX11_inverse 19 = .ok (.ireturn, 1) := by decide +kernel
theorem dX11_inverse_20 : decode cX11_inverse 20 = .ok (.iinc 1 1, 3) := by decide +kernel
theorem dX11_inverse_23 : decode cX11_inverse 23 = .ok (.goto (-21), 3) := by decide +kernel
theorem dX11_inverse_26 : decode cX11_inverse 26 = .ok (.iconst 0, 1) := by decide +kernel
theorem dX11_inverse_27 : decode cX11_inverse 27 = .ok (.ireturn, 1) := by decide +kernel
theorem dX11_commonDivisor_0 : decode cX11_commonDivisor 0 = .ok (.iload_n 1, 1) := by decide +kernel
theorem dX11_commonDivisor_1 : decode cX11_commonDivisor 1 = .ok (.istore_n 2, 1) := by decide +kernel
theorem dX11_commonDivisor_2 : decode cX11_commonDivisor 2 = .ok (.iload_n 2, 1) := by decide +kernel
theorem dX11_commonDivisor_3 : decode cX11_commonDivisor 3 = .ok (.iconst 1, 1) := by decide +kernel
theorem dX11_commonDivisor_4 : decode cX11_commonDivisor 4 = .ok (.if_icmp .le 23, 3) := by decide +kernel
theorem dX11_commonDivisor_7 : decode cX11_commonDivisor 7 = .ok (.iload_n 0, 1) := by decide +kernel
theorem dX11_commonDivisor_8 : decode cX11_commonDivisor 8 = .ok (.iload_n 2, 1) := by decide +kernel
theorem dX11_commonDivisor_9 : decode cX11_commonDivisor 9 = .ok (.irem, 1) := by decide +kernel
theorem dX11_commonDivisor_10 : decode cX11_commonDivisor 10 = .ok (.ifCond .ne 11, 3) := by decide +kernel
theorem dX11_commonDivisor_13 : decode cX11_commonDivisor 13 = .ok (.iload_n 1, 1) := by decide +kernel
theorem dX11_commonDivisor_14 : decode cX11_commonDivisor 14 = .ok (.iload_n 2, 1) := by decide +kernel
theorem dX11_commonDivisor_15 : decode cX11_commonDivisor 15 = .ok (.irem, 1) := by decide +kernel
theorem dX11_commonDivisor_16 : decode cX11_commonDivisor 16 = .ok (.ifCond .ne 5, 3) := by decide +kernel
theorem dX11_commonDivisor_19 : decode cX11_commonDivisor 19 = .ok (.iload_n 2, 1) := by decide +kernel
theorem dX11_commonDivisor_20 : decode cX11_commonDivisor 20 = .ok (.ireturn, 1) := by decide +kernel
theorem dX11_commonDivisor_21 : decode cX11_commonDivisor 21 = .ok (.iinc 2 (-1), 3) := by decide +kernel
theorem dX11_commonDivisor_24 : decode cX11_commonDivisor 24 = .ok (.goto (-22), 3) := by decide +kernel
theorem dX11_commonDivisor_27 : decode cX11_commonDivisor 27 = .ok (.iconst 1, 1) := by decide +kernel
theorem dX11_commonDivisor_28 : decode cX11_commonDivisor 28 = .ok (.ireturn, 1) := by decide +kernel
theorem dX11_sumOfTerms_0 : decode cX11_sumOfTerms 0 = .ok (.bipush (-3), 2) := by decide +kernel
theorem dX11_sumOfTerms_2 : decode cX11_sumOfTerms 2 = .ok (.istore_n 1, 1) := by decide +kernel
theorem dX11_sumOfTerms_3 : decode cX11_sumOfTerms 3 = .ok (.aload_n 0, 1) := by decide +kernel
theorem dX11_sumOfTerms_4 : decode cX11_sumOfTerms 4 = .ok (.getfield 40, 3) := by decide +kernel
theorem dX11_sumOfTerms_7 : decode cX11_sumOfTerms 7 = .ok (.invokevirtual 264, 3) := by decide +kernel
theorem dX11_sumOfTerms_10 : decode cX11_sumOfTerms 10 = .ok (.iconst 0, 1) := by decide +kernel
theorem dX11_sumOfTerms_11 : decode cX11_sumOfTerms 11 = .ok (.istore_n 2, 1) := by decide +kernel
theorem dX11_sumOfTerms_12 : decode cX11_sumOfTerms 12 = .ok (.iload_n 2, 1) := by decide +kernel
theorem dX11_sumOfTerms_13 : decode cX11_sumOfTerms 13 = .ok (.bipush 60, 2) := by decide +kernel
theorem dX11_sumOfTerms_15 : decode cX11_sumOfTerms 15 = .ok (.if_icmp .ge 61, 3) := by decide +kernel
theorem dX11_sumOfTerms_18 : decode cX11_sumOfTerms 18 = .ok (.aload_n 0, 1) := by decide +kernel
theorem dX11_sumOfTerms_19 : decode cX11_sumOfTerms 19 = .ok (.getfield 40, 3) := by decide +kernel
theorem dX11_sumOfTerms_22 : decode cX11_sumOfTerms 22 = .ok (.invokevirtual 267, 3) := by decide +kernel
theorem dX11_sumOfTerms_25 : decode cX11_sumOfTerms 25 = .ok (.ifCond .eq 51, 3) := by decide +kernel
theorem dX11_sumOfTerms_28 : decode cX11_sumOfTerms 28 = .ok (.aload_n 0, 1) := by decide +kernel
theorem dX11_sumOfTerms_29 : decode cX11_sumOfTerms 29 = .ok (.getfield 40, 3) := by decide +kernel
theorem dX11_sumOfTerms_32 : decode cX11_sumOfTerms 32 = .ok (.invokevirtual 270, 3) := by decide +kernel
theorem dX11_sumOfTerms_35 : decode cX11_sumOfTerms 35 = .ok (.istore_n 3, 1) := by decide +kernel
theorem dX11_sumOfTerms_36 : decode cX11_sumOfTerms 36 = .ok (.iload_n 3, 1) := by decide +kernel
theorem dX11_sumOfTerms_37 : decode cX11_sumOfTerms 37 = .ok (.ifCond .lt 12, 3) := by decide +kernel
theorem dX11_sumOfTerms_40 : decode cX11_sumOfTerms 40 = .ok (.iload_n 2, 1) := by decide +kernel
theorem dX11_sumOfTerms_41 : decode cX11_sumOfTerms 41 = .ok (.ifCond .le 11, 3) := by decide +kernel
theorem dX11_sumOfTerms_44 : decode cX11_sumOfTerms 44 = .ok (.iload_n 3, 1) := by decide +kernel
theorem dX11_sumOfTerms_45 : decode cX11_sumOfTerms 45 = .ok (.iload_n 1, 1) := by decide +kernel
theorem dX11_sumOfTerms_46 : decode cX11_sumOfTerms 46 = .ok (.if_icmp .eq 6, 3) := by decide +kernel
theorem dX11_sumOfTerms_49 : decode cX11_sumOfTerms 49 = .ok (.bipush (-3), 2) := by decide +kernel
theorem dX11_sumOfTerms_51 : decode cX11_sumOfTerms 51 = .ok (.ireturn, 1) := by decide +kernel
theorem dX11_sumOfTerms_52 : decode cX11_sumOfTerms 52 = .ok (.iload_n 2, 1) := by decide +kernel
theorem dX11_sumOfTerms_53 : decode cX11_sumOfTerms 53 = .ok (.ifCond .ne 11, 3) := by decide +kernel
theorem dX11_sumOfTerms_56 : decode cX11_sumOfTerms 56 = .ok (.aload_n 0, 1) := by decide +kernel
theorem dX11_sumOfTerms_57 : decode cX11_sumOfTerms 57 = .ok (.getfield 54, 3) := by decide +kernel
theorem dX11_sumOfTerms_60 : decode cX11_sumOfTerms 60 = .ok (.iload_n 3, 1) := by decide +kernel
theorem dX11_sumOfTerms_61 : decode cX11_sumOfTerms 61 = .ok (.invokevirtual 273, 3) := by decide +kernel
theorem dX11_sumOfTerms_64 : decode cX11_sumOfTerms 64 = .ok (.iload_n 3, 1) := by decide +kernel
theorem dX11_sumOfTerms_65 : decode cX11_sumOfTerms 65 = .ok (.istore_n 1, 1) := by decide +kernel
theorem dX11_sumOfTerms_66 : decode cX11_sumOfTerms 66 = .ok (.aload_n 0, 1) := by decide +kernel
theorem dX11_sumOfTerms_67 : decode cX11_sumOfTerms 67 = .ok (.invokevirtual 276, 3) := by decide +kernel
theorem dX11_sumOfTerms_70 : decode cX11_sumOfTerms 70 = .ok (.iinc 2 1, 3) := by decide +kernel
theorem dX11_sumOfTerms_73 : decode cX11_sumOfTerms 73 = .ok (.goto (-61), 3) := by decide +kernel
theorem dX11_sumOfTerms_76 : decode cX11_sumOfTerms 76 = .ok (.iload_n 1, 1) := by decide +kernel
theorem dX11_sumOfTerms_77 : decode cX11_sumOfTerms 77 = .ok (.ireturn, 1) := by decide +kernel
theorem dX11_addTerm_0 : decode cX11_addTerm 0 = .ok (.aload_n 0, 1) := by decide +kernel
theorem dX11_addTerm_1 : decode cX11_addTerm 1 = .ok (.getfield 50, 3) := by decide +kernel
theorem dX11_addTerm_4 : decode cX11_addTerm 4 = .ok (.iconst 0, 1) := by decide +kernel
theorem dX11_addTerm_5 : decode cX11_addTerm 5 = .ok (.iconst 0, 1) := by decide +kernel
theorem dX11_addTerm_6 : decode cX11_addTerm 6 = .ok (.invokevirtual 187, 3) := by decide +kernel
theorem dX11_addTerm_9 : decode cX11_addTerm 9 = .ok (.aload_n 0, 1) := by decide +kernel
theorem dX11_addTerm_10 : decode cX11_addTerm 10 = .ok (.getfield 40, 3) := by decide +kernel
theorem dX11_addTerm_13 : decode cX11_addTerm 13 = .ok (.getfield 279, 3) := by decide +kernel
theorem dX11_addTerm_16 : decode cX11_addTerm 16 = .ok (.iconst 1, 1) := by decide +kernel
theorem dX11_addTerm_17 : decode cX11_addTerm 17 = .ok (.isub, 1) := by decide +kernel
theorem dX11_addTerm_18 : decode cX11_addTerm 18 = .ok (.istore_n 1, 1) := by decide +kernel
theorem dX11_addTerm_19 : decode cX11_addTerm 19 = .ok (.iload_n 1, 1) := by decide +kernel
theorem dX11_addTerm_20 : decode cX11_addTerm 20 = .ok (.ifCond .lt 47, 3) := by decide +kernel
theorem dX11_addTerm_23 : decode cX11_addTerm 23 = .ok (.aload_n 0, 1) := by decide +kernel
theorem dX11_addTerm_24 : decode cX11_addTerm 24 = .ok (.getfield 40, 3) := by decide +kernel
theorem dX11_addTerm_27 : decode cX11_addTerm 27 = .ok (.getfield 282, 3) := by decide +kernel
theorem dX11_addTerm_30 : decode cX11_addTerm 30 = .ok (.iload_n 1, 1) := by decide +kernel
theorem dX11_addTerm_31 : decode cX11_addTerm 31 = .ok (.iaload, 1) := by decide +kernel
theorem dX11_addTerm_32 : decode cX11_addTerm 32 = .ok (.istore_n 2, 1) := by decide +kernel
theorem dX11_addTerm_33 : decode cX11_addTerm 33 = .ok (.aload_n 0, 1) := by decide +kernel
theorem dX11_addTerm_34 : decode cX11_addTerm 34 = .ok (.getfield 50, 3) := by decide +kernel
theorem dX11_addTerm_37 : decode cX11_addTerm 37 = .ok (.getfield 191, 3) := by decide +kernel
theorem dX11_addTerm_40 : decode cX11_addTerm 40 = .ok (.iload_n 2, 1) := by decide +kernel
theorem dX11_addTerm_41 : decode cX11_addTerm 41 = .ok (.isub, 1) := by decide +kernel
theorem dX11_addTerm_42 : decode cX11_addTerm 42 = .ok (.invokestatic 107, 3) := by decide +kernel
theorem dX11_addTerm_45 : decode cX11_addTerm 45 = .ok (.ifCond .ne 4, 3) := by decide +kernel
theorem dX11_addTerm_48 : decode cX11_addTerm 48 = .ok (.return_, 1) := by decide +kernel
theorem dX11_addTerm_49 : decode cX11_addTerm 49 = .ok (.aload_n 0, 1) := by decide +kernel
theorem dX11_addTerm_50 : decode cX11_addTerm 50 = .ok (.getfield 24, 3) := by decide +kernel
theorem dX11_addTerm_53 : decode cX11_addTerm 53 = .ok (.aload_n 0, 1) := by decide +kernel
theorem dX11_addTerm_54 : decode cX11_addTerm 54 = .ok (.getfield 50, 3) := by decide +kernel
theorem dX11_addTerm_57 : decode cX11_addTerm 57 = .ok (.iload_n 2, 1) := by decide +kernel
theorem dX11_addTerm_58 : decode cX11_addTerm 58 = .ok (.invokevirtual 200, 3) := by decide +kernel
theorem dX11_addTerm_61 : decode cX11_addTerm 61 = .ok (.iinc 1 (-1), 3) := by decide +kernel
theorem dX11_addTerm_64 : decode cX11_addTerm 64 = .ok (.goto (-45), 3) := by decide +kernel
theorem dX11_addTerm_67 : decode cX11_addTerm 67 = .ok (.aload_n 0, 1) := by decide +kernel
theorem dX11_addTerm_68 : decode cX11_addTerm 68 = .ok (.getfield 54, 3) := by decide +kernel
theorem dX11_addTerm_71 : decode cX11_addTerm 71 = .ok (.aload_n 0, 1) := by decide +kernel
theorem dX11_addTerm_72 : decode cX11_addTerm 72 = .ok (.getfield 50, 3) := by decide +kernel
theorem dX11_addTerm_75 : decode cX11_addTerm 75 = .ok (.aload_n 0, 1) := by decide +kernel
theorem dX11_addTerm_76 : decode cX11_addTerm 76 = .ok (.getfield 40, 3) := by decide +kernel
theorem dX11_addTerm_79 : decode cX11_addTerm 79 = .ok (.getfield 285, 3) := by decide +kernel
theorem dX11_addTerm_82 : decode cX11_addTerm 82 = .ok (.invokevirtual 204, 3) := by decide +kernel
theorem dX11_addTerm_85 : decode cX11_addTerm 85 = .ok (.return_, 1) := by decide +kernel
theorem dX11_endsAsZero_0 : decode cX11_endsAsZero 0 = .ok (.iload_n 2, 1) := by decide +kernel
theorem dX11_endsAsZero_1 : decode cX11_endsAsZero 1 = .ok (.istore_n 3, 1) := by decide +kernel
theorem dX11_endsAsZero_2 : decode cX11_endsAsZero 2 = .ok (.aload_n 0, 1) := by decide +kernel
theorem dX11_endsAsZero_3 : decode cX11_endsAsZero 3 = .ok (.getfield 50, 3) := by decide +kernel
theorem dX11_endsAsZero_6 : decode cX11_endsAsZero 6 = .ok (.iconst 0, 1) := by decide +kernel
theorem dX11_endsAsZero_7 : decode cX11_endsAsZero 7 = .ok (.iconst 0, 1) := by decide +kernel
theorem dX11_endsAsZero_8 : decode cX11_endsAsZero 8 = .ok (.invokevirtual 187, 3) := by decide +kernel
theorem dX11_endsAsZero_11 : decode cX11_endsAsZero 11 = .ok (.iconst 0, 1) := by decide +kernel
theorem dX11_endsAsZero_12 : decode cX11_endsAsZero 12 = .ok (.istore 4, 2) := by decide +kernel
theorem dX11_endsAsZero_14 : decode cX11_endsAsZero 14 = .ok (.iload 4, 2) := by decide +kernel
theorem dX11_endsAsZero_16 : decode cX11_endsAsZero 16 = .ok (.iload_n 1, 1) := by decide +kernel
theorem dX11_endsAsZero_17 : decode cX11_endsAsZero 17 = .ok (.if_icmp .ge 67, 3) := by decide +kernel
theorem dX11_endsAsZero_20 : decode cX11_endsAsZero 20 = .ok (.iload_n 3, 1) := by decide +kernel
theorem dX11_endsAsZero_21 : decode cX11_endsAsZero 21 = .ok (.ldc_w 288, 3) := by decide +kernel
theorem dX11_endsAsZero_24 : decode cX11_endsAsZero 24 = .ok (.imul, 1) := by decide +kernel
theorem dX11_endsAsZero_25 : decode cX11_endsAsZero 25 = .ok (.sipush 12345, 3) := by decide +kernel
theorem dX11_endsAsZero_28 : decode cX11_endsAsZero 28 = .ok (.iadd, 1) := by decide +kernel
theorem dX11_endsAsZero_29 : decode cX11_endsAsZero 29 = .ok (.istore_n 3, 1) := by decide +kernel
theorem dX11_endsAsZero_30 : decode cX11_endsAsZero 30 = .ok (.iload_n 3, 1) := by decide +kernel
theorem dX11_endsAsZero_31 : decode cX11_endsAsZero 31 = .ok (.bipush 16, 2) := by decide +kernel
theorem dX11_endsAsZero_33 : decode cX11_endsAsZero 33 = .ok (.iushr, 1) := by decide +kernel
theorem dX11_endsAsZero_34 : decode cX11_endsAsZero 34 = .ok (.iconst 5, 1) := by decide +kernel
theorem dX11_endsAsZero_35 : decode cX11_endsAsZero 35 = .ok (.irem, 1) := by decide +kernel
theorem dX11_endsAsZero_36 : decode cX11_endsAsZero 36 = .ok (.iconst 2, 1) := by decide +kernel
theorem dX11_endsAsZero_37 : decode cX11_endsAsZero 37 = .ok (.isub, 1) := by decide +kernel
theorem dX11_endsAsZero_38 : decode cX11_endsAsZero 38 = .ok (.istore 5, 2) := by decide +kernel
theorem dX11_endsAsZero_40 : decode cX11_endsAsZero 40 = .ok (.aload_n 0, 1) := by decide +kernel
theorem dX11_endsAsZero_41 : decode cX11_endsAsZero 41 = .ok (.getfield 50, 3) := by decide +kernel
theorem dX11_endsAsZero_44 : decode cX11_endsAsZero 44 = .ok (.getfield 191, 3) := by decide +kernel
theorem dX11_endsAsZero_47 : decode cX11_endsAsZero 47 = .ok (.iload 5, 2) := by decide +kernel
theorem dX11_endsAsZero_49 : decode cX11_endsAsZero 49 = .ok (.isub, 1) := by decide +kernel
theorem dX11_endsAsZero_50 : decode cX11_endsAsZero 50 = .ok (.istore 6, 2) := by decide +kernel
theorem dX11_endsAsZero_52 : decode cX11_endsAsZero 52 = .ok (.iload 6, 2) := by decide +kernel
theorem dX11_endsAsZero_54 : decode cX11_endsAsZero 54 = .ok (.ifCond .ge 5, 3) := by decide +kernel
theorem dX11_endsAsZero_57 : decode cX11_endsAsZero 57 = .ok (.iconst 1, 1) := by decide +kernel
theorem dX11_endsAsZero_58 : decode cX11_endsAsZero 58 = .ok (.ireturn, 1) := by decide +kernel
theorem dX11_endsAsZero_59 : decode cX11_endsAsZero 59 = .ok (.iload 6, 2) := by decide +kernel
theorem dX11_endsAsZero_61 : decode cX11_endsAsZero 61 = .ok (.iconst 5, 1) := by decide +kernel
theorem dX11_endsAsZero_62 : decode cX11_endsAsZero 62 = .ok (.if_icmp .gt 16, 3) := by decide +kernel
theorem dX11_endsAsZero_65 : decode cX11_endsAsZero 65 = .ok (.aload_n 0, 1) := by decide +kernel
theorem dX11_endsAsZero_66 : decode cX11_endsAsZero 66 = .ok (.getfield 24, 3) := by decide +kernel
theorem dX11_endsAsZero_69 : decode cX11_endsAsZero 69 = .ok (.aload_n 0, 1) := by decide +kernel
theorem dX11_endsAsZero_70 : decode cX11_endsAsZero 70 = .ok (.getfield 50, 3) := by decide +kernel
theorem dX11_endsAsZero_73 : decode cX11_endsAsZero 73 = .ok (.iload 5, 2) := by decide +kernel
theorem dX11_endsAsZero_75 : decode cX11_endsAsZero 75 = .ok (.invokevirtual 200, 3) := by decide +kernel
theorem dX11_endsAsZero_78 : decode cX11_endsAsZero 78 = .ok (.iinc 4 1, 3) := by decide +kernel
theorem dX11_endsAsZero_81 : decode cX11_endsAsZero 81 = .ok (.goto (-67), 3) := by decide +kernel
theorem dX11_endsAsZero_84 : decode cX11_endsAsZero 84 = .ok (.aload_n 0, 1) := by decide +kernel
theorem dX11_endsAsZero_85 : decode cX11_endsAsZero 85 = .ok (.getfield 50, 3) := by decide +kernel
theorem dX11_endsAsZero_88 : decode cX11_endsAsZero 88 = .ok (.invokevirtual 211, 3) := by decide +kernel
theorem dX11_endsAsZero_91 : decode cX11_endsAsZero 91 = .ok (.ireturn, 1) := by decide +kernel
theorem dX11_doRow_0 : decode cX11_doRow 0 = .ok (.iload_n 1, 1) := by decide +kernel
theorem dX11_doRow_1 : decode cX11_doRow 1 = .ok (.ifCond .ne 48, 3) := by decide +kernel
theorem dX11_doRow_4 : decode cX11_doRow 4 = .ok (.aload_n 0, 1) := by decide +kernel
theorem dX11_doRow_5 : decode cX11_doRow 5 = .ok (.getfield 50, 3) := by decide +kernel
theorem dX11_doRow_8 : decode cX11_doRow 8 = .ok (.getfield 191, 3) := by decide +kernel
theorem dX11_doRow_11 : decode cX11_doRow 11 = .ok (.iload_n 2, 1) := by decide +kernel
theorem dX11_doRow_12 : decode cX11_doRow 12 = .ok (.isub, 1) := by decide +kernel
theorem dX11_doRow_13 : decode cX11_doRow 13 = .ok (.istore_n 3, 1) := by decide +kernel
theorem dX11_doRow_14 : decode cX11_doRow 14 = .ok (.iload_n 3, 1) := by decide +kernel
theorem dX11_doRow_15 : decode cX11_doRow 15 = .ok (.ifCond .ge 14, 3) := by decide +kernel
theorem dX11_doRow_18 : decode cX11_doRow 18 = .ok (.aload_n 0, 1) := by decide +kernel
theorem dX11_doRow_19 : decode cX11_doRow 19 = .ok (.getfield 50, 3) := by decide +kernel
theorem dX11_doRow_22 : decode cX11_doRow 22 = .ok (.iconst 0, 1) := by decide +kernel
theorem dX11_doRow_23 : decode cX11_doRow 23 = .ok (.invokevirtual 273, 3) := by decide +kernel
theorem dX11_doRow_26 : decode cX11_doRow 26 = .ok (.goto 20, 3) := by decide +kernel
theorem dX11_doRow_29 : decode cX11_doRow 29 = .ok (.iload_n 3, 1) := by decide +kernel
theorem dX11_doRow_30 : decode cX11_doRow 30 = .ok (.iconst 5, 1) := by decide +kernel
theorem dX11_doRow_31 : decode cX11_doRow 31 = .ok (.if_icmp .gt 15, 3) := by decide +kernel
theorem dX11_doRow_34 : decode cX11_doRow 34 = .ok (.aload_n 0, 1) := by decide +kernel
theorem dX11_doRow_35 : decode cX11_doRow 35 = .ok (.getfield 24, 3) := by decide +kernel
theorem dX11_doRow_38 : decode cX11_doRow 38 = .ok (.aload_n 0, 1) := by decide +kernel
theorem dX11_doRow_39 : decode cX11_doRow 39 = .ok (.getfield 50, 3) := by decide +kernel
theorem dX11_doRow_42 : decode cX11_doRow 42 = .ok (.iload_n 2, 1) := by decide +kernel
theorem dX11_doRow_43 : decode cX11_doRow 43 = .ok (.invokevirtual 200, 3) := by decide +kernel
theorem dX11_doRow_46 : decode cX11_doRow 46 = .ok (.goto 58, 3) := by decide +kernel
theorem dX11_doRow_49 : decode cX11_doRow 49 = .ok (.iload_n 1, 1) := by decide +kernel
theorem dX11_doRow_50 : decode cX11_doRow 50 = .ok (.iconst 1, 1) := by decide +kernel
theorem dX11_doRow_51 : decode cX11_doRow 51 = .ok (.if_icmp .ne 14, 3) := by decide +kernel
theorem dX11_doRow_54 : decode cX11_doRow 54 = .ok (.aload_n 0, 1) := by decide +kernel
theorem dX11_doRow_55 : decode cX11_doRow 55 = .ok (.getfield 50, 3) := by decide +kernel
theorem dX11_doRow_58 : decode cX11_doRow 58 = .ok (.iload_n 2, 1) := by decide +kernel
theorem dX11_doRow_59 : decode cX11_doRow 59 = .ok (.invokevirtual 289, 3) := by decide +kernel
theorem dX11_doRow_62 : decode cX11_doRow 62 = .ok (.goto 42, 3) := by decide +kernel
theorem dX11_doRow_65 : decode cX11_doRow 65 = .ok (.aload_n 0, 1) := by decide +kernel
theorem dX11_doRow_66 : decode cX11_doRow 66 = .ok (.getfield 12, 3) := by decide +kernel
theorem dX11_doRow_69 : decode cX11_doRow 69 = .ok (.getfield 176, 3) := by decide +kernel
theorem dX11_doRow_72 : decode cX11_doRow 72 = .ok (.iload_n 2, 1) := by decide +kernel
theorem dX11_doRow_73 : decode cX11_doRow 73 = .ok (.aaload, 1) := by decide +kernel
theorem dX11_doRow_74 : decode cX11_doRow 74 = .ok (.getfield 191, 3) := by decide +kernel
theorem dX11_doRow_77 : decode cX11_doRow 77 = .ok (.aload_n 0, 1) := by decide +kernel
theorem dX11_doRow_78 : decode cX11_doRow 78 = .ok (.getfield 50, 3) := by decide +kernel
theorem dX11_doRow_81 : decode cX11_doRow 81 = .ok (.getfield 191, 3) := by decide +kernel
theorem dX11_doRow_84 : decode cX11_doRow 84 = .ok (.if_icmp .ne 20, 3) := by decide +kernel
theorem dX11_doRow_87 : decode cX11_doRow 87 = .ok (.aload_n 0, 1) := by decide +kernel
theorem dX11_doRow_88 : decode cX11_doRow 88 = .ok (.getfield 50, 3) := by decide +kernel
theorem dX11_doRow_91 : decode cX11_doRow 91 = .ok (.aload_n 0, 1) := by decide +kernel
theorem dX11_doRow_92 : decode cX11_doRow 92 = .ok (.getfield 12, 3) := by decide +kernel
theorem dX11_doRow_95 : decode cX11_doRow 95 = .ok (.getfield 176, 3) := by decide +kernel
theorem dX11_doRow_98 : decode cX11_doRow 98 = .ok (.iload_n 2, 1) := by decide +kernel
theorem dX11_doRow_99 : decode cX11_doRow 99 = .ok (.aaload, 1) := by decide +kernel
theorem dX11_doRow_100 : decode cX11_doRow 100 = .ok (.iconst 1, 1) := by decide +kernel
theorem dX11_doRow_101 : decode cX11_doRow 101 = .ok (.invokevirtual 204, 3) := by decide +kernel
theorem dX11_doRow_104 : decode cX11_doRow 104 = .ok (.return_, 1) := by decide +kernel
theorem dX12_init_0 : decode cX12_init 0 = .ok (.aload_n 0, 1) := by decide +kernel
theorem dX12_init_1 : decode cX12_init 1 = .ok (.invokespecial 3, 3) := by decide +kernel
theorem dX12_init_4 : decode cX12_init 4 = .ok (.aload_n 0, 1) := by decide +kernel
theorem dX12_init_5 : decode cX12_init 5 = .ok (.iconst 4, 1) := by decide +kernel
theorem dX12_init_6 : decode cX12_init 6 = .ok (.newarray .int, 2) := by decide +kernel
theorem dX12_init_8 : decode cX12_init 8 = .ok (.dup, 1) := by decide +kernel
theorem dX12_init_9 : decode cX12_init 9 = .ok (.iconst 0, 1) := by decide +kernel
theorem dX12_init_10 : decode cX12_init 10 = .ok (.iconst 0, 1) := by decide +kernel
theorem dX12_init_11 : decode cX12_init 11 = .ok (.iastore, 1) := by decide +kernel
theorem dX12_init_12 : decode cX12_init 12 = .ok (.dup, 1) := by decide +kernel
theorem dX12_init_13 : decode cX12_init 13 = .ok (.iconst 1, 1) := by decide +kernel
theorem dX12_init_14 : decode cX12_init 14 = .ok (.iconst 0, 1) := by decide +kernel
theorem dX12_init_15 : decode cX12_init 15 = .ok (.iastore, 1) := by decide +kernel
theorem dX12_init_16 : decode cX12_init 16 = .ok (.dup, 1) := by decide +kernel
theorem dX12_init_17 : decode cX12_init 17 = .ok (.iconst 2, 1) := by decide +kernel
theorem dX12_init_18 : decode cX12_init 18 = .ok (.iconst 0, 1) := by decide +kernel
theorem dX12_init_19 : decode cX12_init 19 = .ok (.iastore, 1) := by decide +kernel
theorem dX12_init_20 : decode cX12_init 20 = .ok (.dup, 1) := by decide +kernel
theorem dX12_init_21 : decode cX12_init 21 = .ok (.iconst 3, 1) := by decide +kernel
theorem dX12_init_22 : decode cX12_init 22 = .ok (.iconst 1, 1) := by decide +kernel
theorem dX12_init_23 : decode cX12_init 23 = .ok (.iastore, 1) := by decide +kernel
theorem dX12_init_24 : decode cX12_init 24 = .ok (.putfield 9, 3) := by decide +kernel
theorem dX12_init_27 : decode cX12_init 27 = .ok (.aload_n 0, 1) := by decide +kernel
theorem dX12_init_28 : decode cX12_init 28 = .ok (.bipush 7, 2) := by decide +kernel
theorem dX12_init_30 : decode cX12_init 30 = .ok (.newarray .int, 2) := by decide +kernel
theorem dX12_init_32 : decode cX12_init 32 = .ok (.dup, 1) := by decide +kernel
theorem dX12_init_33 : decode cX12_init 33 = .ok (.iconst 0, 1) := by decide +kernel
theorem dX12_init_34 : decode cX12_init 34 = .ok (.iconst 0, 1) := by decide +kernel
theorem dX12_init_35 : decode cX12_init 35 = .ok (.iastore, 1) := by decide +kernel
theorem dX12_init_36 : decode cX12_init 36 = .ok (.dup, 1) := by decide +kernel
theorem dX12_init_37 : decode cX12_init 37 = .ok (.iconst 1, 1) := by decide +kernel
theorem dX12_init_38 : decode cX12_init 38 = .ok (.iconst 1, 1) := by decide +kernel
theorem dX12_init_39 : decode cX12_init 39 = .ok (.iastore, 1) := by decide +kernel
theorem dX12_init_40 : decode cX12_init 40 = .ok (.dup, 1) := by decide +kernel
theorem dX12_init_41 : decode cX12_init 41 = .ok (.iconst 2, 1) := by decide +kernel
theorem dX12_init_42 : decode cX12_init 42 = .ok (.iconst 2, 1) := by decide +kernel
theorem dX12_init_43 : decode cX12_init 43 = .ok (.iastore, 1) := by decide +kernel
theorem dX12_init_44 : decode cX12_init 44 = .ok (.dup, 1) := by decide +kernel
theorem dX12_init_45 : decode cX12_init 45 = .ok (.iconst 3, 1) := by decide +kernel
theorem dX12_init_46 : decode cX12_init 46 = .ok (.iconst 4, 1) := by decide +kernel
theorem dX12_init_47 : decode cX12_init 47 = .ok (.iastore, 1) := by decide +kernel
theorem dX12_init_48 : decode cX12_init 48 = .ok (.dup, 1) := by decide +kernel
theorem dX12_init_49 : decode cX12_init 49 = .ok (.iconst 4, 1) := by decide +kernel
theorem dX12_init_50 : decode cX12_init 50 = .ok (.bipush 7, 2) := by decide +kernel
theorem dX12_init_52 : decode cX12_init 52 = .ok (.iastore, 1) := by decide +kernel
theorem dX12_init_53 : decode cX12_init 53 = .ok (.dup, 1) := by decide +kernel
theorem dX12_init_54 : decode cX12_init 54 = .ok (.iconst 5, 1) := by decide +kernel
theorem dX12_init_55 : decode cX12_init 55 = .ok (.bipush 12, 2) := by decide +kernel
theorem dX12_init_57 : decode cX12_init 57 = .ok (.iastore, 1) := by decide +kernel
theorem dX12_init_58 : decode cX12_init 58 = .ok (.dup, 1) := by decide +kernel
theorem dX12_init_59 : decode cX12_init 59 = .ok (.bipush 6, 2) := by decide +kernel
theorem dX12_init_61 : decode cX12_init 61 = .ok (.bipush 19, 2) := by decide +kernel
theorem dX12_init_63 : decode cX12_init 63 = .ok (.iastore, 1) := by decide +kernel
theorem dX12_init_64 : decode cX12_init 64 = .ok (.putfield 15, 3) := by decide +kernel
theorem dX12_init_67 : decode cX12_init 67 = .ok (.aload_n 0, 1) := by decide +kernel
theorem dX12_init_68 : decode cX12_init 68 = .ok (.bipush 19, 2) := by decide +kernel
theorem dX12_init_70 : decode cX12_init 70 = .ok (.newarray .int, 2) := by decide +kernel
theorem dX12_init_72 : decode cX12_init 72 = .ok (.putfield 18, 3) := by decide +kernel
theorem dX12_init_75 : decode cX12_init 75 = .ok (.aload_n 0, 1) := by decide +kernel
theorem dX12_init_76 : decode cX12_init 76 = .ok (.bipush 19, 2) := by decide +kernel
theorem dX12_init_78 : decode cX12_init 78 = .ok (.newarray .int, 2) := by decide +kernel
theorem dX12_init_80 : decode cX12_init 80 = .ok (.putfield 21, 3) := by decide +kernel
theorem dX12_init_83 : decode cX12_init 83 = .ok (.aload_n 0, 1) := by decide +kernel
theorem dX12_init_84 : decode cX12_init 84 = .ok (.bipush 95, 2) := by decide +kernel
theorem dX12_init_86 : decode cX12_init 86 = .ok (.newarray .int, 2) := by decide +kernel
theorem dX12_init_88 : decode cX12_init 88 = .ok (.putfield 24, 3) := by decide +kernel
theorem dX12_init_91 : decode cX12_init 91 = .ok (.aload_n 0, 1) := by decide +kernel
theorem dX12_init_92 : decode cX12_init 92 = .ok (.iconst 4, 1) := by decide +kernel
theorem dX12_init_93 : decode cX12_init 93 = .ok (.newarray .int, 2) := by decide +kernel
theorem dX12_init_95 : decode cX12_init 95 = .ok (.putfield 27, 3) := by decide +kernel
theorem dX12_init_98 : decode cX12_init 98 = .ok (.aload_n 0, 1) := by decide +kernel
theorem dX12_init_99 : decode cX12_init 99 = .ok (.bipush 28, 2) := by decide +kernel
theorem dX12_init_101 : decode cX12_init 101 = .ok (.newarray .int, 2) := by decide +kernel
theorem dX12_init_103 : decode cX12_init 103 = .ok (.putfield 30, 3) := by decide +kernel
theorem dX12_init_106 : decode cX12_init 106 = .ok (.aload_n 0, 1) := by decide +kernel
theorem dX12_init_107 : decode cX12_init 107 = .ok (.bipush 60, 2) := by decide +kernel
theorem dX12_init_109 : decode cX12_init 109 = .ok (.newarray .int, 2) := by decide +kernel
theorem dX12_init_111 : decode cX12_init 111 = .ok (.putfield 33, 3) := by decide +kernel
theorem dX12_init_114 : decode cX12_init 114 = .ok (.aload_n 0, 1) := by decide +kernel
theorem dX12_init_115 : decode cX12_init 115 = .ok (.sipush 200, 3) := by decide +kernel
theorem dX12_init_118 : decode cX12_init 118 = .ok (.newarray .int, 2) := by decide +kernel
theorem dX12_init_120 : decode cX12_init 120 = .ok (.putfield 36, 3) := by decide +kernel
theorem dX12_init_123 : decode cX12_init 123 = .ok (.aload_n 0, 1) := by decide +kernel
theorem dX12_init_124 : decode cX12_init 124 = .ok (.bipush 8, 2) := by decide +kernel
theorem dX12_init_126 : decode cX12_init 126 = .ok (.newarray .int, 2) := by decide +kernel
theorem dX12_init_128 : decode cX12_init 128 = .ok (.putfield 39, 3) := by decide +kernel
theorem dX12_init_131 : decode cX12_init 131 = .ok (.aload_n 0, 1) := by decide +kernel
theorem dX12_init_132 : decode cX12_init 132 = .ok (.bipush 8, 2) := by decide +kernel
theorem dX12_init_134 : decode cX12_init 134 = .ok (.newarray .int, 2) := by decide +kernel
theorem dX12_init_136 : decode cX12_init 136 = .ok (.putfield 42, 3) := by decide +kernel
theorem dX12_init_139 : decode cX12_init 139 = .ok (.aload_n 0, 1) := by decide +kernel
theorem dX12_init_140 : decode cX12_init 140 = .ok (.iconst 4, 1) := by decide +kernel
theorem dX12_init_141 : decode cX12_init 141 = .ok (.newarray .int, 2) := by decide +kernel
theorem dX12_init_143 : decode cX12_init 143 = .ok (.dup, 1) := by decide +kernel
theorem dX12_init_144 : decode cX12_init 144 = .ok (.iconst 0, 1) := by decide +kernel
theorem dX12_init_145 : decode cX12_init 145 = .ok (.iconst (-1), 1) := by decide +kernel
theorem dX12_init_146 : decode cX12_init 146 = .ok (.iastore, 1) := by decide +kernel
theorem dX12_init_147 : decode cX12_init 147 = .ok (.dup, 1) := by decide +kernel
theorem dX12_init_148 : decode cX12_init 148 = .ok (.iconst 1, 1) := by decide +kernel
theorem dX12_init_149 : decode cX12_init 149 = .ok (.iconst (-1), 1) := by decide +kernel
theorem dX12_init_150 : decode cX12_init 150 = .ok (.iastore, 1) := by decide +kernel
theorem dX12_init_151 : decode cX12_init 151 = .ok (.dup, 1) := by decide +kernel
theorem dX12_init_152 : decode cX12_init 152 = .ok (.iconst 2, 1) := by decide +kernel
theorem dX12_init_153 : decode cX12_init 153 = .ok (.iconst (-1), 1) := by decide +kernel
theorem dX12_init_154 : decode cX12_init 154 = .ok (.iastore, 1) := by decide +kernel
theorem dX12_init_155 : decode cX12_init 155 = .ok (.dup, 1) := by decide +kernel
theorem dX12_init_156 : decode cX12_init 156 = .ok (.iconst 3, 1) := by decide +kernel
theorem dX12_init_157 : decode cX12_init 157 = .ok (.iconst (-1), 1) := by decide +kernel
theorem dX12_init_158 : decode cX12_init 158 = .ok (.iastore, 1) := by decide +kernel
theorem dX12_init_159 : decode cX12_init 159 = .ok (.putfield 45, 3) := by decide +kernel
theorem dX12_init_162 : decode cX12_init 162 = .ok (.aload_n 0, 1) := by decide +kernel
theorem dX12_init_163 : decode cX12_init 163 = .ok (.bipush 48, 2) := by decide +kernel
theorem dX12_init_165 : decode cX12_init 165 = .ok (.newarray .long, 2) := by decide +kernel
theorem dX12_init_167 : decode cX12_init 167 = .ok (.putfield 48, 3) := by decide +kernel
theorem dX12_init_170 : decode cX12_init 170 = .ok (.aload_n 0, 1) := by decide +kernel
theorem dX12_init_171 : decode cX12_init 171 = .ok (.sipush 1463, 3) := by decide +kernel
theorem dX12_init_174 : decode cX12_init 174 = .ok (.newarray .int, 2) := by decide +kernel
theorem dX12_init_176 : decode cX12_init 176 = .ok (.putfield 52, 3) := by decide +kernel
theorem dX12_init_179 : decode cX12_init 179 = .ok (.aload_n 0, 1) := by decide +kernel
theorem dX12_init_180 : decode cX12_init 180 = .ok (.bipush 7, 2) := by decide +kernel
theorem dX12_init_182 : decode cX12_init 182 = .ok (.newarray .int, 2) := by decide +kernel
theorem dX12_init_184 : decode cX12_init 184 = .ok (.putfield 55, 3) := by decide +kernel
theorem dX12_init_187 : decode cX12_init 187 = .ok (.aload_n 0, 1) := by decide +kernel
theorem dX12_init_188 : decode cX12_init 188 = .ok (.bipush 7, 2) := by decide +kernel
theorem dX12_init_190 : decode cX12_init 190 = .ok (.newarray .int, 2) := by decide +kernel
theorem dX12_init_192 : decode cX12_init 192 = .ok (.putfield 58, 3) := by decide +kernel
theorem dX12_init_195 : decode cX12_init 195 = .ok (.aload_n 0, 1) := by decide +kernel
theorem dX12_init_196 : decode cX12_init 196 = .ok (.bipush 84, 2) := by decide +kernel
theorem dX12_init_198 : decode cX12_init 198 = .ok (.newarray .int, 2) := by decide +kernel
theorem dX12_init_200 : decode cX12_init 200 = .ok (.putfield 61, 3) := by decide +kernel
theorem dX12_init_203 : decode cX12_init 203 = .ok (.aload_n 0, 1) := by decide +kernel
theorem dX12_init_204 : decode cX12_init 204 = .ok (.bipush 7, 2) := by decide +kernel
theorem dX12_init_206 : decode cX12_init 206 = .ok (.newarray .int, 2) := by decide +kernel
theorem dX12_init_208 : decode cX12_init 208 = .ok (.putfield 64, 3) := by decide +kernel
theorem dX12_init_211 : decode cX12_init 211 = .ok (.aload_n 0, 1) := by decide +kernel
theorem dX12_init_212 : decode cX12_init 212 = .ok (.bipush 30, 2) := by decide +kernel
theorem dX12_init_214 : decode cX12_init 214 = .ok (.newarray .int, 2) := by decide +kernel
theorem dX12_init_216 : decode cX12_init 216 = .ok (.putfield 67, 3) := by decide +kernel
theorem dX12_init_219 : decode cX12_init 219 = .ok (.aload_n 0, 1) := by decide +kernel
theorem dX12_init_220 : decode cX12_init 220 = .ok (.bipush 31, 2) := by decide +kernel
theorem dX12_init_222 : decode cX12_init 222 = .ok (.newarray .int, 2) := by decide +kernel
theorem dX12_init_224 : decode cX12_init 224 = .ok (.putfield 70, 3) := by decide +kernel
theorem dX12_init_227 : decode cX12_init 227 = .ok (.aload_n 0, 1) := by decide +kernel
theorem dX12_init_228 : decode cX12_init 228 = .ok (.bipush 60, 2) := by decide +kernel
theorem dX12_init_230 : decode cX12_init 230 = .ok (.newarray .int, 2) := by decide +kernel
theorem dX12_init_232 : decode cX12_init 232 = .ok (.putfield 73, 3) := by decide +kernel
theorem dX12_init_235 : decode cX12_init 235 = .ok (.aload_n 0, 1) := by decide +kernel
theorem dX12_init_236 : decode cX12_init 236 = .ok (.bipush 7, 2) := by decide +kernel
theorem dX12_init_238 : decode cX12_init 238 = .ok (.newarray .int, 2) := by decide +kernel
theorem dX12_init_240 : decode cX12_init 240 = .ok (.putfield 76, 3) := by decide +kernel
theorem dX12_init_243 : decode cX12_init 243 = .ok (.aload_n 0, 1) := by decide +kernel
theorem dX12_init_244 : decode cX12_init 244 = .ok (.bipush 53, 2) := by decide +kernel
theorem dX12_init_246 : decode cX12_init 246 = .ok (.newarray .int, 2) := by decide +kernel
theorem dX12_init_248 : decode cX12_init 248 = .ok (.putfield 79, 3) := by decide +kernel
theorem dX12_init_251 : decode cX12_init 251 = .ok (.iconst 0, 1) := by decide +kernel
theorem dX12_init_252 : decode cX12_init 252 = .ok (.istore_n 1, 1) := by decide +kernel
theorem dX12_init_253 : decode cX12_init 253 = .ok (.iload_n 1, 1) := by decide +kernel
theorem dX12_init_254 : decode cX12_init 254 = .ok (.bipush 6, 2) := by decide +kernel
theorem dX12_init_256 : decode cX12_init 256 = .ok (.if_icmp .ge 83, 3) := by decide +kernel
theorem dX12_init_259 : decode cX12_init 259 = .ok (.aload_n 0, 1) := by decide +kernel
theorem dX12_init_260 : decode cX12_init 260 = .ok (.getfield 15, 3) := by decide +kernel
theorem dX12_init_263 : decode cX12_init 263 = .ok (.iload_n 1, 1) := by decide +kernel
theorem dX12_init_264 : decode cX12_init 264 = .ok (.iaload, 1) := by decide +kernel
theorem dX12_init_265 : decode cX12_init 265 = .ok (.istore_n 2, 1) := by decide +kernel
theorem dX12_init_266 : decode cX12_init 266 = .ok (.iload_n 2, 1) := by decide +kernel
theorem dX12_init_267 : decode cX12_init 267 = .ok (.aload_n 0, 1) := by decide +kernel
theorem dX12_init_268 : decode cX12_init 268 = .ok (.getfield 15, 3) := by decide +kernel
theorem dX12_init_271 : decode cX12_init 271 = .ok (.iload_n 1, 1) := by decide +kernel
theorem dX12_init_272 : decode cX12_init 272 = .ok (.iconst 1, 1) := by decide +kernel
theorem dX12_init_273 : decode cX12_init 273 = .ok (.iadd, 1) := by decide +kernel
theorem dX12_init_274 : decode cX12_init 274 = .ok (.iaload, 1) := by decide +kernel
theorem dX12_init_275 : decode cX12_init 275 = .ok (.if_icmp .ge 58, 3) := by decide +kernel
theorem dX12_init_278 : decode cX12_init 278 = .ok (.aload_n 0, 1) := by decide +kernel
theorem dX12_init_279 : decode cX12_init 279 = .ok (.getfield 18, 3) := by decide +kernel
theorem dX12_init_282 : decode cX12_init 282 = .ok (.iload_n 2, 1) := by decide +kernel
theorem dX12_init_283 : decode cX12_init 283 = .ok (.iload_n 1, 1) := by decide +kernel
theorem dX12_init_284 : decode cX12_init 284 = .ok (.iastore, 1) := by decide +kernel
theorem dX12_init_285 : decode cX12_init 285 = .ok (.iload_n 2, 1) := by decide +kernel
theorem dX12_init_286 : decode cX12_init 286 = .ok (.aload_n 0, 1) := by decide +kernel
theorem dX12_init_287 : decode cX12_init 287 = .ok (.getfield 15, 3) := by decide +kernel
theorem dX12_init_290 : decode cX12_init 290 = .ok (.iload_n 1, 1) := by decide +kernel
theorem dX12_init_291 : decode cX12_init 291 = .ok (.iaload, 1) := by decide +kernel
theorem dX12_init_292 : decode cX12_init 292 = .ok (.if_icmp .ne 30, 3) := by decide +kernel
theorem dX12_init_295 : decode cX12_init 295 = .ok (.aload_n 0, 1) := by decide +kernel
theorem dX12_init_296 : decode cX12_init 296 = .ok (.getfield 21, 3) := by decide +kernel
theorem dX12_init_299 : decode cX12_init 299 = .ok (.iload_n 2, 1) := by decide +kernel
theorem dX12_init_300 : decode cX12_init 300 = .ok (.iload_n 1, 1) := by decide +kernel
theorem dX12_init_301 : decode cX12_init 301 = .ok (.ifCond .le 7, 3) := by decide +kernel
theorem dX12_init_304 : decode cX12_init 304 = .ok (.iconst 1, 1) := by decide +kernel
theorem dX12_init_305 : decode cX12_init 305 = .ok (.goto 4, 3) := by decide +kernel
theorem dX12_init_308 : decode cX12_init 308 = .ok (.iconst 0, 1) := by decide +kernel
theorem dX12_init_309 : decode cX12_init 309 = .ok (.iastore, 1) := by decide +kernel
theorem dX12_init_310 : decode cX12_init 310 = .ok (.aload_n 0, 1) := by decide +kernel
theorem dX12_init_311 : decode cX12_init 311 = .ok (.getfield 24, 3) := by decide +kernel
theorem dX12_init_314 : decode cX12_init 314 = .ok (.iconst 5, 1) := by decide +kernel
theorem dX12_init_315 : decode cX12_init 315 = .ok (.iload_n 2, 1) := by decide +kernel
theorem dX12_init_316 : decode cX12_init 316 = .ok (.imul, 1) := by decide +kernel
theorem dX12_init_317 : decode cX12_init 317 = .ok (.iload_n 1, 1) := by decide +kernel
theorem dX12_init_318 : decode cX12_init 318 = .ok (.iastore, 1) := by decide +kernel
theorem dX12_init_319 : decode cX12_init 319 = .ok (.goto 8, 3) := by decide +kernel
theorem dX12_init_322 : decode cX12_init 322 = .ok (.aload_n 0, 1) := by decide +kernel
theorem dX12_init_323 : decode cX12_init 323 = .ok (.iload_n 2, 1) := by decide +kernel
theorem dX12_init_324 : decode cX12_init 324 = .ok (.invokevirtual 82, 3) := by decide +kernel
theorem dX12_init_327 : decode cX12_init 327 = .ok (.iinc 2 1, 3) := by decide +kernel
theorem dX12_init_330 : decode cX12_init 330 = .ok (.goto (-64), 3) := by decide +kernel
theorem dX12_init_333 : decode cX12_init 333 = .ok (.iinc 1 1, 3) := by decide +kernel
theorem dX12_init_336 : decode cX12_init 336 = .ok (.goto (-83), 3) := by decide +kernel
theorem dX12_init_339 : decode cX12_init 339 = .ok (.return_, 1) := by decide +kernel
theorem dX12_follows_0 : decode cX12_follows 0 = .ok (.aload_n 0, 1) := by decide +kernel
theorem dX12_follows_1 : decode cX12_follows 1 = .ok (.getfield 21, 3) := by decide +kernel
theorem dX12_follows_4 : decode cX12_follows 4 = .ok (.iload_n 1, 1) := by decide +kernel
theorem dX12_follows_5 : decode cX12_follows 5 = .ok (.iconst 1, 1) := by decide +kernel
theorem dX12_follows_6 : decode cX12_follows 6 = .ok (.isub, 1) := by decide +kernel
theorem dX12_follows_7 : decode cX12_follows 7 = .ok (.iaload, 1) := by decide +kernel
theorem dX12_follows_8 : decode cX12_follows 8 = .ok (.iconst 1, 1) := by decide +kernel
theorem dX12_follows_9 : decode cX12_follows 9 = .ok (.isub, 1) := by decide +kernel
theorem dX12_follows_10 : decode cX12_follows 10 = .ok (.istore_n 2, 1) := by decide +kernel
theorem dX12_follows_11 : decode cX12_follows 11 = .ok (.iconst 1, 1) := by decide +kernel
theorem dX12_follows_12 : decode cX12_follows 12 = .ok (.istore_n 3, 1) := by decide +kernel
theorem dX12_follows_13 : decode cX12_follows 13 = .ok (.aload_n 0, 1) := by decide +kernel
theorem dX12_follows_14 : decode cX12_follows 14 = .ok (.getfield 24, 3) := by decide +kernel
theorem dX12_follows_17 : decode cX12_follows 17 = .ok (.iconst 5, 1) := by decide +kernel
theorem dX12_follows_18 : decode cX12_follows 18 = .ok (.iload_n 1, 1) := by decide +kernel
theorem dX12_follows_19 : decode cX12_follows 19 = .ok (.iconst 1, 1) := by decide +kernel
theorem dX12_follows_20 : decode cX12_follows 20 = .ok (.isub, 1) := by decide +kernel
theorem dX12_follows_21 : decode cX12_follows 21 = .ok (.imul, 1) := by decide +kernel
theorem dX12_follows_22 : decode cX12_follows 22 = .ok (.iload_n 2, 1) := by decide +kernel
theorem dX12_follows_23 : decode cX12_follows 23 = .ok (.iadd, 1) := by decide +kernel
theorem dX12_follows_24 : decode cX12_follows 24 = .ok (.iaload, 1) := by decide +kernel
theorem dX12_follows_25 : decode cX12_follows 25 = .ok (.iconst 1, 1) := by decide +kernel
theorem dX12_follows_26 : decode cX12_follows 26 = .ok (.if_icmp .ne 12, 3) := by decide +kernel
theorem dX12_follows_29 : decode cX12_follows 29 = .ok (.iinc 2 (-1), 3) := by decide +kernel
theorem dX12_follows_32 : decode cX12_follows 32 = .ok (.iinc 3 1, 3) := by decide +kernel
theorem dX12_follows_35 : decode cX12_follows 35 = .ok (.goto (-22), 3) := by decide +kernel
theorem dX12_follows_38 : decode cX12_follows 38 = .ok (.iconst 0, 1) := by decide +kernel
theorem dX12_follows_39 : decode cX12_follows 39 = .ok (.istore 4, 2) := by decide +kernel
theorem dX12_follows_41 : decode cX12_follows 41 = .ok (.iload 4, 2) := by decide +kernel
theorem dX12_follows_43 : decode cX12_follows 43 = .ok (.iload_n 2, 1) := by decide +kernel
theorem dX12_follows_44 : decode cX12_follows 44 = .ok (.if_icmp .ge 33, 3) := by decide +kernel
theorem dX12_follows_47 : decode cX12_follows 47 = .ok (.aload_n 0, 1) := by decide +kernel
theorem dX12_follows_48 : decode cX12_follows 48 = .ok (.getfield 24, 3) := by decide +kernel
theorem dX12_follows_51 : decode cX12_follows 51 = .ok (.iconst 5, 1) := by decide +kernel
theorem dX12_follows_52 : decode cX12_follows 52 = .ok (.iload_n 1, 1) := by decide +kernel
theorem dX12_follows_53 : decode cX12_follows 53 = .ok (.imul, 1) := by decide +kernel
theorem dX12_follows_54 : decode cX12_follows 54 = .ok (.iload 4, 2) := by decide +kernel
theorem dX12_follows_56 : decode cX12_follows 56 = .ok (.iadd, 1) := by decide +kernel
theorem dX12_follows_57 : decode cX12_follows 57 = .ok (.aload_n 0, 1) := by decide +kernel
theorem dX12_follows_58 : decode cX12_follows 58 = .ok (.getfield 24, 3) := by decide +kernel
theorem dX12_follows_61 : decode cX12_follows 61 = .ok (.iconst 5, 1) := by decide +kernel
theorem dX12_follows_62 : decode cX12_follows 62 = .ok (.iload_n 1, 1) := by decide +kernel
theorem dX12_follows_63 : decode cX12_follows 63 = .ok (.iconst 1, 1) := by decide +kernel
theorem dX12_follows_64 : decode cX12_follows 64 = .ok (.isub, 1) := by decide +kernel
theorem dX12_follows_65 : decode cX12_follows 65 = .ok (.imul, 1) := by decide +kernel
theorem dX12_follows_66 : decode cX12_follows 66 = .ok (.iload 4, 2) := by decide +kernel
theorem dX12_follows_68 : decode cX12_follows 68 = .ok (.iadd, 1) := by decide +kernel
theorem dX12_follows_69 : decode cX12_follows 69 = .ok (.iaload, 1) := by decide +kernel
theorem dX12_follows_70 : decode cX12_follows 70 = .ok (.iastore, 1) := by decide +kernel
theorem dX12_follows_71 : decode cX12_follows 71 = .ok (.iinc 4 1, 3) := by decide +kernel
theorem dX12_follows_74 : decode cX12_follows 74 = .ok (.goto (-33), 3) := by decide +kernel
theorem dX12_follows_77 : decode cX12_follows 77 = .ok (.aload_n 0, 1) := by decide +kernel
theorem dX12_follows_78 : decode cX12_follows 78 = .ok (.getfield 24, 3) := by decide +kernel
theorem dX12_follows_81 : decode cX12_follows 81 = .ok (.iconst 5, 1) := by decide +kernel
theorem dX12_follows_82 : decode cX12_follows 82 = .ok (.iload_n 1, 1) := by decide +kernel
theorem dX12_follows_83 : decode cX12_follows 83 = .ok (.iconst 1, 1) := by decide +kernel
theorem dX12_follows_84 : decode cX12_follows 84 = .ok (.isub, 1) := by decide +kernel
theorem dX12_follows_85 : decode cX12_follows 85 = .ok (.imul, 1) := by decide +kernel
theorem dX12_follows_86 : decode cX12_follows 86 = .ok (.iload_n 2, 1) := by decide +kernel
theorem dX12_follows_87 : decode cX12_follows 87 = .ok (.iadd, 1) := by decide +kernel
theorem dX12_follows_88 : decode cX12_follows 88 = .ok (.iaload, 1) := by decide +kernel
theorem dX12_follows_89 : decode cX12_follows 89 = .ok (.iconst 1, 1) := by decide +kernel
theorem dX12_follows_90 : decode cX12_follows 90 = .ok (.isub, 1) := by decide +kernel
theorem dX12_follows_91 : decode cX12_follows 91 = .ok (.istore 4, 2) := by decide +kernel
theorem dX12_follows_93 : decode cX12_follows 93 = .ok (.aload_n 0, 1) := by decide +kernel
theorem dX12_follows_94 : decode cX12_follows 94 = .ok (.getfield 24, 3) := by decide +kernel
theorem dX12_follows_97 : decode cX12_follows 97 = .ok (.iconst 5, 1) := by decide +kernel
theorem dX12_follows_98 : decode cX12_follows 98 = .ok (.iload_n 1, 1) := by decide +kernel
theorem dX12_follows_99 : decode cX12_follows 99 = .ok (.imul, 1) := by decide +kernel
theorem dX12_follows_100 : decode cX12_follows 100 = .ok (.iload_n 2, 1) := by decide +kernel
theorem dX12_follows_101 : decode cX12_follows 101 = .ok (.iadd, 1) := by decide +kernel
theorem dX12_follows_102 : decode cX12_follows 102 = .ok (.iload 4, 2) := by decide +kernel
theorem dX12_follows_104 : decode cX12_follows 104 = .ok (.iastore, 1) := by decide +kernel
theorem dX12_follows_105 : decode cX12_follows 105 = .ok (.iinc 2 1, 3) := by decide +kernel
theorem dX12_follows_108 : decode cX12_follows 108 = .ok (.iload_n 3, 1) := by decide +kernel
theorem dX12_follows_109 : decode cX12_follows 109 = .ok (.ifCond .le 38, 3) := by decide +kernel
theorem dX12_follows_112 : decode cX12_follows 112 = .ok (.aload_n 0, 1) := by decide +kernel
theorem dX12_follows_113 : decode cX12_follows 113 = .ok (.getfield 24, 3) := by decide +kernel
theorem dX12_follows_116 : decode cX12_follows 116 = .ok (.iconst 5, 1) := by decide +kernel
theorem dX12_follows_117 : decode cX12_follows 117 = .ok (.iload_n 1, 1) := by decide +kernel
theorem dX12_follows_118 : decode cX12_follows 118 = .ok (.imul, 1) := by decide +kernel
theorem dX12_follows_119 : decode cX12_follows 119 = .ok (.iload_n 2, 1) := by decide +kernel
theorem dX12_follows_120 : decode cX12_follows 120 = .ok (.iadd, 1) := by decide +kernel
theorem dX12_follows_121 : decode cX12_follows 121 = .ok (.iload 4, 2) := by decide +kernel
theorem dX12_follows_123 : decode cX12_follows 123 = .ok (.iload_n 3, 1) := by decide +kernel
theorem dX12_follows_124 : decode cX12_follows 124 = .ok (.invokestatic 86, 3) := by decide +kernel
theorem dX12_follows_127 : decode cX12_follows 127 = .ok (.iastore, 1) := by decide +kernel
theorem dX12_follows_128 : decode cX12_follows 128 = .ok (.iload_n 3, 1) := by decide +kernel
theorem dX12_follows_129 : decode cX12_follows 129 = .ok (.aload_n 0, 1) := by decide +kernel
theorem dX12_follows_130 : decode cX12_follows 130 = .ok (.getfield 24, 3) := by decide +kernel
theorem dX12_follows_133 : decode cX12_follows 133 = .ok (.iconst 5, 1) := by decide +kernel
theorem dX12_follows_134 : decode cX12_follows 134 = .ok (.iload_n 1, 1) := by decide +kernel
theorem dX12_follows_135 : decode cX12_follows 135 = .ok (.imul, 1) := by decide +kernel
theorem dX12_follows_136 : decode cX12_follows 136 = .ok (.iload_n 2, 1) := by decide +kernel
theorem dX12_follows_137 : decode cX12_follows 137 = .ok (.iadd, 1) := by decide +kernel
theorem dX12_follows_138 : decode cX12_follows 138 = .ok (.iaload, 1) := by decide +kernel
theorem dX12_follows_139 : decode cX12_follows 139 = .ok (.isub, 1) := by decide +kernel
theorem dX12_follows_140 : decode cX12_follows 140 = .ok (.istore_n 3, 1) := by decide +kernel
theorem dX12_follows_141 : decode cX12_follows 141 = .ok (.iinc 2 1, 3) := by decide +kernel
theorem dX12_follows_144 : decode cX12_follows 144 = .ok (.goto (-36), 3) := by decide +kernel
theorem dX12_follows_147 : decode cX12_follows 147 = .ok (.aload_n 0, 1) := by decide +kernel
theorem dX12_follows_148 : decode cX12_follows 148 = .ok (.getfield 21, 3) := by decide +kernel
theorem dX12_follows_151 : decode cX12_follows 151 = .ok (.iload_n 1, 1) := by decide +kernel
theorem dX12_follows_152 : decode cX12_follows 152 = .ok (.iload_n 2, 1) := by decide +kernel
theorem dX12_follows_153 : decode cX12_follows 153 = .ok (.iastore, 1) := by decide +kernel
theorem dX12_follows_154 : decode cX12_follows 154 = .ok (.return_, 1) := by decide +kernel
theorem dX12_in_0 : decode cX12_in 0 = .ok (.iload_n 0, 1) := by decide +kernel
theorem dX12_in_1 : decode cX12_in 1 = .ok (.iload_n 1, 1) := by decide +kernel
theorem dX12_in_2 : decode cX12_in 2 = .ok (.if_icmp .lt 12, 3) := by decide +kernel
theorem dX12_in_5 : decode cX12_in 5 = .ok (.iload_n 0, 1) := by decide +kernel
theorem dX12_in_6 : decode cX12_in 6 = .ok (.iload_n 2, 1) := by decide +kernel
theorem dX12_in_7 : decode cX12_in 7 = .ok (.if_icmp .gt 7, 3) := by decide +kernel
theorem dX12_in_10 : decode cX12_in 10 = .ok (.iconst 1, 1) := by decide +kernel
theorem dX12_in_11 : decode cX12_in 11 = .ok (.goto 4, 3) := by decide +kernel
theorem dX12_in_14 : decode cX12_in 14 = .ok (.iconst 0, 1) := by decide +kernel
theorem dX12_in_15 : decode cX12_in 15 = .ok (.ireturn, 1) := by decide +kernel
theorem dX12_mod_0 : decode cX12_mod 0 = .ok (.iload_n 0, 1) := by decide +kernel
theorem dX12_mod_1 : decode cX12_mod 1 = .ok (.bipush 101, 2) := by decide +kernel
theorem dX12_mod_3 : decode cX12_mod 3 = .ok (.irem, 1) := by decide +kernel
theorem dX12_mod_4 : decode cX12_mod 4 = .ok (.bipush 101, 2) := by decide +kernel
theorem dX12_mod_6 : decode cX12_mod 6 = .ok (.iadd, 1) := by decide +kernel
theorem dX12_mod_7 : decode cX12_mod 7 = .ok (.bipush 101, 2) := by decide +kernel
theorem dX12_mod_9 : decode cX12_mod 9 = .ok (.irem, 1) := by decide +kernel
theorem dX12_mod_10 : decode cX12_mod 10 = .ok (.ireturn, 1) := by decide +kernel
theorem dX12_inverse_0 : decode cX12_inverse 0 = .ok (.iconst 1, 1) := by decide +kernel
theorem dX12_inverse_1 : decode cX12_inverse 1 = .ok (.istore_n 1, 1) := by decide +kernel
theorem dX12_inverse_2 : decode cX12_inverse 2 = .ok (.iconst 0, 1) := by decide +kernel
theorem dX12_inverse_3 : decode cX12_inverse 3 = .ok (.istore_n 2, 1) := by decide +kernel
theorem dX12_inverse_4 : decode cX12_inverse 4 = .ok (.iload_n 2, 1) := by decide +kernel
theorem dX12_inverse_5 : decode cX12_inverse 5 = .ok (.bipush 99, 2) := by decide +kernel
theorem dX12_inverse_7 : decode cX12_inverse 7 = .ok (.if_icmp .ge 16, 3) := by decide +kernel
theorem dX12_inverse_10 : decode cX12_inverse 10 = .ok (.iload_n 1, 1) := by decide +kernel
theorem dX12_inverse_11 : decode cX12_inverse 11 = .ok (.iload_n 0, 1) := by decide +kernel
theorem dX12_inverse_12 : decode cX12_inverse 12 = .ok (.imul, 1) := by decide +kernel
theorem dX12_inverse_13 : decode cX12_inverse 13 = .ok (.bipush 101, 2) := by decide +kernel
theorem dX12_inverse_15 : decode cX12_inverse 15 = .ok (.irem, 1) := by decide +kernel
theorem dX12_inverse_16 : decode cX12_inverse 16 = .ok (.istore_n 1, 1) := by decide +kernel
theorem dX12_inverse_17 : decode cX12_inverse 17 = .ok (.iinc 2 1, 3) := by decide +kernel
theorem dX12_inverse_20 : decode cX12_inverse 20 = .ok (.goto (-16), 3) := by decide +kernel
theorem dX12_inverse_23 : decode cX12_inverse 23 = .ok (.iload_n 1, 1) := by decide +kernel
theorem dX12_inverse_24 : decode cX12_inverse 24 = .ok (.ireturn, 1) := by decide +kernel
theorem dX12_isLevel_0 : decode cX12_isLevel 0 = .ok (.iload_n 0, 1) := by decide +kernel
theorem dX12_isLevel_1 : decode cX12_isLevel 1 = .ok (.iconst 0, 1) := by decide +kernel
theorem dX12_isLevel_2 : decode cX12_isLevel 2 = .ok (.iconst 5, 1) := by decide +kernel
theorem dX12_isLevel_3 : decode cX12_isLevel 3 = .ok (.invokestatic 92, 3) := by decide +kernel
theorem dX12_isLevel_6 : decode cX12_isLevel 6 = .ok (.ireturn, 1) := by decide +kernel
theorem dX12_isMode_0 : decode cX12_isMode 0 = .ok (.iload_n 0, 1) := by decide +kernel
theorem dX12_isMode_1 : decode cX12_isMode 1 = .ok (.bipush (-5), 2) := by decide +kernel
theorem dX12_isMode_3 : decode cX12_isMode 3 = .ok (.iconst 5, 1) := by decide +kernel
theorem dX12_isMode_4 : decode cX12_isMode 4 = .ok (.invokestatic 92, 3) := by decide +kernel
theorem dX12_isMode_7 : decode cX12_isMode 7 = .ok (.ireturn, 1) := by decide +kernel
theorem dX12_many_0 : decode cX12_many 0 = .ok (.aload_n 0, 1) := by decide +kernel
theorem dX12_many_1 : decode cX12_many 1 = .ok (.getfield 15, 3) := by decide +kernel
theorem dX12_many_4 : decode cX12_many 4 = .ok (.iload_n 1, 1) := by decide +kernel
theorem dX12_many_5 : decode cX12_many 5 = .ok (.iconst 1, 1) := by decide +kernel
theorem dX12_many_6 : decode cX12_many 6 = .ok (.iadd, 1) := by decide +kernel
theorem dX12_many_7 : decode cX12_many 7 = .ok (.iaload, 1) := by decide +kernel
theorem dX12_many_8 : decode cX12_many 8 = .ok (.aload_n 0, 1) := by decide +kernel
theorem dX12_many_9 : decode cX12_many 9 = .ok (.getfield 15, 3) := by decide +kernel
theorem dX12_many_12 : decode cX12_many 12 = .ok (.iload_n 1, 1) := by decide +kernel
theorem dX12_many_13 : decode cX12_many 13 = .ok (.iaload, 1) := by decide +kernel
theorem dX12_many_14 : decode cX12_many 14 = .ok (.isub, 1) := by decide +kernel
theorem dX12_many_15 : decode cX12_many 15 = .ok (.ireturn, 1) := by decide +kernel
theorem dX12_isOf_0 : decode cX12_isOf 0 = .ok (.iload_n 1, 1) := by decide +kernel
theorem dX12_isOf_1 : decode cX12_isOf 1 = .ok (.invokestatic 96, 3) := by decide +kernel
theorem dX12_isOf_4 : decode cX12_isOf 4 = .ok (.ifCond .eq 22, 3) := by decide +kernel
theorem dX12_isOf_7 : decode cX12_isOf 7 = .ok (.iload_n 2, 1) := by decide +kernel
theorem dX12_isOf_8 : decode cX12_isOf 8 = .ok (.iconst 0, 1) := by decide +kernel
theorem dX12_isOf_9 : decode cX12_isOf 9 = .ok (.aload_n 0, 1) := by decide +kernel
theorem dX12_isOf_10 : decode cX12_isOf 10 = .ok (.iload_n 1, 1) := by decide +kernel
theorem dX12_isOf_11 : decode cX12_isOf 11 = .ok (.invokevirtual 100, 3) := by decide +kernel
theorem dX12_isOf_14 : decode cX12_isOf 14 = .ok (.iconst 1, 1) := by decide +kernel
theorem dX12_isOf_15 : decode cX12_isOf 15 = .ok (.isub, 1) := by decide +kernel
theorem dX12_isOf_16 : decode cX12_isOf 16 = .ok (.invokestatic 92, 3) := by decide +kernel
theorem dX12_isOf_19 : decode cX12_isOf 19 = .ok (.ifCond .eq 7, 3) := by decide +kernel
theorem dX12_isOf_22 : decode cX12_isOf 22 = .ok (.iconst 1, 1) := by decide +kernel
theorem dX12_isOf_23 : decode cX12_isOf 23 = .ok (.goto 4, 3) := by decide +kernel
theorem dX12_isOf_26 : decode cX12_isOf 26 = .ok (.iconst 0, 1) := by decide +kernel
theorem dX12_isOf_27 : decode cX12_isOf 27 = .ok (.ireturn, 1) := by decide +kernel
theorem dX12_isVector_0 : decode cX12_isVector 0 = .ok (.iload_n 0, 1) := by decide +kernel
theorem dX12_isVector_1 : decode cX12_isVector 1 = .ok (.iconst 0, 1) := by decide +kernel
theorem dX12_isVector_2 : decode cX12_isVector 2 = .ok (.iconst 3, 1) := by decide +kernel
theorem dX12_isVector_3 : decode cX12_isVector 3 = .ok (.invokestatic 92, 3) := by decide +kernel
theorem dX12_isVector_6 : decode cX12_isVector 6 = .ok (.ireturn, 1) := by decide +kernel
theorem dX12_set_0 : decode cX12_set 0 = .ok (.iload_n 1, 1) := by decide +kernel
theorem dX12_set_1 : decode cX12_set 1 = .ok (.iconst 0, 1) := by decide +kernel
theorem dX12_set_2 : decode cX12_set 2 = .ok (.iconst 3, 1) := by decide +kernel
theorem dX12_set_3 : decode cX12_set 3 = .ok (.invokestatic 92, 3) := by decide +kernel
theorem dX12_set_6 : decode cX12_set 6 = .ok (.ifCond .ne 5, 3) := by decide +kernel
theorem dX12_set_9 : decode cX12_set 9 = .ok (.iconst (-1), 1) := by decide +kernel
theorem dX12_set_10 : decode cX12_set 10 = .ok (.ireturn, 1) := by decide +kernel
theorem dX12_set_11 : decode cX12_set 11 = .ok (.iload_n 2, 1) := by decide +kernel
theorem dX12_set_12 : decode cX12_set 12 = .ok (.iconst 0, 1) := by decide +kernel
theorem dX12_set_13 : decode cX12_set 13 = .ok (.iload_n 1, 1) := by decide +kernel
theorem dX12_set_14 : decode cX12_set 14 = .ok (.ifCond .ne 7, 3) := by decide +kernel
theorem dX12_set_17 : decode cX12_set 17 = .ok (.iconst 4, 1) := by decide +kernel
theorem dX12_set_18 : decode cX12_set 18 = .ok (.goto 5, 3) := by decide +kernel
theorem dX12_set_21 : decode cX12_set 21 = .ok (.bipush 100, 2) := by decide +kernel
theorem dX12_set_23 : decode cX12_set 23 = .ok (.invokestatic 92, 3) := by decide +kernel
theorem dX12_set_26 : decode cX12_set 26 = .ok (.ifCond .ne 6, 3) := by decide +kernel
theorem dX12_set_29 : decode cX12_set 29 = .ok (.bipush (-2), 2) := by decide +kernel
theorem dX12_set_31 : decode cX12_set 31 = .ok (.ireturn, 1) := by decide +kernel
theorem dX12_set_32 : decode cX12_set 32 = .ok (.aload_n 0, 1) := by decide +kernel
theorem dX12_set_33 : decode cX12_set 33 = .ok (.getfield 9, 3) := by decide +kernel
theorem dX12_set_36 : decode cX12_set 36 = .ok (.iload_n 1, 1) := by decide +kernel
theorem dX12_set_37 : decode cX12_set 37 = .ok (.iaload, 1) := by decide +kernel
theorem dX12_set_38 : decode cX12_set 38 = .ok (.istore_n 3, 1) := by decide +kernel
theorem dX12_set_39 : decode cX12_set 39 = .ok (.aload_n 0, 1) := by decide +kernel
theorem dX12_set_40 : decode cX12_set 40 = .ok (.getfield 9, 3) := by decide +kernel
theorem dX12_set_43 : decode cX12_set 43 = .ok (.iload_n 1, 1) := by decide +kernel
theorem dX12_set_44 : decode cX12_set 44 = .ok (.iload_n 2, 1) := by decide +kernel
theorem dX12_set_45 : decode cX12_set 45 = .ok (.iastore, 1) := by decide +kernel
theorem dX12_set_46 : decode cX12_set 46 = .ok (.iload_n 3, 1) := by decide +kernel
theorem dX12_set_47 : decode cX12_set 47 = .ok (.ireturn, 1) := by decide +kernel
theorem dX12_of_0 : decode cX12_of 0 = .ok (.iload_n 1, 1) := by decide +kernel
theorem dX12_of_1 : decode cX12_of 1 = .ok (.iconst 0, 1) := by decide +kernel
theorem dX12_of_2 : decode cX12_of 2 = .ok (.iconst 3, 1) := by decide +kernel
theorem dX12_of_3 : decode cX12_of 3 = .ok (.invokestatic 92, 3) := by decide +kernel
theorem dX12_of_6 : decode cX12_of 6 = .ok (.ifCond .eq 12, 3) := by decide +kernel
theorem dX12_of_9 : decode cX12_of 9 = .ok (.aload_n 0, 1) := by decide +kernel
theorem dX12_of_10 : decode cX12_of 10 = .ok (.getfield 9, 3) := by decide +kernel
theorem dX12_of_13 : decode cX12_of 13 = .ok (.iload_n 1, 1) := by decide +kernel
theorem dX12_of_14 : decode cX12_of 14 = .ok (.iaload, 1) := by decide +kernel
theorem dX12_of_15 : decode cX12_of 15 = .ok (.goto 4, 3) := by decide +kernel
theorem dX12_of_18 : decode cX12_of 18 = .ok (.iconst (-1), 1) := by decide +kernel
theorem dX12_of_19 : decode cX12_of 19 = .ok (.ireturn, 1) := by decide +kernel
theorem dX12_slope_0 : decode cX12_slope 0 = .ok (.aload_n 0, 1) := by decide +kernel
theorem dX12_slope_1 : decode cX12_slope 1 = .ok (.getfield 9, 3) := by decide +kernel
theorem dX12_slope_4 : decode cX12_slope 4 = .ok (.iconst 0, 1) := by decide +kernel
theorem dX12_slope_5 : decode cX12_slope 5 = .ok (.iaload, 1) := by decide +kernel
theorem dX12_slope_6 : decode cX12_slope 6 = .ok (.iconst 3, 1) := by decide +kernel
theorem dX12_slope_7 : decode cX12_slope 7 = .ok (.if_icmp .lt 7, 3) := by decide +kernel
theorem dX12_slope_10 : decode cX12_slope 10 = .ok (.iconst 0, 1) := by decide +kernel
theorem dX12_slope_11 : decode cX12_slope 11 = .ok (.goto 28, 3) := by decide +kernel
theorem dX12_slope_14 : decode cX12_slope 14 = .ok (.aload_n 0, 1) := by decide +kernel
theorem dX12_slope_15 : decode cX12_slope 15 = .ok (.getfield 9, 3) := by decide +kernel
theorem dX12_slope_18 : decode cX12_slope 18 = .ok (.iconst 0, 1) := by decide +kernel
theorem dX12_slope_19 : decode cX12_slope 19 = .ok (.iaload, 1) := by decide +kernel
theorem dX12_slope_20 : decode cX12_slope 20 = .ok (.iconst 2, 1) := by decide +kernel
theorem dX12_slope_21 : decode cX12_slope 21 = .ok (.if_icmp .ne 12, 3) := by decide +kernel
theorem dX12_slope_24 : decode cX12_slope 24 = .ok (.iload_n 2, 1) := by decide +kernel
theorem dX12_slope_25 : decode cX12_slope 25 = .ok (.iload_n 1, 1) := by decide +kernel
theorem dX12_slope_26 : decode cX12_slope 26 = .ok (.isub, 1) := by decide +kernel
theorem dX12_slope_27 : decode cX12_slope 27 = .ok (.invokestatic 104, 3) := by decide +kernel
theorem dX12_slope_30 : decode cX12_slope 30 = .ok (.goto 9, 3) := by decide +kernel
theorem dX12_slope_33 : decode cX12_slope 33 = .ok (.iload_n 1, 1) := by decide +kernel
theorem dX12_slope_34 : decode cX12_slope 34 = .ok (.iload_n 2, 1) := by decide +kernel
theorem dX12_slope_35 : decode cX12_slope 35 = .ok (.isub, 1) := by decide +kernel
theorem dX12_slope_36 : decode cX12_slope 36 = .ok (.invokestatic 104, 3) := by decide +kernel
theorem dX12_slope_39 : decode cX12_slope 39 = .ok (.ireturn, 1) := by decide +kernel
theorem dX12_centre_0 : decode cX12_centre 0 = .ok (.iload_n 1, 1) := by decide +kernel
theorem dX12_centre_1 : decode cX12_centre 1 = .ok (.iload_n 1, 1) := by decide +kernel
theorem dX12_centre_2 : decode cX12_centre 2 = .ok (.imul, 1) := by decide +kernel
theorem dX12_centre_3 : decode cX12_centre 3 = .ok (.iload_n 1, 1) := by decide +kernel
theorem dX12_centre_4 : decode cX12_centre 4 = .ok (.imul, 1) := by decide +kernel
theorem dX12_centre_5 : decode cX12_centre 5 = .ok (.iload_n 1, 1) := by decide +kernel
theorem dX12_centre_6 : decode cX12_centre 6 = .ok (.isub, 1) := by decide +kernel
theorem dX12_centre_7 : decode cX12_centre 7 = .ok (.invokestatic 104, 3) := by decide +kernel
theorem dX12_centre_10 : decode cX12_centre 10 = .ok (.bipush 59, 2) := by decide +kernel
theorem dX12_centre_12 : decode cX12_centre 12 = .ok (.imul, 1) := by decide +kernel
theorem dX12_centre_13 : decode cX12_centre 13 = .ok (.invokestatic 104, 3) := by decide +kernel
theorem dX12_centre_16 : decode cX12_centre 16 = .ok (.aload_n 0, 1) := by decide +kernel
theorem dX12_centre_17 : decode cX12_centre 17 = .ok (.getfield 9, 3) := by decide +kernel
theorem dX12_centre_20 : decode cX12_centre 20 = .ok (.iconst 1, 1) := by decide +kernel
theorem dX12_centre_21 : decode cX12_centre 21 = .ok (.iaload, 1) := by decide +kernel
theorem dX12_centre_22 : decode cX12_centre 22 = .ok (.imul, 1) := by decide +kernel
theorem dX12_centre_23 : decode cX12_centre 23 = .ok (.istore_n 2, 1) := by decide +kernel
theorem dX12_centre_24 : decode cX12_centre 24 = .ok (.iload_n 1, 1) := by decide +kernel
theorem dX12_centre_25 : decode cX12_centre 25 = .ok (.invokestatic 104, 3) := by decide +kernel
theorem dX12_centre_28 : decode cX12_centre 28 = .ok (.aload_n 0, 1) := by decide +kernel
theorem dX12_centre_29 : decode cX12_centre 29 = .ok (.getfield 9, 3) := by decide +kernel
theorem dX12_centre_32 : decode cX12_centre 32 = .ok (.iconst 3, 1) := by decide +kernel
theorem dX12_centre_33 : decode cX12_centre 33 = .ok (.iaload, 1) := by decide +kernel
theorem dX12_centre_34 : decode cX12_centre 34 = .ok (.imul, 1) := by decide +kernel
theorem dX12_centre_35 : decode cX12_centre 35 = .ok (.istore_n 3, 1) := by decide +kernel
theorem dX12_centre_36 : decode cX12_centre 36 = .ok (.aload_n 0, 1) := by decide +kernel
theorem dX12_centre_37 : decode cX12_centre 37 = .ok (.getfield 9, 3) := by decide +kernel
theorem dX12_centre_40 : decode cX12_centre 40 = .ok (.iconst 0, 1) := by decide +kernel
theorem dX12_centre_41 : decode cX12_centre 41 = .ok (.iaload, 1) := by decide +kernel
theorem dX12_centre_42 : decode cX12_centre 42 = .ok (.tableswitch 54 1 4 #[30, 35, 42, 47], 30) := by decide +kernel
theorem dX12_centre_72 : decode cX12_centre 72 = .ok (.iload_n 2, 1) := by decide +kernel
theorem dX12_centre_73 : decode cX12_centre 73 = .ok (.invokestatic 104, 3) := by decide +kernel
theorem dX12_centre_76 : decode cX12_centre 76 = .ok (.ireturn, 1) := by decide +kernel
theorem dX12_centre_77 : decode cX12_centre 77 = .ok (.iload_n 2, 1) := by decide +kernel
theorem dX12_centre_78 : decode cX12_centre 78 = .ok (.iload_n 3, 1) := by decide +kernel
theorem dX12_centre_79 : decode cX12_centre 79 = .ok (.iadd, 1) := by decide +kernel
theorem dX12_centre_80 : decode cX12_centre 80 = .ok (.invokestatic 104, 3) := by decide +kernel
theorem dX12_centre_83 : decode cX12_centre 83 = .ok (.ireturn, 1) := by decide +kernel
theorem dX12_centre_84 : decode cX12_centre 84 = .ok (.iload_n 3, 1) := by decide +kernel
theorem dX12_centre_85 : decode cX12_centre 85 = .ok (.invokestatic 104, 3) := by decide +kernel
theorem dX12_centre_88 : decode cX12_centre 88 = .ok (.ireturn, 1) := by decide +kernel
theorem dX12_centre_89 : decode cX12_centre 89 = .ok (.iconst 2, 1) := by decide +kernel
theorem dX12_centre_90 : decode cX12_centre 90 = .ok (.iload_n 3, 1) := by decide +kernel
theorem dX12_centre_91 : decode cX12_centre 91 = .ok (.imul, 1) := by decide +kernel
theorem dX12_centre_92 : decode cX12_centre 92 = .ok (.invokestatic 104, 3) := by decide +kernel
theorem dX12_centre_95 : decode cX12_centre 95 = .ok (.ireturn, 1) := by decide +kernel
theorem dX12_centre_96 : decode cX12_centre 96 = .ok (.iconst 0, 1) := by decide +kernel
theorem dX12_centre_97 : decode cX12_centre 97 = .ok (.ireturn, 1) := by decide +kernel
theorem dX12_bracket_0 : decode cX12_bracket 0 = .ok (.iload_n 3, 1) := by decide +kernel
theorem dX12_bracket_1 : decode cX12_bracket 1 = .ok (.iconst 0, 1) := by decide +kernel
theorem dX12_bracket_2 : decode cX12_bracket 2 = .ok (.iconst 1, 1) := by decide +kernel
theorem dX12_bracket_3 : decode cX12_bracket 3 = .ok (.invokestatic 92, 3) := by decide +kernel
theorem dX12_bracket_6 : decode cX12_bracket 6 = .ok (.ifCond .ne 5, 3) := by decide +kernel
theorem dX12_bracket_9 : decode cX12_bracket 9 = .ok (.iconst (-1), 1) := by decide +kernel
theorem dX12_bracket_10 : decode cX12_bracket 10 = .ok (.ireturn, 1) := by decide +kernel
theorem dX12_bracket_11 : decode cX12_bracket 11 = .ok (.iload_n 1, 1) := by decide +kernel
theorem dX12_bracket_12 : decode cX12_bracket 12 = .ok (.invokestatic 107, 3) := by decide +kernel
theorem dX12_bracket_15 : decode cX12_bracket 15 = .ok (.ifCond .eq 10, 3) := by decide +kernel
theorem dX12_bracket_18 : decode cX12_bracket 18 = .ok (.iload_n 2, 1) := by decide +kernel
theorem dX12_bracket_19 : decode cX12_bracket 19 = .ok (.invokestatic 107, 3) := by decide +kernel
theorem dX12_bracket_22 : decode cX12_bracket 22 = .ok (.ifCond .ne 6, 3) := by decide +kernel
theorem dX12_bracket_25 : decode cX12_bracket 25 = .ok (.bipush (-2), 2) := by decide +kernel
theorem dX12_bracket_27 : decode cX12_bracket 27 = .ok (.ireturn, 1) := by decide +kernel
theorem dX12_bracket_28 : decode cX12_bracket 28 = .ok (.iload_n 3, 1) := by decide +kernel
theorem dX12_bracket_29 : decode cX12_bracket 29 = .ok (.ifCond .ne 12, 3) := by decide +kernel
theorem dX12_bracket_32 : decode cX12_bracket 32 = .ok (.aload_n 0, 1) := by decide +kernel
theorem dX12_bracket_33 : decode cX12_bracket 33 = .ok (.iload_n 1, 1) := by decide +kernel
theorem dX12_bracket_34 : decode cX12_bracket 34 = .ok (.iload_n 2, 1) := by decide +kernel
theorem dX12_bracket_35 : decode cX12_bracket 35 = .ok (.invokevirtual 110, 3) := by decide +kernel
theorem dX12_bracket_38 : decode cX12_bracket 38 = .ok (.goto 8, 3) := by decide +kernel
theorem dX12_bracket_41 : decode cX12_bracket 41 = .ok (.aload_n 0, 1) := by decide +kernel
theorem dX12_bracket_42 : decode cX12_bracket 42 = .ok (.iload_n 1, 1) := by decide +kernel
theorem dX12_bracket_43 : decode cX12_bracket 43 = .ok (.invokevirtual 113, 3) := by decide +kernel
theorem dX12_bracket_46 : decode cX12_bracket 46 = .ok (.ireturn, 1) := by decide +kernel
theorem dX12_row_0 : decode cX12_row 0 = .ok (.bipush 7, 2) := by decide +kernel
theorem dX12_row_2 : decode cX12_row 2 = .ok (.bipush 19, 2) := by decide +kernel
theorem dX12_row_4 : decode cX12_row 4 = .ok (.iload_n 0, 1) := by decide +kernel
theorem dX12_row_5 : decode cX12_row 5 = .ok (.iconst 5, 1) := by decide +kernel
theorem dX12_row_6 : decode cX12_row 6 = .ok (.iadd, 1) := by decide +kernel
theorem dX12_row_7 : decode cX12_row 7 = .ok (.imul, 1) := by decide +kernel
theorem dX12_row_8 : decode cX12_row 8 = .ok (.iload_n 1, 1) := by decide +kernel
theorem dX12_row_9 : decode cX12_row 9 = .ok (.iadd, 1) := by decide +kernel
theorem dX12_row_10 : decode cX12_row 10 = .ok (.imul, 1) := by decide +kernel
theorem dX12_row_11 : decode cX12_row 11 = .ok (.ireturn, 1) := by decide +kernel
theorem dX12_placeOf_0 : decode cX12_placeOf 0 = .ok (.iconst 0, 1) := by decide +kernel
theorem dX12_placeOf_1 : decode cX12_placeOf 1 = .ok (.istore 4, 2) := by decide +kernel
theorem dX12_placeOf_3 : decode cX12_placeOf 3 = .ok (.iconst 0, 1) := by decide +kernel
theorem dX12_placeOf_4 : decode cX12_placeOf 4 = .ok (.istore 5, 2) := by decide +kernel
theorem dX12_placeOf_6 : decode cX12_placeOf 6 = .ok (.iload 5, 2) := by decide +kernel
theorem dX12_placeOf_8 : decode cX12_placeOf 8 = .ok (.bipush 19, 2) := by decide +kernel
theorem dX12_placeOf_10 : decode cX12_placeOf 10 = .ok (.if_icmp .ge 145, 3) := by decide +kernel
theorem dX12_placeOf_13 : decode cX12_placeOf 13 = .ok (.aload_n 0, 1) := by decide +kernel
theorem dX12_placeOf_14 : decode cX12_placeOf 14 = .ok (.getfield 21, 3) := by decide +kernel
theorem dX12_placeOf_17 : decode cX12_placeOf 17 = .ok (.iload 5, 2) := by decide +kernel
theorem dX12_placeOf_19 : decode cX12_placeOf 19 = .ok (.iaload, 1) := by decide +kernel
theorem dX12_placeOf_20 : decode cX12_placeOf 20 = .ok (.aload_n 0, 1) := by decide +kernel
theorem dX12_placeOf_21 : decode cX12_placeOf 21 = .ok (.getfield 21, 3) := by decide +kernel
theorem dX12_placeOf_24 : decode cX12_placeOf 24 = .ok (.iload_n 2, 1) := by decide +kernel
theorem dX12_placeOf_25 : decode cX12_placeOf 25 = .ok (.iaload, 1) := by decide +kernel
theorem dX12_placeOf_26 : decode cX12_placeOf 26 = .ok (.iload_n 3, 1) := by decide +kernel
theorem dX12_placeOf_27 : decode cX12_placeOf 27 = .ok (.isub, 1) := by decide +kernel
theorem dX12_placeOf_28 : decode cX12_placeOf 28 = .ok (.iload_n 1, 1) := by decide +kernel
theorem dX12_placeOf_29 : decode cX12_placeOf 29 = .ok (.ifCond .le 7, 3) := by decide +kernel
theorem dX12_placeOf_32 : decode cX12_placeOf 32 = .ok (.iconst 1, 1) := by decide +kernel
theorem dX12_placeOf_33 : decode cX12_placeOf 33 = .ok (.goto 4, 3) := by decide +kernel
theorem dX12_placeOf_36 : decode cX12_placeOf 36 = .ok (.iconst 0, 1) := by decide +kernel
theorem dX12_placeOf_37 : decode cX12_placeOf 37 = .ok (.iadd, 1) := by decide +kernel
theorem dX12_placeOf_38 : decode cX12_placeOf 38 = .ok (.if_icmp .ne 24, 3) := by decide +kernel
theorem dX12_placeOf_41 : decode cX12_placeOf 41 = .ok (.iload_n 1, 1) := by decide +kernel
theorem dX12_placeOf_42 : decode cX12_placeOf 42 = .ok (.ifCond .eq 16, 3) := by decide +kernel
theorem dX12_placeOf_45 : decode cX12_placeOf 45 = .ok (.aload_n 0, 1) := by decide +kernel
theorem dX12_placeOf_46 : decode cX12_placeOf 46 = .ok (.getfield 24, 3) := by decide +kernel
theorem dX12_placeOf_49 : decode cX12_placeOf 49 = .ok (.iconst 5, 1) := by decide +kernel
theorem dX12_placeOf_50 : decode cX12_placeOf 50 = .ok (.iload 5, 2) := by decide +kernel
theorem dX12_placeOf_52 : decode cX12_placeOf 52 = .ok (.imul, 1) := by decide +kernel
theorem dX12_placeOf_53 : decode cX12_placeOf 53 = .ok (.iaload, 1) := by decide +kernel
theorem dX12_placeOf_54 : decode cX12_placeOf 54 = .ok (.iload_n 1, 1) := by decide +kernel
theorem dX12_placeOf_55 : decode cX12_placeOf 55 = .ok (.if_icmp .ne 7, 3) := by decide +kernel
theorem dX12_placeOf_58 : decode cX12_placeOf 58 = .ok (.iconst 1, 1) := by decide +kernel
theorem dX12_placeOf_59 : decode cX12_placeOf 59 = .ok (.goto 4, 3) := by decide +kernel
theorem dX12_placeOf_62 : decode cX12_placeOf 62 = .ok (.iconst 0, 1) := by decide +kernel
theorem dX12_placeOf_63 : decode cX12_placeOf 63 = .ok (.istore 6, 2) := by decide +kernel
theorem dX12_placeOf_65 : decode cX12_placeOf 65 = .ok (.iload_n 3, 1) := by decide +kernel
theorem dX12_placeOf_66 : decode cX12_placeOf 66 = .ok (.istore 7, 2) := by decide +kernel
theorem dX12_placeOf_68 : decode cX12_placeOf 68 = .ok (.iload 7, 2) := by decide +kernel
theorem dX12_placeOf_70 : decode cX12_placeOf 70 = .ok (.aload_n 0, 1) := by decide +kernel
theorem dX12_placeOf_71 : decode cX12_placeOf 71 = .ok (.getfield 21, 3) := by decide +kernel
theorem dX12_placeOf_74 : decode cX12_placeOf 74 = .ok (.iload_n 2, 1) := by decide +kernel
theorem dX12_placeOf_75 : decode cX12_placeOf 75 = .ok (.iaload, 1) := by decide +kernel
theorem dX12_placeOf_76 : decode cX12_placeOf 76 = .ok (.if_icmp .ge 59, 3) := by decide +kernel
theorem dX12_placeOf_79 : decode cX12_placeOf 79 = .ok (.iload 6, 2) := by decide +kernel
theorem dX12_placeOf_81 : decode cX12_placeOf 81 = .ok (.ifCond .eq 54, 3) := by decide +kernel
theorem dX12_placeOf_84 : decode cX12_placeOf 84 = .ok (.aload_n 0, 1) := by decide +kernel
theorem dX12_placeOf_85 : decode cX12_placeOf 85 = .ok (.getfield 24, 3) := by decide +kernel
theorem dX12_placeOf_88 : decode cX12_placeOf 88 = .ok (.iconst 5, 1) := by decide +kernel
theorem dX12_placeOf_89 : decode cX12_placeOf 89 = .ok (.iload 5, 2) := by decide +kernel
theorem dX12_placeOf_91 : decode cX12_placeOf 91 = .ok (.imul, 1) := by decide +kernel
theorem dX12_placeOf_92 : decode cX12_placeOf 92 = .ok (.iload 7, 2) := by decide +kernel
theorem dX12_placeOf_94 : decode cX12_placeOf 94 = .ok (.iadd, 1) := by decide +kernel
theorem dX12_placeOf_95 : decode cX12_placeOf 95 = .ok (.iload_n 3, 1) := by decide +kernel
theorem dX12_placeOf_96 : decode cX12_placeOf 96 = .ok (.isub, 1) := by decide +kernel
theorem dX12_placeOf_97 : decode cX12_placeOf 97 = .ok (.iload_n 1, 1) := by decide +kernel
theorem dX12_placeOf_98 : decode cX12_placeOf 98 = .ok (.ifCond .le 7, 3) := by decide +kernel
theorem dX12_placeOf_101 : decode cX12_placeOf 101 = .ok (.iconst 1, 1) := by decide +kernel
theorem dX12_placeOf_102 : decode cX12_placeOf 102 = .ok (.goto 4, 3) := by decide +kernel
theorem dX12_placeOf_105 : decode cX12_placeOf 105 = .ok (.iconst 0, 1) := by decide +kernel
theorem dX12_placeOf_106 : decode cX12_placeOf 106 = .ok (.iadd, 1) := by decide +kernel
theorem dX12_placeOf_107 : decode cX12_placeOf 107 = .ok (.iaload, 1) := by decide +kernel
theorem dX12_placeOf_108 : decode cX12_placeOf 108 = .ok (.aload_n 0, 1) := by decide +kernel
theorem dX12_placeOf_109 : decode cX12_placeOf 109 = .ok (.getfield 24, 3) := by decide +kernel
theorem dX12_placeOf_112 : decode cX12_placeOf 112 = .ok (.iconst 5, 1) := by decide +kernel
theorem dX12_placeOf_113 : decode cX12_placeOf 113 = .ok (.iload_n 2, 1) := by decide +kernel
theorem dX12_placeOf_114 : decode cX12_placeOf 114 = .ok (.imul, 1) := by decide +kernel
theorem dX12_placeOf_115 : decode cX12_placeOf 115 = .ok (.iload 7, 2) := by decide +kernel
theorem dX12_placeOf_117 : decode cX12_placeOf 117 = .ok (.iadd, 1) := by decide +kernel
theorem dX12_placeOf_118 : decode cX12_placeOf 118 = .ok (.iaload, 1) := by decide +kernel
theorem dX12_placeOf_119 : decode cX12_placeOf 119 = .ok (.if_icmp .ne 7, 3) := by decide +kernel
theorem dX12_placeOf_122 : decode cX12_placeOf 122 = .ok (.iconst 1, 1) := by decide +kernel
theorem dX12_placeOf_123 : decode cX12_placeOf 123 = .ok (.goto 4, 3) := by decide +kernel
theorem dX12_placeOf_126 : decode cX12_placeOf 126 = .ok (.iconst 0, 1) := by decide +kernel
theorem dX12_placeOf_127 : decode cX12_placeOf 127 = .ok (.istore 6, 2) := by decide +kernel
theorem dX12_placeOf_129 : decode cX12_placeOf 129 = .ok (.iinc 7 1, 3) := by decide +kernel
theorem dX12_placeOf_132 : decode cX12_placeOf 132 = .ok (.goto (-64), 3) := by decide +kernel
theorem dX12_placeOf_135 : decode cX12_placeOf 135 = .ok (.iload 6, 2) := by decide +kernel
theorem dX12_placeOf_137 : decode cX12_placeOf 137 = .ok (.ifCond .eq 8, 3) := by decide +kernel
theorem dX12_placeOf_140 : decode cX12_placeOf 140 = .ok (.iload 5, 2) := by decide +kernel
theorem dX12_placeOf_142 : decode cX12_placeOf 142 = .ok (.goto 5, 3) := by decide +kernel
theorem dX12_placeOf_145 : decode cX12_placeOf 145 = .ok (.iload 4, 2) := by decide +kernel
theorem dX12_placeOf_147 : decode cX12_placeOf 147 = .ok (.istore 4, 2) := by decide +kernel
theorem dX12_placeOf_149 : decode cX12_placeOf 149 = .ok (.iinc 5 1, 3) := by decide +kernel
theorem dX12_placeOf_152 : decode cX12_placeOf 152 = .ok (.goto (-146), 3) := by decide +kernel
theorem dX12_placeOf_155 : decode cX12_placeOf 155 = .ok (.iload 4, 2) := by decide +kernel
theorem dX12_placeOf_157 : decode cX12_placeOf 157 = .ok (.ireturn, 1) := by decide +kernel
theorem dX12_addsTo_0 : decode cX12_addsTo 0 = .ok (.iconst 0, 1) := by decide +kernel
theorem dX12_addsTo_1 : decode cX12_addsTo 1 = .ok (.istore 5, 2) := by decide +kernel
theorem dX12_addsTo_3 : decode cX12_addsTo 3 = .ok (.iload 5, 2) := by decide +kernel
theorem dX12_addsTo_5 : decode cX12_addsTo 5 = .ok (.iload 4, 2) := by decide +kernel
theorem dX12_addsTo_7 : decode cX12_addsTo 7 = .ok (.if_icmp .ge 42, 3) := by decide +kernel
theorem dX12_addsTo_10 : decode cX12_addsTo 10 = .ok (.aload_n 0, 1) := by decide +kernel
theorem dX12_addsTo_11 : decode cX12_addsTo 11 = .ok (.getfield 52, 3) := by decide +kernel
theorem dX12_addsTo_14 : decode cX12_addsTo 14 = .ok (.iload_n 1, 1) := by decide +kernel
theorem dX12_addsTo_15 : decode cX12_addsTo 15 = .ok (.iload 5, 2) := by decide +kernel
theorem dX12_addsTo_17 : decode cX12_addsTo 17 = .ok (.iadd, 1) := by decide +kernel
theorem dX12_addsTo_18 : decode cX12_addsTo 18 = .ok (.aload_n 0, 1) := by decide +kernel
theorem dX12_addsTo_19 : decode cX12_addsTo 19 = .ok (.getfield 52, 3) := by decide +kernel
theorem dX12_addsTo_22 : decode cX12_addsTo 22 = .ok (.iload_n 1, 1) := by decide +kernel
theorem dX12_addsTo_23 : decode cX12_addsTo 23 = .ok (.iload 5, 2) := by decide +kernel
theorem dX12_addsTo_25 : decode cX12_addsTo 25 = .ok (.iadd, 1) := by decide +kernel
theorem dX12_addsTo_26 : decode cX12_addsTo 26 = .ok (.iaload, 1) := by decide +kernel
theorem dX12_addsTo_27 : decode cX12_addsTo 27 = .ok (.aload_n 0, 1) := by decide +kernel
theorem dX12_addsTo_28 : decode cX12_addsTo 28 = .ok (.getfield 52, 3) := by decide +kernel
theorem dX12_addsTo_31 : decode cX12_addsTo 31 = .ok (.iload_n 2, 1) := by decide +kernel
theorem dX12_addsTo_32 : decode cX12_addsTo 32 = .ok (.iload 5, 2) := by decide +kernel
theorem dX12_addsTo_34 : decode cX12_addsTo 34 = .ok (.iadd, 1) := by decide +kernel
theorem dX12_addsTo_35 : decode cX12_addsTo 35 = .ok (.iaload, 1) := by decide +kernel
theorem dX12_addsTo_36 : decode cX12_addsTo 36 = .ok (.iload_n 3, 1) := by decide +kernel
theorem dX12_addsTo_37 : decode cX12_addsTo 37 = .ok (.imul, 1) := by decide +kernel
theorem dX12_addsTo_38 : decode cX12_addsTo 38 = .ok (.iadd, 1) := by decide +kernel
theorem dX12_addsTo_39 : decode cX12_addsTo 39 = .ok (.bipush 101, 2) := by decide +kernel
theorem dX12_addsTo_41 : decode cX12_addsTo 41 = .ok (.irem, 1) := by decide +kernel
theorem dX12_addsTo_42 : decode cX12_addsTo 42 = .ok (.iastore, 1) := by decide +kernel
theorem dX12_addsTo_43 : decode cX12_addsTo 43 = .ok (.iinc 5 1, 3) := by decide +kernel
theorem dX12_addsTo_46 : decode cX12_addsTo 46 = .ok (.goto (-43), 3) := by decide +kernel
theorem dX12_addsTo_49 : decode cX12_addsTo 49 = .ok (.return_, 1) := by decide +kernel
theorem dX12_lays_0 : decode cX12_lays 0 = .ok (.aload_n 0, 1) := by decide +kernel
theorem dX12_lays_1 : decode cX12_lays 1 = .ok (.getfield 18, 3) := by decide +kernel
theorem dX12_lays_4 : decode cX12_lays 4 = .ok (.iload_n 2, 1) := by decide +kernel
theorem dX12_lays_5 : decode cX12_lays 5 = .ok (.iaload, 1) := by decide +kernel
theorem dX12_lays_6 : decode cX12_lays 6 = .ok (.istore_n 3, 1) := by decide +kernel
theorem dX12_lays_7 : decode cX12_lays 7 = .ok (.iload_n 1, 1) := by decide +kernel
theorem dX12_lays_8 : decode cX12_lays 8 = .ok (.iload_n 2, 1) := by decide +kernel
theorem dX12_lays_9 : decode cX12_lays 9 = .ok (.invokestatic 116, 3) := by decide +kernel
theorem dX12_lays_12 : decode cX12_lays 12 = .ok (.istore 4, 2) := by decide +kernel
theorem dX12_lays_14 : decode cX12_lays 14 = .ok (.iconst 0, 1) := by decide +kernel
theorem dX12_lays_15 : decode cX12_lays 15 = .ok (.istore 5, 2) := by decide +kernel
theorem dX12_lays_17 : decode cX12_lays 17 = .ok (.iload 5, 2) := by decide +kernel
theorem dX12_lays_19 : decode cX12_lays 19 = .ok (.bipush 7, 2) := by decide +kernel
theorem dX12_lays_21 : decode cX12_lays 21 = .ok (.if_icmp .ge 20, 3) := by decide +kernel
theorem dX12_lays_24 : decode cX12_lays 24 = .ok (.aload_n 0, 1) := by decide +kernel
theorem dX12_lays_25 : decode cX12_lays 25 = .ok (.getfield 52, 3) := by decide +kernel
theorem dX12_lays_28 : decode cX12_lays 28 = .ok (.iload 4, 2) := by decide +kernel
theorem dX12_lays_30 : decode cX12_lays 30 = .ok (.iload 5, 2) := by decide +kernel
theorem dX12_lays_32 : decode cX12_lays 32 = .ok (.iadd, 1) := by decide +kernel
theorem dX12_lays_33 : decode cX12_lays 33 = .ok (.iconst 0, 1) := by decide +kernel
theorem dX12_lays_34 : decode cX12_lays 34 = .ok (.iastore, 1) := by decide +kernel
theorem dX12_lays_35 : decode cX12_lays 35 = .ok (.iinc 5 1, 3) := by decide +kernel
theorem dX12_lays_38 : decode cX12_lays 38 = .ok (.goto (-21), 3) := by decide +kernel
theorem dX12_lays_41 : decode cX12_lays 41 = .ok (.iload_n 3, 1) := by decide +kernel
theorem dX12_lays_42 : decode cX12_lays 42 = .ok (.iload_n 1, 1) := by decide +kernel
theorem dX12_lays_43 : decode cX12_lays 43 = .ok (.isub, 1) := by decide +kernel
theorem dX12_lays_44 : decode cX12_lays 44 = .ok (.istore 5, 2) := by decide +kernel
theorem dX12_lays_46 : decode cX12_lays 46 = .ok (.iload 5, 2) := by decide +kernel
theorem dX12_lays_48 : decode cX12_lays 48 = .ok (.invokestatic 96, 3) := by decide +kernel
theorem dX12_lays_51 : decode cX12_lays 51 = .ok (.ifCond .ne 4, 3) := by decide +kernel
theorem dX12_lays_54 : decode cX12_lays 54 = .ok (.return_, 1) := by decide +kernel
theorem dX12_lays_55 : decode cX12_lays 55 = .ok (.aload_n 0, 1) := by decide +kernel
theorem dX12_lays_56 : decode cX12_lays 56 = .ok (.getfield 15, 3) := by decide +kernel
theorem dX12_lays_59 : decode cX12_lays 59 = .ok (.iload 5, 2) := by decide +kernel
theorem dX12_lays_61 : decode cX12_lays 61 = .ok (.iaload, 1) := by decide +kernel
theorem dX12_lays_62 : decode cX12_lays 62 = .ok (.istore 6, 2) := by decide +kernel
theorem dX12_lays_64 : decode cX12_lays 64 = .ok (.aload_n 0, 1) := by decide +kernel
theorem dX12_lays_65 : decode cX12_lays 65 = .ok (.getfield 21, 3) := by decide +kernel
theorem dX12_lays_68 : decode cX12_lays 68 = .ok (.iload_n 2, 1) := by decide +kernel
theorem dX12_lays_69 : decode cX12_lays 69 = .ok (.iaload, 1) := by decide +kernel
theorem dX12_lays_70 : decode cX12_lays 70 = .ok (.ifCond .ne 48, 3) := by decide +kernel
theorem dX12_lays_73 : decode cX12_lays 73 = .ok (.iload_n 1, 1) := by decide +kernel
theorem dX12_lays_74 : decode cX12_lays 74 = .ok (.ifCond .ne 19, 3) := by decide +kernel
theorem dX12_lays_77 : decode cX12_lays 77 = .ok (.aload_n 0, 1) := by decide +kernel
theorem dX12_lays_78 : decode cX12_lays 78 = .ok (.getfield 52, 3) := by decide +kernel
theorem dX12_lays_81 : decode cX12_lays 81 = .ok (.iload 4, 2) := by decide +kernel
theorem dX12_lays_83 : decode cX12_lays 83 = .ok (.aload_n 0, 1) := by decide +kernel
theorem dX12_lays_84 : decode cX12_lays 84 = .ok (.getfield 9, 3) := by decide +kernel
theorem dX12_lays_87 : decode cX12_lays 87 = .ok (.iconst 2, 1) := by decide +kernel
theorem dX12_lays_88 : decode cX12_lays 88 = .ok (.iaload, 1) := by decide +kernel
theorem dX12_lays_89 : decode cX12_lays 89 = .ok (.iastore, 1) := by decide +kernel
theorem dX12_lays_90 : decode cX12_lays 90 = .ok (.goto 27, 3) := by decide +kernel
theorem dX12_lays_93 : decode cX12_lays 93 = .ok (.iload_n 1, 1) := by decide +kernel
theorem dX12_lays_94 : decode cX12_lays 94 = .ok (.ifCond .ge 23, 3) := by decide +kernel
theorem dX12_lays_97 : decode cX12_lays 97 = .ok (.aload_n 0, 1) := by decide +kernel
theorem dX12_lays_98 : decode cX12_lays 98 = .ok (.getfield 52, 3) := by decide +kernel
theorem dX12_lays_101 : decode cX12_lays 101 = .ok (.iload 4, 2) := by decide +kernel
theorem dX12_lays_103 : decode cX12_lays 103 = .ok (.aload_n 0, 1) := by decide +kernel
theorem dX12_lays_104 : decode cX12_lays 104 = .ok (.iload_n 1, 1) := by decide +kernel
theorem dX12_lays_105 : decode cX12_lays 105 = .ok (.ineg, 1) := by decide +kernel
theorem dX12_lays_106 : decode cX12_lays 106 = .ok (.iload_n 2, 1) := by decide +kernel
theorem dX12_lays_107 : decode cX12_lays 107 = .ok (.iconst 0, 1) := by decide +kernel
theorem dX12_lays_108 : decode cX12_lays 108 = .ok (.invokevirtual 119, 3) := by decide +kernel
theorem dX12_lays_111 : decode cX12_lays 111 = .ok (.iadd, 1) := by decide +kernel
theorem dX12_lays_112 : decode cX12_lays 112 = .ok (.iload 6, 2) := by decide +kernel
theorem dX12_lays_114 : decode cX12_lays 114 = .ok (.isub, 1) := by decide +kernel
theorem dX12_lays_115 : decode cX12_lays 115 = .ok (.iconst 1, 1) := by decide +kernel
theorem dX12_lays_116 : decode cX12_lays 116 = .ok (.iastore, 1) := by decide +kernel
theorem dX12_lays_117 : decode cX12_lays 117 = .ok (.return_, 1) := by decide +kernel
theorem dX12_lays_118 : decode cX12_lays 118 = .ok (.aload_n 0, 1) := by decide +kernel
theorem dX12_lays_119 : decode cX12_lays 119 = .ok (.getfield 24, 3) := by decide +kernel
theorem dX12_lays_122 : decode cX12_lays 122 = .ok (.iconst 5, 1) := by decide +kernel
theorem dX12_lays_123 : decode cX12_lays 123 = .ok (.iload_n 2, 1) := by decide +kernel
theorem dX12_lays_124 : decode cX12_lays 124 = .ok (.imul, 1) := by decide +kernel
theorem dX12_lays_125 : decode cX12_lays 125 = .ok (.iaload, 1) := by decide +kernel
theorem dX12_lays_126 : decode cX12_lays 126 = .ok (.istore 7, 2) := by decide +kernel
theorem dX12_lays_128 : decode cX12_lays 128 = .ok (.iload_n 1, 1) := by decide +kernel
theorem dX12_lays_129 : decode cX12_lays 129 = .ok (.ineg, 1) := by decide +kernel
theorem dX12_lays_130 : decode cX12_lays 130 = .ok (.iload 7, 2) := by decide +kernel
theorem dX12_lays_132 : decode cX12_lays 132 = .ok (.if_icmp .lt 24, 3) := by decide +kernel
theorem dX12_lays_135 : decode cX12_lays 135 = .ok (.aload_n 0, 1) := by decide +kernel
theorem dX12_lays_136 : decode cX12_lays 136 = .ok (.getfield 52, 3) := by decide +kernel
theorem dX12_lays_139 : decode cX12_lays 139 = .ok (.iload 4, 2) := by decide +kernel
theorem dX12_lays_141 : decode cX12_lays 141 = .ok (.aload_n 0, 1) := by decide +kernel
theorem dX12_lays_142 : decode cX12_lays 142 = .ok (.iload_n 1, 1) := by decide +kernel
theorem dX12_lays_143 : decode cX12_lays 143 = .ok (.ineg, 1) := by decide +kernel
theorem dX12_lays_144 : decode cX12_lays 144 = .ok (.iload_n 2, 1) := by decide +kernel
theorem dX12_lays_145 : decode cX12_lays 145 = .ok (.iconst 0, 1) := by decide +kernel
theorem dX12_lays_146 : decode cX12_lays 146 = .ok (.invokevirtual 119, 3) := by decide +kernel
theorem dX12_lays_149 : decode cX12_lays 149 = .ok (.iadd, 1) := by decide +kernel
theorem dX12_lays_150 : decode cX12_lays 150 = .ok (.iload 6, 2) := by decide +kernel
theorem dX12_lays_152 : decode cX12_lays 152 = .ok (.isub, 1) := by decide +kernel
theorem dX12_lays_153 : decode cX12_lays 153 = .ok (.iconst 1, 1) := by decide +kernel
theorem dX12_lays_154 : decode cX12_lays 154 = .ok (.iastore, 1) := by decide +kernel
theorem dX12_lays_155 : decode cX12_lays 155 = .ok (.return_, 1) := by decide +kernel
theorem dX12_lays_156 : decode cX12_lays 156 = .ok (.aload_n 0, 1) := by decide +kernel
theorem dX12_lays_157 : decode cX12_lays 157 = .ok (.iconst 0, 1) := by decide +kernel
theorem dX12_lays_158 : decode cX12_lays 158 = .ok (.iload_n 2, 1) := by decide +kernel
theorem dX12_lays_159 : decode cX12_lays 159 = .ok (.iconst 1, 1) := by decide +kernel
theorem dX12_lays_160 : decode cX12_lays 160 = .ok (.invokevirtual 119, 3) := by decide +kernel
theorem dX12_lays_163 : decode cX12_lays 163 = .ok (.istore 8, 2) := by decide +kernel
theorem dX12_lays_165 : decode cX12_lays 165 = .ok (.iload_n 3, 1) := by decide +kernel
theorem dX12_lays_166 : decode cX12_lays 166 = .ok (.iload 7, 2) := by decide +kernel
theorem dX12_lays_168 : decode cX12_lays 168 = .ok (.isub, 1) := by decide +kernel
theorem dX12_lays_169 : decode cX12_lays 169 = .ok (.iload_n 1, 1) := by decide +kernel
theorem dX12_lays_170 : decode cX12_lays 170 = .ok (.isub, 1) := by decide +kernel
theorem dX12_lays_171 : decode cX12_lays 171 = .ok (.istore 9, 2) := by decide +kernel
theorem dX12_lays_173 : decode cX12_lays 173 = .ok (.iconst 0, 1) := by decide +kernel
theorem dX12_lays_174 : decode cX12_lays 174 = .ok (.istore 10, 2) := by decide +kernel
theorem dX12_lays_176 : decode cX12_lays 176 = .ok (.iload 9, 2) := by decide +kernel
theorem dX12_lays_178 : decode cX12_lays 178 = .ok (.invokestatic 96, 3) := by decide +kernel
theorem dX12_lays_181 : decode cX12_lays 181 = .ok (.ifCond .eq 142, 3) := by decide +kernel
theorem dX12_lays_184 : decode cX12_lays 184 = .ok (.iload 10, 2) := by decide +kernel
theorem dX12_lays_186 : decode cX12_lays 186 = .ok (.aload_n 0, 1) := by decide +kernel
theorem dX12_lays_187 : decode cX12_lays 187 = .ok (.iload 9, 2) := by decide +kernel
theorem dX12_lays_189 : decode cX12_lays 189 = .ok (.invokevirtual 100, 3) := by decide +kernel
theorem dX12_lays_192 : decode cX12_lays 192 = .ok (.if_icmp .ge 131, 3) := by decide +kernel
theorem dX12_lays_195 : decode cX12_lays 195 = .ok (.aload_n 0, 1) := by decide +kernel
theorem dX12_lays_196 : decode cX12_lays 196 = .ok (.getfield 52, 3) := by decide +kernel
theorem dX12_lays_199 : decode cX12_lays 199 = .ok (.iload_n 1, 1) := by decide +kernel
theorem dX12_lays_200 : decode cX12_lays 200 = .ok (.iload 8, 2) := by decide +kernel
theorem dX12_lays_202 : decode cX12_lays 202 = .ok (.invokestatic 116, 3) := by decide +kernel
theorem dX12_lays_205 : decode cX12_lays 205 = .ok (.iload 10, 2) := by decide +kernel
theorem dX12_lays_207 : decode cX12_lays 207 = .ok (.iadd, 1) := by decide +kernel
theorem dX12_lays_208 : decode cX12_lays 208 = .ok (.iaload, 1) := by decide +kernel
theorem dX12_lays_209 : decode cX12_lays 209 = .ok (.istore 11, 2) := by decide +kernel
theorem dX12_lays_211 : decode cX12_lays 211 = .ok (.aload_n 0, 1) := by decide +kernel
theorem dX12_lays_212 : decode cX12_lays 212 = .ok (.getfield 15, 3) := by decide +kernel
theorem dX12_lays_215 : decode cX12_lays 215 = .ok (.iload 9, 2) := by decide +kernel
theorem dX12_lays_217 : decode cX12_lays 217 = .ok (.iaload, 1) := by decide +kernel
theorem dX12_lays_218 : decode cX12_lays 218 = .ok (.iload 10, 2) := by decide +kernel
theorem dX12_lays_220 : decode cX12_lays 220 = .ok (.iadd, 1) := by decide +kernel
theorem dX12_lays_221 : decode cX12_lays 221 = .ok (.istore 12, 2) := by decide +kernel
theorem dX12_lays_223 : decode cX12_lays 223 = .ok (.iload 11, 2) := by decide +kernel
theorem dX12_lays_225 : decode cX12_lays 225 = .ok (.ifCond .ne 6, 3) := by decide +kernel
theorem dX12_lays_228 : decode cX12_lays 228 = .ok (.goto 89, 3) := by decide +kernel
theorem dX12_lays_231 : decode cX12_lays 231 = .ok (.aload_n 0, 1) := by decide +kernel
theorem dX12_lays_232 : decode cX12_lays 232 = .ok (.getfield 21, 3) := by decide +kernel
theorem dX12_lays_235 : decode cX12_lays 235 = .ok (.iload 12, 2) := by decide +kernel
theorem dX12_lays_237 : decode cX12_lays 237 = .ok (.iaload, 1) := by decide +kernel
theorem dX12_lays_238 : decode cX12_lays 238 = .ok (.ifCond .eq 17, 3) := by decide +kernel
theorem dX12_lays_241 : decode cX12_lays 241 = .ok (.aload_n 0, 1) := by decide +kernel
theorem dX12_lays_242 : decode cX12_lays 242 = .ok (.getfield 24, 3) := by decide +kernel
theorem dX12_lays_245 : decode cX12_lays 245 = .ok (.iconst 5, 1) := by decide +kernel
theorem dX12_lays_246 : decode cX12_lays 246 = .ok (.iload 12, 2) := by decide +kernel
theorem dX12_lays_248 : decode cX12_lays 248 = .ok (.imul, 1) := by decide +kernel
theorem dX12_lays_249 : decode cX12_lays 249 = .ok (.iaload, 1) := by decide +kernel
theorem dX12_lays_250 : decode cX12_lays 250 = .ok (.iload 7, 2) := by decide +kernel
theorem dX12_lays_252 : decode cX12_lays 252 = .ok (.if_icmp .gt 43, 3) := by decide +kernel
theorem dX12_lays_255 : decode cX12_lays 255 = .ok (.iload 4, 2) := by decide +kernel
theorem dX12_lays_257 : decode cX12_lays 257 = .ok (.aload_n 0, 1) := by decide +kernel
theorem dX12_lays_258 : decode cX12_lays 258 = .ok (.iload 7, 2) := by decide +kernel
theorem dX12_lays_260 : decode cX12_lays 260 = .ok (.iload 12, 2) := by decide +kernel
theorem dX12_lays_262 : decode cX12_lays 262 = .ok (.iconst 0, 1) := by decide +kernel
theorem dX12_lays_263 : decode cX12_lays 263 = .ok (.invokevirtual 119, 3) := by decide +kernel
theorem dX12_lays_266 : decode cX12_lays 266 = .ok (.iadd, 1) := by decide +kernel
theorem dX12_lays_267 : decode cX12_lays 267 = .ok (.iload 6, 2) := by decide +kernel
theorem dX12_lays_269 : decode cX12_lays 269 = .ok (.isub, 1) := by decide +kernel
theorem dX12_lays_270 : decode cX12_lays 270 = .ok (.istore 13, 2) := by decide +kernel
theorem dX12_lays_272 : decode cX12_lays 272 = .ok (.aload_n 0, 1) := by decide +kernel
theorem dX12_lays_273 : decode cX12_lays 273 = .ok (.getfield 52, 3) := by decide +kernel
theorem dX12_lays_276 : decode cX12_lays 276 = .ok (.iload 13, 2) := by decide +kernel
theorem dX12_lays_278 : decode cX12_lays 278 = .ok (.aload_n 0, 1) := by decide +kernel
theorem dX12_lays_279 : decode cX12_lays 279 = .ok (.getfield 52, 3) := by decide +kernel
theorem dX12_lays_282 : decode cX12_lays 282 = .ok (.iload 13, 2) := by decide +kernel
theorem dX12_lays_284 : decode cX12_lays 284 = .ok (.iaload, 1) := by decide +kernel
theorem dX12_lays_285 : decode cX12_lays 285 = .ok (.iload 11, 2) := by decide +kernel
theorem dX12_lays_287 : decode cX12_lays 287 = .ok (.iadd, 1) := by decide +kernel
theorem dX12_lays_288 : decode cX12_lays 288 = .ok (.bipush 101, 2) := by decide +kernel
theorem dX12_lays_290 : decode cX12_lays 290 = .ok (.irem, 1) := by decide +kernel
theorem dX12_lays_291 : decode cX12_lays 291 = .ok (.iastore, 1) := by decide +kernel
theorem dX12_lays_292 : decode cX12_lays 292 = .ok (.goto 25, 3) := by decide +kernel
theorem dX12_lays_295 : decode cX12_lays 295 = .ok (.aload_n 0, 1) := by decide +kernel
theorem dX12_lays_296 : decode cX12_lays 296 = .ok (.iload 4, 2) := by decide +kernel
theorem dX12_lays_298 : decode cX12_lays 298 = .ok (.iload 7, 2) := by decide +kernel
theorem dX12_lays_300 : decode cX12_lays 300 = .ok (.ineg, 1) := by decide +kernel
theorem dX12_lays_301 : decode cX12_lays 301 = .ok (.iload 12, 2) := by decide +kernel
theorem dX12_lays_303 : decode cX12_lays 303 = .ok (.invokestatic 116, 3) := by decide +kernel
theorem dX12_lays_306 : decode cX12_lays 306 = .ok (.iload 11, 2) := by decide +kernel
theorem dX12_lays_308 : decode cX12_lays 308 = .ok (.aload_n 0, 1) := by decide +kernel
theorem dX12_lays_309 : decode cX12_lays 309 = .ok (.iload 5, 2) := by decide +kernel
theorem dX12_lays_311 : decode cX12_lays 311 = .ok (.invokevirtual 100, 3) := by decide +kernel
theorem dX12_lays_314 : decode cX12_lays 314 = .ok (.invokevirtual 123, 3) := by decide +kernel
theorem dX12_lays_317 : decode cX12_lays 317 = .ok (.iinc 10 1, 3) := by decide +kernel
theorem dX12_lays_320 : decode cX12_lays 320 = .ok (.goto (-144), 3) := by decide +kernel
theorem dX12_lays_323 : decode cX12_lays 323 = .ok (.iload_n 1, 1) := by decide +kernel
theorem dX12_lays_324 : decode cX12_lays 324 = .ok (.iload 7, 2) := by decide +kernel
theorem dX12_lays_326 : decode cX12_lays 326 = .ok (.isub, 1) := by decide +kernel
theorem dX12_lays_327 : decode cX12_lays 327 = .ok (.invokestatic 107, 3) := by decide +kernel
theorem dX12_lays_330 : decode cX12_lays 330 = .ok (.ifCond .eq 32, 3) := by decide +kernel
theorem dX12_lays_333 : decode cX12_lays 333 = .ok (.aload_n 0, 1) := by decide +kernel
theorem dX12_lays_334 : decode cX12_lays 334 = .ok (.iload 4, 2) := by decide +kernel
theorem dX12_lays_336 : decode cX12_lays 336 = .ok (.iload_n 1, 1) := by decide +kernel
theorem dX12_lays_337 : decode cX12_lays 337 = .ok (.iload 7, 2) := by decide +kernel
theorem dX12_lays_339 : decode cX12_lays 339 = .ok (.isub, 1) := by decide +kernel
theorem dX12_lays_340 : decode cX12_lays 340 = .ok (.iload 8, 2) := by decide +kernel
theorem dX12_lays_342 : decode cX12_lays 342 = .ok (.invokestatic 116, 3) := by decide +kernel
theorem dX12_lays_345 : decode cX12_lays 345 = .ok (.aload_n 0, 1) := by decide +kernel
theorem dX12_lays_346 : decode cX12_lays 346 = .ok (.iload_n 1, 1) := by decide +kernel
theorem dX12_lays_347 : decode cX12_lays 347 = .ok (.iload 7, 2) := by decide +kernel
theorem dX12_lays_349 : decode cX12_lays 349 = .ok (.ineg, 1) := by decide +kernel
theorem dX12_lays_350 : decode cX12_lays 350 = .ok (.invokevirtual 110, 3) := by decide +kernel
theorem dX12_lays_353 : decode cX12_lays 353 = .ok (.aload_n 0, 1) := by decide +kernel
theorem dX12_lays_354 : decode cX12_lays 354 = .ok (.iload 5, 2) := by decide +kernel
theorem dX12_lays_356 : decode cX12_lays 356 = .ok (.invokevirtual 100, 3) := by decide +kernel
theorem dX12_lays_359 : decode cX12_lays 359 = .ok (.invokevirtual 123, 3) := by decide +kernel
theorem dX12_lays_362 : decode cX12_lays 362 = .ok (.iload_n 1, 1) := by decide +kernel
theorem dX12_lays_363 : decode cX12_lays 363 = .ok (.iload 7, 2) := by decide +kernel
theorem dX12_lays_365 : decode cX12_lays 365 = .ok (.if_icmp .ne 36, 3) := by decide +kernel
theorem dX12_lays_368 : decode cX12_lays 368 = .ok (.iload 4, 2) := by decide +kernel
theorem dX12_lays_370 : decode cX12_lays 370 = .ok (.iload 8, 2) := by decide +kernel
theorem dX12_lays_372 : decode cX12_lays 372 = .ok (.iadd, 1) := by decide +kernel
theorem dX12_lays_373 : decode cX12_lays 373 = .ok (.iload 6, 2) := by decide +kernel
theorem dX12_lays_375 : decode cX12_lays 375 = .ok (.isub, 1) := by decide +kernel
theorem dX12_lays_376 : decode cX12_lays 376 = .ok (.istore 10, 2) := by decide +kernel
theorem dX12_lays_378 : decode cX12_lays 378 = .ok (.aload_n 0, 1) := by decide +kernel
theorem dX12_lays_379 : decode cX12_lays 379 = .ok (.getfield 52, 3) := by decide +kernel
theorem dX12_lays_382 : decode cX12_lays 382 = .ok (.iload 10, 2) := by decide +kernel
theorem dX12_lays_384 : decode cX12_lays 384 = .ok (.aload_n 0, 1) := by decide +kernel
theorem dX12_lays_385 : decode cX12_lays 385 = .ok (.getfield 52, 3) := by decide +kernel
theorem dX12_lays_388 : decode cX12_lays 388 = .ok (.iload 10, 2) := by decide +kernel
theorem dX12_lays_390 : decode cX12_lays 390 = .ok (.iaload, 1) := by decide +kernel
theorem dX12_lays_391 : decode cX12_lays 391 = .ok (.aload_n 0, 1) := by decide +kernel
theorem dX12_lays_392 : decode cX12_lays 392 = .ok (.iload_n 1, 1) := by decide +kernel
theorem dX12_lays_393 : decode cX12_lays 393 = .ok (.invokevirtual 113, 3) := by decide +kernel
theorem dX12_lays_396 : decode cX12_lays 396 = .ok (.iadd, 1) := by decide +kernel
theorem dX12_lays_397 : decode cX12_lays 397 = .ok (.bipush 101, 2) := by decide +kernel
theorem dX12_lays_399 : decode cX12_lays 399 = .ok (.irem, 1) := by decide +kernel
theorem dX12_lays_400 : decode cX12_lays 400 = .ok (.iastore, 1) := by decide +kernel
theorem dX12_lays_401 : decode cX12_lays 401 = .ok (.return_, 1) := by decide +kernel
theorem dX12_layAll_0 : decode cX12_layAll 0 = .ok (.iconst 0, 1) := by decide +kernel
theorem dX12_layAll_1 : decode cX12_layAll 1 = .ok (.istore_n 1, 1) := by decide +kernel
theorem dX12_layAll_2 : decode cX12_layAll 2 = .ok (.iload_n 1, 1) := by decide +kernel
theorem dX12_layAll_3 : decode cX12_layAll 3 = .ok (.iconst 5, 1) := by decide +kernel
theorem dX12_layAll_4 : decode cX12_layAll 4 = .ok (.if_icmp .gt 53, 3) := by decide +kernel
theorem dX12_layAll_7 : decode cX12_layAll 7 = .ok (.iconst 0, 1) := by decide +kernel
theorem dX12_layAll_8 : decode cX12_layAll 8 = .ok (.istore_n 2, 1) := by decide +kernel
theorem dX12_layAll_9 : decode cX12_layAll 9 = .ok (.iload_n 2, 1) := by decide +kernel
theorem dX12_layAll_10 : decode cX12_layAll 10 = .ok (.bipush 19, 2) := by decide +kernel
theorem dX12_layAll_12 : decode cX12_layAll 12 = .ok (.if_icmp .ge 39, 3) := by decide +kernel
theorem dX12_layAll_15 : decode cX12_layAll 15 = .ok (.bipush (-5), 2) := by decide +kernel
theorem dX12_layAll_17 : decode cX12_layAll 17 = .ok (.istore_n 3, 1) := by decide +kernel
theorem dX12_layAll_18 : decode cX12_layAll 18 = .ok (.iload_n 3, 1) := by decide +kernel
theorem dX12_layAll_19 : decode cX12_layAll 19 = .ok (.iconst 5, 1) := by decide +kernel
theorem dX12_layAll_20 : decode cX12_layAll 20 = .ok (.if_icmp .gt 25, 3) := by decide +kernel
theorem dX12_layAll_23 : decode cX12_layAll 23 = .ok (.aload_n 0, 1) := by decide +kernel
theorem dX12_layAll_24 : decode cX12_layAll 24 = .ok (.getfield 21, 3) := by decide +kernel
theorem dX12_layAll_27 : decode cX12_layAll 27 = .ok (.iload_n 2, 1) := by decide +kernel
theorem dX12_layAll_28 : decode cX12_layAll 28 = .ok (.iaload, 1) := by decide +kernel
theorem dX12_layAll_29 : decode cX12_layAll 29 = .ok (.iload_n 1, 1) := by decide +kernel
theorem dX12_layAll_30 : decode cX12_layAll 30 = .ok (.if_icmp .ne 15, 3) := by decide +kernel
theorem dX12_layAll_33 : decode cX12_layAll 33 = .ok (.aload_n 0, 1) := by decide +kernel
theorem dX12_layAll_34 : decode cX12_layAll 34 = .ok (.iload_n 3, 1) := by decide +kernel
theorem dX12_layAll_35 : decode cX12_layAll 35 = .ok (.iload_n 2, 1) := by decide +kernel
theorem dX12_layAll_36 : decode cX12_layAll 36 = .ok (.invokevirtual 127, 3) := by decide +kernel
theorem dX12_layAll_39 : decode cX12_layAll 39 = .ok (.iinc 3 1, 3) := by decide +kernel
theorem dX12_layAll_42 : decode cX12_layAll 42 = .ok (.goto (-24), 3) := by decide +kernel
theorem dX12_layAll_45 : decode cX12_layAll 45 = .ok (.iinc 2 1, 3) := by decide +kernel
theorem dX12_layAll_48 : decode cX12_layAll 48 = .ok (.goto (-39), 3) := by decide +kernel
theorem dX12_layAll_51 : decode cX12_layAll 51 = .ok (.iinc 1 1, 3) := by decide +kernel
theorem dX12_layAll_54 : decode cX12_layAll 54 = .ok (.goto (-52), 3) := by decide +kernel
theorem dX12_layAll_57 : decode cX12_layAll 57 = .ok (.return_, 1) := by decide +kernel
theorem dX12_thinks_0 : decode cX12_thinks 0 = .ok (.aload_n 0, 1) := by decide +kernel
theorem dX12_thinks_1 : decode cX12_thinks 1 = .ok (.iload_n 1, 1) := by decide +kernel
theorem dX12_thinks_2 : decode cX12_thinks 2 = .ok (.putfield 131, 3) := by decide +kernel
theorem dX12_thinks_5 : decode cX12_thinks 5 = .ok (.iconst 0, 1) := by decide +kernel
theorem dX12_thinks_6 : decode cX12_thinks 6 = .ok (.istore_n 3, 1) := by decide +kernel
theorem dX12_thinks_7 : decode cX12_thinks 7 = .ok (.iload_n 3, 1) := by decide +kernel
theorem dX12_thinks_8 : decode cX12_thinks 8 = .ok (.bipush 7, 2) := by decide +kernel
theorem dX12_thinks_10 : decode cX12_thinks 10 = .ok (.if_icmp .ge 25, 3) := by decide +kernel
theorem dX12_thinks_13 : decode cX12_thinks 13 = .ok (.aload_n 0, 1) := by decide +kernel
theorem dX12_thinks_14 : decode cX12_thinks 14 = .ok (.getfield 55, 3) := by decide +kernel
theorem dX12_thinks_17 : decode cX12_thinks 17 = .ok (.iload_n 3, 1) := by decide +kernel
theorem dX12_thinks_18 : decode cX12_thinks 18 = .ok (.iload_n 3, 1) := by decide +kernel
theorem dX12_thinks_19 : decode cX12_thinks 19 = .ok (.iload_n 2, 1) := by decide +kernel
theorem dX12_thinks_20 : decode cX12_thinks 20 = .ok (.if_icmp .ne 7, 3) := by decide +kernel
theorem dX12_thinks_23 : decode cX12_thinks 23 = .ok (.iconst 1, 1) := by decide +kernel
theorem dX12_thinks_24 : decode cX12_thinks 24 = .ok (.goto 4, 3) := by decide +kernel
theorem dX12_thinks_27 : decode cX12_thinks 27 = .ok (.iconst 0, 1) := by decide +kernel
theorem dX12_thinks_28 : decode cX12_thinks 28 = .ok (.iastore, 1) := by decide +kernel
theorem dX12_thinks_29 : decode cX12_thinks 29 = .ok (.iinc 3 1, 3) := by decide +kernel
theorem dX12_thinks_32 : decode cX12_thinks 32 = .ok (.goto (-25), 3) := by decide +kernel
theorem dX12_thinks_35 : decode cX12_thinks 35 = .ok (.return_, 1) := by decide +kernel
theorem dX12_thinksOf_0 : decode cX12_thinksOf 0 = .ok (.aload_n 0, 1) := by decide +kernel
theorem dX12_thinksOf_1 : decode cX12_thinksOf 1 = .ok (.aload_n 0, 1) := by decide +kernel
theorem dX12_thinksOf_2 : decode cX12_thinksOf 2 = .ok (.getfield 27, 3) := by decide +kernel
theorem dX12_thinksOf_5 : decode cX12_thinksOf 5 = .ok (.iload_n 1, 1) := by decide +kernel
theorem dX12_thinksOf_6 : decode cX12_thinksOf 6 = .ok (.iaload, 1) := by decide +kernel
theorem dX12_thinksOf_7 : decode cX12_thinksOf 7 = .ok (.putfield 131, 3) := by decide +kernel
theorem dX12_thinksOf_10 : decode cX12_thinksOf 10 = .ok (.iconst 0, 1) := by decide +kernel
theorem dX12_thinksOf_11 : decode cX12_thinksOf 11 = .ok (.istore_n 2, 1) := by decide +kernel
theorem dX12_thinksOf_12 : decode cX12_thinksOf 12 = .ok (.iload_n 2, 1) := by decide +kernel
theorem dX12_thinksOf_13 : decode cX12_thinksOf 13 = .ok (.bipush 7, 2) := by decide +kernel
theorem dX12_thinksOf_15 : decode cX12_thinksOf 15 = .ok (.if_icmp .ge 26, 3) := by decide +kernel
theorem dX12_thinksOf_18 : decode cX12_thinksOf 18 = .ok (.aload_n 0, 1) := by decide +kernel
theorem dX12_thinksOf_19 : decode cX12_thinksOf 19 = .ok (.getfield 55, 3) := by decide +kernel
theorem dX12_thinksOf_22 : decode cX12_thinksOf 22 = .ok (.iload_n 2, 1) := by decide +kernel
theorem dX12_thinksOf_23 : decode cX12_thinksOf 23 = .ok (.aload_n 0, 1) := by decide +kernel
theorem dX12_thinksOf_24 : decode cX12_thinksOf 24 = .ok (.getfield 30, 3) := by decide +kernel
theorem dX12_thinksOf_27 : decode cX12_thinksOf 27 = .ok (.bipush 7, 2) := by decide +kernel
theorem dX12_thinksOf_29 : decode cX12_thinksOf 29 = .ok (.iload_n 1, 1) := by decide +kernel
theorem dX12_thinksOf_30 : decode cX12_thinksOf 30 = .ok (.imul, 1) := by decide +kernel
theorem dX12_thinksOf_31 : decode cX12_thinksOf 31 = .ok (.iload_n 2, 1) := by decide +kernel
theorem dX12_thinksOf_32 : decode cX12_thinksOf 32 = .ok (.iadd, 1) := by decide +kernel
theorem dX12_thinksOf_33 : decode cX12_thinksOf 33 = .ok (.iaload, 1) := by decide +kernel
theorem dX12_thinksOf_34 : decode cX12_thinksOf 34 = .ok (.iastore, 1) := by decide +kernel
theorem dX12_thinksOf_35 : decode cX12_thinksOf 35 = .ok (.iinc 2 1, 3) := by decide +kernel
theorem dX12_thinksOf_38 : decode cX12_thinksOf 38 = .ok (.goto (-26), 3) := by decide +kernel
theorem dX12_thinksOf_41 : decode cX12_thinksOf 41 = .ok (.return_, 1) := by decide +kernel
theorem dX12_goes_0 : decode cX12_goes 0 = .ok (.iconst 0, 1) := by decide +kernel
theorem dX12_goes_1 : decode cX12_goes 1 = .ok (.istore_n 2, 1) := by decide +kernel
theorem dX12_goes_2 : decode cX12_goes 2 = .ok (.iload_n 2, 1) := by decide +kernel
theorem dX12_goes_3 : decode cX12_goes 3 = .ok (.bipush 7, 2) := by decide +kernel
theorem dX12_goes_5 : decode cX12_goes 5 = .ok (.if_icmp .ge 16, 3) := by decide +kernel
theorem dX12_goes_8 : decode cX12_goes 8 = .ok (.aload_n 0, 1) := by decide +kernel
theorem dX12_goes_9 : decode cX12_goes 9 = .ok (.getfield 58, 3) := by decide +kernel
theorem dX12_goes_12 : decode cX12_goes 12 = .ok (.iload_n 2, 1) := by decide +kernel
theorem dX12_goes_13 : decode cX12_goes 13 = .ok (.iconst 0, 1) := by decide +kernel
theorem dX12_goes_14 : decode cX12_goes 14 = .ok (.iastore, 1) := by decide +kernel
theorem dX12_goes_15 : decode cX12_goes 15 = .ok (.iinc 2 1, 3) := by decide +kernel
theorem dX12_goes_18 : decode cX12_goes 18 = .ok (.goto (-16), 3) := by decide +kernel
theorem dX12_goes_21 : decode cX12_goes 21 = .ok (.aload_n 0, 1) := by decide +kernel
theorem dX12_goes_22 : decode cX12_goes 22 = .ok (.getfield 131, 3) := by decide +kernel
theorem dX12_goes_25 : decode cX12_goes 25 = .ok (.iload_n 1, 1) := by decide +kernel
theorem dX12_goes_26 : decode cX12_goes 26 = .ok (.isub, 1) := by decide +kernel
theorem dX12_goes_27 : decode cX12_goes 27 = .ok (.istore_n 2, 1) := by decide +kernel
theorem dX12_goes_28 : decode cX12_goes 28 = .ok (.iconst 0, 1) := by decide +kernel
theorem dX12_goes_29 : decode cX12_goes 29 = .ok (.istore_n 3, 1) := by decide +kernel
theorem dX12_goes_30 : decode cX12_goes 30 = .ok (.iload_n 3, 1) := by decide +kernel
theorem dX12_goes_31 : decode cX12_goes 31 = .ok (.aload_n 0, 1) := by decide +kernel
theorem dX12_goes_32 : decode cX12_goes 32 = .ok (.aload_n 0, 1) := by decide +kernel
theorem dX12_goes_33 : decode cX12_goes 33 = .ok (.getfield 131, 3) := by decide +kernel
theorem dX12_goes_36 : decode cX12_goes 36 = .ok (.invokevirtual 100, 3) := by decide +kernel
theorem dX12_goes_39 : decode cX12_goes 39 = .ok (.if_icmp .ge 80, 3) := by decide +kernel
theorem dX12_goes_42 : decode cX12_goes 42 = .ok (.iload_n 1, 1) := by decide +kernel
theorem dX12_goes_43 : decode cX12_goes 43 = .ok (.aload_n 0, 1) := by decide +kernel
theorem dX12_goes_44 : decode cX12_goes 44 = .ok (.getfield 15, 3) := by decide +kernel
theorem dX12_goes_47 : decode cX12_goes 47 = .ok (.aload_n 0, 1) := by decide +kernel
theorem dX12_goes_48 : decode cX12_goes 48 = .ok (.getfield 131, 3) := by decide +kernel
theorem dX12_goes_51 : decode cX12_goes 51 = .ok (.iaload, 1) := by decide +kernel
theorem dX12_goes_52 : decode cX12_goes 52 = .ok (.iload_n 3, 1) := by decide +kernel
theorem dX12_goes_53 : decode cX12_goes 53 = .ok (.iadd, 1) := by decide +kernel
theorem dX12_goes_54 : decode cX12_goes 54 = .ok (.invokestatic 116, 3) := by decide +kernel
theorem dX12_goes_57 : decode cX12_goes 57 = .ok (.istore 4, 2) := by decide +kernel
theorem dX12_goes_59 : decode cX12_goes 59 = .ok (.iconst 0, 1) := by decide +kernel
theorem dX12_goes_60 : decode cX12_goes 60 = .ok (.istore 5, 2) := by decide +kernel
theorem dX12_goes_62 : decode cX12_goes 62 = .ok (.iload 5, 2) := by decide +kernel
theorem dX12_goes_64 : decode cX12_goes 64 = .ok (.aload_n 0, 1) := by decide +kernel
theorem dX12_goes_65 : decode cX12_goes 65 = .ok (.iload_n 2, 1) := by decide +kernel
theorem dX12_goes_66 : decode cX12_goes 66 = .ok (.invokevirtual 100, 3) := by decide +kernel
theorem dX12_goes_69 : decode cX12_goes 69 = .ok (.if_icmp .ge 44, 3) := by decide +kernel
theorem dX12_goes_72 : decode cX12_goes 72 = .ok (.aload_n 0, 1) := by decide +kernel
theorem dX12_goes_73 : decode cX12_goes 73 = .ok (.getfield 58, 3) := by decide +kernel
theorem dX12_goes_76 : decode cX12_goes 76 = .ok (.iload 5, 2) := by decide +kernel
theorem dX12_goes_78 : decode cX12_goes 78 = .ok (.aload_n 0, 1) := by decide +kernel
theorem dX12_goes_79 : decode cX12_goes 79 = .ok (.getfield 58, 3) := by decide +kernel
theorem dX12_goes_82 : decode cX12_goes 82 = .ok (.iload 5, 2) := by decide +kernel
theorem dX12_goes_84 : decode cX12_goes 84 = .ok (.iaload, 1) := by decide +kernel
theorem dX12_goes_85 : decode cX12_goes 85 = .ok (.aload_n 0, 1) := by decide +kernel
theorem dX12_goes_86 : decode cX12_goes 86 = .ok (.getfield 55, 3) := by decide +kernel
theorem dX12_goes_89 : decode cX12_goes 89 = .ok (.iload_n 3, 1) := by decide +kernel
theorem dX12_goes_90 : decode cX12_goes 90 = .ok (.iaload, 1) := by decide +kernel
theorem dX12_goes_91 : decode cX12_goes 91 = .ok (.aload_n 0, 1) := by decide +kernel
theorem dX12_goes_92 : decode cX12_goes 92 = .ok (.getfield 52, 3) := by decide +kernel
theorem dX12_goes_95 : decode cX12_goes 95 = .ok (.iload 4, 2) := by decide +kernel
theorem dX12_goes_97 : decode cX12_goes 97 = .ok (.iload 5, 2) := by decide +kernel
theorem dX12_goes_99 : decode cX12_goes 99 = .ok (.iadd, 1) := by decide +kernel
theorem dX12_goes_100 : decode cX12_goes 100 = .ok (.iaload, 1) := by decide +kernel
theorem dX12_goes_101 : decode cX12_goes 101 = .ok (.imul, 1) := by decide +kernel
theorem dX12_goes_102 : decode cX12_goes 102 = .ok (.iadd, 1) := by decide +kernel
theorem dX12_goes_103 : decode cX12_goes 103 = .ok (.bipush 101, 2) := by decide +kernel
theorem dX12_goes_105 : decode cX12_goes 105 = .ok (.irem, 1) := by decide +kernel
theorem dX12_goes_106 : decode cX12_goes 106 = .ok (.iastore, 1) := by decide +kernel
theorem dX12_goes_107 : decode cX12_goes 107 = .ok (.iinc 5 1, 3) := by decide +kernel
theorem dX12_goes_110 : decode cX12_goes 110 = .ok (.goto (-48), 3) := by decide +kernel
theorem dX12_goes_113 : decode cX12_goes 113 = .ok (.iinc 3 1, 3) := by decide +kernel
theorem dX12_goes_116 : decode cX12_goes 116 = .ok (.goto (-86), 3) := by decide +kernel
theorem dX12_goes_119 : decode cX12_goes 119 = .ok (.aload_n 0, 1) := by decide +kernel
theorem dX12_goes_120 : decode cX12_goes 120 = .ok (.iload_n 2, 1) := by decide +kernel
theorem dX12_goes_121 : decode cX12_goes 121 = .ok (.putfield 131, 3) := by decide +kernel
theorem dX12_goes_124 : decode cX12_goes 124 = .ok (.iconst 0, 1) := by decide +kernel
theorem dX12_goes_125 : decode cX12_goes 125 = .ok (.istore_n 3, 1) := by decide +kernel
theorem dX12_goes_126 : decode cX12_goes 126 = .ok (.iload_n 3, 1) := by decide +kernel
theorem dX12_goes_127 : decode cX12_goes 127 = .ok (.bipush 7, 2) := by decide +kernel
theorem dX12_goes_129 : decode cX12_goes 129 = .ok (.if_icmp .ge 21, 3) := by decide +kernel
theorem dX12_goes_132 : decode cX12_goes 132 = .ok (.aload_n 0, 1) := by decide +kernel
theorem dX12_goes_133 : decode cX12_goes 133 = .ok (.getfield 55, 3) := by decide +kernel
theorem dX12_goes_136 : decode cX12_goes 136 = .ok (.iload_n 3, 1) := by decide +kernel
theorem dX12_goes_137 : decode cX12_goes 137 = .ok (.aload_n 0, 1) := by decide +kernel
theorem dX12_goes_138 : decode cX12_goes 138 = .ok (.getfield 58, 3) := by decide +kernel
theorem dX12_goes_141 : decode cX12_goes 141 = .ok (.iload_n 3, 1) := by decide +kernel
theorem dX12_goes_142 : decode cX12_goes 142 = .ok (.iaload, 1) := by decide +kernel
theorem dX12_goes_143 : decode cX12_goes 143 = .ok (.iastore, 1) := by decide +kernel
theorem dX12_goes_144 : decode cX12_goes 144 = .ok (.iinc 3 1, 3) := by decide +kernel
theorem dX12_goes_147 : decode cX12_goes 147 = .ok (.goto (-21), 3) := by decide +kernel
theorem dX12_goes_150 : decode cX12_goes 150 = .ok (.return_, 1) := by decide +kernel
theorem dX12_isNought_0 : decode cX12_isNought 0 = .ok (.iconst 0, 1) := by decide +kernel
theorem dX12_isNought_1 : decode cX12_isNought 1 = .ok (.istore_n 1, 1) := by decide +kernel
theorem dX12_isNought_2 : decode cX12_isNought 2 = .ok (.iload_n 1, 1) := by decide +kernel
theorem dX12_isNought_3 : decode cX12_isNought 3 = .ok (.bipush 7, 2) := by decide +kernel
theorem dX12_isNought_5 : decode cX12_isNought 5 = .ok (.if_icmp .ge 20, 3) := by decide +kernel
theorem dX12_isNought_8 : decode cX12_isNought 8 = .ok (.aload_n 0, 1) := by decide +kernel
theorem dX12_isNought_9 : decode cX12_isNought 9 = .ok (.getfield 55, 3) := by decide +kernel
theorem dX12_isNought_12 : decode cX12_isNought 12 = .ok (.iload_n 1, 1) := by decide +kernel
theorem dX12_isNought_13 : decode cX12_isNought 13 = .ok (.iaload, 1) := by decide +kernel
theorem dX12_isNought_14 : decode cX12_isNought 14 = .ok (.ifCond .eq 5, 3) := by decide +kernel
theorem dX12_isNought_17 : decode cX12_isNought 17 = .ok (.iconst 0, 1) := by decide +kernel
theorem dX12_isNought_18 : decode cX12_isNought 18 = .ok (.ireturn, 1) := by decide +kernel
theorem dX12_isNought_19 : decode cX12_isNought 19 = .ok (.iinc 1 1, 3) := by decide +kernel
theorem dX12_isNought_22 : decode cX12_isNought 22 = .ok (.goto (-20), 3) := by decide +kernel
theorem dX12_isNought_25 : decode cX12_isNought 25 = .ok (.iconst 1, 1) := by decide +kernel
theorem dX12_isNought_26 : decode cX12_isNought 26 = .ok (.ireturn, 1) := by decide +kernel
theorem dX12_partition_0 : decode cX12_partition 0 = .ok (.aload_n 0, 1) := by decide +kernel
theorem dX12_partition_1 : decode cX12_partition 1 = .ok (.iload_n 1, 1) := by decide +kernel
theorem dX12_partition_2 : decode cX12_partition 2 = .ok (.iload_n 2, 1) := by decide +kernel
theorem dX12_partition_3 : decode cX12_partition 3 = .ok (.invokevirtual 135, 3) := by decide +kernel
theorem dX12_partition_6 : decode cX12_partition 6 = .ok (.ifCond .ne 5, 3) := by decide +kernel
theorem dX12_partition_9 : decode cX12_partition 9 = .ok (.iconst (-1), 1) := by decide +kernel
theorem dX12_partition_10 : decode cX12_partition 10 = .ok (.ireturn, 1) := by decide +kernel
theorem dX12_partition_11 : decode cX12_partition 11 = .ok (.aload_n 0, 1) := by decide +kernel
theorem dX12_partition_12 : decode cX12_partition 12 = .ok (.getfield 15, 3) := by decide +kernel
theorem dX12_partition_15 : decode cX12_partition 15 = .ok (.iload_n 1, 1) := by decide +kernel
theorem dX12_partition_16 : decode cX12_partition 16 = .ok (.iaload, 1) := by decide +kernel
theorem dX12_partition_17 : decode cX12_partition 17 = .ok (.iload_n 2, 1) := by decide +kernel
theorem dX12_partition_18 : decode cX12_partition 18 = .ok (.iadd, 1) := by decide +kernel
theorem dX12_partition_19 : decode cX12_partition 19 = .ok (.istore 4, 2) := by decide +kernel
theorem dX12_partition_21 : decode cX12_partition 21 = .ok (.iload_n 3, 1) := by decide +kernel
theorem dX12_partition_22 : decode cX12_partition 22 = .ok (.iconst (-1), 1) := by decide +kernel
theorem dX12_partition_23 : decode cX12_partition 23 = .ok (.if_icmp .ne 13, 3) := by decide +kernel
theorem dX12_partition_26 : decode cX12_partition 26 = .ok (.aload_n 0, 1) := by decide +kernel
theorem dX12_partition_27 : decode cX12_partition 27 = .ok (.getfield 21, 3) := by decide +kernel
theorem dX12_partition_30 : decode cX12_partition 30 = .ok (.iload 4, 2) := by decide +kernel
theorem dX12_partition_32 : decode cX12_partition 32 = .ok (.iaload, 1) := by decide +kernel
theorem dX12_partition_33 : decode cX12_partition 33 = .ok (.goto 36, 3) := by decide +kernel
theorem dX12_partition_36 : decode cX12_partition 36 = .ok (.iload_n 3, 1) := by decide +kernel
theorem dX12_partition_37 : decode cX12_partition 37 = .ok (.iconst 0, 1) := by decide +kernel
theorem dX12_partition_38 : decode cX12_partition 38 = .ok (.aload_n 0, 1) := by decide +kernel
theorem dX12_partition_39 : decode cX12_partition 39 = .ok (.getfield 21, 3) := by decide +kernel
theorem dX12_partition_42 : decode cX12_partition 42 = .ok (.iload 4, 2) := by decide +kernel
theorem dX12_partition_44 : decode cX12_partition 44 = .ok (.iaload, 1) := by decide +kernel
theorem dX12_partition_45 : decode cX12_partition 45 = .ok (.iconst 1, 1) := by decide +kernel
theorem dX12_partition_46 : decode cX12_partition 46 = .ok (.isub, 1) := by decide +kernel
theorem dX12_partition_47 : decode cX12_partition 47 = .ok (.invokestatic 92, 3) := by decide +kernel
theorem dX12_partition_50 : decode cX12_partition 50 = .ok (.ifCond .eq 17, 3) := by decide +kernel
theorem dX12_partition_53 : decode cX12_partition 53 = .ok (.aload_n 0, 1) := by decide +kernel
theorem dX12_partition_54 : decode cX12_partition 54 = .ok (.getfield 24, 3) := by decide +kernel
theorem dX12_partition_57 : decode cX12_partition 57 = .ok (.iconst 5, 1) := by decide +kernel
theorem dX12_partition_58 : decode cX12_partition 58 = .ok (.iload 4, 2) := by decide +kernel
theorem dX12_partition_60 : decode cX12_partition 60 = .ok (.imul, 1) := by decide +kernel
theorem dX12_partition_61 : decode cX12_partition 61 = .ok (.iload_n 3, 1) := by decide +kernel
theorem dX12_partition_62 : decode cX12_partition 62 = .ok (.iadd, 1) := by decide +kernel
theorem dX12_partition_63 : decode cX12_partition 63 = .ok (.iaload, 1) := by decide +kernel
theorem dX12_partition_64 : decode cX12_partition 64 = .ok (.goto 5, 3) := by decide +kernel
theorem dX12_partition_67 : decode cX12_partition 67 = .ok (.bipush (-5), 2) := by decide +kernel
theorem dX12_partition_69 : decode cX12_partition 69 = .ok (.ireturn, 1) := by decide +kernel
theorem dX12_act_0 : decode cX12_act 0 = .ok (.iload_n 1, 1) := by decide +kernel
theorem dX12_act_1 : decode cX12_act 1 = .ok (.invokestatic 107, 3) := by decide +kernel
theorem dX12_act_4 : decode cX12_act 4 = .ok (.ifCond .eq 12, 3) := by decide +kernel
theorem dX12_act_7 : decode cX12_act 7 = .ok (.aload_n 0, 1) := by decide +kernel
theorem dX12_act_8 : decode cX12_act 8 = .ok (.iload_n 2, 1) := by decide +kernel
theorem dX12_act_9 : decode cX12_act 9 = .ok (.iload_n 3, 1) := by decide +kernel
theorem dX12_act_10 : decode cX12_act 10 = .ok (.invokevirtual 135, 3) := by decide +kernel
theorem dX12_act_13 : decode cX12_act 13 = .ok (.ifCond .ne 5, 3) := by decide +kernel
theorem dX12_act_16 : decode cX12_act 16 = .ok (.iconst (-1), 1) := by decide +kernel
theorem dX12_act_17 : decode cX12_act 17 = .ok (.ireturn, 1) := by decide +kernel
theorem dX12_act_18 : decode cX12_act 18 = .ok (.iload_n 2, 1) := by decide +kernel
theorem dX12_act_19 : decode cX12_act 19 = .ok (.iload_n 1, 1) := by decide +kernel
theorem dX12_act_20 : decode cX12_act 20 = .ok (.isub, 1) := by decide +kernel
theorem dX12_act_21 : decode cX12_act 21 = .ok (.invokestatic 96, 3) := by decide +kernel
theorem dX12_act_24 : decode cX12_act 24 = .ok (.ifCond .ne 6, 3) := by decide +kernel
theorem dX12_act_27 : decode cX12_act 27 = .ok (.bipush (-3), 2) := by decide +kernel
theorem dX12_act_29 : decode cX12_act 29 = .ok (.ireturn, 1) := by decide +kernel
theorem dX12_act_30 : decode cX12_act 30 = .ok (.iload 4, 2) := by decide +kernel
theorem dX12_act_32 : decode cX12_act 32 = .ok (.iconst 0, 1) := by decide +kernel
theorem dX12_act_33 : decode cX12_act 33 = .ok (.aload_n 0, 1) := by decide +kernel
theorem dX12_act_34 : decode cX12_act 34 = .ok (.iload_n 2, 1) := by decide +kernel
theorem dX12_act_35 : decode cX12_act 35 = .ok (.iload_n 1, 1) := by decide +kernel
theorem dX12_act_36 : decode cX12_act 36 = .ok (.isub, 1) := by decide +kernel
theorem dX12_act_37 : decode cX12_act 37 = .ok (.invokevirtual 100, 3) := by decide +kernel
theorem dX12_act_40 : decode cX12_act 40 = .ok (.iconst 1, 1) := by decide +kernel
theorem dX12_act_41 : decode cX12_act 41 = .ok (.isub, 1) := by decide +kernel
theorem dX12_act_42 : decode cX12_act 42 = .ok (.invokestatic 92, 3) := by decide +kernel
theorem dX12_act_45 : decode cX12_act 45 = .ok (.ifCond .ne 6, 3) := by decide +kernel
theorem dX12_act_48 : decode cX12_act 48 = .ok (.bipush (-5), 2) := by decide +kernel
theorem dX12_act_50 : decode cX12_act 50 = .ok (.ireturn, 1) := by decide +kernel
theorem dX12_act_51 : decode cX12_act 51 = .ok (.aload_n 0, 1) := by decide +kernel
theorem dX12_act_52 : decode cX12_act 52 = .ok (.invokevirtual 139, 3) := by decide +kernel
theorem dX12_act_55 : decode cX12_act 55 = .ok (.aload_n 0, 1) := by decide +kernel
theorem dX12_act_56 : decode cX12_act 56 = .ok (.getfield 52, 3) := by decide +kernel
theorem dX12_act_59 : decode cX12_act 59 = .ok (.iload_n 1, 1) := by decide +kernel
theorem dX12_act_60 : decode cX12_act 60 = .ok (.aload_n 0, 1) := by decide +kernel
theorem dX12_act_61 : decode cX12_act 61 = .ok (.getfield 15, 3) := by decide +kernel
theorem dX12_act_64 : decode cX12_act 64 = .ok (.iload_n 2, 1) := by decide +kernel
theorem dX12_act_65 : decode cX12_act 65 = .ok (.iaload, 1) := by decide +kernel
theorem dX12_act_66 : decode cX12_act 66 = .ok (.iload_n 3, 1) := by decide +kernel
theorem dX12_act_67 : decode cX12_act 67 = .ok (.iadd, 1) := by decide +kernel
theorem dX12_act_68 : decode cX12_act 68 = .ok (.invokestatic 116, 3) := by decide +kernel
theorem dX12_act_71 : decode cX12_act 71 = .ok (.iload 4, 2) := by decide +kernel
theorem dX12_act_73 : decode cX12_act 73 = .ok (.iadd, 1) := by decide +kernel
theorem dX12_act_74 : decode cX12_act 74 = .ok (.iaload, 1) := by decide +kernel
theorem dX12_act_75 : decode cX12_act 75 = .ok (.ireturn, 1) := by decide +kernel
theorem dX12_formOf_0 : decode cX12_formOf 0 = .ok (.aload_n 0, 1) := by decide +kernel
theorem dX12_formOf_1 : decode cX12_formOf 1 = .ok (.iload_n 1, 1) := by decide +kernel
theorem dX12_formOf_2 : decode cX12_formOf 2 = .ok (.iload_n 3, 1) := by decide +kernel
theorem dX12_formOf_3 : decode cX12_formOf 3 = .ok (.invokevirtual 142, 3) := by decide +kernel
theorem dX12_formOf_6 : decode cX12_formOf 6 = .ok (.aload_n 0, 1) := by decide +kernel
theorem dX12_formOf_7 : decode cX12_formOf 7 = .ok (.getfield 15, 3) := by decide +kernel
theorem dX12_formOf_10 : decode cX12_formOf 10 = .ok (.iload_n 1, 1) := by decide +kernel
theorem dX12_formOf_11 : decode cX12_formOf 11 = .ok (.iaload, 1) := by decide +kernel
theorem dX12_formOf_12 : decode cX12_formOf 12 = .ok (.iload_n 2, 1) := by decide +kernel
theorem dX12_formOf_13 : decode cX12_formOf 13 = .ok (.iadd, 1) := by decide +kernel
theorem dX12_formOf_14 : decode cX12_formOf 14 = .ok (.istore 4, 2) := by decide +kernel
theorem dX12_formOf_16 : decode cX12_formOf 16 = .ok (.iconst 0, 1) := by decide +kernel
theorem dX12_formOf_17 : decode cX12_formOf 17 = .ok (.istore 5, 2) := by decide +kernel
theorem dX12_formOf_19 : decode cX12_formOf 19 = .ok (.iload 5, 2) := by decide +kernel
theorem dX12_formOf_21 : decode cX12_formOf 21 = .ok (.aload_n 0, 1) := by decide +kernel
theorem dX12_formOf_22 : decode cX12_formOf 22 = .ok (.getfield 21, 3) := by decide +kernel
theorem dX12_formOf_25 : decode cX12_formOf 25 = .ok (.iload 4, 2) := by decide +kernel
theorem dX12_formOf_27 : decode cX12_formOf 27 = .ok (.iaload, 1) := by decide +kernel
theorem dX12_formOf_28 : decode cX12_formOf 28 = .ok (.if_icmp .ge 25, 3) := by decide +kernel
theorem dX12_formOf_31 : decode cX12_formOf 31 = .ok (.aload_n 0, 1) := by decide +kernel
theorem dX12_formOf_32 : decode cX12_formOf 32 = .ok (.aload_n 0, 1) := by decide +kernel
theorem dX12_formOf_33 : decode cX12_formOf 33 = .ok (.getfield 24, 3) := by decide +kernel
theorem dX12_formOf_36 : decode cX12_formOf 36 = .ok (.iconst 5, 1) := by decide +kernel
theorem dX12_formOf_37 : decode cX12_formOf 37 = .ok (.iload 4, 2) := by decide +kernel
theorem dX12_formOf_39 : decode cX12_formOf 39 = .ok (.imul, 1) := by decide +kernel
theorem dX12_formOf_40 : decode cX12_formOf 40 = .ok (.iload 5, 2) := by decide +kernel
theorem dX12_formOf_42 : decode cX12_formOf 42 = .ok (.iadd, 1) := by decide +kernel
theorem dX12_formOf_43 : decode cX12_formOf 43 = .ok (.iaload, 1) := by decide +kernel
theorem dX12_formOf_44 : decode cX12_formOf 44 = .ok (.invokevirtual 145, 3) := by decide +kernel
theorem dX12_formOf_47 : decode cX12_formOf 47 = .ok (.iinc 5 1, 3) := by decide +kernel
theorem dX12_formOf_50 : decode cX12_formOf 50 = .ok (.goto (-31), 3) := by decide +kernel
theorem dX12_formOf_53 : decode cX12_formOf 53 = .ok (.aload_n 0, 1) := by decide +kernel
theorem dX12_formOf_54 : decode cX12_formOf 54 = .ok (.getfield 55, 3) := by decide +kernel
theorem dX12_formOf_57 : decode cX12_formOf 57 = .ok (.iconst 0, 1) := by decide +kernel
theorem dX12_formOf_58 : decode cX12_formOf 58 = .ok (.iaload, 1) := by decide +kernel
theorem dX12_formOf_59 : decode cX12_formOf 59 = .ok (.ireturn, 1) := by decide +kernel
theorem dX12_form_0 : decode cX12_form 0 = .ok (.aload_n 0, 1) := by decide +kernel
theorem dX12_form_1 : decode cX12_form 1 = .ok (.iload_n 1, 1) := by decide +kernel
theorem dX12_form_2 : decode cX12_form 2 = .ok (.iload_n 2, 1) := by decide +kernel
theorem dX12_form_3 : decode cX12_form 3 = .ok (.invokevirtual 135, 3) := by decide +kernel
theorem dX12_form_6 : decode cX12_form 6 = .ok (.ifCond .eq 12, 3) := by decide +kernel
theorem dX12_form_9 : decode cX12_form 9 = .ok (.aload_n 0, 1) := by decide +kernel
theorem dX12_form_10 : decode cX12_form 10 = .ok (.iload_n 1, 1) := by decide +kernel
theorem dX12_form_11 : decode cX12_form 11 = .ok (.iload_n 3, 1) := by decide +kernel
theorem dX12_form_12 : decode cX12_form 12 = .ok (.invokevirtual 135, 3) := by decide +kernel
theorem dX12_form_15 : decode cX12_form 15 = .ok (.ifCond .ne 5, 3) := by decide +kernel
theorem dX12_form_18 : decode cX12_form 18 = .ok (.iconst (-1), 1) := by decide +kernel
theorem dX12_form_19 : decode cX12_form 19 = .ok (.ireturn, 1) := by decide +kernel
theorem dX12_form_20 : decode cX12_form 20 = .ok (.aload_n 0, 1) := by decide +kernel
theorem dX12_form_21 : decode cX12_form 21 = .ok (.invokevirtual 139, 3) := by decide +kernel
theorem dX12_form_24 : decode cX12_form 24 = .ok (.aload_n 0, 1) := by decide +kernel
theorem dX12_form_25 : decode cX12_form 25 = .ok (.iload_n 1, 1) := by decide +kernel
theorem dX12_form_26 : decode cX12_form 26 = .ok (.iload_n 2, 1) := by decide +kernel
theorem dX12_form_27 : decode cX12_form 27 = .ok (.iload_n 3, 1) := by decide +kernel
theorem dX12_form_28 : decode cX12_form 28 = .ok (.invokevirtual 148, 3) := by decide +kernel
theorem dX12_form_31 : decode cX12_form 31 = .ok (.ireturn, 1) := by decide +kernel
theorem dX12_changes_0 : decode cX12_changes 0 = .ok (.iconst 0, 1) := by decide +kernel
theorem dX12_changes_1 : decode cX12_changes 1 = .ok (.istore_n 3, 1) := by decide +kernel
theorem dX12_changes_2 : decode cX12_changes 2 = .ok (.iload_n 3, 1) := by decide +kernel
theorem dX12_changes_3 : decode cX12_changes 3 = .ok (.bipush 7, 2) := by decide +kernel
theorem dX12_changes_5 : decode cX12_changes 5 = .ok (.if_icmp .ge 57, 3) := by decide +kernel
theorem dX12_changes_8 : decode cX12_changes 8 = .ok (.aload_n 0, 1) := by decide +kernel
theorem dX12_changes_9 : decode cX12_changes 9 = .ok (.getfield 61, 3) := by decide +kernel
theorem dX12_changes_12 : decode cX12_changes 12 = .ok (.bipush 7, 2) := by decide +kernel
theorem dX12_changes_14 : decode cX12_changes 14 = .ok (.iload_n 1, 1) := by decide +kernel
theorem dX12_changes_15 : decode cX12_changes 15 = .ok (.imul, 1) := by decide +kernel
theorem dX12_changes_16 : decode cX12_changes 16 = .ok (.iload_n 3, 1) := by decide +kernel
theorem dX12_changes_17 : decode cX12_changes 17 = .ok (.iadd, 1) := by decide +kernel
theorem dX12_changes_18 : decode cX12_changes 18 = .ok (.iaload, 1) := by decide +kernel
theorem dX12_changes_19 : decode cX12_changes 19 = .ok (.istore 4, 2) := by decide +kernel
theorem dX12_changes_21 : decode cX12_changes 21 = .ok (.aload_n 0, 1) := by decide +kernel
theorem dX12_changes_22 : decode cX12_changes 22 = .ok (.getfield 61, 3) := by decide +kernel
theorem dX12_changes_25 : decode cX12_changes 25 = .ok (.bipush 7, 2) := by decide +kernel
theorem dX12_changes_27 : decode cX12_changes 27 = .ok (.iload_n 1, 1) := by decide +kernel
theorem dX12_changes_28 : decode cX12_changes 28 = .ok (.imul, 1) := by decide +kernel
theorem dX12_changes_29 : decode cX12_changes 29 = .ok (.iload_n 3, 1) := by decide +kernel
theorem dX12_changes_30 : decode cX12_changes 30 = .ok (.iadd, 1) := by decide +kernel
theorem dX12_changes_31 : decode cX12_changes 31 = .ok (.aload_n 0, 1) := by decide +kernel
theorem dX12_changes_32 : decode cX12_changes 32 = .ok (.getfield 61, 3) := by decide +kernel
theorem dX12_changes_35 : decode cX12_changes 35 = .ok (.bipush 7, 2) := by decide +kernel
theorem dX12_changes_37 : decode cX12_changes 37 = .ok (.iload_n 2, 1) := by decide +kernel
theorem dX12_changes_38 : decode cX12_changes 38 = .ok (.imul, 1) := by decide +kernel
theorem dX12_changes_39 : decode cX12_changes 39 = .ok (.iload_n 3, 1) := by decide +kernel
theorem dX12_changes_40 : decode cX12_changes 40 = .ok (.iadd, 1) := by decide +kernel
theorem dX12_changes_41 : decode cX12_changes 41 = .ok (.iaload, 1) := by decide +kernel
theorem dX12_changes_42 : decode cX12_changes 42 = .ok (.iastore, 1) := by decide +kernel
theorem dX12_changes_43 : decode cX12_changes 43 = .ok (.aload_n 0, 1) := by decide +kernel
theorem dX12_changes_44 : decode cX12_changes 44 = .ok (.getfield 61, 3) := by decide +kernel
theorem dX12_changes_47 : decode cX12_changes 47 = .ok (.bipush 7, 2) := by decide +kernel
theorem dX12_changes_49 : decode cX12_changes 49 = .ok (.iload_n 2, 1) := by decide +kernel
theorem dX12_changes_50 : decode cX12_changes 50 = .ok (.imul, 1) := by decide +kernel
theorem dX12_changes_51 : decode cX12_changes 51 = .ok (.iload_n 3, 1) := by decide +kernel
theorem dX12_changes_52 : decode cX12_changes 52 = .ok (.iadd, 1) := by decide +kernel
theorem dX12_changes_53 : decode cX12_changes 53 = .ok (.iload 4, 2) := by decide +kernel
theorem dX12_changes_55 : decode cX12_changes 55 = .ok (.iastore, 1) := by decide +kernel
theorem dX12_changes_56 : decode cX12_changes 56 = .ok (.iinc 3 1, 3) := by decide +kernel
theorem dX12_changes_59 : decode cX12_changes 59 = .ok (.goto (-57), 3) := by decide +kernel
theorem dX12_changes_62 : decode cX12_changes 62 = .ok (.return_, 1) := by decide +kernel
theorem dX12_clears_0 : decode cX12_clears 0 = .ok (.aload_n 0, 1) := by decide +kernel
theorem dX12_clears_1 : decode cX12_clears 1 = .ok (.getfield 61, 3) := by decide +kernel
theorem dX12_clears_4 : decode cX12_clears 4 = .ok (.bipush 7, 2) := by decide +kernel
theorem dX12_clears_6 : decode cX12_clears 6 = .ok (.iload_n 1, 1) := by decide +kernel
theorem dX12_clears_7 : decode cX12_clears 7 = .ok (.imul, 1) := by decide +kernel
theorem dX12_clears_8 : decode cX12_clears 8 = .ok (.iload_n 3, 1) := by decide +kernel
theorem dX12_clears_9 : decode cX12_clears 9 = .ok (.iadd, 1) := by decide +kernel
theorem dX12_clears_10 : decode cX12_clears 10 = .ok (.iaload, 1) := by decide +kernel
theorem dX12_clears_11 : decode cX12_clears 11 = .ok (.istore 4, 2) := by decide +kernel
theorem dX12_clears_13 : decode cX12_clears 13 = .ok (.iconst 0, 1) := by decide +kernel
theorem dX12_clears_14 : decode cX12_clears 14 = .ok (.istore 5, 2) := by decide +kernel
theorem dX12_clears_16 : decode cX12_clears 16 = .ok (.iload 5, 2) := by decide +kernel
theorem dX12_clears_18 : decode cX12_clears 18 = .ok (.bipush 7, 2) := by decide +kernel
theorem dX12_clears_20 : decode cX12_clears 20 = .ok (.if_icmp .ge 52, 3) := by decide +kernel
theorem dX12_clears_23 : decode cX12_clears 23 = .ok (.aload_n 0, 1) := by decide +kernel
theorem dX12_clears_24 : decode cX12_clears 24 = .ok (.getfield 61, 3) := by decide +kernel
theorem dX12_clears_27 : decode cX12_clears 27 = .ok (.bipush 7, 2) := by decide +kernel
theorem dX12_clears_29 : decode cX12_clears 29 = .ok (.iload_n 1, 1) := by decide +kernel
theorem dX12_clears_30 : decode cX12_clears 30 = .ok (.imul, 1) := by decide +kernel
theorem dX12_clears_31 : decode cX12_clears 31 = .ok (.iload 5, 2) := by decide +kernel
theorem dX12_clears_33 : decode cX12_clears 33 = .ok (.iadd, 1) := by decide +kernel
theorem dX12_clears_34 : decode cX12_clears 34 = .ok (.aload_n 0, 1) := by decide +kernel
theorem dX12_clears_35 : decode cX12_clears 35 = .ok (.getfield 61, 3) := by decide +kernel
theorem dX12_clears_38 : decode cX12_clears 38 = .ok (.bipush 7, 2) := by decide +kernel
theorem dX12_clears_40 : decode cX12_clears 40 = .ok (.iload_n 1, 1) := by decide +kernel
theorem dX12_clears_41 : decode cX12_clears 41 = .ok (.imul, 1) := by decide +kernel
theorem dX12_clears_42 : decode cX12_clears 42 = .ok (.iload 5, 2) := by decide +kernel
theorem dX12_clears_44 : decode cX12_clears 44 = .ok (.iadd, 1) := by decide +kernel
theorem dX12_clears_45 : decode cX12_clears 45 = .ok (.iaload, 1) := by decide +kernel
theorem dX12_clears_46 : decode cX12_clears 46 = .ok (.iload 4, 2) := by decide +kernel
theorem dX12_clears_48 : decode cX12_clears 48 = .ok (.aload_n 0, 1) := by decide +kernel
theorem dX12_clears_49 : decode cX12_clears 49 = .ok (.getfield 61, 3) := by decide +kernel
theorem dX12_clears_52 : decode cX12_clears 52 = .ok (.bipush 7, 2) := by decide +kernel
theorem dX12_clears_54 : decode cX12_clears 54 = .ok (.iload_n 2, 1) := by decide +kernel
theorem dX12_clears_55 : decode cX12_clears 55 = .ok (.imul, 1) := by decide +kernel
theorem dX12_clears_56 : decode cX12_clears 56 = .ok (.iload 5, 2) := by decide +kernel
theorem dX12_clears_58 : decode cX12_clears 58 = .ok (.iadd, 1) := by decide +kernel
theorem dX12_clears_59 : decode cX12_clears 59 = .ok (.iaload, 1) := by decide +kernel
theorem dX12_clears_60 : decode cX12_clears 60 = .ok (.imul, 1) := by decide +kernel
theorem dX12_clears_61 : decode cX12_clears 61 = .ok (.isub, 1) := by decide +kernel
theorem dX12_clears_62 : decode cX12_clears 62 = .ok (.invokestatic 104, 3) := by decide +kernel
theorem dX12_clears_65 : decode cX12_clears 65 = .ok (.iastore, 1) := by decide +kernel
theorem dX12_clears_66 : decode cX12_clears 66 = .ok (.iinc 5 1, 3) := by decide +kernel
theorem dX12_clears_69 : decode cX12_clears 69 = .ok (.goto (-53), 3) := by decide +kernel
theorem dX12_clears_72 : decode cX12_clears 72 = .ok (.return_, 1) := by decide +kernel
theorem dX12_steps_0 : decode cX12_steps 0 = .ok (.aload_n 0, 1) := by decide +kernel
theorem dX12_steps_1 : decode cX12_steps 1 = .ok (.iconst 0, 1) := by decide +kernel
theorem dX12_steps_2 : decode cX12_steps 2 = .ok (.putfield 151, 3) := by decide +kernel
theorem dX12_steps_5 : decode cX12_steps 5 = .ok (.aload_n 0, 1) := by decide +kernel
theorem dX12_steps_6 : decode cX12_steps 6 = .ok (.iconst 1, 1) := by decide +kernel
theorem dX12_steps_7 : decode cX12_steps 7 = .ok (.putfield 154, 3) := by decide +kernel
theorem dX12_steps_10 : decode cX12_steps 10 = .ok (.iconst 0, 1) := by decide +kernel
theorem dX12_steps_11 : decode cX12_steps 11 = .ok (.istore_n 2, 1) := by decide +kernel
theorem dX12_steps_12 : decode cX12_steps 12 = .ok (.iload_n 2, 1) := by decide +kernel
theorem dX12_steps_13 : decode cX12_steps 13 = .ok (.iload_n 1, 1) := by decide +kernel
theorem dX12_steps_14 : decode cX12_steps 14 = .ok (.if_icmp .ge 234, 3) := by decide +kernel
theorem dX12_steps_17 : decode cX12_steps 17 = .ok (.aload_n 0, 1) := by decide +kernel
theorem dX12_steps_18 : decode cX12_steps 18 = .ok (.getfield 151, 3) := by decide +kernel
theorem dX12_steps_21 : decode cX12_steps 21 = .ok (.istore_n 3, 1) := by decide +kernel
theorem dX12_steps_22 : decode cX12_steps 22 = .ok (.iload_n 3, 1) := by decide +kernel
theorem dX12_steps_23 : decode cX12_steps 23 = .ok (.aload_n 0, 1) := by decide +kernel
theorem dX12_steps_24 : decode cX12_steps 24 = .ok (.getfield 157, 3) := by decide +kernel
theorem dX12_steps_27 : decode cX12_steps 27 = .ok (.if_icmp .ge 23, 3) := by decide +kernel
theorem dX12_steps_30 : decode cX12_steps 30 = .ok (.aload_n 0, 1) := by decide +kernel
theorem dX12_steps_31 : decode cX12_steps 31 = .ok (.getfield 61, 3) := by decide +kernel
theorem dX12_steps_34 : decode cX12_steps 34 = .ok (.bipush 7, 2) := by decide +kernel
theorem dX12_steps_36 : decode cX12_steps 36 = .ok (.iload_n 3, 1) := by decide +kernel
theorem dX12_steps_37 : decode cX12_steps 37 = .ok (.imul, 1) := by decide +kernel
theorem dX12_steps_38 : decode cX12_steps 38 = .ok (.iload_n 2, 1) := by decide +kernel
theorem dX12_steps_39 : decode cX12_steps 39 = .ok (.iadd, 1) := by decide +kernel
theorem dX12_steps_40 : decode cX12_steps 40 = .ok (.iaload, 1) := by decide +kernel
theorem dX12_steps_41 : decode cX12_steps 41 = .ok (.ifCond .ne 9, 3) := by decide +kernel
theorem dX12_steps_44 : decode cX12_steps 44 = .ok (.iinc 3 1, 3) := by decide +kernel
theorem dX12_steps_47 : decode cX12_steps 47 = .ok (.goto (-25), 3) := by decide +kernel
theorem dX12_steps_50 : decode cX12_steps 50 = .ok (.iload_n 3, 1) := by decide +kernel
theorem dX12_steps_51 : decode cX12_steps 51 = .ok (.aload_n 0, 1) := by decide +kernel
theorem dX12_steps_52 : decode cX12_steps 52 = .ok (.getfield 157, 3) := by decide +kernel
theorem dX12_steps_55 : decode cX12_steps 55 = .ok (.if_icmp .ne 11, 3) := by decide +kernel
theorem dX12_steps_58 : decode cX12_steps 58 = .ok (.aload_n 0, 1) := by decide +kernel
theorem dX12_steps_59 : decode cX12_steps 59 = .ok (.iconst 0, 1) := by decide +kernel
theorem dX12_steps_60 : decode cX12_steps 60 = .ok (.putfield 154, 3) := by decide +kernel
theorem dX12_steps_63 : decode cX12_steps 63 = .ok (.goto 179, 3) := by decide +kernel
theorem dX12_steps_66 : decode cX12_steps 66 = .ok (.iload_n 3, 1) := by decide +kernel
theorem dX12_steps_67 : decode cX12_steps 67 = .ok (.aload_n 0, 1) := by decide +kernel
theorem dX12_steps_68 : decode cX12_steps 68 = .ok (.getfield 151, 3) := by decide +kernel
theorem dX12_steps_71 : decode cX12_steps 71 = .ok (.if_icmp .eq 24, 3) := by decide +kernel
theorem dX12_steps_74 : decode cX12_steps 74 = .ok (.aload_n 0, 1) := by decide +kernel
theorem dX12_steps_75 : decode cX12_steps 75 = .ok (.iload_n 3, 1) := by decide +kernel
theorem dX12_steps_76 : decode cX12_steps 76 = .ok (.aload_n 0, 1) := by decide +kernel
theorem dX12_steps_77 : decode cX12_steps 77 = .ok (.getfield 151, 3) := by decide +kernel
theorem dX12_steps_80 : decode cX12_steps 80 = .ok (.invokevirtual 160, 3) := by decide +kernel
theorem dX12_steps_83 : decode cX12_steps 83 = .ok (.aload_n 0, 1) := by decide +kernel
theorem dX12_steps_84 : decode cX12_steps 84 = .ok (.aload_n 0, 1) := by decide +kernel
theorem dX12_steps_85 : decode cX12_steps 85 = .ok (.getfield 154, 3) := by decide +kernel
theorem dX12_steps_88 : decode cX12_steps 88 = .ok (.ineg, 1) := by decide +kernel
theorem dX12_steps_89 : decode cX12_steps 89 = .ok (.invokestatic 104, 3) := by decide +kernel
theorem dX12_steps_92 : decode cX12_steps 92 = .ok (.putfield 154, 3) := by decide +kernel
theorem dX12_steps_95 : decode cX12_steps 95 = .ok (.aload_n 0, 1) := by decide +kernel
theorem dX12_steps_96 : decode cX12_steps 96 = .ok (.getfield 61, 3) := by decide +kernel
theorem dX12_steps_99 : decode cX12_steps 99 = .ok (.bipush 7, 2) := by decide +kernel
theorem dX12_steps_101 : decode cX12_steps 101 = .ok (.aload_n 0, 1) := by decide +kernel
theorem dX12_steps_102 : decode cX12_steps 102 = .ok (.getfield 151, 3) := by decide +kernel
theorem dX12_steps_105 : decode cX12_steps 105 = .ok (.imul, 1) := by decide +kernel
theorem dX12_steps_106 : decode cX12_steps 106 = .ok (.iload_n 2, 1) := by decide +kernel
theorem dX12_steps_107 : decode cX12_steps 107 = .ok (.iadd, 1) := by decide +kernel
theorem dX12_steps_108 : decode cX12_steps 108 = .ok (.iaload, 1) := by decide +kernel
theorem dX12_steps_109 : decode cX12_steps 109 = .ok (.istore 4, 2) := by decide +kernel
theorem dX12_steps_111 : decode cX12_steps 111 = .ok (.aload_n 0, 1) := by decide +kernel
theorem dX12_steps_112 : decode cX12_steps 112 = .ok (.aload_n 0, 1) := by decide +kernel
theorem dX12_steps_113 : decode cX12_steps 113 = .ok (.getfield 154, 3) := by decide +kernel
theorem dX12_steps_116 : decode cX12_steps 116 = .ok (.iload 4, 2) := by decide +kernel
theorem dX12_steps_118 : decode cX12_steps 118 = .ok (.imul, 1) := by decide +kernel
theorem dX12_steps_119 : decode cX12_steps 119 = .ok (.bipush 101, 2) := by decide +kernel
theorem dX12_steps_121 : decode cX12_steps 121 = .ok (.irem, 1) := by decide +kernel
theorem dX12_steps_122 : decode cX12_steps 122 = .ok (.putfield 154, 3) := by decide +kernel
theorem dX12_steps_125 : decode cX12_steps 125 = .ok (.iload 4, 2) := by decide +kernel
theorem dX12_steps_127 : decode cX12_steps 127 = .ok (.invokestatic 163, 3) := by decide +kernel
theorem dX12_steps_130 : decode cX12_steps 130 = .ok (.istore 5, 2) := by decide +kernel
theorem dX12_steps_132 : decode cX12_steps 132 = .ok (.iconst 0, 1) := by decide +kernel
theorem dX12_steps_133 : decode cX12_steps 133 = .ok (.istore 6, 2) := by decide +kernel
theorem dX12_steps_135 : decode cX12_steps 135 = .ok (.iload 6, 2) := by decide +kernel
theorem dX12_steps_137 : decode cX12_steps 137 = .ok (.bipush 7, 2) := by decide +kernel
theorem dX12_steps_139 : decode cX12_steps 139 = .ok (.if_icmp .ge 45, 3) := by decide +kernel
theorem dX12_steps_142 : decode cX12_steps 142 = .ok (.aload_n 0, 1) := by decide +kernel
theorem dX12_steps_143 : decode cX12_steps 143 = .ok (.getfield 61, 3) := by decide +kernel
theorem dX12_steps_146 : decode cX12_steps 146 = .ok (.bipush 7, 2) := by decide +kernel
theorem dX12_steps_148 : decode cX12_steps 148 = .ok (.aload_n 0, 1) := by decide +kernel
theorem dX12_steps_149 : decode cX12_steps 149 = .ok (.getfield 151, 3) := by decide +kernel
theorem dX12_steps_152 : decode cX12_steps 152 = .ok (.imul, 1) := by decide +kernel
theorem dX12_steps_153 : decode cX12_steps 153 = .ok (.iload 6, 2) := by decide +kernel
theorem dX12_steps_155 : decode cX12_steps 155 = .ok (.iadd, 1) := by decide +kernel
theorem dX12_steps_156 : decode cX12_steps 156 = .ok (.aload_n 0, 1) := by decide +kernel
theorem dX12_steps_157 : decode cX12_steps 157 = .ok (.getfield 61, 3) := by decide +kernel
theorem dX12_steps_160 : decode cX12_steps 160 = .ok (.bipush 7, 2) := by decide +kernel
theorem dX12_steps_162 : decode cX12_steps 162 = .ok (.aload_n 0, 1) := by decide +kernel
theorem dX12_steps_163 : decode cX12_steps 163 = .ok (.getfield 151, 3) := by decide +kernel
theorem dX12_steps_166 : decode cX12_steps 166 = .ok (.imul, 1) := by decide +kernel
theorem dX12_steps_167 : decode cX12_steps 167 = .ok (.iload 6, 2) := by decide +kernel
theorem dX12_steps_169 : decode cX12_steps 169 = .ok (.iadd, 1) := by decide +kernel
theorem dX12_steps_170 : decode cX12_steps 170 = .ok (.iaload, 1) := by decide +kernel
theorem dX12_steps_171 : decode cX12_steps 171 = .ok (.iload 5, 2) := by decide +kernel
theorem dX12_steps_173 : decode cX12_steps 173 = .ok (.imul, 1) := by decide +kernel
theorem dX12_steps_174 : decode cX12_steps 174 = .ok (.bipush 101, 2) := by decide +kernel
theorem dX12_steps_176 : decode cX12_steps 176 = .ok (.irem, 1) := by decide +kernel
theorem dX12_steps_177 : decode cX12_steps 177 = .ok (.iastore, 1) := by decide +kernel
theorem dX12_steps_178 : decode cX12_steps 178 = .ok (.iinc 6 1, 3) := by decide +kernel
theorem dX12_steps_181 : decode cX12_steps 181 = .ok (.goto (-46), 3) := by decide +kernel
theorem dX12_steps_184 : decode cX12_steps 184 = .ok (.iconst 0, 1) := by decide +kernel
theorem dX12_steps_185 : decode cX12_steps 185 = .ok (.istore 6, 2) := by decide +kernel
theorem dX12_steps_187 : decode cX12_steps 187 = .ok (.iload 6, 2) := by decide +kernel
theorem dX12_steps_189 : decode cX12_steps 189 = .ok (.aload_n 0, 1) := by decide +kernel
theorem dX12_steps_190 : decode cX12_steps 190 = .ok (.getfield 157, 3) := by decide +kernel
theorem dX12_steps_193 : decode cX12_steps 193 = .ok (.if_icmp .ge 29, 3) := by decide +kernel
theorem dX12_steps_196 : decode cX12_steps 196 = .ok (.iload 6, 2) := by decide +kernel
theorem dX12_steps_198 : decode cX12_steps 198 = .ok (.aload_n 0, 1) := by decide +kernel
theorem dX12_steps_199 : decode cX12_steps 199 = .ok (.getfield 151, 3) := by decide +kernel
theorem dX12_steps_202 : decode cX12_steps 202 = .ok (.if_icmp .eq 14, 3) := by decide +kernel
theorem dX12_steps_205 : decode cX12_steps 205 = .ok (.aload_n 0, 1) := by decide +kernel
theorem dX12_steps_206 : decode cX12_steps 206 = .ok (.iload 6, 2) := by decide +kernel
theorem dX12_steps_208 : decode cX12_steps 208 = .ok (.aload_n 0, 1) := by decide +kernel
theorem dX12_steps_209 : decode cX12_steps 209 = .ok (.getfield 151, 3) := by decide +kernel
theorem dX12_steps_212 : decode cX12_steps 212 = .ok (.iload_n 2, 1) := by decide +kernel
theorem dX12_steps_213 : decode cX12_steps 213 = .ok (.invokevirtual 166, 3) := by decide +kernel
theorem dX12_steps_216 : decode cX12_steps 216 = .ok (.iinc 6 1, 3) := by decide +kernel
theorem dX12_steps_219 : decode cX12_steps 219 = .ok (.goto (-32), 3) := by decide +kernel
theorem dX12_steps_222 : decode cX12_steps 222 = .ok (.aload_n 0, 1) := by decide +kernel
theorem dX12_steps_223 : decode cX12_steps 223 = .ok (.getfield 64, 3) := by decide +kernel
theorem dX12_steps_226 : decode cX12_steps 226 = .ok (.aload_n 0, 1) := by decide +kernel
theorem dX12_steps_227 : decode cX12_steps 227 = .ok (.getfield 151, 3) := by decide +kernel
theorem dX12_steps_230 : decode cX12_steps 230 = .ok (.iload_n 2, 1) := by decide +kernel
theorem dX12_steps_231 : decode cX12_steps 231 = .ok (.iastore, 1) := by decide +kernel
theorem dX12_steps_232 : decode cX12_steps 232 = .ok (.aload_n 0, 1) := by decide +kernel
theorem dX12_steps_233 : decode cX12_steps 233 = .ok (.dup, 1) := by decide +kernel
theorem dX12_steps_234 : decode cX12_steps 234 = .ok (.getfield 151, 3) := by decide +kernel
theorem dX12_steps_237 : decode cX12_steps 237 = .ok (.iconst 1, 1) := by decide +kernel
theorem dX12_steps_238 : decode cX12_steps 238 = .ok (.iadd, 1) := by decide +kernel
theorem dX12_steps_239 : decode cX12_steps 239 = .ok (.putfield 151, 3) := by decide +kernel
theorem dX12_steps_242 : decode cX12_steps 242 = .ok (.iinc 2 1, 3) := by decide +kernel
theorem dX12_steps_245 : decode cX12_steps 245 = .ok (.goto (-233), 3) := by decide +kernel
theorem dX12_steps_248 : decode cX12_steps 248 = .ok (.return_, 1) := by decide +kernel
theorem dX12_layForms_0 : decode cX12_layForms 0 = .ok (.aload_n 0, 1) := by decide +kernel
theorem dX12_layForms_1 : decode cX12_layForms 1 = .ok (.invokevirtual 139, 3) := by decide +kernel
theorem dX12_layForms_4 : decode cX12_layForms 4 = .ok (.aload_n 0, 1) := by decide +kernel
theorem dX12_layForms_5 : decode cX12_layForms 5 = .ok (.aload_n 0, 1) := by decide +kernel
theorem dX12_layForms_6 : decode cX12_layForms 6 = .ok (.iload_n 1, 1) := by decide +kernel
theorem dX12_layForms_7 : decode cX12_layForms 7 = .ok (.invokevirtual 100, 3) := by decide +kernel
theorem dX12_layForms_10 : decode cX12_layForms 10 = .ok (.putfield 157, 3) := by decide +kernel
theorem dX12_layForms_13 : decode cX12_layForms 13 = .ok (.iconst 0, 1) := by decide +kernel
theorem dX12_layForms_14 : decode cX12_layForms 14 = .ok (.istore_n 2, 1) := by decide +kernel
theorem dX12_layForms_15 : decode cX12_layForms 15 = .ok (.iload_n 2, 1) := by decide +kernel
theorem dX12_layForms_16 : decode cX12_layForms 16 = .ok (.aload_n 0, 1) := by decide +kernel
theorem dX12_layForms_17 : decode cX12_layForms 17 = .ok (.getfield 157, 3) := by decide +kernel
theorem dX12_layForms_20 : decode cX12_layForms 20 = .ok (.if_icmp .ge 53, 3) := by decide +kernel
theorem dX12_layForms_23 : decode cX12_layForms 23 = .ok (.iconst 0, 1) := by decide +kernel
theorem dX12_layForms_24 : decode cX12_layForms 24 = .ok (.istore_n 3, 1) := by decide +kernel
theorem dX12_layForms_25 : decode cX12_layForms 25 = .ok (.iload_n 3, 1) := by decide +kernel
theorem dX12_layForms_26 : decode cX12_layForms 26 = .ok (.bipush 7, 2) := by decide +kernel
theorem dX12_layForms_28 : decode cX12_layForms 28 = .ok (.if_icmp .ge 39, 3) := by decide +kernel
theorem dX12_layForms_31 : decode cX12_layForms 31 = .ok (.aload_n 0, 1) := by decide +kernel
theorem dX12_layForms_32 : decode cX12_layForms 32 = .ok (.getfield 61, 3) := by decide +kernel
theorem dX12_layForms_35 : decode cX12_layForms 35 = .ok (.bipush 7, 2) := by decide +kernel
theorem dX12_layForms_37 : decode cX12_layForms 37 = .ok (.iload_n 2, 1) := by decide +kernel
theorem dX12_layForms_38 : decode cX12_layForms 38 = .ok (.imul, 1) := by decide +kernel
theorem dX12_layForms_39 : decode cX12_layForms 39 = .ok (.iload_n 3, 1) := by decide +kernel
theorem dX12_layForms_40 : decode cX12_layForms 40 = .ok (.iadd, 1) := by decide +kernel
theorem dX12_layForms_41 : decode cX12_layForms 41 = .ok (.iload_n 3, 1) := by decide +kernel
theorem dX12_layForms_42 : decode cX12_layForms 42 = .ok (.aload_n 0, 1) := by decide +kernel
theorem dX12_layForms_43 : decode cX12_layForms 43 = .ok (.getfield 157, 3) := by decide +kernel
theorem dX12_layForms_46 : decode cX12_layForms 46 = .ok (.if_icmp .ge 13, 3) := by decide +kernel
theorem dX12_layForms_49 : decode cX12_layForms 49 = .ok (.aload_n 0, 1) := by decide +kernel
theorem dX12_layForms_50 : decode cX12_layForms 50 = .ok (.iload_n 1, 1) := by decide +kernel
theorem dX12_layForms_51 : decode cX12_layForms 51 = .ok (.iload_n 2, 1) := by decide +kernel
theorem dX12_layForms_52 : decode cX12_layForms 52 = .ok (.iload_n 3, 1) := by decide +kernel
theorem dX12_layForms_53 : decode cX12_layForms 53 = .ok (.invokevirtual 148, 3) := by decide +kernel
theorem dX12_layForms_56 : decode cX12_layForms 56 = .ok (.goto 4, 3) := by decide +kernel
theorem dX12_layForms_59 : decode cX12_layForms 59 = .ok (.iconst 0, 1) := by decide +kernel
theorem dX12_layForms_60 : decode cX12_layForms 60 = .ok (.iastore, 1) := by decide +kernel
theorem dX12_layForms_61 : decode cX12_layForms 61 = .ok (.iinc 3 1, 3) := by decide +kernel
theorem dX12_layForms_64 : decode cX12_layForms 64 = .ok (.goto (-39), 3) := by decide +kernel
theorem dX12_layForms_67 : decode cX12_layForms 67 = .ok (.iinc 2 1, 3) := by decide +kernel
theorem dX12_layForms_70 : decode cX12_layForms 70 = .ok (.goto (-55), 3) := by decide +kernel
theorem dX12_layForms_73 : decode cX12_layForms 73 = .ok (.aload_n 0, 1) := by decide +kernel
theorem dX12_layForms_74 : decode cX12_layForms 74 = .ok (.aload_n 0, 1) := by decide +kernel
theorem dX12_layForms_75 : decode cX12_layForms 75 = .ok (.getfield 157, 3) := by decide +kernel
theorem dX12_layForms_78 : decode cX12_layForms 78 = .ok (.invokevirtual 170, 3) := by decide +kernel
theorem dX12_layForms_81 : decode cX12_layForms 81 = .ok (.return_, 1) := by decide +kernel
theorem dX12_determinant_0 : decode cX12_determinant 0 = .ok (.iload_n 1, 1) := by decide +kernel
theorem dX12_determinant_1 : decode cX12_determinant 1 = .ok (.invokestatic 96, 3) := by decide +kernel
theorem dX12_determinant_4 : decode cX12_determinant 4 = .ok (.ifCond .ne 5, 3) := by decide +kernel
theorem dX12_determinant_7 : decode cX12_determinant 7 = .ok (.iconst (-1), 1) := by decide +kernel
theorem dX12_determinant_8 : decode cX12_determinant 8 = .ok (.ireturn, 1) := by decide +kernel
theorem dX12_determinant_9 : decode cX12_determinant 9 = .ok (.aload_n 0, 1) := by decide +kernel
theorem dX12_determinant_10 : decode cX12_determinant 10 = .ok (.iload_n 1, 1) := by decide +kernel
theorem dX12_determinant_11 : decode cX12_determinant 11 = .ok (.invokevirtual 173, 3) := by decide +kernel
theorem dX12_determinant_14 : decode cX12_determinant 14 = .ok (.aload_n 0, 1) := by decide +kernel
theorem dX12_determinant_15 : decode cX12_determinant 15 = .ok (.getfield 154, 3) := by decide +kernel
theorem dX12_determinant_18 : decode cX12_determinant 18 = .ok (.ireturn, 1) := by decide +kernel
theorem dX12_rank_0 : decode cX12_rank 0 = .ok (.iload_n 1, 1) := by decide +kernel
theorem dX12_rank_1 : decode cX12_rank 1 = .ok (.invokestatic 96, 3) := by decide +kernel
theorem dX12_rank_4 : decode cX12_rank 4 = .ok (.ifCond .ne 5, 3) := by decide +kernel
theorem dX12_rank_7 : decode cX12_rank 7 = .ok (.iconst (-1), 1) := by decide +kernel
theorem dX12_rank_8 : decode cX12_rank 8 = .ok (.ireturn, 1) := by decide +kernel
theorem dX12_rank_9 : decode cX12_rank 9 = .ok (.aload_n 0, 1) := by decide +kernel
theorem dX12_rank_10 : decode cX12_rank 10 = .ok (.iload_n 1, 1) := by decide +kernel
theorem dX12_rank_11 : decode cX12_rank 11 = .ok (.invokevirtual 173, 3) := by decide +kernel
theorem dX12_rank_14 : decode cX12_rank 14 = .ok (.aload_n 0, 1) := by decide +kernel
theorem dX12_rank_15 : decode cX12_rank 15 = .ok (.getfield 151, 3) := by decide +kernel
theorem dX12_rank_18 : decode cX12_rank 18 = .ok (.ireturn, 1) := by decide +kernel
theorem dX12_weighs_0 : decode cX12_weighs 0 = .ok (.aload_n 0, 1) := by decide +kernel
theorem dX12_weighs_1 : decode cX12_weighs 1 = .ok (.getfield 9, 3) := by decide +kernel
theorem dX12_weighs_4 : decode cX12_weighs 4 = .ok (.iconst 2, 1) := by decide +kernel
theorem dX12_weighs_5 : decode cX12_weighs 5 = .ok (.iaload, 1) := by decide +kernel
theorem dX12_weighs_6 : decode cX12_weighs 6 = .ok (.istore 4, 2) := by decide +kernel
theorem dX12_weighs_8 : decode cX12_weighs 8 = .ok (.iconst 0, 1) := by decide +kernel
theorem dX12_weighs_9 : decode cX12_weighs 9 = .ok (.istore 5, 2) := by decide +kernel
theorem dX12_weighs_11 : decode cX12_weighs 11 = .ok (.bipush (-5), 2) := by decide +kernel
theorem dX12_weighs_13 : decode cX12_weighs 13 = .ok (.istore 6, 2) := by decide +kernel
theorem dX12_weighs_15 : decode cX12_weighs 15 = .ok (.iconst 0, 1) := by decide +kernel
theorem dX12_weighs_16 : decode cX12_weighs 16 = .ok (.istore 7, 2) := by decide +kernel
theorem dX12_weighs_18 : decode cX12_weighs 18 = .ok (.iload 7, 2) := by decide +kernel
theorem dX12_weighs_20 : decode cX12_weighs 20 = .ok (.bipush 101, 2) := by decide +kernel
theorem dX12_weighs_22 : decode cX12_weighs 22 = .ok (.if_icmp .ge 48, 3) := by decide +kernel
theorem dX12_weighs_25 : decode cX12_weighs 25 = .ok (.aload_n 0, 1) := by decide +kernel
theorem dX12_weighs_26 : decode cX12_weighs 26 = .ok (.getfield 9, 3) := by decide +kernel
theorem dX12_weighs_29 : decode cX12_weighs 29 = .ok (.iconst 2, 1) := by decide +kernel
theorem dX12_weighs_30 : decode cX12_weighs 30 = .ok (.iload 7, 2) := by decide +kernel
theorem dX12_weighs_32 : decode cX12_weighs 32 = .ok (.iastore, 1) := by decide +kernel
theorem dX12_weighs_33 : decode cX12_weighs 33 = .ok (.aload_n 0, 1) := by decide +kernel
theorem dX12_weighs_34 : decode cX12_weighs 34 = .ok (.iload_n 1, 1) := by decide +kernel
theorem dX12_weighs_35 : decode cX12_weighs 35 = .ok (.invokevirtual 173, 3) := by decide +kernel
theorem dX12_weighs_38 : decode cX12_weighs 38 = .ok (.aload_n 0, 1) := by decide +kernel
theorem dX12_weighs_39 : decode cX12_weighs 39 = .ok (.getfield 154, 3) := by decide +kernel
theorem dX12_weighs_42 : decode cX12_weighs 42 = .ok (.iload_n 2, 1) := by decide +kernel
theorem dX12_weighs_43 : decode cX12_weighs 43 = .ok (.if_icmp .ne 21, 3) := by decide +kernel
theorem dX12_weighs_46 : decode cX12_weighs 46 = .ok (.iload 5, 2) := by decide +kernel
theorem dX12_weighs_48 : decode cX12_weighs 48 = .ok (.iload_n 3, 1) := by decide +kernel
theorem dX12_weighs_49 : decode cX12_weighs 49 = .ok (.if_icmp .ne 8, 3) := by decide +kernel
theorem dX12_weighs_52 : decode cX12_weighs 52 = .ok (.iload 7, 2) := by decide +kernel
theorem dX12_weighs_54 : decode cX12_weighs 54 = .ok (.goto 5, 3) := by decide +kernel
theorem dX12_weighs_57 : decode cX12_weighs 57 = .ok (.iload 6, 2) := by decide +kernel
theorem dX12_weighs_59 : decode cX12_weighs 59 = .ok (.istore 6, 2) := by decide +kernel
theorem dX12_weighs_61 : decode cX12_weighs 61 = .ok (.iinc 5 1, 3) := by decide +kernel
theorem dX12_weighs_64 : decode cX12_weighs 64 = .ok (.iinc 7 1, 3) := by decide +kernel
theorem dX12_weighs_67 : decode cX12_weighs 67 = .ok (.goto (-49), 3) := by decide +kernel
theorem dX12_weighs_70 : decode cX12_weighs 70 = .ok (.aload_n 0, 1) := by decide +kernel
theorem dX12_weighs_71 : decode cX12_weighs 71 = .ok (.getfield 9, 3) := by decide +kernel
theorem dX12_weighs_74 : decode cX12_weighs 74 = .ok (.iconst 2, 1) := by decide +kernel
theorem dX12_weighs_75 : decode cX12_weighs 75 = .ok (.iload 4, 2) := by decide +kernel
theorem dX12_weighs_77 : decode cX12_weighs 77 = .ok (.iastore, 1) := by decide +kernel
theorem dX12_weighs_78 : decode cX12_weighs 78 = .ok (.iload_n 3, 1) := by decide +kernel
theorem dX12_weighs_79 : decode cX12_weighs 79 = .ok (.iconst (-1), 1) := by decide +kernel
theorem dX12_weighs_80 : decode cX12_weighs 80 = .ok (.if_icmp .ne 8, 3) := by decide +kernel
theorem dX12_weighs_83 : decode cX12_weighs 83 = .ok (.iload 5, 2) := by decide +kernel
theorem dX12_weighs_85 : decode cX12_weighs 85 = .ok (.goto 5, 3) := by decide +kernel
theorem dX12_weighs_88 : decode cX12_weighs 88 = .ok (.iload 6, 2) := by decide +kernel
theorem dX12_weighs_90 : decode cX12_weighs 90 = .ok (.ireturn, 1) := by decide +kernel
theorem dX12_zeros_0 : decode cX12_zeros 0 = .ok (.iload_n 1, 1) := by decide +kernel
theorem dX12_zeros_1 : decode cX12_zeros 1 = .ok (.invokestatic 96, 3) := by decide +kernel
theorem dX12_zeros_4 : decode cX12_zeros 4 = .ok (.ifCond .eq 13, 3) := by decide +kernel
theorem dX12_zeros_7 : decode cX12_zeros 7 = .ok (.aload_n 0, 1) := by decide +kernel
theorem dX12_zeros_8 : decode cX12_zeros 8 = .ok (.iload_n 1, 1) := by decide +kernel
theorem dX12_zeros_9 : decode cX12_zeros 9 = .ok (.iconst 0, 1) := by decide +kernel
theorem dX12_zeros_10 : decode cX12_zeros 10 = .ok (.iload_n 2, 1) := by decide +kernel
theorem dX12_zeros_11 : decode cX12_zeros 11 = .ok (.invokevirtual 176, 3) := by decide +kernel
theorem dX12_zeros_14 : decode cX12_zeros 14 = .ok (.goto 4, 3) := by decide +kernel
theorem dX12_zeros_17 : decode cX12_zeros 17 = .ok (.iconst (-1), 1) := by decide +kernel
theorem dX12_zeros_18 : decode cX12_zeros 18 = .ok (.ireturn, 1) := by decide +kernel
theorem dX12_were_0 : decode cX12_were 0 = .ok (.iload_n 1, 1) := by decide +kernel
theorem dX12_were_1 : decode cX12_were 1 = .ok (.invokestatic 96, 3) := by decide +kernel
theorem dX12_were_4 : decode cX12_were 4 = .ok (.ifCond .eq 13, 3) := by decide +kernel
theorem dX12_were_7 : decode cX12_were 7 = .ok (.aload_n 0, 1) := by decide +kernel
theorem dX12_were_8 : decode cX12_were 8 = .ok (.iload_n 1, 1) := by decide +kernel
theorem dX12_were_9 : decode cX12_were 9 = .ok (.iload_n 2, 1) := by decide +kernel
theorem dX12_were_10 : decode cX12_were 10 = .ok (.iload_n 3, 1) := by decide +kernel
theorem dX12_were_11 : decode cX12_were 11 = .ok (.invokevirtual 176, 3) := by decide +kernel
theorem dX12_were_14 : decode cX12_were 14 = .ok (.goto 4, 3) := by decide +kernel
theorem dX12_were_17 : decode cX12_were 17 = .ok (.iconst (-1), 1) := by decide +kernel
theorem dX12_were_18 : decode cX12_were 18 = .ok (.ireturn, 1) := by decide +kernel
theorem dX12_layLowering_0 : decode cX12_layLowering 0 = .ok (.aload_n 0, 1) := by decide +kernel
theorem dX12_layLowering_1 : decode cX12_layLowering 1 = .ok (.invokevirtual 139, 3) := by decide +kernel
theorem dX12_layLowering_4 : decode cX12_layLowering 4 = .ok (.aload_n 0, 1) := by decide +kernel
theorem dX12_layLowering_5 : decode cX12_layLowering 5 = .ok (.iconst 0, 1) := by decide +kernel
theorem dX12_layLowering_6 : decode cX12_layLowering 6 = .ok (.putfield 157, 3) := by decide +kernel
theorem dX12_layLowering_9 : decode cX12_layLowering 9 = .ok (.iconst 1, 1) := by decide +kernel
theorem dX12_layLowering_10 : decode cX12_layLowering 10 = .ok (.istore_n 2, 1) := by decide +kernel
theorem dX12_layLowering_11 : decode cX12_layLowering 11 = .ok (.iload_n 2, 1) := by decide +kernel
theorem dX12_layLowering_12 : decode cX12_layLowering 12 = .ok (.iload_n 1, 1) := by decide +kernel
theorem dX12_layLowering_13 : decode cX12_layLowering 13 = .ok (.if_icmp .gt 103, 3) := by decide +kernel
theorem dX12_layLowering_16 : decode cX12_layLowering 16 = .ok (.iconst 0, 1) := by decide +kernel
theorem dX12_layLowering_17 : decode cX12_layLowering 17 = .ok (.istore_n 3, 1) := by decide +kernel
theorem dX12_layLowering_18 : decode cX12_layLowering 18 = .ok (.iload_n 3, 1) := by decide +kernel
theorem dX12_layLowering_19 : decode cX12_layLowering 19 = .ok (.aload_n 0, 1) := by decide +kernel
theorem dX12_layLowering_20 : decode cX12_layLowering 20 = .ok (.iload_n 1, 1) := by decide +kernel
theorem dX12_layLowering_21 : decode cX12_layLowering 21 = .ok (.iload_n 2, 1) := by decide +kernel
theorem dX12_layLowering_22 : decode cX12_layLowering 22 = .ok (.isub, 1) := by decide +kernel
theorem dX12_layLowering_23 : decode cX12_layLowering 23 = .ok (.invokevirtual 100, 3) := by decide +kernel
theorem dX12_layLowering_26 : decode cX12_layLowering 26 = .ok (.if_icmp .ge 84, 3) := by decide +kernel
theorem dX12_layLowering_29 : decode cX12_layLowering 29 = .ok (.iconst 0, 1) := by decide +kernel
theorem dX12_layLowering_30 : decode cX12_layLowering 30 = .ok (.istore 4, 2) := by decide +kernel
theorem dX12_layLowering_32 : decode cX12_layLowering 32 = .ok (.iload 4, 2) := by decide +kernel
theorem dX12_layLowering_34 : decode cX12_layLowering 34 = .ok (.bipush 7, 2) := by decide +kernel
theorem dX12_layLowering_36 : decode cX12_layLowering 36 = .ok (.if_icmp .ge 58, 3) := by decide +kernel
theorem dX12_layLowering_39 : decode cX12_layLowering 39 = .ok (.aload_n 0, 1) := by decide +kernel
theorem dX12_layLowering_40 : decode cX12_layLowering 40 = .ok (.getfield 61, 3) := by decide +kernel
theorem dX12_layLowering_43 : decode cX12_layLowering 43 = .ok (.bipush 7, 2) := by decide +kernel
theorem dX12_layLowering_45 : decode cX12_layLowering 45 = .ok (.aload_n 0, 1) := by decide +kernel
theorem dX12_layLowering_46 : decode cX12_layLowering 46 = .ok (.getfield 157, 3) := by decide +kernel
theorem dX12_layLowering_49 : decode cX12_layLowering 49 = .ok (.imul, 1) := by decide +kernel
theorem dX12_layLowering_50 : decode cX12_layLowering 50 = .ok (.iload 4, 2) := by decide +kernel
theorem dX12_layLowering_52 : decode cX12_layLowering 52 = .ok (.iadd, 1) := by decide +kernel
theorem dX12_layLowering_53 : decode cX12_layLowering 53 = .ok (.iload 4, 2) := by decide +kernel
theorem dX12_layLowering_55 : decode cX12_layLowering 55 = .ok (.aload_n 0, 1) := by decide +kernel
theorem dX12_layLowering_56 : decode cX12_layLowering 56 = .ok (.iload_n 1, 1) := by decide +kernel
theorem dX12_layLowering_57 : decode cX12_layLowering 57 = .ok (.invokevirtual 100, 3) := by decide +kernel
theorem dX12_layLowering_60 : decode cX12_layLowering 60 = .ok (.if_icmp .ge 26, 3) := by decide +kernel
theorem dX12_layLowering_63 : decode cX12_layLowering 63 = .ok (.aload_n 0, 1) := by decide +kernel
theorem dX12_layLowering_64 : decode cX12_layLowering 64 = .ok (.getfield 52, 3) := by decide +kernel
theorem dX12_layLowering_67 : decode cX12_layLowering 67 = .ok (.iload_n 2, 1) := by decide +kernel
theorem dX12_layLowering_68 : decode cX12_layLowering 68 = .ok (.aload_n 0, 1) := by decide +kernel
theorem dX12_layLowering_69 : decode cX12_layLowering 69 = .ok (.getfield 15, 3) := by decide +kernel
theorem dX12_layLowering_72 : decode cX12_layLowering 72 = .ok (.iload_n 1, 1) := by decide +kernel
theorem dX12_layLowering_73 : decode cX12_layLowering 73 = .ok (.iaload, 1) := by decide +kernel
theorem dX12_layLowering_74 : decode cX12_layLowering 74 = .ok (.iload 4, 2) := by decide +kernel
theorem dX12_layLowering_76 : decode cX12_layLowering 76 = .ok (.iadd, 1) := by decide +kernel
theorem dX12_layLowering_77 : decode cX12_layLowering 77 = .ok (.invokestatic 116, 3) := by decide +kernel
theorem dX12_layLowering_80 : decode cX12_layLowering 80 = .ok (.iload_n 3, 1) := by decide +kernel
theorem dX12_layLowering_81 : decode cX12_layLowering 81 = .ok (.iadd, 1) := by decide +kernel
theorem dX12_layLowering_82 : decode cX12_layLowering 82 = .ok (.iaload, 1) := by decide +kernel
theorem dX12_layLowering_83 : decode cX12_layLowering 83 = .ok (.goto 4, 3) := by decide +kernel
theorem dX12_layLowering_86 : decode cX12_layLowering 86 = .ok (.iconst 0, 1) := by decide +kernel
theorem dX12_layLowering_87 : decode cX12_layLowering 87 = .ok (.iastore, 1) := by decide +kernel
theorem dX12_layLowering_88 : decode cX12_layLowering 88 = .ok (.iinc 4 1, 3) := by decide +kernel
theorem dX12_layLowering_91 : decode cX12_layLowering 91 = .ok (.goto (-59), 3) := by decide +kernel
theorem dX12_layLowering_94 : decode cX12_layLowering 94 = .ok (.aload_n 0, 1) := by decide +kernel
theorem dX12_layLowering_95 : decode cX12_layLowering 95 = .ok (.dup, 1) := by decide +kernel
theorem dX12_layLowering_96 : decode cX12_layLowering 96 = .ok (.getfield 157, 3) := by decide +kernel
theorem dX12_layLowering_99 : decode cX12_layLowering 99 = .ok (.iconst 1, 1) := by decide +kernel
theorem dX12_layLowering_100 : decode cX12_layLowering 100 = .ok (.iadd, 1) := by decide +kernel
theorem dX12_layLowering_101 : decode cX12_layLowering 101 = .ok (.putfield 157, 3) := by decide +kernel
theorem dX12_layLowering_104 : decode cX12_layLowering 104 = .ok (.iinc 3 1, 3) := by decide +kernel
theorem dX12_layLowering_107 : decode cX12_layLowering 107 = .ok (.goto (-89), 3) := by decide +kernel
theorem dX12_layLowering_110 : decode cX12_layLowering 110 = .ok (.iinc 2 1, 3) := by decide +kernel
theorem dX12_layLowering_113 : decode cX12_layLowering 113 = .ok (.goto (-102), 3) := by decide +kernel
theorem dX12_layLowering_116 : decode cX12_layLowering 116 = .ok (.aload_n 0, 1) := by decide +kernel
theorem dX12_layLowering_117 : decode cX12_layLowering 117 = .ok (.aload_n 0, 1) := by decide +kernel
theorem dX12_layLowering_118 : decode cX12_layLowering 118 = .ok (.iload_n 1, 1) := by decide +kernel
theorem dX12_layLowering_119 : decode cX12_layLowering 119 = .ok (.invokevirtual 100, 3) := by decide +kernel
theorem dX12_layLowering_122 : decode cX12_layLowering 122 = .ok (.invokevirtual 170, 3) := by decide +kernel
theorem dX12_layLowering_125 : decode cX12_layLowering 125 = .ok (.return_, 1) := by decide +kernel
theorem dX12_vanishing_0 : decode cX12_vanishing 0 = .ok (.iload_n 1, 1) := by decide +kernel
theorem dX12_vanishing_1 : decode cX12_vanishing 1 = .ok (.invokestatic 96, 3) := by decide +kernel
theorem dX12_vanishing_4 : decode cX12_vanishing 4 = .ok (.ifCond .ne 5, 3) := by decide +kernel
theorem dX12_vanishing_7 : decode cX12_vanishing 7 = .ok (.iconst (-1), 1) := by decide +kernel
theorem dX12_vanishing_8 : decode cX12_vanishing 8 = .ok (.ireturn, 1) := by decide +kernel
theorem dX12_vanishing_9 : decode cX12_vanishing 9 = .ok (.aload_n 0, 1) := by decide +kernel
theorem dX12_vanishing_10 : decode cX12_vanishing 10 = .ok (.iload_n 1, 1) := by decide +kernel
theorem dX12_vanishing_11 : decode cX12_vanishing 11 = .ok (.invokevirtual 179, 3) := by decide +kernel
theorem dX12_vanishing_14 : decode cX12_vanishing 14 = .ok (.aload_n 0, 1) := by decide +kernel
theorem dX12_vanishing_15 : decode cX12_vanishing 15 = .ok (.iload_n 1, 1) := by decide +kernel
theorem dX12_vanishing_16 : decode cX12_vanishing 16 = .ok (.invokevirtual 100, 3) := by decide +kernel
theorem dX12_vanishing_19 : decode cX12_vanishing 19 = .ok (.aload_n 0, 1) := by decide +kernel
theorem dX12_vanishing_20 : decode cX12_vanishing 20 = .ok (.getfield 151, 3) := by decide +kernel
theorem dX12_vanishing_23 : decode cX12_vanishing 23 = .ok (.isub, 1) := by decide +kernel
theorem dX12_vanishing_24 : decode cX12_vanishing 24 = .ok (.istore_n 3, 1) := by decide +kernel
theorem dX12_vanishing_25 : decode cX12_vanishing 25 = .ok (.iload_n 2, 1) := by decide +kernel
theorem dX12_vanishing_26 : decode cX12_vanishing 26 = .ok (.iconst (-1), 1) := by decide +kernel
theorem dX12_vanishing_27 : decode cX12_vanishing 27 = .ok (.if_icmp .ne 5, 3) := by decide +kernel
theorem dX12_vanishing_30 : decode cX12_vanishing 30 = .ok (.iload_n 3, 1) := by decide +kernel
theorem dX12_vanishing_31 : decode cX12_vanishing 31 = .ok (.ireturn, 1) := by decide +kernel
theorem dX12_vanishing_32 : decode cX12_vanishing 32 = .ok (.iload_n 3, 1) := by decide +kernel
theorem dX12_vanishing_33 : decode cX12_vanishing 33 = .ok (.iconst 1, 1) := by decide +kernel
theorem dX12_vanishing_34 : decode cX12_vanishing 34 = .ok (.if_icmp .ne 18, 3) := by decide +kernel
theorem dX12_vanishing_37 : decode cX12_vanishing 37 = .ok (.iload_n 2, 1) := by decide +kernel
theorem dX12_vanishing_38 : decode cX12_vanishing 38 = .ok (.iconst 0, 1) := by decide +kernel
theorem dX12_vanishing_39 : decode cX12_vanishing 39 = .ok (.aload_n 0, 1) := by decide +kernel
theorem dX12_vanishing_40 : decode cX12_vanishing 40 = .ok (.iload_n 1, 1) := by decide +kernel
theorem dX12_vanishing_41 : decode cX12_vanishing 41 = .ok (.invokevirtual 100, 3) := by decide +kernel
theorem dX12_vanishing_44 : decode cX12_vanishing 44 = .ok (.iconst 1, 1) := by decide +kernel
theorem dX12_vanishing_45 : decode cX12_vanishing 45 = .ok (.isub, 1) := by decide +kernel
theorem dX12_vanishing_46 : decode cX12_vanishing 46 = .ok (.invokestatic 92, 3) := by decide +kernel
theorem dX12_vanishing_49 : decode cX12_vanishing 49 = .ok (.ifCond .ne 6, 3) := by decide +kernel
theorem dX12_vanishing_52 : decode cX12_vanishing 52 = .ok (.bipush (-5), 2) := by decide +kernel
theorem dX12_vanishing_54 : decode cX12_vanishing 54 = .ok (.ireturn, 1) := by decide +kernel
theorem dX12_vanishing_55 : decode cX12_vanishing 55 = .ok (.aload_n 0, 1) := by decide +kernel
theorem dX12_vanishing_56 : decode cX12_vanishing 56 = .ok (.getfield 151, 3) := by decide +kernel
theorem dX12_vanishing_59 : decode cX12_vanishing 59 = .ok (.istore 4, 2) := by decide +kernel
theorem dX12_vanishing_61 : decode cX12_vanishing 61 = .ok (.aload_n 0, 1) := by decide +kernel
theorem dX12_vanishing_62 : decode cX12_vanishing 62 = .ok (.getfield 151, 3) := by decide +kernel
theorem dX12_vanishing_65 : decode cX12_vanishing 65 = .ok (.iconst 1, 1) := by decide +kernel
theorem dX12_vanishing_66 : decode cX12_vanishing 66 = .ok (.isub, 1) := by decide +kernel
theorem dX12_vanishing_67 : decode cX12_vanishing 67 = .ok (.istore 5, 2) := by decide +kernel
theorem dX12_vanishing_69 : decode cX12_vanishing 69 = .ok (.iload 5, 2) := by decide +kernel
theorem dX12_vanishing_71 : decode cX12_vanishing 71 = .ok (.ifCond .lt 30, 3) := by decide +kernel
theorem dX12_vanishing_74 : decode cX12_vanishing 74 = .ok (.aload_n 0, 1) := by decide +kernel
theorem dX12_vanishing_75 : decode cX12_vanishing 75 = .ok (.getfield 64, 3) := by decide +kernel
theorem dX12_vanishing_78 : decode cX12_vanishing 78 = .ok (.iload 5, 2) := by decide +kernel
theorem dX12_vanishing_80 : decode cX12_vanishing 80 = .ok (.iaload, 1) := by decide +kernel
theorem dX12_vanishing_81 : decode cX12_vanishing 81 = .ok (.iload 5, 2) := by decide +kernel
theorem dX12_vanishing_83 : decode cX12_vanishing 83 = .ok (.if_icmp .le 8, 3) := by decide +kernel
theorem dX12_vanishing_86 : decode cX12_vanishing 86 = .ok (.iload 5, 2) := by decide +kernel
theorem dX12_vanishing_88 : decode cX12_vanishing 88 = .ok (.goto 5, 3) := by decide +kernel
theorem dX12_vanishing_91 : decode cX12_vanishing 91 = .ok (.iload 4, 2) := by decide +kernel
theorem dX12_vanishing_93 : decode cX12_vanishing 93 = .ok (.istore 4, 2) := by decide +kernel
theorem dX12_vanishing_95 : decode cX12_vanishing 95 = .ok (.iinc 5 (-1), 3) := by decide +kernel
theorem dX12_vanishing_98 : decode cX12_vanishing 98 = .ok (.goto (-29), 3) := by decide +kernel
theorem dX12_vanishing_101 : decode cX12_vanishing 101 = .ok (.aload_n 0, 1) := by decide +kernel
theorem dX12_vanishing_102 : decode cX12_vanishing 102 = .ok (.iload_n 1, 1) := by decide +kernel
theorem dX12_vanishing_103 : decode cX12_vanishing 103 = .ok (.iload 4, 2) := by decide +kernel
theorem dX12_vanishing_105 : decode cX12_vanishing 105 = .ok (.invokevirtual 142, 3) := by decide +kernel
theorem dX12_vanishing_108 : decode cX12_vanishing 108 = .ok (.iconst 0, 1) := by decide +kernel
theorem dX12_vanishing_109 : decode cX12_vanishing 109 = .ok (.istore 5, 2) := by decide +kernel
theorem dX12_vanishing_111 : decode cX12_vanishing 111 = .ok (.iload 5, 2) := by decide +kernel
theorem dX12_vanishing_113 : decode cX12_vanishing 113 = .ok (.aload_n 0, 1) := by decide +kernel
theorem dX12_vanishing_114 : decode cX12_vanishing 114 = .ok (.getfield 151, 3) := by decide +kernel
theorem dX12_vanishing_117 : decode cX12_vanishing 117 = .ok (.if_icmp .ge 38, 3) := by decide +kernel
theorem dX12_vanishing_120 : decode cX12_vanishing 120 = .ok (.aload_n 0, 1) := by decide +kernel
theorem dX12_vanishing_121 : decode cX12_vanishing 121 = .ok (.getfield 55, 3) := by decide +kernel
theorem dX12_vanishing_124 : decode cX12_vanishing 124 = .ok (.aload_n 0, 1) := by decide +kernel
theorem dX12_vanishing_125 : decode cX12_vanishing 125 = .ok (.getfield 64, 3) := by decide +kernel
theorem dX12_vanishing_128 : decode cX12_vanishing 128 = .ok (.iload 5, 2) := by decide +kernel
theorem dX12_vanishing_130 : decode cX12_vanishing 130 = .ok (.iaload, 1) := by decide +kernel
theorem dX12_vanishing_131 : decode cX12_vanishing 131 = .ok (.aload_n 0, 1) := by decide +kernel
theorem dX12_vanishing_132 : decode cX12_vanishing 132 = .ok (.getfield 61, 3) := by decide +kernel
theorem dX12_vanishing_135 : decode cX12_vanishing 135 = .ok (.bipush 7, 2) := by decide +kernel
theorem dX12_vanishing_137 : decode cX12_vanishing 137 = .ok (.iload 5, 2) := by decide +kernel
theorem dX12_vanishing_139 : decode cX12_vanishing 139 = .ok (.imul, 1) := by decide +kernel
theorem dX12_vanishing_140 : decode cX12_vanishing 140 = .ok (.iload 4, 2) := by decide +kernel
theorem dX12_vanishing_142 : decode cX12_vanishing 142 = .ok (.iadd, 1) := by decide +kernel
theorem dX12_vanishing_143 : decode cX12_vanishing 143 = .ok (.iaload, 1) := by decide +kernel
theorem dX12_vanishing_144 : decode cX12_vanishing 144 = .ok (.ineg, 1) := by decide +kernel
theorem dX12_vanishing_145 : decode cX12_vanishing 145 = .ok (.invokestatic 104, 3) := by decide +kernel
theorem dX12_vanishing_148 : decode cX12_vanishing 148 = .ok (.iastore, 1) := by decide +kernel
theorem dX12_vanishing_149 : decode cX12_vanishing 149 = .ok (.iinc 5 1, 3) := by decide +kernel
theorem dX12_vanishing_152 : decode cX12_vanishing 152 = .ok (.goto (-41), 3) := by decide +kernel
theorem dX12_vanishing_155 : decode cX12_vanishing 155 = .ok (.iconst 0, 1) := by decide +kernel
theorem dX12_vanishing_156 : decode cX12_vanishing 156 = .ok (.istore 5, 2) := by decide +kernel
theorem dX12_vanishing_158 : decode cX12_vanishing 158 = .ok (.aload_n 0, 1) := by decide +kernel
theorem dX12_vanishing_159 : decode cX12_vanishing 159 = .ok (.getfield 55, 3) := by decide +kernel
theorem dX12_vanishing_162 : decode cX12_vanishing 162 = .ok (.iload 5, 2) := by decide +kernel
theorem dX12_vanishing_164 : decode cX12_vanishing 164 = .ok (.iaload, 1) := by decide +kernel
theorem dX12_vanishing_165 : decode cX12_vanishing 165 = .ok (.ifCond .ne 9, 3) := by decide +kernel
theorem dX12_vanishing_168 : decode cX12_vanishing 168 = .ok (.iinc 5 1, 3) := by decide +kernel
theorem dX12_vanishing_171 : decode cX12_vanishing 171 = .ok (.goto (-13), 3) := by decide +kernel
theorem dX12_vanishing_174 : decode cX12_vanishing 174 = .ok (.aload_n 0, 1) := by decide +kernel
