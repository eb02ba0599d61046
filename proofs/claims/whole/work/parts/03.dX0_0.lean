theorem dX0_init_0 : decode cX0_init 0 = .ok (.aload_n 0, 1) := by decide +kernel
theorem dX0_init_1 : decode cX0_init 1 = .ok (.invokespecial 3, 3) := by decide +kernel
theorem dX0_init_4 : decode cX0_init 4 = .ok (.aload_n 0, 1) := by decide +kernel
theorem dX0_init_5 : decode cX0_init 5 = .ok (.bipush 8, 2) := by decide +kernel
theorem dX0_init_7 : decode cX0_init 7 = .ok (.bipush 8, 2) := by decide +kernel
theorem dX0_init_9 : decode cX0_init 9 = .ok (.multianewarray 9 2, 4) := by decide +kernel
theorem dX0_init_13 : decode cX0_init 13 = .ok (.putfield 11, 3) := by decide +kernel
theorem dX0_init_16 : decode cX0_init 16 = .ok (.aload_n 0, 1) := by decide +kernel
theorem dX0_init_17 : decode cX0_init 17 = .ok (.bipush 9, 2) := by decide +kernel
theorem dX0_init_19 : decode cX0_init 19 = .ok (.bipush 9, 2) := by decide +kernel
theorem dX0_init_21 : decode cX0_init 21 = .ok (.multianewarray 9 2, 4) := by decide +kernel
theorem dX0_init_25 : decode cX0_init 25 = .ok (.putfield 16, 3) := by decide +kernel
theorem dX0_init_28 : decode cX0_init 28 = .ok (.aload_n 0, 1) := by decide +kernel
theorem dX0_init_29 : decode cX0_init 29 = .ok (.bipush 13, 2) := by decide +kernel
theorem dX0_init_31 : decode cX0_init 31 = .ok (.newarray .int, 2) := by decide +kernel
theorem dX0_init_33 : decode cX0_init 33 = .ok (.putfield 19, 3) := by decide +kernel
theorem dX0_init_36 : decode cX0_init 36 = .ok (.return_, 1) := by decide +kernel
theorem dX0_compare_0 : decode cX0_compare 0 = .ok (.aload_n 0, 1) := by decide +kernel
theorem dX0_compare_1 : decode cX0_compare 1 = .ok (.aload_n 1, 1) := by decide +kernel
theorem dX0_compare_2 : decode cX0_compare 2 = .ok (.aload_n 2, 1) := by decide +kernel
theorem dX0_compare_3 : decode cX0_compare 3 = .ok (.iload_n 3, 1) := by decide +kernel
theorem dX0_compare_4 : decode cX0_compare 4 = .ok (.invokevirtual 23, 3) := by decide +kernel
theorem dX0_compare_7 : decode cX0_compare 7 = .ok (.aload_n 0, 1) := by decide +kernel
theorem dX0_compare_8 : decode cX0_compare 8 = .ok (.aload_n 1, 1) := by decide +kernel
theorem dX0_compare_9 : decode cX0_compare 9 = .ok (.aload_n 2, 1) := by decide +kernel
theorem dX0_compare_10 : decode cX0_compare 10 = .ok (.iload_n 3, 1) := by decide +kernel
theorem dX0_compare_11 : decode cX0_compare 11 = .ok (.invokevirtual 27, 3) := by decide +kernel
theorem dX0_compare_14 : decode cX0_compare 14 = .ok (.aload 4, 2) := by decide +kernel
theorem dX0_compare_16 : decode cX0_compare 16 = .ok (.aload_n 0, 1) := by decide +kernel
theorem dX0_compare_17 : decode cX0_compare 17 = .ok (.getfield 16, 3) := by decide +kernel
theorem dX0_compare_20 : decode cX0_compare 20 = .ok (.iconst 0, 1) := by decide +kernel
theorem dX0_compare_21 : decode cX0_compare 21 = .ok (.aaload, 1) := by decide +kernel
theorem dX0_compare_22 : decode cX0_compare 22 = .ok (.iconst 0, 1) := by decide +kernel
theorem dX0_compare_23 : decode cX0_compare 23 = .ok (.iaload, 1) := by decide +kernel
theorem dX0_compare_24 : decode cX0_compare 24 = .ok (.putfield 30, 3) := by decide +kernel
theorem dX0_compare_27 : decode cX0_compare 27 = .ok (.aload 4, 2) := by decide +kernel
theorem dX0_compare_29 : decode cX0_compare 29 = .ok (.aload_n 1, 1) := by decide +kernel
theorem dX0_compare_30 : decode cX0_compare 30 = .ok (.iload_n 3, 1) := by decide +kernel
theorem dX0_compare_31 : decode cX0_compare 31 = .ok (.invokevirtual 36, 3) := by decide +kernel
theorem dX0_compare_34 : decode cX0_compare 34 = .ok (.aload_n 2, 1) := by decide +kernel
theorem dX0_compare_35 : decode cX0_compare 35 = .ok (.iload_n 3, 1) := by decide +kernel
theorem dX0_compare_36 : decode cX0_compare 36 = .ok (.invokevirtual 36, 3) := by decide +kernel
theorem dX0_compare_39 : decode cX0_compare 39 = .ok (.iadd, 1) := by decide +kernel
theorem dX0_compare_40 : decode cX0_compare 40 = .ok (.putfield 42, 3) := by decide +kernel
theorem dX0_compare_43 : decode cX0_compare 43 = .ok (.aload 4, 2) := by decide +kernel
theorem dX0_compare_45 : decode cX0_compare 45 = .ok (.aload_n 1, 1) := by decide +kernel
theorem dX0_compare_46 : decode cX0_compare 46 = .ok (.aload_n 2, 1) := by decide +kernel
theorem dX0_compare_47 : decode cX0_compare 47 = .ok (.invokevirtual 45, 3) := by decide +kernel
theorem dX0_compare_50 : decode cX0_compare 50 = .ok (.putfield 49, 3) := by decide +kernel
theorem dX0_compare_53 : decode cX0_compare 53 = .ok (.aload 4, 2) := by decide +kernel
theorem dX0_compare_55 : decode cX0_compare 55 = .ok (.invokevirtual 52, 3) := by decide +kernel
theorem dX0_compare_58 : decode cX0_compare 58 = .ok (.aload_n 0, 1) := by decide +kernel
theorem dX0_compare_59 : decode cX0_compare 59 = .ok (.aload_n 1, 1) := by decide +kernel
theorem dX0_compare_60 : decode cX0_compare 60 = .ok (.aload_n 2, 1) := by decide +kernel
theorem dX0_compare_61 : decode cX0_compare 61 = .ok (.iload_n 3, 1) := by decide +kernel
theorem dX0_compare_62 : decode cX0_compare 62 = .ok (.aload 4, 2) := by decide +kernel
theorem dX0_compare_64 : decode cX0_compare 64 = .ok (.invokevirtual 55, 3) := by decide +kernel
theorem dX0_compare_67 : decode cX0_compare 67 = .ok (.return_, 1) := by decide +kernel
theorem dX0_alikeOfWords_0 : decode cX0_alikeOfWords 0 = .ok (.aload_n 1, 1) := by decide +kernel
theorem dX0_alikeOfWords_1 : decode cX0_alikeOfWords 1 = .ok (.getfield 59, 3) := by decide +kernel
theorem dX0_alikeOfWords_4 : decode cX0_alikeOfWords 4 = .ok (.aload_n 2, 1) := by decide +kernel
theorem dX0_alikeOfWords_5 : decode cX0_alikeOfWords 5 = .ok (.getfield 59, 3) := by decide +kernel
theorem dX0_alikeOfWords_8 : decode cX0_alikeOfWords 8 = .ok (.invokestatic 64, 3) := by decide +kernel
theorem dX0_alikeOfWords_11 : decode cX0_alikeOfWords 11 = .ok (.istore_n 3, 1) := by decide +kernel
theorem dX0_alikeOfWords_12 : decode cX0_alikeOfWords 12 = .ok (.iload_n 3, 1) := by decide +kernel
theorem dX0_alikeOfWords_13 : decode cX0_alikeOfWords 13 = .ok (.iconst 1, 1) := by decide +kernel
theorem dX0_alikeOfWords_14 : decode cX0_alikeOfWords 14 = .ok (.if_icmp .ge 5, 3) := by decide +kernel
theorem dX0_alikeOfWords_17 : decode cX0_alikeOfWords 17 = .ok (.iconst 0, 1) := by decide +kernel
theorem dX0_alikeOfWords_18 : decode cX0_alikeOfWords 18 = .ok (.ireturn, 1) := by decide +kernel
theorem dX0_alikeOfWords_19 : decode cX0_alikeOfWords 19 = .ok (.bipush 10, 2) := by decide +kernel
theorem dX0_alikeOfWords_21 : decode cX0_alikeOfWords 21 = .ok (.aload_n 0, 1) := by decide +kernel
theorem dX0_alikeOfWords_22 : decode cX0_alikeOfWords 22 = .ok (.aload_n 1, 1) := by decide +kernel
theorem dX0_alikeOfWords_23 : decode cX0_alikeOfWords 23 = .ok (.aload_n 2, 1) := by decide +kernel
theorem dX0_alikeOfWords_24 : decode cX0_alikeOfWords 24 = .ok (.invokevirtual 70, 3) := by decide +kernel
theorem dX0_alikeOfWords_27 : decode cX0_alikeOfWords 27 = .ok (.imul, 1) := by decide +kernel
theorem dX0_alikeOfWords_28 : decode cX0_alikeOfWords 28 = .ok (.iload_n 3, 1) := by decide +kernel
theorem dX0_alikeOfWords_29 : decode cX0_alikeOfWords 29 = .ok (.iadd, 1) := by decide +kernel
theorem dX0_alikeOfWords_30 : decode cX0_alikeOfWords 30 = .ok (.iconst 1, 1) := by decide +kernel
theorem dX0_alikeOfWords_31 : decode cX0_alikeOfWords 31 = .ok (.isub, 1) := by decide +kernel
theorem dX0_alikeOfWords_32 : decode cX0_alikeOfWords 32 = .ok (.iload_n 3, 1) := by decide +kernel
theorem dX0_alikeOfWords_33 : decode cX0_alikeOfWords 33 = .ok (.idiv, 1) := by decide +kernel
theorem dX0_alikeOfWords_34 : decode cX0_alikeOfWords 34 = .ok (.ireturn, 1) := by decide +kernel
theorem dX0_fillBoth_0 : decode cX0_fillBoth 0 = .ok (.iconst 0, 1) := by decide +kernel
theorem dX0_fillBoth_1 : decode cX0_fillBoth 1 = .ok (.istore 4, 2) := by decide +kernel
theorem dX0_fillBoth_3 : decode cX0_fillBoth 3 = .ok (.iload 4, 2) := by decide +kernel
theorem dX0_fillBoth_5 : decode cX0_fillBoth 5 = .ok (.aload_n 1, 1) := by decide +kernel
theorem dX0_fillBoth_6 : decode cX0_fillBoth 6 = .ok (.getfield 74, 3) := by decide +kernel
theorem dX0_fillBoth_9 : decode cX0_fillBoth 9 = .ok (.if_icmp .ge 56, 3) := by decide +kernel
theorem dX0_fillBoth_12 : decode cX0_fillBoth 12 = .ok (.iconst 0, 1) := by decide +kernel
theorem dX0_fillBoth_13 : decode cX0_fillBoth 13 = .ok (.istore 5, 2) := by decide +kernel
theorem dX0_fillBoth_15 : decode cX0_fillBoth 15 = .ok (.iload 5, 2) := by decide +kernel
theorem dX0_fillBoth_17 : decode cX0_fillBoth 17 = .ok (.aload_n 2, 1) := by decide +kernel
theorem dX0_fillBoth_18 : decode cX0_fillBoth 18 = .ok (.getfield 74, 3) := by decide +kernel
theorem dX0_fillBoth_21 : decode cX0_fillBoth 21 = .ok (.if_icmp .ge 38, 3) := by decide +kernel
theorem dX0_fillBoth_24 : decode cX0_fillBoth 24 = .ok (.aload_n 0, 1) := by decide +kernel
theorem dX0_fillBoth_25 : decode cX0_fillBoth 25 = .ok (.getfield 11, 3) := by decide +kernel
theorem dX0_fillBoth_28 : decode cX0_fillBoth 28 = .ok (.iload 4, 2) := by decide +kernel
theorem dX0_fillBoth_30 : decode cX0_fillBoth 30 = .ok (.aaload, 1) := by decide +kernel
theorem dX0_fillBoth_31 : decode cX0_fillBoth 31 = .ok (.iload 5, 2) := by decide +kernel
theorem dX0_fillBoth_33 : decode cX0_fillBoth 33 = .ok (.aload_n 0, 1) := by decide +kernel
theorem dX0_fillBoth_34 : decode cX0_fillBoth 34 = .ok (.aload_n 1, 1) := by decide +kernel
theorem dX0_fillBoth_35 : decode cX0_fillBoth 35 = .ok (.getfield 77, 3) := by decide +kernel
theorem dX0_fillBoth_38 : decode cX0_fillBoth 38 = .ok (.iload 4, 2) := by decide +kernel
theorem dX0_fillBoth_40 : decode cX0_fillBoth 40 = .ok (.aaload, 1) := by decide +kernel
theorem dX0_fillBoth_41 : decode cX0_fillBoth 41 = .ok (.aload_n 2, 1) := by decide +kernel
theorem dX0_fillBoth_42 : decode cX0_fillBoth 42 = .ok (.getfield 77, 3) := by decide +kernel
theorem dX0_fillBoth_45 : decode cX0_fillBoth 45 = .ok (.iload 5, 2) := by decide +kernel
theorem dX0_fillBoth_47 : decode cX0_fillBoth 47 = .ok (.aaload, 1) := by decide +kernel
theorem dX0_fillBoth_48 : decode cX0_fillBoth 48 = .ok (.iload_n 3, 1) := by decide +kernel
theorem dX0_fillBoth_49 : decode cX0_fillBoth 49 = .ok (.invokevirtual 81, 3) := by decide +kernel
theorem dX0_fillBoth_52 : decode cX0_fillBoth 52 = .ok (.iastore, 1) := by decide +kernel
theorem dX0_fillBoth_53 : decode cX0_fillBoth 53 = .ok (.iinc 5 1, 3) := by decide +kernel
theorem dX0_fillBoth_56 : decode cX0_fillBoth 56 = .ok (.goto (-41), 3) := by decide +kernel
theorem dX0_fillBoth_59 : decode cX0_fillBoth 59 = .ok (.iinc 4 1, 3) := by decide +kernel
theorem dX0_fillBoth_62 : decode cX0_fillBoth 62 = .ok (.goto (-59), 3) := by decide +kernel
theorem dX0_fillBoth_65 : decode cX0_fillBoth 65 = .ok (.return_, 1) := by decide +kernel
theorem dX0_costOfBoth_0 : decode cX0_costOfBoth 0 = .ok (.aload_n 1, 1) := by decide +kernel
theorem dX0_costOfBoth_1 : decode cX0_costOfBoth 1 = .ok (.invokevirtual 85, 3) := by decide +kernel
theorem dX0_costOfBoth_4 : decode cX0_costOfBoth 4 = .ok (.aload_n 2, 1) := by decide +kernel
theorem dX0_costOfBoth_5 : decode cX0_costOfBoth 5 = .ok (.invokevirtual 85, 3) := by decide +kernel
theorem dX0_costOfBoth_8 : decode cX0_costOfBoth 8 = .ok (.if_icmp .eq 6, 3) := by decide +kernel
theorem dX0_costOfBoth_11 : decode cX0_costOfBoth 11 = .ok (.ldc 89, 2) := by decide +kernel
theorem dX0_costOfBoth_13 : decode cX0_costOfBoth 13 = .ok (.ireturn, 1) := by decide +kernel
theorem dX0_costOfBoth_14 : decode cX0_costOfBoth 14 = .ok (.aload_n 1, 1) := by decide +kernel
theorem dX0_costOfBoth_15 : decode cX0_costOfBoth 15 = .ok (.invokevirtual 85, 3) := by decide +kernel
theorem dX0_costOfBoth_18 : decode cX0_costOfBoth 18 = .ok (.ifCond .eq 10, 3) := by decide +kernel
theorem dX0_costOfBoth_21 : decode cX0_costOfBoth 21 = .ok (.aload_n 0, 1) := by decide +kernel
theorem dX0_costOfBoth_22 : decode cX0_costOfBoth 22 = .ok (.aload_n 1, 1) := by decide +kernel
theorem dX0_costOfBoth_23 : decode cX0_costOfBoth 23 = .ok (.aload_n 2, 1) := by decide +kernel
theorem dX0_costOfBoth_24 : decode cX0_costOfBoth 24 = .ok (.invokevirtual 90, 3) := by decide +kernel
theorem dX0_costOfBoth_27 : decode cX0_costOfBoth 27 = .ok (.ireturn, 1) := by decide +kernel
theorem dX0_costOfBoth_28 : decode cX0_costOfBoth 28 = .ok (.aload_n 1, 1) := by decide +kernel
theorem dX0_costOfBoth_29 : decode cX0_costOfBoth 29 = .ok (.getfield 93, 3) := by decide +kernel
theorem dX0_costOfBoth_32 : decode cX0_costOfBoth 32 = .ok (.aload_n 2, 1) := by decide +kernel
theorem dX0_costOfBoth_33 : decode cX0_costOfBoth 33 = .ok (.getfield 93, 3) := by decide +kernel
theorem dX0_costOfBoth_36 : decode cX0_costOfBoth 36 = .ok (.if_icmp .ne 7, 3) := by decide +kernel
theorem dX0_costOfBoth_39 : decode cX0_costOfBoth 39 = .ok (.iconst 0, 1) := by decide +kernel
theorem dX0_costOfBoth_40 : decode cX0_costOfBoth 40 = .ok (.goto 4, 3) := by decide +kernel
theorem dX0_costOfBoth_43 : decode cX0_costOfBoth 43 = .ok (.iload_n 3, 1) := by decide +kernel
theorem dX0_costOfBoth_44 : decode cX0_costOfBoth 44 = .ok (.ireturn, 1) := by decide +kernel
theorem dX0_fillRest_0 : decode cX0_fillRest 0 = .ok (.aload_n 1, 1) := by decide +kernel
theorem dX0_fillRest_1 : decode cX0_fillRest 1 = .ok (.getfield 74, 3) := by decide +kernel
theorem dX0_fillRest_4 : decode cX0_fillRest 4 = .ok (.istore 4, 2) := by decide +kernel
theorem dX0_fillRest_6 : decode cX0_fillRest 6 = .ok (.aload_n 2, 1) := by decide +kernel
theorem dX0_fillRest_7 : decode cX0_fillRest 7 = .ok (.getfield 74, 3) := by decide +kernel
theorem dX0_fillRest_10 : decode cX0_fillRest 10 = .ok (.istore 5, 2) := by decide +kernel
theorem dX0_fillRest_12 : decode cX0_fillRest 12 = .ok (.aload_n 0, 1) := by decide +kernel
theorem dX0_fillRest_13 : decode cX0_fillRest 13 = .ok (.getfield 16, 3) := by decide +kernel
theorem dX0_fillRest_16 : decode cX0_fillRest 16 = .ok (.iload 4, 2) := by decide +kernel
theorem dX0_fillRest_18 : decode cX0_fillRest 18 = .ok (.aaload, 1) := by decide +kernel
theorem dX0_fillRest_19 : decode cX0_fillRest 19 = .ok (.iload 5, 2) := by decide +kernel
theorem dX0_fillRest_21 : decode cX0_fillRest 21 = .ok (.iconst 0, 1) := by decide +kernel
theorem dX0_fillRest_22 : decode cX0_fillRest 22 = .ok (.iastore, 1) := by decide +kernel
theorem dX0_fillRest_23 : decode cX0_fillRest 23 = .ok (.iload 4, 2) := by decide +kernel
theorem dX0_fillRest_25 : decode cX0_fillRest 25 = .ok (.iconst 1, 1) := by decide +kernel
theorem dX0_fillRest_26 : decode cX0_fillRest 26 = .ok (.isub, 1) := by decide +kernel
theorem dX0_fillRest_27 : decode cX0_fillRest 27 = .ok (.istore 6, 2) := by decide +kernel
theorem dX0_fillRest_29 : decode cX0_fillRest 29 = .ok (.iload 6, 2) := by decide +kernel
theorem dX0_fillRest_31 : decode cX0_fillRest 31 = .ok (.ifCond .lt 43, 3) := by decide +kernel
theorem dX0_fillRest_34 : decode cX0_fillRest 34 = .ok (.aload_n 0, 1) := by decide +kernel
theorem dX0_fillRest_35 : decode cX0_fillRest 35 = .ok (.getfield 16, 3) := by decide +kernel
theorem dX0_fillRest_38 : decode cX0_fillRest 38 = .ok (.iload 6, 2) := by decide +kernel
theorem dX0_fillRest_40 : decode cX0_fillRest 40 = .ok (.aaload, 1) := by decide +kernel
theorem dX0_fillRest_41 : decode cX0_fillRest 41 = .ok (.iload 5, 2) := by decide +kernel
theorem dX0_fillRest_43 : decode cX0_fillRest 43 = .ok (.aload_n 0, 1) := by decide +kernel
theorem dX0_fillRest_44 : decode cX0_fillRest 44 = .ok (.getfield 16, 3) := by decide +kernel
theorem dX0_fillRest_47 : decode cX0_fillRest 47 = .ok (.iload 6, 2) := by decide +kernel
theorem dX0_fillRest_49 : decode cX0_fillRest 49 = .ok (.iconst 1, 1) := by decide +kernel
theorem dX0_fillRest_50 : decode cX0_fillRest 50 = .ok (.iadd, 1) := by decide +kernel
theorem dX0_fillRest_51 : decode cX0_fillRest 51 = .ok (.aaload, 1) := by decide +kernel
theorem dX0_fillRest_52 : decode cX0_fillRest 52 = .ok (.iload 5, 2) := by decide +kernel
theorem dX0_fillRest_54 : decode cX0_fillRest 54 = .ok (.iaload, 1) := by decide +kernel
theorem dX0_fillRest_55 : decode cX0_fillRest 55 = .ok (.aload_n 1, 1) := by decide +kernel
theorem dX0_fillRest_56 : decode cX0_fillRest 56 = .ok (.getfield 77, 3) := by decide +kernel
theorem dX0_fillRest_59 : decode cX0_fillRest 59 = .ok (.iload 6, 2) := by decide +kernel
theorem dX0_fillRest_61 : decode cX0_fillRest 61 = .ok (.aaload, 1) := by decide +kernel
theorem dX0_fillRest_62 : decode cX0_fillRest 62 = .ok (.iload_n 3, 1) := by decide +kernel
theorem dX0_fillRest_63 : decode cX0_fillRest 63 = .ok (.invokevirtual 96, 3) := by decide +kernel
theorem dX0_fillRest_66 : decode cX0_fillRest 66 = .ok (.iadd, 1) := by decide +kernel
theorem dX0_fillRest_67 : decode cX0_fillRest 67 = .ok (.iastore, 1) := by decide +kernel
theorem dX0_fillRest_68 : decode cX0_fillRest 68 = .ok (.iinc 6 (-1), 3) := by decide +kernel
theorem dX0_fillRest_71 : decode cX0_fillRest 71 = .ok (.goto (-42), 3) := by decide +kernel
theorem dX0_fillRest_74 : decode cX0_fillRest 74 = .ok (.iload 5, 2) := by decide +kernel
theorem dX0_fillRest_76 : decode cX0_fillRest 76 = .ok (.iconst 1, 1) := by decide +kernel
theorem dX0_fillRest_77 : decode cX0_fillRest 77 = .ok (.isub, 1) := by decide +kernel
theorem dX0_fillRest_78 : decode cX0_fillRest 78 = .ok (.istore 6, 2) := by decide +kernel
theorem dX0_fillRest_80 : decode cX0_fillRest 80 = .ok (.iload 6, 2) := by decide +kernel
theorem dX0_fillRest_82 : decode cX0_fillRest 82 = .ok (.ifCond .lt 43, 3) := by decide +kernel
theorem dX0_fillRest_85 : decode cX0_fillRest 85 = .ok (.aload_n 0, 1) := by decide +kernel
theorem dX0_fillRest_86 : decode cX0_fillRest 86 = .ok (.getfield 16, 3) := by decide +kernel
theorem dX0_fillRest_89 : decode cX0_fillRest 89 = .ok (.iload 4, 2) := by decide +kernel
theorem dX0_fillRest_91 : decode cX0_fillRest 91 = .ok (.aaload, 1) := by decide +kernel
theorem dX0_fillRest_92 : decode cX0_fillRest 92 = .ok (.iload 6, 2) := by decide +kernel
theorem dX0_fillRest_94 : decode cX0_fillRest 94 = .ok (.aload_n 0, 1) := by decide +kernel
theorem dX0_fillRest_95 : decode cX0_fillRest 95 = .ok (.getfield 16, 3) := by decide +kernel
theorem dX0_fillRest_98 : decode cX0_fillRest 98 = .ok (.iload 4, 2) := by decide +kernel
theorem dX0_fillRest_100 : decode cX0_fillRest 100 = .ok (.aaload, 1) := by decide +kernel
theorem dX0_fillRest_101 : decode cX0_fillRest 101 = .ok (.iload 6, 2) := by decide +kernel
theorem dX0_fillRest_103 : decode cX0_fillRest 103 = .ok (.iconst 1, 1) := by decide +kernel
theorem dX0_fillRest_104 : decode cX0_fillRest 104 = .ok (.iadd, 1) := by decide +kernel
theorem dX0_fillRest_105 : decode cX0_fillRest 105 = .ok (.iaload, 1) := by decide +kernel
theorem dX0_fillRest_106 : decode cX0_fillRest 106 = .ok (.aload_n 2, 1) := by decide +kernel
theorem dX0_fillRest_107 : decode cX0_fillRest 107 = .ok (.getfield 77, 3) := by decide +kernel
theorem dX0_fillRest_110 : decode cX0_fillRest 110 = .ok (.iload 6, 2) := by decide +kernel
theorem dX0_fillRest_112 : decode cX0_fillRest 112 = .ok (.aaload, 1) := by decide +kernel
theorem dX0_fillRest_113 : decode cX0_fillRest 113 = .ok (.iload_n 3, 1) := by decide +kernel
theorem dX0_fillRest_114 : decode cX0_fillRest 114 = .ok (.invokevirtual 96, 3) := by decide +kernel
theorem dX0_fillRest_117 : decode cX0_fillRest 117 = .ok (.iadd, 1) := by decide +kernel
theorem dX0_fillRest_118 : decode cX0_fillRest 118 = .ok (.iastore, 1) := by decide +kernel
theorem dX0_fillRest_119 : decode cX0_fillRest 119 = .ok (.iinc 6 (-1), 3) := by decide +kernel
theorem dX0_fillRest_122 : decode cX0_fillRest 122 = .ok (.goto (-42), 3) := by decide +kernel
theorem dX0_fillRest_125 : decode cX0_fillRest 125 = .ok (.iload 4, 2) := by decide +kernel
theorem dX0_fillRest_127 : decode cX0_fillRest 127 = .ok (.iconst 1, 1) := by decide +kernel
theorem dX0_fillRest_128 : decode cX0_fillRest 128 = .ok (.isub, 1) := by decide +kernel
theorem dX0_fillRest_129 : decode cX0_fillRest 129 = .ok (.istore 6, 2) := by decide +kernel
theorem dX0_fillRest_131 : decode cX0_fillRest 131 = .ok (.iload 6, 2) := by decide +kernel
theorem dX0_fillRest_133 : decode cX0_fillRest 133 = .ok (.ifCond .lt 131, 3) := by decide +kernel
theorem dX0_fillRest_136 : decode cX0_fillRest 136 = .ok (.aload_n 1, 1) := by decide +kernel
theorem dX0_fillRest_137 : decode cX0_fillRest 137 = .ok (.getfield 77, 3) := by decide +kernel
theorem dX0_fillRest_140 : decode cX0_fillRest 140 = .ok (.iload 6, 2) := by decide +kernel
theorem dX0_fillRest_142 : decode cX0_fillRest 142 = .ok (.aaload, 1) := by decide +kernel
theorem dX0_fillRest_143 : decode cX0_fillRest 143 = .ok (.iload_n 3, 1) := by decide +kernel
theorem dX0_fillRest_144 : decode cX0_fillRest 144 = .ok (.invokevirtual 96, 3) := by decide +kernel
theorem dX0_fillRest_147 : decode cX0_fillRest 147 = .ok (.istore 7, 2) := by decide +kernel
theorem dX0_fillRest_149 : decode cX0_fillRest 149 = .ok (.iload 5, 2) := by decide +kernel
theorem dX0_fillRest_151 : decode cX0_fillRest 151 = .ok (.iconst 1, 1) := by decide +kernel
theorem dX0_fillRest_152 : decode cX0_fillRest 152 = .ok (.isub, 1) := by decide +kernel
theorem dX0_fillRest_153 : decode cX0_fillRest 153 = .ok (.istore 8, 2) := by decide +kernel
theorem dX0_fillRest_155 : decode cX0_fillRest 155 = .ok (.iload 8, 2) := by decide +kernel
theorem dX0_fillRest_157 : decode cX0_fillRest 157 = .ok (.ifCond .lt 101, 3) := by decide +kernel
theorem dX0_fillRest_160 : decode cX0_fillRest 160 = .ok (.aload_n 0, 1) := by decide +kernel
theorem dX0_fillRest_161 : decode cX0_fillRest 161 = .ok (.getfield 11, 3) := by decide +kernel
theorem dX0_fillRest_164 : decode cX0_fillRest 164 = .ok (.iload 6, 2) := by decide +kernel
theorem dX0_fillRest_166 : decode cX0_fillRest 166 = .ok (.aaload, 1) := by decide +kernel
theorem dX0_fillRest_167 : decode cX0_fillRest 167 = .ok (.iload 8, 2) := by decide +kernel
theorem dX0_fillRest_169 : decode cX0_fillRest 169 = .ok (.iaload, 1) := by decide +kernel
theorem dX0_fillRest_170 : decode cX0_fillRest 170 = .ok (.aload_n 0, 1) := by decide +kernel
theorem dX0_fillRest_171 : decode cX0_fillRest 171 = .ok (.getfield 16, 3) := by decide +kernel
theorem dX0_fillRest_174 : decode cX0_fillRest 174 = .ok (.iload 6, 2) := by decide +kernel
theorem dX0_fillRest_176 : decode cX0_fillRest 176 = .ok (.iconst 1, 1) := by decide +kernel
theorem dX0_fillRest_177 : decode cX0_fillRest 177 = .ok (.iadd, 1) := by decide +kernel
theorem dX0_fillRest_178 : decode cX0_fillRest 178 = .ok (.aaload, 1) := by decide +kernel
theorem dX0_fillRest_179 : decode cX0_fillRest 179 = .ok (.iload 8, 2) := by decide +kernel
theorem dX0_fillRest_181 : decode cX0_fillRest 181 = .ok (.iconst 1, 1) := by decide +kernel
theorem dX0_fillRest_182 : decode cX0_fillRest 182 = .ok (.iadd, 1) := by decide +kernel
theorem dX0_fillRest_183 : decode cX0_fillRest 183 = .ok (.iaload, 1) := by decide +kernel
theorem dX0_fillRest_184 : decode cX0_fillRest 184 = .ok (.iadd, 1) := by decide +kernel
theorem dX0_fillRest_185 : decode cX0_fillRest 185 = .ok (.istore 9, 2) := by decide +kernel
theorem dX0_fillRest_187 : decode cX0_fillRest 187 = .ok (.iload 9, 2) := by decide +kernel
theorem dX0_fillRest_189 : decode cX0_fillRest 189 = .ok (.iload 7, 2) := by decide +kernel
theorem dX0_fillRest_191 : decode cX0_fillRest 191 = .ok (.aload_n 0, 1) := by decide +kernel
theorem dX0_fillRest_192 : decode cX0_fillRest 192 = .ok (.getfield 16, 3) := by decide +kernel
theorem dX0_fillRest_195 : decode cX0_fillRest 195 = .ok (.iload 6, 2) := by decide +kernel
theorem dX0_fillRest_197 : decode cX0_fillRest 197 = .ok (.iconst 1, 1) := by decide +kernel
theorem dX0_fillRest_198 : decode cX0_fillRest 198 = .ok (.iadd, 1) := by decide +kernel
theorem dX0_fillRest_199 : decode cX0_fillRest 199 = .ok (.aaload, 1) := by decide +kernel
theorem dX0_fillRest_200 : decode cX0_fillRest 200 = .ok (.iload 8, 2) := by decide +kernel
theorem dX0_fillRest_202 : decode cX0_fillRest 202 = .ok (.iaload, 1) := by decide +kernel
theorem dX0_fillRest_203 : decode cX0_fillRest 203 = .ok (.iadd, 1) := by decide +kernel
theorem dX0_fillRest_204 : decode cX0_fillRest 204 = .ok (.invokestatic 97, 3) := by decide +kernel
theorem dX0_fillRest_207 : decode cX0_fillRest 207 = .ok (.istore 9, 2) := by decide +kernel
theorem dX0_fillRest_209 : decode cX0_fillRest 209 = .ok (.iload 9, 2) := by decide +kernel
theorem dX0_fillRest_211 : decode cX0_fillRest 211 = .ok (.aload_n 2, 1) := by decide +kernel
theorem dX0_fillRest_212 : decode cX0_fillRest 212 = .ok (.getfield 77, 3) := by decide +kernel
theorem dX0_fillRest_215 : decode cX0_fillRest 215 = .ok (.iload 8, 2) := by decide +kernel
theorem dX0_fillRest_217 : decode cX0_fillRest 217 = .ok (.aaload, 1) := by decide +kernel
theorem dX0_fillRest_218 : decode cX0_fillRest 218 = .ok (.iload_n 3, 1) := by decide +kernel
theorem dX0_fillRest_219 : decode cX0_fillRest 219 = .ok (.invokevirtual 96, 3) := by decide +kernel
theorem dX0_fillRest_222 : decode cX0_fillRest 222 = .ok (.aload_n 0, 1) := by decide +kernel
theorem dX0_fillRest_223 : decode cX0_fillRest 223 = .ok (.getfield 16, 3) := by decide +kernel
theorem dX0_fillRest_226 : decode cX0_fillRest 226 = .ok (.iload 6, 2) := by decide +kernel
theorem dX0_fillRest_228 : decode cX0_fillRest 228 = .ok (.aaload, 1) := by decide +kernel
theorem dX0_fillRest_229 : decode cX0_fillRest 229 = .ok (.iload 8, 2) := by decide +kernel
theorem dX0_fillRest_231 : decode cX0_fillRest 231 = .ok (.iconst 1, 1) := by decide +kernel
theorem dX0_fillRest_232 : decode cX0_fillRest 232 = .ok (.iadd, 1) := by decide +kernel
theorem dX0_fillRest_233 : decode cX0_fillRest 233 = .ok (.iaload, 1) := by decide +kernel
theorem dX0_fillRest_234 : decode cX0_fillRest 234 = .ok (.iadd, 1) := by decide +kernel
theorem dX0_fillRest_235 : decode cX0_fillRest 235 = .ok (.invokestatic 97, 3) := by decide +kernel
theorem dX0_fillRest_238 : decode cX0_fillRest 238 = .ok (.istore 9, 2) := by decide +kernel
theorem dX0_fillRest_240 : decode cX0_fillRest 240 = .ok (.aload_n 0, 1) := by decide +kernel
theorem dX0_fillRest_241 : decode cX0_fillRest 241 = .ok (.getfield 16, 3) := by decide +kernel
theorem dX0_fillRest_244 : decode cX0_fillRest 244 = .ok (.iload 6, 2) := by decide +kernel
theorem dX0_fillRest_246 : decode cX0_fillRest 246 = .ok (.aaload, 1) := by decide +kernel
theorem dX0_fillRest_247 : decode cX0_fillRest 247 = .ok (.iload 8, 2) := by decide +kernel
theorem dX0_fillRest_249 : decode cX0_fillRest 249 = .ok (.iload 9, 2) := by decide +kernel
theorem dX0_fillRest_251 : decode cX0_fillRest 251 = .ok (.iastore, 1) := by decide +kernel
theorem dX0_fillRest_252 : decode cX0_fillRest 252 = .ok (.iinc 8 (-1), 3) := by decide +kernel
theorem dX0_fillRest_255 : decode cX0_fillRest 255 = .ok (.goto (-100), 3) := by decide +kernel
theorem dX0_fillRest_258 : decode cX0_fillRest 258 = .ok (.iinc 6 (-1), 3) := by decide +kernel
theorem dX0_fillRest_261 : decode cX0_fillRest 261 = .ok (.goto (-130), 3) := by decide +kernel
theorem dX0_fillRest_264 : decode cX0_fillRest 264 = .ok (.return_, 1) := by decide +kernel
theorem dX0_walkSteps_0 : decode cX0_walkSteps 0 = .ok (.aload 4, 2) := by decide +kernel
theorem dX0_walkSteps_2 : decode cX0_walkSteps 2 = .ok (.invokevirtual 100, 3) := by decide +kernel
theorem dX0_walkSteps_5 : decode cX0_walkSteps 5 = .ok (.iconst 0, 1) := by decide +kernel
theorem dX0_walkSteps_6 : decode cX0_walkSteps 6 = .ok (.istore 5, 2) := by decide +kernel
theorem dX0_walkSteps_8 : decode cX0_walkSteps 8 = .ok (.iconst 0, 1) := by decide +kernel
theorem dX0_walkSteps_9 : decode cX0_walkSteps 9 = .ok (.istore 6, 2) := by decide +kernel
theorem dX0_walkSteps_11 : decode cX0_walkSteps 11 = .ok (.iconst 0, 1) := by decide +kernel
theorem dX0_walkSteps_12 : decode cX0_walkSteps 12 = .ok (.istore 7, 2) := by decide +kernel
theorem dX0_walkSteps_14 : decode cX0_walkSteps 14 = .ok (.iload 7, 2) := by decide +kernel
theorem dX0_walkSteps_16 : decode cX0_walkSteps 16 = .ok (.bipush 16, 2) := by decide +kernel
theorem dX0_walkSteps_18 : decode cX0_walkSteps 18 = .ok (.if_icmp .ge 272, 3) := by decide +kernel
theorem dX0_walkSteps_21 : decode cX0_walkSteps 21 = .ok (.iload 5, 2) := by decide +kernel
theorem dX0_walkSteps_23 : decode cX0_walkSteps 23 = .ok (.aload_n 1, 1) := by decide +kernel
theorem dX0_walkSteps_24 : decode cX0_walkSteps 24 = .ok (.getfield 74, 3) := by decide +kernel
theorem dX0_walkSteps_27 : decode cX0_walkSteps 27 = .ok (.if_icmp .ge 7, 3) := by decide +kernel
theorem dX0_walkSteps_30 : decode cX0_walkSteps 30 = .ok (.iconst 1, 1) := by decide +kernel
theorem dX0_walkSteps_31 : decode cX0_walkSteps 31 = .ok (.goto 4, 3) := by decide +kernel
theorem dX0_walkSteps_34 : decode cX0_walkSteps 34 = .ok (.iconst 0, 1) := by decide +kernel
theorem dX0_walkSteps_35 : decode cX0_walkSteps 35 = .ok (.istore 8, 2) := by decide +kernel
theorem dX0_walkSteps_37 : decode cX0_walkSteps 37 = .ok (.iload 6, 2) := by decide +kernel
theorem dX0_walkSteps_39 : decode cX0_walkSteps 39 = .ok (.aload_n 2, 1) := by decide +kernel
theorem dX0_walkSteps_40 : decode cX0_walkSteps 40 = .ok (.getfield 74, 3) := by decide +kernel
theorem dX0_walkSteps_43 : decode cX0_walkSteps 43 = .ok (.if_icmp .ge 7, 3) := by decide +kernel
theorem dX0_walkSteps_46 : decode cX0_walkSteps 46 = .ok (.iconst 1, 1) := by decide +kernel
theorem dX0_walkSteps_47 : decode cX0_walkSteps 47 = .ok (.goto 4, 3) := by decide +kernel
theorem dX0_walkSteps_50 : decode cX0_walkSteps 50 = .ok (.iconst 0, 1) := by decide +kernel
theorem dX0_walkSteps_51 : decode cX0_walkSteps 51 = .ok (.istore 9, 2) := by decide +kernel
theorem dX0_walkSteps_53 : decode cX0_walkSteps 53 = .ok (.iload 8, 2) := by decide +kernel
theorem dX0_walkSteps_55 : decode cX0_walkSteps 55 = .ok (.ifCond .eq 93, 3) := by decide +kernel
theorem dX0_walkSteps_58 : decode cX0_walkSteps 58 = .ok (.iload 9, 2) := by decide +kernel
theorem dX0_walkSteps_60 : decode cX0_walkSteps 60 = .ok (.ifCond .eq 88, 3) := by decide +kernel
theorem dX0_walkSteps_63 : decode cX0_walkSteps 63 = .ok (.aload_n 0, 1) := by decide +kernel
theorem dX0_walkSteps_64 : decode cX0_walkSteps 64 = .ok (.getfield 16, 3) := by decide +kernel
theorem dX0_walkSteps_67 : decode cX0_walkSteps 67 = .ok (.iload 5, 2) := by decide +kernel
theorem dX0_walkSteps_69 : decode cX0_walkSteps 69 = .ok (.aaload, 1) := by decide +kernel
theorem dX0_walkSteps_70 : decode cX0_walkSteps 70 = .ok (.iload 6, 2) := by decide +kernel
theorem dX0_walkSteps_72 : decode cX0_walkSteps 72 = .ok (.iaload, 1) := by decide +kernel
theorem dX0_walkSteps_73 : decode cX0_walkSteps 73 = .ok (.aload_n 0, 1) := by decide +kernel
theorem dX0_walkSteps_74 : decode cX0_walkSteps 74 = .ok (.getfield 11, 3) := by decide +kernel
theorem dX0_walkSteps_77 : decode cX0_walkSteps 77 = .ok (.iload 5, 2) := by decide +kernel
theorem dX0_walkSteps_79 : decode cX0_walkSteps 79 = .ok (.aaload, 1) := by decide +kernel
theorem dX0_walkSteps_80 : decode cX0_walkSteps 80 = .ok (.iload 6, 2) := by decide +kernel
theorem dX0_walkSteps_82 : decode cX0_walkSteps 82 = .ok (.iaload, 1) := by decide +kernel
theorem dX0_walkSteps_83 : decode cX0_walkSteps 83 = .ok (.aload_n 0, 1) := by decide +kernel
theorem dX0_walkSteps_84 : decode cX0_walkSteps 84 = .ok (.getfield 16, 3) := by decide +kernel
theorem dX0_walkSteps_87 : decode cX0_walkSteps 87 = .ok (.iload 5, 2) := by decide +kernel
theorem dX0_walkSteps_89 : decode cX0_walkSteps 89 = .ok (.iconst 1, 1) := by decide +kernel
theorem dX0_walkSteps_90 : decode cX0_walkSteps 90 = .ok (.iadd, 1) := by decide +kernel
theorem dX0_walkSteps_91 : decode cX0_walkSteps 91 = .ok (.aaload, 1) := by decide +kernel
theorem dX0_walkSteps_92 : decode cX0_walkSteps 92 = .ok (.iload 6, 2) := by decide +kernel
theorem dX0_walkSteps_94 : decode cX0_walkSteps 94 = .ok (.iconst 1, 1) := by decide +kernel
theorem dX0_walkSteps_95 : decode cX0_walkSteps 95 = .ok (.iadd, 1) := by decide +kernel
theorem dX0_walkSteps_96 : decode cX0_walkSteps 96 = .ok (.iaload, 1) := by decide +kernel
theorem dX0_walkSteps_97 : decode cX0_walkSteps 97 = .ok (.iadd, 1) := by decide +kernel
theorem dX0_walkSteps_98 : decode cX0_walkSteps 98 = .ok (.if_icmp .ne 50, 3) := by decide +kernel
theorem dX0_walkSteps_101 : decode cX0_walkSteps 101 = .ok (.aload 4, 2) := by decide +kernel
theorem dX0_walkSteps_103 : decode cX0_walkSteps 103 = .ok (.iconst 0, 1) := by decide +kernel
theorem dX0_walkSteps_104 : decode cX0_walkSteps 104 = .ok (.aload_n 0, 1) := by decide +kernel
theorem dX0_walkSteps_105 : decode cX0_walkSteps 105 = .ok (.getfield 11, 3) := by decide +kernel
theorem dX0_walkSteps_108 : decode cX0_walkSteps 108 = .ok (.iload 5, 2) := by decide +kernel
theorem dX0_walkSteps_110 : decode cX0_walkSteps 110 = .ok (.aaload, 1) := by decide +kernel
theorem dX0_walkSteps_111 : decode cX0_walkSteps 111 = .ok (.iload 6, 2) := by decide +kernel
theorem dX0_walkSteps_113 : decode cX0_walkSteps 113 = .ok (.iaload, 1) := by decide +kernel
theorem dX0_walkSteps_114 : decode cX0_walkSteps 114 = .ok (.iload 5, 2) := by decide +kernel
theorem dX0_walkSteps_116 : decode cX0_walkSteps 116 = .ok (.iload 6, 2) := by decide +kernel
theorem dX0_walkSteps_118 : decode cX0_walkSteps 118 = .ok (.aload_n 1, 1) := by decide +kernel
theorem dX0_walkSteps_119 : decode cX0_walkSteps 119 = .ok (.getfield 77, 3) := by decide +kernel
theorem dX0_walkSteps_122 : decode cX0_walkSteps 122 = .ok (.iload 5, 2) := by decide +kernel
theorem dX0_walkSteps_124 : decode cX0_walkSteps 124 = .ok (.aaload, 1) := by decide +kernel
theorem dX0_walkSteps_125 : decode cX0_walkSteps 125 = .ok (.invokevirtual 85, 3) := by decide +kernel
theorem dX0_walkSteps_128 : decode cX0_walkSteps 128 = .ok (.ifCond .ne 7, 3) := by decide +kernel
theorem dX0_walkSteps_131 : decode cX0_walkSteps 131 = .ok (.iconst 1, 1) := by decide +kernel
theorem dX0_walkSteps_132 : decode cX0_walkSteps 132 = .ok (.goto 4, 3) := by decide +kernel
theorem dX0_walkSteps_135 : decode cX0_walkSteps 135 = .ok (.iconst 0, 1) := by decide +kernel
theorem dX0_walkSteps_136 : decode cX0_walkSteps 136 = .ok (.invokevirtual 103, 3) := by decide +kernel
theorem dX0_walkSteps_139 : decode cX0_walkSteps 139 = .ok (.iinc 5 1, 3) := by decide +kernel
theorem dX0_walkSteps_142 : decode cX0_walkSteps 142 = .ok (.iinc 6 1, 3) := by decide +kernel
theorem dX0_walkSteps_145 : decode cX0_walkSteps 145 = .ok (.goto 139, 3) := by decide +kernel
theorem dX0_walkSteps_148 : decode cX0_walkSteps 148 = .ok (.iload 8, 2) := by decide +kernel
theorem dX0_walkSteps_150 : decode cX0_walkSteps 150 = .ok (.ifCond .eq 84, 3) := by decide +kernel
theorem dX0_walkSteps_153 : decode cX0_walkSteps 153 = .ok (.aload_n 0, 1) := by decide +kernel
theorem dX0_walkSteps_154 : decode cX0_walkSteps 154 = .ok (.getfield 16, 3) := by decide +kernel
theorem dX0_walkSteps_157 : decode cX0_walkSteps 157 = .ok (.iload 5, 2) := by decide +kernel
theorem dX0_walkSteps_159 : decode cX0_walkSteps 159 = .ok (.aaload, 1) := by decide +kernel
theorem dX0_walkSteps_160 : decode cX0_walkSteps 160 = .ok (.iload 6, 2) := by decide +kernel
theorem dX0_walkSteps_162 : decode cX0_walkSteps 162 = .ok (.iaload, 1) := by decide +kernel
theorem dX0_walkSteps_163 : decode cX0_walkSteps 163 = .ok (.aload_n 1, 1) := by decide +kernel
theorem dX0_walkSteps_164 : decode cX0_walkSteps 164 = .ok (.getfield 77, 3) := by decide +kernel
theorem dX0_walkSteps_167 : decode cX0_walkSteps 167 = .ok (.iload 5, 2) := by decide +kernel
theorem dX0_walkSteps_169 : decode cX0_walkSteps 169 = .ok (.aaload, 1) := by decide +kernel
theorem dX0_walkSteps_170 : decode cX0_walkSteps 170 = .ok (.iload_n 3, 1) := by decide +kernel
theorem dX0_walkSteps_171 : decode cX0_walkSteps 171 = .ok (.invokevirtual 96, 3) := by decide +kernel
theorem dX0_walkSteps_174 : decode cX0_walkSteps 174 = .ok (.aload_n 0, 1) := by decide +kernel
theorem dX0_walkSteps_175 : decode cX0_walkSteps 175 = .ok (.getfield 16, 3) := by decide +kernel
theorem dX0_walkSteps_178 : decode cX0_walkSteps 178 = .ok (.iload 5, 2) := by decide +kernel
theorem dX0_walkSteps_180 : decode cX0_walkSteps 180 = .ok (.iconst 1, 1) := by decide +kernel
theorem dX0_walkSteps_181 : decode cX0_walkSteps 181 = .ok (.iadd, 1) := by decide +kernel
theorem dX0_walkSteps_182 : decode cX0_walkSteps 182 = .ok (.aaload, 1) := by decide +kernel
theorem dX0_walkSteps_183 : decode cX0_walkSteps 183 = .ok (.iload 6, 2) := by decide +kernel
theorem dX0_walkSteps_185 : decode cX0_walkSteps 185 = .ok (.iaload, 1) := by decide +kernel
theorem dX0_walkSteps_186 : decode cX0_walkSteps 186 = .ok (.iadd, 1) := by decide +kernel
theorem dX0_walkSteps_187 : decode cX0_walkSteps 187 = .ok (.if_icmp .ne 47, 3) := by decide +kernel
theorem dX0_walkSteps_190 : decode cX0_walkSteps 190 = .ok (.aload 4, 2) := by decide +kernel
theorem dX0_walkSteps_192 : decode cX0_walkSteps 192 = .ok (.iconst 1, 1) := by decide +kernel
theorem dX0_walkSteps_193 : decode cX0_walkSteps 193 = .ok (.aload_n 1, 1) := by decide +kernel
theorem dX0_walkSteps_194 : decode cX0_walkSteps 194 = .ok (.getfield 77, 3) := by decide +kernel
theorem dX0_walkSteps_197 : decode cX0_walkSteps 197 = .ok (.iload 5, 2) := by decide +kernel
theorem dX0_walkSteps_199 : decode cX0_walkSteps 199 = .ok (.aaload, 1) := by decide +kernel
theorem dX0_walkSteps_200 : decode cX0_walkSteps 200 = .ok (.iload_n 3, 1) := by decide +kernel
theorem dX0_walkSteps_201 : decode cX0_walkSteps 201 = .ok (.invokevirtual 96, 3) := by decide +kernel
theorem dX0_walkSteps_204 : decode cX0_walkSteps 204 = .ok (.iload 5, 2) := by decide +kernel
theorem dX0_walkSteps_206 : decode cX0_walkSteps 206 = .ok (.iconst (-1), 1) := by decide +kernel
theorem dX0_walkSteps_207 : decode cX0_walkSteps 207 = .ok (.aload_n 1, 1) := by decide +kernel
theorem dX0_walkSteps_208 : decode cX0_walkSteps 208 = .ok (.getfield 77, 3) := by decide +kernel
theorem dX0_walkSteps_211 : decode cX0_walkSteps 211 = .ok (.iload 5, 2) := by decide +kernel
theorem dX0_walkSteps_213 : decode cX0_walkSteps 213 = .ok (.aaload, 1) := by decide +kernel
theorem dX0_walkSteps_214 : decode cX0_walkSteps 214 = .ok (.invokevirtual 85, 3) := by decide +kernel
theorem dX0_walkSteps_217 : decode cX0_walkSteps 217 = .ok (.ifCond .ne 7, 3) := by decide +kernel
theorem dX0_walkSteps_220 : decode cX0_walkSteps 220 = .ok (.iconst 1, 1) := by decide +kernel
theorem dX0_walkSteps_221 : decode cX0_walkSteps 221 = .ok (.goto 4, 3) := by decide +kernel
theorem dX0_walkSteps_224 : decode cX0_walkSteps 224 = .ok (.iconst 0, 1) := by decide +kernel
theorem dX0_walkSteps_225 : decode cX0_walkSteps 225 = .ok (.invokevirtual 103, 3) := by decide +kernel
theorem dX0_walkSteps_228 : decode cX0_walkSteps 228 = .ok (.iinc 5 1, 3) := by decide +kernel
theorem dX0_walkSteps_231 : decode cX0_walkSteps 231 = .ok (.goto 53, 3) := by decide +kernel
theorem dX0_walkSteps_234 : decode cX0_walkSteps 234 = .ok (.iload 9, 2) := by decide +kernel
theorem dX0_walkSteps_236 : decode cX0_walkSteps 236 = .ok (.ifCond .eq 47, 3) := by decide +kernel
theorem dX0_walkSteps_239 : decode cX0_walkSteps 239 = .ok (.aload 4, 2) := by decide +kernel
theorem dX0_walkSteps_241 : decode cX0_walkSteps 241 = .ok (.iconst 2, 1) := by decide +kernel
theorem dX0_walkSteps_242 : decode cX0_walkSteps 242 = .ok (.aload_n 2, 1) := by decide +kernel
theorem dX0_walkSteps_243 : decode cX0_walkSteps 243 = .ok (.getfield 77, 3) := by decide +kernel
theorem dX0_walkSteps_246 : decode cX0_walkSteps 246 = .ok (.iload 6, 2) := by decide +kernel
theorem dX0_walkSteps_248 : decode cX0_walkSteps 248 = .ok (.aaload, 1) := by decide +kernel
theorem dX0_walkSteps_249 : decode cX0_walkSteps 249 = .ok (.iload_n 3, 1) := by decide +kernel
theorem dX0_walkSteps_250 : decode cX0_walkSteps 250 = .ok (.invokevirtual 96, 3) := by decide +kernel
theorem dX0_walkSteps_253 : decode cX0_walkSteps 253 = .ok (.iconst (-1), 1) := by decide +kernel
theorem dX0_walkSteps_254 : decode cX0_walkSteps 254 = .ok (.iload 6, 2) := by decide +kernel
theorem dX0_walkSteps_256 : decode cX0_walkSteps 256 = .ok (.aload_n 2, 1) := by decide +kernel
theorem dX0_walkSteps_257 : decode cX0_walkSteps 257 = .ok (.getfield 77, 3) := by decide +kernel
theorem dX0_walkSteps_260 : decode cX0_walkSteps 260 = .ok (.iload 6, 2) := by decide +kernel
theorem dX0_walkSteps_262 : decode cX0_walkSteps 262 = .ok (.aaload, 1) := by decide +kernel
theorem dX0_walkSteps_263 : decode cX0_walkSteps 263 = .ok (.invokevirtual 85, 3) := by decide +kernel
theorem dX0_walkSteps_266 : decode cX0_walkSteps 266 = .ok (.ifCond .ne 7, 3) := by decide +kernel
theorem dX0_walkSteps_269 : decode cX0_walkSteps 269 = .ok (.iconst 1, 1) := by decide +kernel
theorem dX0_walkSteps_270 : decode cX0_walkSteps 270 = .ok (.goto 4, 3) := by decide +kernel
theorem dX0_walkSteps_273 : decode cX0_walkSteps 273 = .ok (.iconst 0, 1) := by decide +kernel
theorem dX0_walkSteps_274 : decode cX0_walkSteps 274 = .ok (.invokevirtual 103, 3) := by decide +kernel
theorem dX0_walkSteps_277 : decode cX0_walkSteps 277 = .ok (.iinc 6 1, 3) := by decide +kernel
theorem dX0_walkSteps_280 : decode cX0_walkSteps 280 = .ok (.goto 4, 3) := by decide +kernel
theorem dX0_walkSteps_283 : decode cX0_walkSteps 283 = .ok (.return_, 1) := by decide +kernel
theorem dX0_walkSteps_284 : decode cX0_walkSteps 284 = .ok (.iinc 7 1, 3) := by decide +kernel
theorem dX0_walkSteps_287 : decode cX0_walkSteps 287 = .ok (.goto (-273), 3) := by decide +kernel
theorem dX0_walkSteps_290 : decode cX0_walkSteps 290 = .ok (.return_, 1) := by decide +kernel
theorem dX0_leastEdits_0 : decode cX0_leastEdits 0 = .ok (.iconst 0, 1) := by decide +kernel
theorem dX0_leastEdits_1 : decode cX0_leastEdits 1 = .ok (.istore_n 3, 1) := by decide +kernel
theorem dX0_leastEdits_2 : decode cX0_leastEdits 2 = .ok (.iload_n 3, 1) := by decide +kernel
theorem dX0_leastEdits_3 : decode cX0_leastEdits 3 = .ok (.aload_n 2, 1) := by decide +kernel
theorem dX0_leastEdits_4 : decode cX0_leastEdits 4 = .ok (.getfield 59, 3) := by decide +kernel
theorem dX0_leastEdits_7 : decode cX0_leastEdits 7 = .ok (.if_icmp .gt 16, 3) := by decide +kernel
theorem dX0_leastEdits_10 : decode cX0_leastEdits 10 = .ok (.aload_n 0, 1) := by decide +kernel
theorem dX0_leastEdits_11 : decode cX0_leastEdits 11 = .ok (.getfield 19, 3) := by decide +kernel
theorem dX0_leastEdits_14 : decode cX0_leastEdits 14 = .ok (.iload_n 3, 1) := by decide +kernel
theorem dX0_leastEdits_15 : decode cX0_leastEdits 15 = .ok (.iload_n 3, 1) := by decide +kernel
theorem dX0_leastEdits_16 : decode cX0_leastEdits 16 = .ok (.iastore, 1) := by decide +kernel
theorem dX0_leastEdits_17 : decode cX0_leastEdits 17 = .ok (.iinc 3 1, 3) := by decide +kernel
theorem dX0_leastEdits_20 : decode cX0_leastEdits 20 = .ok (.goto (-18), 3) := by decide +kernel
theorem dX0_leastEdits_23 : decode cX0_leastEdits 23 = .ok (.iconst 0, 1) := by decide +kernel
theorem dX0_leastEdits_24 : decode cX0_leastEdits 24 = .ok (.istore_n 3, 1) := by decide +kernel
theorem dX0_leastEdits_25 : decode cX0_leastEdits 25 = .ok (.iload_n 3, 1) := by decide +kernel
theorem dX0_leastEdits_26 : decode cX0_leastEdits 26 = .ok (.aload_n 1, 1) := by decide +kernel
theorem dX0_leastEdits_27 : decode cX0_leastEdits 27 = .ok (.getfield 59, 3) := by decide +kernel
theorem dX0_leastEdits_30 : decode cX0_leastEdits 30 = .ok (.if_icmp .ge 133, 3) := by decide +kernel
theorem dX0_leastEdits_33 : decode cX0_leastEdits 33 = .ok (.aload_n 0, 1) := by decide +kernel
theorem dX0_leastEdits_34 : decode cX0_leastEdits 34 = .ok (.getfield 19, 3) := by decide +kernel
theorem dX0_leastEdits_37 : decode cX0_leastEdits 37 = .ok (.iconst 0, 1) := by decide +kernel
theorem dX0_leastEdits_38 : decode cX0_leastEdits 38 = .ok (.iaload, 1) := by decide +kernel
theorem dX0_leastEdits_39 : decode cX0_leastEdits 39 = .ok (.istore 4, 2) := by decide +kernel
theorem dX0_leastEdits_41 : decode cX0_leastEdits 41 = .ok (.aload_n 0, 1) := by decide +kernel
theorem dX0_leastEdits_42 : decode cX0_leastEdits 42 = .ok (.getfield 19, 3) := by decide +kernel
theorem dX0_leastEdits_45 : decode cX0_leastEdits 45 = .ok (.iconst 0, 1) := by decide +kernel
theorem dX0_leastEdits_46 : decode cX0_leastEdits 46 = .ok (.iload_n 3, 1) := by decide +kernel
theorem dX0_leastEdits_47 : decode cX0_leastEdits 47 = .ok (.iconst 1, 1) := by decide +kernel
theorem dX0_leastEdits_48 : decode cX0_leastEdits 48 = .ok (.iadd, 1) := by decide +kernel
theorem dX0_leastEdits_49 : decode cX0_leastEdits 49 = .ok (.iastore, 1) := by decide +kernel
theorem dX0_leastEdits_50 : decode cX0_leastEdits 50 = .ok (.iconst 0, 1) := by decide +kernel
theorem dX0_leastEdits_51 : decode cX0_leastEdits 51 = .ok (.istore 5, 2) := by decide +kernel
theorem dX0_leastEdits_53 : decode cX0_leastEdits 53 = .ok (.iload 5, 2) := by decide +kernel
theorem dX0_leastEdits_55 : decode cX0_leastEdits 55 = .ok (.aload_n 2, 1) := by decide +kernel
theorem dX0_leastEdits_56 : decode cX0_leastEdits 56 = .ok (.getfield 59, 3) := by decide +kernel
theorem dX0_leastEdits_59 : decode cX0_leastEdits 59 = .ok (.if_icmp .ge 98, 3) := by decide +kernel
theorem dX0_leastEdits_62 : decode cX0_leastEdits 62 = .ok (.aload_n 0, 1) := by decide +kernel
theorem dX0_leastEdits_63 : decode cX0_leastEdits 63 = .ok (.getfield 19, 3) := by decide +kernel
theorem dX0_leastEdits_66 : decode cX0_leastEdits 66 = .ok (.iload 5, 2) := by decide +kernel
theorem dX0_leastEdits_68 : decode cX0_leastEdits 68 = .ok (.iconst 1, 1) := by decide +kernel
theorem dX0_leastEdits_69 : decode cX0_leastEdits 69 = .ok (.iadd, 1) := by decide +kernel
theorem dX0_leastEdits_70 : decode cX0_leastEdits 70 = .ok (.iaload, 1) := by decide +kernel
theorem dX0_leastEdits_71 : decode cX0_leastEdits 71 = .ok (.istore 6, 2) := by decide +kernel
theorem dX0_leastEdits_73 : decode cX0_leastEdits 73 = .ok (.aload_n 1, 1) := by decide +kernel
theorem dX0_leastEdits_74 : decode cX0_leastEdits 74 = .ok (.getfield 107, 3) := by decide +kernel
theorem dX0_leastEdits_77 : decode cX0_leastEdits 77 = .ok (.iload_n 3, 1) := by decide +kernel
theorem dX0_leastEdits_78 : decode cX0_leastEdits 78 = .ok (.iaload, 1) := by decide +kernel
theorem dX0_leastEdits_79 : decode cX0_leastEdits 79 = .ok (.aload_n 2, 1) := by decide +kernel
theorem dX0_leastEdits_80 : decode cX0_leastEdits 80 = .ok (.getfield 107, 3) := by decide +kernel
theorem dX0_leastEdits_83 : decode cX0_leastEdits 83 = .ok (.iload 5, 2) := by decide +kernel
theorem dX0_leastEdits_85 : decode cX0_leastEdits 85 = .ok (.iaload, 1) := by decide +kernel
theorem dX0_leastEdits_86 : decode cX0_leastEdits 86 = .ok (.if_icmp .ne 8, 3) := by decide +kernel
theorem dX0_leastEdits_89 : decode cX0_leastEdits 89 = .ok (.iload 4, 2) := by decide +kernel
theorem dX0_leastEdits_91 : decode cX0_leastEdits 91 = .ok (.goto 7, 3) := by decide +kernel
theorem dX0_leastEdits_94 : decode cX0_leastEdits 94 = .ok (.iload 4, 2) := by decide +kernel
theorem dX0_leastEdits_96 : decode cX0_leastEdits 96 = .ok (.iconst 1, 1) := by decide +kernel
theorem dX0_leastEdits_97 : decode cX0_leastEdits 97 = .ok (.iadd, 1) := by decide +kernel
theorem dX0_leastEdits_98 : decode cX0_leastEdits 98 = .ok (.istore 7, 2) := by decide +kernel
theorem dX0_leastEdits_100 : decode cX0_leastEdits 100 = .ok (.iload 6, 2) := by decide +kernel
theorem dX0_leastEdits_102 : decode cX0_leastEdits 102 = .ok (.iload 7, 2) := by decide +kernel
theorem dX0_leastEdits_104 : decode cX0_leastEdits 104 = .ok (.if_icmp .ge 9, 3) := by decide +kernel
theorem dX0_leastEdits_107 : decode cX0_leastEdits 107 = .ok (.iload 6, 2) := by decide +kernel
theorem dX0_leastEdits_109 : decode cX0_leastEdits 109 = .ok (.iconst 1, 1) := by decide +kernel
theorem dX0_leastEdits_110 : decode cX0_leastEdits 110 = .ok (.iadd, 1) := by decide +kernel
theorem dX0_leastEdits_111 : decode cX0_leastEdits 111 = .ok (.istore 7, 2) := by decide +kernel
theorem dX0_leastEdits_113 : decode cX0_leastEdits 113 = .ok (.aload_n 0, 1) := by decide +kernel
theorem dX0_leastEdits_114 : decode cX0_leastEdits 114 = .ok (.getfield 19, 3) := by decide +kernel
theorem dX0_leastEdits_117 : decode cX0_leastEdits 117 = .ok (.iload 5, 2) := by decide +kernel
theorem dX0_leastEdits_119 : decode cX0_leastEdits 119 = .ok (.iaload, 1) := by decide +kernel
theorem dX0_leastEdits_120 : decode cX0_leastEdits 120 = .ok (.iload 7, 2) := by decide +kernel
theorem dX0_leastEdits_122 : decode cX0_leastEdits 122 = .ok (.if_icmp .ge 14, 3) := by decide +kernel
theorem dX0_leastEdits_125 : decode cX0_leastEdits 125 = .ok (.aload_n 0, 1) := by decide +kernel
theorem dX0_leastEdits_126 : decode cX0_leastEdits 126 = .ok (.getfield 19, 3) := by decide +kernel
theorem dX0_leastEdits_129 : decode cX0_leastEdits 129 = .ok (.iload 5, 2) := by decide +kernel
theorem dX0_leastEdits_131 : decode cX0_leastEdits 131 = .ok (.iaload, 1) := by decide +kernel
theorem dX0_leastEdits_132 : decode cX0_leastEdits 132 = .ok (.iconst 1, 1) := by decide +kernel
theorem dX0_leastEdits_133 : decode cX0_leastEdits 133 = .ok (.iadd, 1) := by decide +kernel
theorem dX0_leastEdits_134 : decode cX0_leastEdits 134 = .ok (.istore 7, 2) := by decide +kernel
theorem dX0_leastEdits_136 : decode cX0_leastEdits 136 = .ok (.aload_n 0, 1) := by decide +kernel
theorem dX0_leastEdits_137 : decode cX0_leastEdits 137 = .ok (.getfield 19, 3) := by decide +kernel
theorem dX0_leastEdits_140 : decode cX0_leastEdits 140 = .ok (.iload 5, 2) := by decide +kernel
theorem dX0_leastEdits_142 : decode cX0_leastEdits 142 = .ok (.iconst 1, 1) := by decide +kernel
theorem dX0_leastEdits_143 : decode cX0_leastEdits 143 = .ok (.iadd, 1) := by decide +kernel
theorem dX0_leastEdits_144 : decode cX0_leastEdits 144 = .ok (.iload 7, 2) := by decide +kernel
theorem dX0_leastEdits_146 : decode cX0_leastEdits 146 = .ok (.iastore, 1) := by decide +kernel
theorem dX0_leastEdits_147 : decode cX0_leastEdits 147 = .ok (.iload 6, 2) := by decide +kernel
theorem dX0_leastEdits_149 : decode cX0_leastEdits 149 = .ok (.istore 4, 2) := by decide +kernel
theorem dX0_leastEdits_151 : decode cX0_leastEdits 151 = .ok (.iinc 5 1, 3) := by decide +kernel
theorem dX0_leastEdits_154 : decode cX0_leastEdits 154 = .ok (.goto (-101), 3) := by decide +kernel
theorem dX0_leastEdits_157 : decode cX0_leastEdits 157 = .ok (.iinc 3 1, 3) := by decide +kernel
theorem dX0_leastEdits_160 : decode cX0_leastEdits 160 = .ok (.goto (-135), 3) := by decide +kernel
theorem dX0_leastEdits_163 : decode cX0_leastEdits 163 = .ok (.aload_n 0, 1) := by decide +kernel
theorem dX0_leastEdits_164 : decode cX0_leastEdits 164 = .ok (.getfield 19, 3) := by decide +kernel
theorem dX0_leastEdits_167 : decode cX0_leastEdits 167 = .ok (.aload_n 2, 1) := by decide +kernel
theorem dX0_leastEdits_168 : decode cX0_leastEdits 168 = .ok (.getfield 59, 3) := by decide +kernel
theorem dX0_leastEdits_171 : decode cX0_leastEdits 171 = .ok (.iaload, 1) := by decide +kernel
theorem dX0_leastEdits_172 : decode cX0_leastEdits 172 = .ok (.ireturn, 1) := by decide +kernel
