theorem dX7_init_0 : decode cX7_init 0 = .ok (.aload_n 0, 1) := by decide +kernel
theorem dX7_init_1 : decode cX7_init 1 = .ok (.invokespecial 3, 3) := by decide +kernel
theorem dX7_init_4 : decode cX7_init 4 = .ok (.aload_n 0, 1) := by decide +kernel
theorem dX7_init_5 : decode cX7_init 5 = .ok (.new 9, 3) := by decide +kernel
theorem dX7_init_8 : decode cX7_init 8 = .ok (.dup, 1) := by decide +kernel
theorem dX7_init_9 : decode cX7_init 9 = .ok (.invokespecial 11, 3) := by decide +kernel
theorem dX7_init_12 : decode cX7_init 12 = .ok (.putfield 12, 3) := by decide +kernel
theorem dX7_init_15 : decode cX7_init 15 = .ok (.aload_n 0, 1) := by decide +kernel
theorem dX7_init_16 : decode cX7_init 16 = .ok (.bipush 13, 2) := by decide +kernel
theorem dX7_init_18 : decode cX7_init 18 = .ok (.anewarray 16, 3) := by decide +kernel
theorem dX7_init_21 : decode cX7_init 21 = .ok (.putfield 18, 3) := by decide +kernel
theorem dX7_init_24 : decode cX7_init 24 = .ok (.iconst 0, 1) := by decide +kernel
theorem dX7_init_25 : decode cX7_init 25 = .ok (.istore_n 1, 1) := by decide +kernel
theorem dX7_init_26 : decode cX7_init 26 = .ok (.iload_n 1, 1) := by decide +kernel
theorem dX7_init_27 : decode cX7_init 27 = .ok (.aload_n 0, 1) := by decide +kernel
theorem dX7_init_28 : decode cX7_init 28 = .ok (.getfield 18, 3) := by decide +kernel
theorem dX7_init_31 : decode cX7_init 31 = .ok (.arraylength, 1) := by decide +kernel
theorem dX7_init_32 : decode cX7_init 32 = .ok (.if_icmp .ge 22, 3) := by decide +kernel
theorem dX7_init_35 : decode cX7_init 35 = .ok (.aload_n 0, 1) := by decide +kernel
theorem dX7_init_36 : decode cX7_init 36 = .ok (.getfield 18, 3) := by decide +kernel
theorem dX7_init_39 : decode cX7_init 39 = .ok (.iload_n 1, 1) := by decide +kernel
theorem dX7_init_40 : decode cX7_init 40 = .ok (.new 16, 3) := by decide +kernel
theorem dX7_init_43 : decode cX7_init 43 = .ok (.dup, 1) := by decide +kernel
theorem dX7_init_44 : decode cX7_init 44 = .ok (.invokespecial 22, 3) := by decide +kernel
theorem dX7_init_47 : decode cX7_init 47 = .ok (.aastore, 1) := by decide +kernel
theorem dX7_init_48 : decode cX7_init 48 = .ok (.iinc 1 1, 3) := by decide +kernel
theorem dX7_init_51 : decode cX7_init 51 = .ok (.goto (-25), 3) := by decide +kernel
theorem dX7_init_54 : decode cX7_init 54 = .ok (.aload_n 0, 1) := by decide +kernel
theorem dX7_init_55 : decode cX7_init 55 = .ok (.new 16, 3) := by decide +kernel
theorem dX7_init_58 : decode cX7_init 58 = .ok (.dup, 1) := by decide +kernel
theorem dX7_init_59 : decode cX7_init 59 = .ok (.invokespecial 22, 3) := by decide +kernel
theorem dX7_init_62 : decode cX7_init 62 = .ok (.putfield 23, 3) := by decide +kernel
theorem dX7_init_65 : decode cX7_init 65 = .ok (.aload_n 0, 1) := by decide +kernel
theorem dX7_init_66 : decode cX7_init 66 = .ok (.new 27, 3) := by decide +kernel
theorem dX7_init_69 : decode cX7_init 69 = .ok (.dup, 1) := by decide +kernel
theorem dX7_init_70 : decode cX7_init 70 = .ok (.invokespecial 29, 3) := by decide +kernel
theorem dX7_init_73 : decode cX7_init 73 = .ok (.putfield 30, 3) := by decide +kernel
theorem dX7_init_76 : decode cX7_init 76 = .ok (.aload_n 0, 1) := by decide +kernel
theorem dX7_init_77 : decode cX7_init 77 = .ok (.new 34, 3) := by decide +kernel
theorem dX7_init_80 : decode cX7_init 80 = .ok (.dup, 1) := by decide +kernel
theorem dX7_init_81 : decode cX7_init 81 = .ok (.invokespecial 36, 3) := by decide +kernel
theorem dX7_init_84 : decode cX7_init 84 = .ok (.putfield 37, 3) := by decide +kernel
theorem dX7_init_87 : decode cX7_init 87 = .ok (.aload_n 0, 1) := by decide +kernel
theorem dX7_init_88 : decode cX7_init 88 = .ok (.new 41, 3) := by decide +kernel
theorem dX7_init_91 : decode cX7_init 91 = .ok (.dup, 1) := by decide +kernel
theorem dX7_init_92 : decode cX7_init 92 = .ok (.invokespecial 43, 3) := by decide +kernel
theorem dX7_init_95 : decode cX7_init 95 = .ok (.putfield 44, 3) := by decide +kernel
theorem dX7_init_98 : decode cX7_init 98 = .ok (.aload_n 0, 1) := by decide +kernel
theorem dX7_init_99 : decode cX7_init 99 = .ok (.new 48, 3) := by decide +kernel
theorem dX7_init_102 : decode cX7_init 102 = .ok (.dup, 1) := by decide +kernel
theorem dX7_init_103 : decode cX7_init 103 = .ok (.invokespecial 50, 3) := by decide +kernel
theorem dX7_init_106 : decode cX7_init 106 = .ok (.putfield 51, 3) := by decide +kernel
theorem dX7_init_109 : decode cX7_init 109 = .ok (.aload_n 0, 1) := by decide +kernel
theorem dX7_init_110 : decode cX7_init 110 = .ok (.iconst 5, 1) := by decide +kernel
theorem dX7_init_111 : decode cX7_init 111 = .ok (.putfield 55, 3) := by decide +kernel
theorem dX7_init_114 : decode cX7_init 114 = .ok (.aload_n 0, 1) := by decide +kernel
theorem dX7_init_115 : decode cX7_init 115 = .ok (.sipush 700, 3) := by decide +kernel
theorem dX7_init_118 : decode cX7_init 118 = .ok (.putfield 59, 3) := by decide +kernel
theorem dX7_init_121 : decode cX7_init 121 = .ok (.aload_n 0, 1) := by decide +kernel
theorem dX7_init_122 : decode cX7_init 122 = .ok (.iconst 1, 1) := by decide +kernel
theorem dX7_init_123 : decode cX7_init 123 = .ok (.putfield 62, 3) := by decide +kernel
theorem dX7_init_126 : decode cX7_init 126 = .ok (.return_, 1) := by decide +kernel
theorem dX7_letter_0 : decode cX7_letter 0 = .ok (.iload_n 1, 1) := by decide +kernel
theorem dX7_letter_1 : decode cX7_letter 1 = .ok (.bipush 32, 2) := by decide +kernel
theorem dX7_letter_3 : decode cX7_letter 3 = .ok (.if_icmp .lt 9, 3) := by decide +kernel
theorem dX7_letter_6 : decode cX7_letter 6 = .ok (.iload_n 1, 1) := by decide +kernel
theorem dX7_letter_7 : decode cX7_letter 7 = .ok (.bipush 126, 2) := by decide +kernel
theorem dX7_letter_9 : decode cX7_letter 9 = .ok (.if_icmp .le 7, 3) := by decide +kernel
theorem dX7_letter_12 : decode cX7_letter 12 = .ok (.sipush (-1002), 3) := by decide +kernel
theorem dX7_letter_15 : decode cX7_letter 15 = .ok (.ireturn, 1) := by decide +kernel
theorem dX7_letter_16 : decode cX7_letter 16 = .ok (.aload_n 0, 1) := by decide +kernel
theorem dX7_letter_17 : decode cX7_letter 17 = .ok (.getfield 12, 3) := by decide +kernel
theorem dX7_letter_20 : decode cX7_letter 20 = .ok (.invokevirtual 66, 3) := by decide +kernel
theorem dX7_letter_23 : decode cX7_letter 23 = .ok (.ifCond .eq 7, 3) := by decide +kernel
theorem dX7_letter_26 : decode cX7_letter 26 = .ok (.sipush (-1004), 3) := by decide +kernel
theorem dX7_letter_29 : decode cX7_letter 29 = .ok (.ireturn, 1) := by decide +kernel
theorem dX7_letter_30 : decode cX7_letter 30 = .ok (.aload_n 0, 1) := by decide +kernel
theorem dX7_letter_31 : decode cX7_letter 31 = .ok (.getfield 12, 3) := by decide +kernel
theorem dX7_letter_34 : decode cX7_letter 34 = .ok (.iload_n 1, 1) := by decide +kernel
theorem dX7_letter_35 : decode cX7_letter 35 = .ok (.invokevirtual 70, 3) := by decide +kernel
theorem dX7_letter_38 : decode cX7_letter 38 = .ok (.aload_n 0, 1) := by decide +kernel
theorem dX7_letter_39 : decode cX7_letter 39 = .ok (.getfield 12, 3) := by decide +kernel
theorem dX7_letter_42 : decode cX7_letter 42 = .ok (.getfield 74, 3) := by decide +kernel
theorem dX7_letter_45 : decode cX7_letter 45 = .ok (.ireturn, 1) := by decide +kernel
theorem dX7_blank_0 : decode cX7_blank 0 = .ok (.aload_n 0, 1) := by decide +kernel
theorem dX7_blank_1 : decode cX7_blank 1 = .ok (.getfield 12, 3) := by decide +kernel
theorem dX7_blank_4 : decode cX7_blank 4 = .ok (.getfield 74, 3) := by decide +kernel
theorem dX7_blank_7 : decode cX7_blank 7 = .ok (.istore_n 1, 1) := by decide +kernel
theorem dX7_blank_8 : decode cX7_blank 8 = .ok (.aload_n 0, 1) := by decide +kernel
theorem dX7_blank_9 : decode cX7_blank 9 = .ok (.getfield 12, 3) := by decide +kernel
theorem dX7_blank_12 : decode cX7_blank 12 = .ok (.invokevirtual 77, 3) := by decide +kernel
theorem dX7_blank_15 : decode cX7_blank 15 = .ok (.iload_n 1, 1) := by decide +kernel
theorem dX7_blank_16 : decode cX7_blank 16 = .ok (.ireturn, 1) := by decide +kernel
theorem dX7_fault_0 : decode cX7_fault 0 = .ok (.aload_n 0, 1) := by decide +kernel
theorem dX7_fault_1 : decode cX7_fault 1 = .ok (.getfield 12, 3) := by decide +kernel
theorem dX7_fault_4 : decode cX7_fault 4 = .ok (.invokevirtual 80, 3) := by decide +kernel
theorem dX7_fault_7 : decode cX7_fault 7 = .ok (.ireturn, 1) := by decide +kernel
theorem dX7_keep_0 : decode cX7_keep 0 = .ok (.aload_n 0, 1) := by decide +kernel
theorem dX7_keep_1 : decode cX7_keep 1 = .ok (.getfield 12, 3) := by decide +kernel
theorem dX7_keep_4 : decode cX7_keep 4 = .ok (.invokevirtual 84, 3) := by decide +kernel
theorem dX7_keep_7 : decode cX7_keep 7 = .ok (.ifCond .ne 7, 3) := by decide +kernel
theorem dX7_keep_10 : decode cX7_keep 10 = .ok (.sipush (-1003), 3) := by decide +kernel
theorem dX7_keep_13 : decode cX7_keep 13 = .ok (.ireturn, 1) := by decide +kernel
theorem dX7_keep_14 : decode cX7_keep 14 = .ok (.aload_n 0, 1) := by decide +kernel
theorem dX7_keep_15 : decode cX7_keep 15 = .ok (.getfield 18, 3) := by decide +kernel
theorem dX7_keep_18 : decode cX7_keep 18 = .ok (.aload_n 0, 1) := by decide +kernel
theorem dX7_keep_19 : decode cX7_keep 19 = .ok (.getfield 87, 3) := by decide +kernel
theorem dX7_keep_22 : decode cX7_keep 22 = .ok (.aaload, 1) := by decide +kernel
theorem dX7_keep_23 : decode cX7_keep 23 = .ok (.astore_n 1, 1) := by decide +kernel
theorem dX7_keep_24 : decode cX7_keep 24 = .ok (.aload_n 1, 1) := by decide +kernel
theorem dX7_keep_25 : decode cX7_keep 25 = .ok (.aload_n 0, 1) := by decide +kernel
theorem dX7_keep_26 : decode cX7_keep 26 = .ok (.getfield 12, 3) := by decide +kernel
theorem dX7_keep_29 : decode cX7_keep 29 = .ok (.invokevirtual 90, 3) := by decide +kernel
theorem dX7_keep_32 : decode cX7_keep 32 = .ok (.aload_n 0, 1) := by decide +kernel
theorem dX7_keep_33 : decode cX7_keep 33 = .ok (.aload_n 1, 1) := by decide +kernel
theorem dX7_keep_34 : decode cX7_keep 34 = .ok (.invokevirtual 94, 3) := by decide +kernel
theorem dX7_keep_37 : decode cX7_keep 37 = .ok (.istore_n 2, 1) := by decide +kernel
theorem dX7_keep_38 : decode cX7_keep 38 = .ok (.iload_n 2, 1) := by decide +kernel
theorem dX7_keep_39 : decode cX7_keep 39 = .ok (.aload_n 0, 1) := by decide +kernel
theorem dX7_keep_40 : decode cX7_keep 40 = .ok (.getfield 87, 3) := by decide +kernel
theorem dX7_keep_43 : decode cX7_keep 43 = .ok (.if_icmp .ne 39, 3) := by decide +kernel
theorem dX7_keep_46 : decode cX7_keep 46 = .ok (.aload_n 0, 1) := by decide +kernel
theorem dX7_keep_47 : decode cX7_keep 47 = .ok (.getfield 87, 3) := by decide +kernel
theorem dX7_keep_50 : decode cX7_keep 50 = .ok (.bipush 12, 2) := by decide +kernel
theorem dX7_keep_52 : decode cX7_keep 52 = .ok (.if_icmp .lt 7, 3) := by decide +kernel
theorem dX7_keep_55 : decode cX7_keep 55 = .ok (.sipush (-1004), 3) := by decide +kernel
theorem dX7_keep_58 : decode cX7_keep 58 = .ok (.ireturn, 1) := by decide +kernel
theorem dX7_keep_59 : decode cX7_keep 59 = .ok (.aload_n 0, 1) := by decide +kernel
theorem dX7_keep_60 : decode cX7_keep 60 = .ok (.getfield 30, 3) := by decide +kernel
theorem dX7_keep_63 : decode cX7_keep 63 = .ok (.aload_n 1, 1) := by decide +kernel
theorem dX7_keep_64 : decode cX7_keep 64 = .ok (.invokevirtual 98, 3) := by decide +kernel
theorem dX7_keep_67 : decode cX7_keep 67 = .ok (.aload_n 0, 1) := by decide +kernel
theorem dX7_keep_68 : decode cX7_keep 68 = .ok (.dup, 1) := by decide +kernel
theorem dX7_keep_69 : decode cX7_keep 69 = .ok (.getfield 87, 3) := by decide +kernel
theorem dX7_keep_72 : decode cX7_keep 72 = .ok (.iconst 1, 1) := by decide +kernel
theorem dX7_keep_73 : decode cX7_keep 73 = .ok (.iadd, 1) := by decide +kernel
theorem dX7_keep_74 : decode cX7_keep 74 = .ok (.putfield 87, 3) := by decide +kernel
theorem dX7_keep_77 : decode cX7_keep 77 = .ok (.aload_n 0, 1) := by decide +kernel
theorem dX7_keep_78 : decode cX7_keep 78 = .ok (.iconst 1, 1) := by decide +kernel
theorem dX7_keep_79 : decode cX7_keep 79 = .ok (.putfield 62, 3) := by decide +kernel
theorem dX7_keep_82 : decode cX7_keep 82 = .ok (.aload_n 0, 1) := by decide +kernel
theorem dX7_keep_83 : decode cX7_keep 83 = .ok (.getfield 18, 3) := by decide +kernel
theorem dX7_keep_86 : decode cX7_keep 86 = .ok (.iload_n 2, 1) := by decide +kernel
theorem dX7_keep_87 : decode cX7_keep 87 = .ok (.aaload, 1) := by decide +kernel
theorem dX7_keep_88 : decode cX7_keep 88 = .ok (.dup, 1) := by decide +kernel
theorem dX7_keep_89 : decode cX7_keep 89 = .ok (.getfield 102, 3) := by decide +kernel
theorem dX7_keep_92 : decode cX7_keep 92 = .ok (.iconst 1, 1) := by decide +kernel
theorem dX7_keep_93 : decode cX7_keep 93 = .ok (.iadd, 1) := by decide +kernel
theorem dX7_keep_94 : decode cX7_keep 94 = .ok (.putfield 102, 3) := by decide +kernel
theorem dX7_keep_97 : decode cX7_keep 97 = .ok (.aload_n 0, 1) := by decide +kernel
theorem dX7_keep_98 : decode cX7_keep 98 = .ok (.dup, 1) := by decide +kernel
theorem dX7_keep_99 : decode cX7_keep 99 = .ok (.getfield 105, 3) := by decide +kernel
theorem dX7_keep_102 : decode cX7_keep 102 = .ok (.iconst 1, 1) := by decide +kernel
theorem dX7_keep_103 : decode cX7_keep 103 = .ok (.iadd, 1) := by decide +kernel
theorem dX7_keep_104 : decode cX7_keep 104 = .ok (.putfield 105, 3) := by decide +kernel
theorem dX7_keep_107 : decode cX7_keep 107 = .ok (.aload_n 0, 1) := by decide +kernel
theorem dX7_keep_108 : decode cX7_keep 108 = .ok (.getfield 12, 3) := by decide +kernel
theorem dX7_keep_111 : decode cX7_keep 111 = .ok (.invokevirtual 77, 3) := by decide +kernel
theorem dX7_keep_114 : decode cX7_keep 114 = .ok (.iload_n 2, 1) := by decide +kernel
theorem dX7_keep_115 : decode cX7_keep 115 = .ok (.ireturn, 1) := by decide +kernel
theorem dX7_drop_0 : decode cX7_drop 0 = .ok (.aload_n 0, 1) := by decide +kernel
theorem dX7_drop_1 : decode cX7_drop 1 = .ok (.iload_n 1, 1) := by decide +kernel
theorem dX7_drop_2 : decode cX7_drop 2 = .ok (.invokevirtual 108, 3) := by decide +kernel
theorem dX7_drop_5 : decode cX7_drop 5 = .ok (.ifCond .ne 7, 3) := by decide +kernel
theorem dX7_drop_8 : decode cX7_drop 8 = .ok (.sipush (-1001), 3) := by decide +kernel
theorem dX7_drop_11 : decode cX7_drop 11 = .ok (.ireturn, 1) := by decide +kernel
theorem dX7_drop_12 : decode cX7_drop 12 = .ok (.aload_n 0, 1) := by decide +kernel
theorem dX7_drop_13 : decode cX7_drop 13 = .ok (.getfield 18, 3) := by decide +kernel
theorem dX7_drop_16 : decode cX7_drop 16 = .ok (.iload_n 1, 1) := by decide +kernel
theorem dX7_drop_17 : decode cX7_drop 17 = .ok (.aaload, 1) := by decide +kernel
theorem dX7_drop_18 : decode cX7_drop 18 = .ok (.astore_n 2, 1) := by decide +kernel
theorem dX7_drop_19 : decode cX7_drop 19 = .ok (.aload_n 0, 1) := by decide +kernel
theorem dX7_drop_20 : decode cX7_drop 20 = .ok (.getfield 30, 3) := by decide +kernel
theorem dX7_drop_23 : decode cX7_drop 23 = .ok (.aload_n 2, 1) := by decide +kernel
theorem dX7_drop_24 : decode cX7_drop 24 = .ok (.invokevirtual 112, 3) := by decide +kernel
theorem dX7_drop_27 : decode cX7_drop 27 = .ok (.aload_n 0, 1) := by decide +kernel
theorem dX7_drop_28 : decode cX7_drop 28 = .ok (.dup, 1) := by decide +kernel
theorem dX7_drop_29 : decode cX7_drop 29 = .ok (.getfield 87, 3) := by decide +kernel
theorem dX7_drop_32 : decode cX7_drop 32 = .ok (.iconst 1, 1) := by decide +kernel
theorem dX7_drop_33 : decode cX7_drop 33 = .ok (.isub, 1) := by decide +kernel
theorem dX7_drop_34 : decode cX7_drop 34 = .ok (.putfield 87, 3) := by decide +kernel
theorem dX7_drop_37 : decode cX7_drop 37 = .ok (.iload_n 1, 1) := by decide +kernel
theorem dX7_drop_38 : decode cX7_drop 38 = .ok (.istore_n 3, 1) := by decide +kernel
theorem dX7_drop_39 : decode cX7_drop 39 = .ok (.iload_n 3, 1) := by decide +kernel
theorem dX7_drop_40 : decode cX7_drop 40 = .ok (.aload_n 0, 1) := by decide +kernel
theorem dX7_drop_41 : decode cX7_drop 41 = .ok (.getfield 87, 3) := by decide +kernel
theorem dX7_drop_44 : decode cX7_drop 44 = .ok (.if_icmp .ge 23, 3) := by decide +kernel
theorem dX7_drop_47 : decode cX7_drop 47 = .ok (.aload_n 0, 1) := by decide +kernel
theorem dX7_drop_48 : decode cX7_drop 48 = .ok (.getfield 18, 3) := by decide +kernel
theorem dX7_drop_51 : decode cX7_drop 51 = .ok (.iload_n 3, 1) := by decide +kernel
theorem dX7_drop_52 : decode cX7_drop 52 = .ok (.aload_n 0, 1) := by decide +kernel
theorem dX7_drop_53 : decode cX7_drop 53 = .ok (.getfield 18, 3) := by decide +kernel
theorem dX7_drop_56 : decode cX7_drop 56 = .ok (.iload_n 3, 1) := by decide +kernel
theorem dX7_drop_57 : decode cX7_drop 57 = .ok (.iconst 1, 1) := by decide +kernel
theorem dX7_drop_58 : decode cX7_drop 58 = .ok (.iadd, 1) := by decide +kernel
theorem dX7_drop_59 : decode cX7_drop 59 = .ok (.aaload, 1) := by decide +kernel
theorem dX7_drop_60 : decode cX7_drop 60 = .ok (.aastore, 1) := by decide +kernel
theorem dX7_drop_61 : decode cX7_drop 61 = .ok (.iinc 3 1, 3) := by decide +kernel
theorem dX7_drop_64 : decode cX7_drop 64 = .ok (.goto (-25), 3) := by decide +kernel
theorem dX7_drop_67 : decode cX7_drop 67 = .ok (.aload_n 0, 1) := by decide +kernel
theorem dX7_drop_68 : decode cX7_drop 68 = .ok (.getfield 18, 3) := by decide +kernel
theorem dX7_drop_71 : decode cX7_drop 71 = .ok (.aload_n 0, 1) := by decide +kernel
theorem dX7_drop_72 : decode cX7_drop 72 = .ok (.getfield 87, 3) := by decide +kernel
theorem dX7_drop_75 : decode cX7_drop 75 = .ok (.aload_n 2, 1) := by decide +kernel
theorem dX7_drop_76 : decode cX7_drop 76 = .ok (.aastore, 1) := by decide +kernel
theorem dX7_drop_77 : decode cX7_drop 77 = .ok (.aload_n 0, 1) := by decide +kernel
theorem dX7_drop_78 : decode cX7_drop 78 = .ok (.dup, 1) := by decide +kernel
theorem dX7_drop_79 : decode cX7_drop 79 = .ok (.getfield 115, 3) := by decide +kernel
theorem dX7_drop_82 : decode cX7_drop 82 = .ok (.iconst 1, 1) := by decide +kernel
theorem dX7_drop_83 : decode cX7_drop 83 = .ok (.iadd, 1) := by decide +kernel
theorem dX7_drop_84 : decode cX7_drop 84 = .ok (.putfield 115, 3) := by decide +kernel
theorem dX7_drop_87 : decode cX7_drop 87 = .ok (.aload_n 0, 1) := by decide +kernel
theorem dX7_drop_88 : decode cX7_drop 88 = .ok (.iconst 1, 1) := by decide +kernel
theorem dX7_drop_89 : decode cX7_drop 89 = .ok (.putfield 62, 3) := by decide +kernel
theorem dX7_drop_92 : decode cX7_drop 92 = .ok (.aload_n 0, 1) := by decide +kernel
theorem dX7_drop_93 : decode cX7_drop 93 = .ok (.getfield 87, 3) := by decide +kernel
theorem dX7_drop_96 : decode cX7_drop 96 = .ok (.ireturn, 1) := by decide +kernel
theorem dX7_ask_0 : decode cX7_ask 0 = .ok (.aload_n 0, 1) := by decide +kernel
theorem dX7_ask_1 : decode cX7_ask 1 = .ok (.getfield 12, 3) := by decide +kernel
theorem dX7_ask_4 : decode cX7_ask 4 = .ok (.invokevirtual 84, 3) := by decide +kernel
theorem dX7_ask_7 : decode cX7_ask 7 = .ok (.ifCond .ne 7, 3) := by decide +kernel
theorem dX7_ask_10 : decode cX7_ask 10 = .ok (.sipush (-1003), 3) := by decide +kernel
theorem dX7_ask_13 : decode cX7_ask 13 = .ok (.ireturn, 1) := by decide +kernel
theorem dX7_ask_14 : decode cX7_ask 14 = .ok (.aload_n 0, 1) := by decide +kernel
theorem dX7_ask_15 : decode cX7_ask 15 = .ok (.getfield 23, 3) := by decide +kernel
theorem dX7_ask_18 : decode cX7_ask 18 = .ok (.aload_n 0, 1) := by decide +kernel
theorem dX7_ask_19 : decode cX7_ask 19 = .ok (.getfield 12, 3) := by decide +kernel
theorem dX7_ask_22 : decode cX7_ask 22 = .ok (.invokevirtual 90, 3) := by decide +kernel
theorem dX7_ask_25 : decode cX7_ask 25 = .ok (.aload_n 0, 1) := by decide +kernel
theorem dX7_ask_26 : decode cX7_ask 26 = .ok (.getfield 12, 3) := by decide +kernel
theorem dX7_ask_29 : decode cX7_ask 29 = .ok (.invokevirtual 77, 3) := by decide +kernel
theorem dX7_ask_32 : decode cX7_ask 32 = .ok (.aload_n 0, 1) := by decide +kernel
theorem dX7_ask_33 : decode cX7_ask 33 = .ok (.dup, 1) := by decide +kernel
theorem dX7_ask_34 : decode cX7_ask 34 = .ok (.getfield 118, 3) := by decide +kernel
theorem dX7_ask_37 : decode cX7_ask 37 = .ok (.iconst 1, 1) := by decide +kernel
theorem dX7_ask_38 : decode cX7_ask 38 = .ok (.iadd, 1) := by decide +kernel
theorem dX7_ask_39 : decode cX7_ask 39 = .ok (.putfield 118, 3) := by decide +kernel
theorem dX7_ask_42 : decode cX7_ask 42 = .ok (.aload_n 0, 1) := by decide +kernel
theorem dX7_ask_43 : decode cX7_ask 43 = .ok (.iconst 1, 1) := by decide +kernel
theorem dX7_ask_44 : decode cX7_ask 44 = .ok (.putfield 62, 3) := by decide +kernel
theorem dX7_ask_47 : decode cX7_ask 47 = .ok (.aload_n 0, 1) := by decide +kernel
theorem dX7_ask_48 : decode cX7_ask 48 = .ok (.getfield 23, 3) := by decide +kernel
theorem dX7_ask_51 : decode cX7_ask 51 = .ok (.getfield 121, 3) := by decide +kernel
theorem dX7_ask_54 : decode cX7_ask 54 = .ok (.ireturn, 1) := by decide +kernel
theorem dX7_weight_0 : decode cX7_weight 0 = .ok (.iload_n 1, 1) := by decide +kernel
theorem dX7_weight_1 : decode cX7_weight 1 = .ok (.iconst 1, 1) := by decide +kernel
theorem dX7_weight_2 : decode cX7_weight 2 = .ok (.if_icmp .lt 9, 3) := by decide +kernel
theorem dX7_weight_5 : decode cX7_weight 5 = .ok (.iload_n 1, 1) := by decide +kernel
theorem dX7_weight_6 : decode cX7_weight 6 = .ok (.bipush 20, 2) := by decide +kernel
theorem dX7_weight_8 : decode cX7_weight 8 = .ok (.if_icmp .le 7, 3) := by decide +kernel
theorem dX7_weight_11 : decode cX7_weight 11 = .ok (.sipush (-1002), 3) := by decide +kernel
theorem dX7_weight_14 : decode cX7_weight 14 = .ok (.ireturn, 1) := by decide +kernel
theorem dX7_weight_15 : decode cX7_weight 15 = .ok (.aload_n 0, 1) := by decide +kernel
theorem dX7_weight_16 : decode cX7_weight 16 = .ok (.getfield 55, 3) := by decide +kernel
theorem dX7_weight_19 : decode cX7_weight 19 = .ok (.istore_n 2, 1) := by decide +kernel
theorem dX7_weight_20 : decode cX7_weight 20 = .ok (.aload_n 0, 1) := by decide +kernel
theorem dX7_weight_21 : decode cX7_weight 21 = .ok (.iload_n 1, 1) := by decide +kernel
theorem dX7_weight_22 : decode cX7_weight 22 = .ok (.putfield 55, 3) := by decide +kernel
theorem dX7_weight_25 : decode cX7_weight 25 = .ok (.aload_n 0, 1) := by decide +kernel
theorem dX7_weight_26 : decode cX7_weight 26 = .ok (.iconst 1, 1) := by decide +kernel
theorem dX7_weight_27 : decode cX7_weight 27 = .ok (.putfield 62, 3) := by decide +kernel
theorem dX7_weight_30 : decode cX7_weight 30 = .ok (.iload_n 2, 1) := by decide +kernel
theorem dX7_weight_31 : decode cX7_weight 31 = .ok (.ireturn, 1) := by decide +kernel
theorem dX7_bound_0 : decode cX7_bound 0 = .ok (.iload_n 1, 1) := by decide +kernel
theorem dX7_bound_1 : decode cX7_bound 1 = .ok (.ifCond .lt 10, 3) := by decide +kernel
theorem dX7_bound_4 : decode cX7_bound 4 = .ok (.iload_n 1, 1) := by decide +kernel
theorem dX7_bound_5 : decode cX7_bound 5 = .ok (.sipush 1000, 3) := by decide +kernel
theorem dX7_bound_8 : decode cX7_bound 8 = .ok (.if_icmp .le 7, 3) := by decide +kernel
theorem dX7_bound_11 : decode cX7_bound 11 = .ok (.sipush (-1002), 3) := by decide +kernel
theorem dX7_bound_14 : decode cX7_bound 14 = .ok (.ireturn, 1) := by decide +kernel
theorem dX7_bound_15 : decode cX7_bound 15 = .ok (.aload_n 0, 1) := by decide +kernel
theorem dX7_bound_16 : decode cX7_bound 16 = .ok (.getfield 59, 3) := by decide +kernel
theorem dX7_bound_19 : decode cX7_bound 19 = .ok (.istore_n 2, 1) := by decide +kernel
theorem dX7_bound_20 : decode cX7_bound 20 = .ok (.aload_n 0, 1) := by decide +kernel
theorem dX7_bound_21 : decode cX7_bound 21 = .ok (.iload_n 1, 1) := by decide +kernel
theorem dX7_bound_22 : decode cX7_bound 22 = .ok (.putfield 59, 3) := by decide +kernel
theorem dX7_bound_25 : decode cX7_bound 25 = .ok (.aload_n 0, 1) := by decide +kernel
theorem dX7_bound_26 : decode cX7_bound 26 = .ok (.iconst 1, 1) := by decide +kernel
theorem dX7_bound_27 : decode cX7_bound 27 = .ok (.putfield 62, 3) := by decide +kernel
theorem dX7_bound_30 : decode cX7_bound 30 = .ok (.iload_n 2, 1) := by decide +kernel
theorem dX7_bound_31 : decode cX7_bound 31 = .ok (.ireturn, 1) := by decide +kernel
theorem dX7_segment_0 : decode cX7_segment 0 = .ok (.aload_n 0, 1) := by decide +kernel
theorem dX7_segment_1 : decode cX7_segment 1 = .ok (.iload_n 1, 1) := by decide +kernel
theorem dX7_segment_2 : decode cX7_segment 2 = .ok (.invokevirtual 108, 3) := by decide +kernel
theorem dX7_segment_5 : decode cX7_segment 5 = .ok (.ifCond .ne 7, 3) := by decide +kernel
theorem dX7_segment_8 : decode cX7_segment 8 = .ok (.sipush (-1001), 3) := by decide +kernel
theorem dX7_segment_11 : decode cX7_segment 11 = .ok (.ireturn, 1) := by decide +kernel
theorem dX7_segment_12 : decode cX7_segment 12 = .ok (.iload_n 2, 1) := by decide +kernel
theorem dX7_segment_13 : decode cX7_segment 13 = .ok (.bipush 6, 2) := by decide +kernel
theorem dX7_segment_15 : decode cX7_segment 15 = .ok (.invokestatic 124, 3) := by decide +kernel
theorem dX7_segment_18 : decode cX7_segment 18 = .ok (.ifCond .ne 7, 3) := by decide +kernel
theorem dX7_segment_21 : decode cX7_segment 21 = .ok (.sipush (-1002), 3) := by decide +kernel
theorem dX7_segment_24 : decode cX7_segment 24 = .ok (.ireturn, 1) := by decide +kernel
theorem dX7_segment_25 : decode cX7_segment 25 = .ok (.aload_n 0, 1) := by decide +kernel
theorem dX7_segment_26 : decode cX7_segment 26 = .ok (.getfield 18, 3) := by decide +kernel
theorem dX7_segment_29 : decode cX7_segment 29 = .ok (.iload_n 1, 1) := by decide +kernel
theorem dX7_segment_30 : decode cX7_segment 30 = .ok (.aaload, 1) := by decide +kernel
theorem dX7_segment_31 : decode cX7_segment 31 = .ok (.iload_n 2, 1) := by decide +kernel
theorem dX7_segment_32 : decode cX7_segment 32 = .ok (.aload_n 0, 1) := by decide +kernel
theorem dX7_segment_33 : decode cX7_segment 33 = .ok (.getfield 55, 3) := by decide +kernel
theorem dX7_segment_36 : decode cX7_segment 36 = .ok (.invokevirtual 128, 3) := by decide +kernel
theorem dX7_segment_39 : decode cX7_segment 39 = .ok (.ireturn, 1) := by decide +kernel
theorem dX7_sign_0 : decode cX7_sign 0 = .ok (.aload_n 0, 1) := by decide +kernel
theorem dX7_sign_1 : decode cX7_sign 1 = .ok (.iload_n 1, 1) := by decide +kernel
theorem dX7_sign_2 : decode cX7_sign 2 = .ok (.iload_n 2, 1) := by decide +kernel
theorem dX7_sign_3 : decode cX7_sign 3 = .ok (.invokevirtual 132, 3) := by decide +kernel
theorem dX7_sign_6 : decode cX7_sign 6 = .ok (.ifCond .ne 7, 3) := by decide +kernel
theorem dX7_sign_9 : decode cX7_sign 9 = .ok (.sipush (-1001), 3) := by decide +kernel
theorem dX7_sign_12 : decode cX7_sign 12 = .ok (.ireturn, 1) := by decide +kernel
theorem dX7_sign_13 : decode cX7_sign 13 = .ok (.iload_n 3, 1) := by decide +kernel
theorem dX7_sign_14 : decode cX7_sign 14 = .ok (.bipush 14, 2) := by decide +kernel
theorem dX7_sign_16 : decode cX7_sign 16 = .ok (.invokestatic 124, 3) := by decide +kernel
theorem dX7_sign_19 : decode cX7_sign 19 = .ok (.ifCond .ne 7, 3) := by decide +kernel
theorem dX7_sign_22 : decode cX7_sign 22 = .ok (.sipush (-1002), 3) := by decide +kernel
theorem dX7_sign_25 : decode cX7_sign 25 = .ok (.ireturn, 1) := by decide +kernel
theorem dX7_sign_26 : decode cX7_sign 26 = .ok (.aload_n 0, 1) := by decide +kernel
theorem dX7_sign_27 : decode cX7_sign 27 = .ok (.getfield 18, 3) := by decide +kernel
theorem dX7_sign_30 : decode cX7_sign 30 = .ok (.iload_n 1, 1) := by decide +kernel
theorem dX7_sign_31 : decode cX7_sign 31 = .ok (.aaload, 1) := by decide +kernel
theorem dX7_sign_32 : decode cX7_sign 32 = .ok (.getfield 135, 3) := by decide +kernel
theorem dX7_sign_35 : decode cX7_sign 35 = .ok (.iload_n 2, 1) := by decide +kernel
theorem dX7_sign_36 : decode cX7_sign 36 = .ok (.aaload, 1) := by decide +kernel
theorem dX7_sign_37 : decode cX7_sign 37 = .ok (.iload_n 3, 1) := by decide +kernel
theorem dX7_sign_38 : decode cX7_sign 38 = .ok (.invokevirtual 139, 3) := by decide +kernel
theorem dX7_sign_41 : decode cX7_sign 41 = .ok (.ireturn, 1) := by decide +kernel
theorem dX7_alike_0 : decode cX7_alike 0 = .ok (.aload_n 0, 1) := by decide +kernel
theorem dX7_alike_1 : decode cX7_alike 1 = .ok (.iload_n 1, 1) := by decide +kernel
theorem dX7_alike_2 : decode cX7_alike 2 = .ok (.iload_n 2, 1) := by decide +kernel
theorem dX7_alike_3 : decode cX7_alike 3 = .ok (.invokevirtual 132, 3) := by decide +kernel
theorem dX7_alike_6 : decode cX7_alike 6 = .ok (.ifCond .eq 13, 3) := by decide +kernel
theorem dX7_alike_9 : decode cX7_alike 9 = .ok (.aload_n 0, 1) := by decide +kernel
theorem dX7_alike_10 : decode cX7_alike 10 = .ok (.iload_n 3, 1) := by decide +kernel
theorem dX7_alike_11 : decode cX7_alike 11 = .ok (.iload 4, 2) := by decide +kernel
theorem dX7_alike_13 : decode cX7_alike 13 = .ok (.invokevirtual 132, 3) := by decide +kernel
theorem dX7_alike_16 : decode cX7_alike 16 = .ok (.ifCond .ne 7, 3) := by decide +kernel
theorem dX7_alike_19 : decode cX7_alike 19 = .ok (.sipush (-1001), 3) := by decide +kernel
theorem dX7_alike_22 : decode cX7_alike 22 = .ok (.ireturn, 1) := by decide +kernel
theorem dX7_alike_23 : decode cX7_alike 23 = .ok (.aload_n 0, 1) := by decide +kernel
theorem dX7_alike_24 : decode cX7_alike 24 = .ok (.getfield 18, 3) := by decide +kernel
theorem dX7_alike_27 : decode cX7_alike 27 = .ok (.iload_n 1, 1) := by decide +kernel
theorem dX7_alike_28 : decode cX7_alike 28 = .ok (.aaload, 1) := by decide +kernel
theorem dX7_alike_29 : decode cX7_alike 29 = .ok (.getfield 135, 3) := by decide +kernel
theorem dX7_alike_32 : decode cX7_alike 32 = .ok (.iload_n 2, 1) := by decide +kernel
theorem dX7_alike_33 : decode cX7_alike 33 = .ok (.aaload, 1) := by decide +kernel
theorem dX7_alike_34 : decode cX7_alike 34 = .ok (.astore 5, 2) := by decide +kernel
theorem dX7_alike_36 : decode cX7_alike 36 = .ok (.aload_n 0, 1) := by decide +kernel
theorem dX7_alike_37 : decode cX7_alike 37 = .ok (.getfield 18, 3) := by decide +kernel
theorem dX7_alike_40 : decode cX7_alike 40 = .ok (.iload_n 3, 1) := by decide +kernel
theorem dX7_alike_41 : decode cX7_alike 41 = .ok (.aaload, 1) := by decide +kernel
theorem dX7_alike_42 : decode cX7_alike 42 = .ok (.getfield 135, 3) := by decide +kernel
theorem dX7_alike_45 : decode cX7_alike 45 = .ok (.iload 4, 2) := by decide +kernel
theorem dX7_alike_47 : decode cX7_alike 47 = .ok (.aaload, 1) := by decide +kernel
theorem dX7_alike_48 : decode cX7_alike 48 = .ok (.astore 6, 2) := by decide +kernel
theorem dX7_alike_50 : decode cX7_alike 50 = .ok (.aload 5, 2) := by decide +kernel
theorem dX7_alike_52 : decode cX7_alike 52 = .ok (.invokevirtual 144, 3) := by decide +kernel
theorem dX7_alike_55 : decode cX7_alike 55 = .ok (.ifCond .eq 11, 3) := by decide +kernel
theorem dX7_alike_58 : decode cX7_alike 58 = .ok (.aload 6, 2) := by decide +kernel
theorem dX7_alike_60 : decode cX7_alike 60 = .ok (.invokevirtual 144, 3) := by decide +kernel
theorem dX7_alike_63 : decode cX7_alike 63 = .ok (.ifCond .ne 5, 3) := by decide +kernel
theorem dX7_alike_66 : decode cX7_alike 66 = .ok (.iconst (-1), 1) := by decide +kernel
theorem dX7_alike_67 : decode cX7_alike 67 = .ok (.ireturn, 1) := by decide +kernel
theorem dX7_alike_68 : decode cX7_alike 68 = .ok (.aload_n 0, 1) := by decide +kernel
theorem dX7_alike_69 : decode cX7_alike 69 = .ok (.getfield 37, 3) := by decide +kernel
theorem dX7_alike_72 : decode cX7_alike 72 = .ok (.aload 5, 2) := by decide +kernel
theorem dX7_alike_74 : decode cX7_alike 74 = .ok (.aload 6, 2) := by decide +kernel
theorem dX7_alike_76 : decode cX7_alike 76 = .ok (.invokevirtual 147, 3) := by decide +kernel
theorem dX7_alike_79 : decode cX7_alike 79 = .ok (.ireturn, 1) := by decide +kernel
theorem dX7_two_0 : decode cX7_two 0 = .ok (.aload_n 0, 1) := by decide +kernel
theorem dX7_two_1 : decode cX7_two 1 = .ok (.iload_n 1, 1) := by decide +kernel
theorem dX7_two_2 : decode cX7_two 2 = .ok (.invokevirtual 108, 3) := by decide +kernel
theorem dX7_two_5 : decode cX7_two 5 = .ok (.ifCond .eq 11, 3) := by decide +kernel
theorem dX7_two_8 : decode cX7_two 8 = .ok (.aload_n 0, 1) := by decide +kernel
theorem dX7_two_9 : decode cX7_two 9 = .ok (.iload_n 2, 1) := by decide +kernel
theorem dX7_two_10 : decode cX7_two 10 = .ok (.invokevirtual 108, 3) := by decide +kernel
theorem dX7_two_13 : decode cX7_two 13 = .ok (.ifCond .ne 7, 3) := by decide +kernel
theorem dX7_two_16 : decode cX7_two 16 = .ok (.sipush (-1001), 3) := by decide +kernel
theorem dX7_two_19 : decode cX7_two 19 = .ok (.ireturn, 1) := by decide +kernel
theorem dX7_two_20 : decode cX7_two 20 = .ok (.iload_n 3, 1) := by decide +kernel
theorem dX7_two_21 : decode cX7_two 21 = .ok (.iconst 5, 1) := by decide +kernel
theorem dX7_two_22 : decode cX7_two 22 = .ok (.invokestatic 124, 3) := by decide +kernel
theorem dX7_two_25 : decode cX7_two 25 = .ok (.ifCond .ne 7, 3) := by decide +kernel
theorem dX7_two_28 : decode cX7_two 28 = .ok (.sipush (-1002), 3) := by decide +kernel
theorem dX7_two_31 : decode cX7_two 31 = .ok (.ireturn, 1) := by decide +kernel
theorem dX7_two_32 : decode cX7_two 32 = .ok (.aload_n 0, 1) := by decide +kernel
theorem dX7_two_33 : decode cX7_two 33 = .ok (.getfield 37, 3) := by decide +kernel
theorem dX7_two_36 : decode cX7_two 36 = .ok (.aload_n 0, 1) := by decide +kernel
theorem dX7_two_37 : decode cX7_two 37 = .ok (.getfield 18, 3) := by decide +kernel
theorem dX7_two_40 : decode cX7_two 40 = .ok (.iload_n 1, 1) := by decide +kernel
theorem dX7_two_41 : decode cX7_two 41 = .ok (.aaload, 1) := by decide +kernel
theorem dX7_two_42 : decode cX7_two 42 = .ok (.aload_n 0, 1) := by decide +kernel
theorem dX7_two_43 : decode cX7_two 43 = .ok (.getfield 18, 3) := by decide +kernel
theorem dX7_two_46 : decode cX7_two 46 = .ok (.iload_n 2, 1) := by decide +kernel
theorem dX7_two_47 : decode cX7_two 47 = .ok (.aaload, 1) := by decide +kernel
theorem dX7_two_48 : decode cX7_two 48 = .ok (.aload_n 0, 1) := by decide +kernel
theorem dX7_two_49 : decode cX7_two 49 = .ok (.getfield 55, 3) := by decide +kernel
theorem dX7_two_52 : decode cX7_two 52 = .ok (.aload_n 0, 1) := by decide +kernel
theorem dX7_two_53 : decode cX7_two 53 = .ok (.getfield 44, 3) := by decide +kernel
theorem dX7_two_56 : decode cX7_two 56 = .ok (.invokevirtual 151, 3) := by decide +kernel
theorem dX7_two_59 : decode cX7_two 59 = .ok (.aload_n 0, 1) := by decide +kernel
theorem dX7_two_60 : decode cX7_two 60 = .ok (.getfield 44, 3) := by decide +kernel
theorem dX7_two_63 : decode cX7_two 63 = .ok (.iload_n 3, 1) := by decide +kernel
theorem dX7_two_64 : decode cX7_two 64 = .ok (.invokevirtual 155, 3) := by decide +kernel
theorem dX7_two_67 : decode cX7_two 67 = .ok (.ireturn, 1) := by decide +kernel
theorem dX7_gram_0 : decode cX7_gram 0 = .ok (.iload_n 1, 1) := by decide +kernel
theorem dX7_gram_1 : decode cX7_gram 1 = .ok (.bipush 94, 2) := by decide +kernel
theorem dX7_gram_3 : decode cX7_gram 3 = .ok (.if_icmp .eq 14, 3) := by decide +kernel
theorem dX7_gram_6 : decode cX7_gram 6 = .ok (.iload_n 1, 1) := by decide +kernel
theorem dX7_gram_7 : decode cX7_gram 7 = .ok (.invokestatic 156, 3) := by decide +kernel
theorem dX7_gram_10 : decode cX7_gram 10 = .ok (.ifCond .ne 7, 3) := by decide +kernel
theorem dX7_gram_13 : decode cX7_gram 13 = .ok (.sipush (-1002), 3) := by decide +kernel
theorem dX7_gram_16 : decode cX7_gram 16 = .ok (.ireturn, 1) := by decide +kernel
theorem dX7_gram_17 : decode cX7_gram 17 = .ok (.iload_n 2, 1) := by decide +kernel
theorem dX7_gram_18 : decode cX7_gram 18 = .ok (.bipush 36, 2) := by decide +kernel
theorem dX7_gram_20 : decode cX7_gram 20 = .ok (.if_icmp .eq 14, 3) := by decide +kernel
theorem dX7_gram_23 : decode cX7_gram 23 = .ok (.iload_n 2, 1) := by decide +kernel
theorem dX7_gram_24 : decode cX7_gram 24 = .ok (.invokestatic 156, 3) := by decide +kernel
theorem dX7_gram_27 : decode cX7_gram 27 = .ok (.ifCond .ne 7, 3) := by decide +kernel
theorem dX7_gram_30 : decode cX7_gram 30 = .ok (.sipush (-1002), 3) := by decide +kernel
theorem dX7_gram_33 : decode cX7_gram 33 = .ok (.ireturn, 1) := by decide +kernel
theorem dX7_gram_34 : decode cX7_gram 34 = .ok (.iload_n 1, 1) := by decide +kernel
theorem dX7_gram_35 : decode cX7_gram 35 = .ok (.bipush 94, 2) := by decide +kernel
theorem dX7_gram_37 : decode cX7_gram 37 = .ok (.if_icmp .ne 13, 3) := by decide +kernel
theorem dX7_gram_40 : decode cX7_gram 40 = .ok (.iload_n 2, 1) := by decide +kernel
theorem dX7_gram_41 : decode cX7_gram 41 = .ok (.bipush 36, 2) := by decide +kernel
theorem dX7_gram_43 : decode cX7_gram 43 = .ok (.if_icmp .ne 7, 3) := by decide +kernel
theorem dX7_gram_46 : decode cX7_gram 46 = .ok (.sipush (-1002), 3) := by decide +kernel
theorem dX7_gram_49 : decode cX7_gram 49 = .ok (.ireturn, 1) := by decide +kernel
theorem dX7_gram_50 : decode cX7_gram 50 = .ok (.iload_n 1, 1) := by decide +kernel
theorem dX7_gram_51 : decode cX7_gram 51 = .ok (.bipush 94, 2) := by decide +kernel
theorem dX7_gram_53 : decode cX7_gram 53 = .ok (.if_icmp .ne 7, 3) := by decide +kernel
theorem dX7_gram_56 : decode cX7_gram 56 = .ok (.iconst 0, 1) := by decide +kernel
theorem dX7_gram_57 : decode cX7_gram 57 = .ok (.goto 7, 3) := by decide +kernel
theorem dX7_gram_60 : decode cX7_gram 60 = .ok (.iload_n 1, 1) := by decide +kernel
theorem dX7_gram_61 : decode cX7_gram 61 = .ok (.invokestatic 159, 3) := by decide +kernel
theorem dX7_gram_64 : decode cX7_gram 64 = .ok (.istore_n 3, 1) := by decide +kernel
theorem dX7_gram_65 : decode cX7_gram 65 = .ok (.iload_n 2, 1) := by decide +kernel
theorem dX7_gram_66 : decode cX7_gram 66 = .ok (.bipush 36, 2) := by decide +kernel
theorem dX7_gram_68 : decode cX7_gram 68 = .ok (.if_icmp .ne 7, 3) := by decide +kernel
theorem dX7_gram_71 : decode cX7_gram 71 = .ok (.iconst 0, 1) := by decide +kernel
theorem dX7_gram_72 : decode cX7_gram 72 = .ok (.goto 7, 3) := by decide +kernel
theorem dX7_gram_75 : decode cX7_gram 75 = .ok (.iload_n 2, 1) := by decide +kernel
theorem dX7_gram_76 : decode cX7_gram 76 = .ok (.invokestatic 159, 3) := by decide +kernel
theorem dX7_gram_79 : decode cX7_gram 79 = .ok (.istore 4, 2) := by decide +kernel
theorem dX7_gram_81 : decode cX7_gram 81 = .ok (.aload_n 0, 1) := by decide +kernel
theorem dX7_gram_82 : decode cX7_gram 82 = .ok (.getfield 30, 3) := by decide +kernel
theorem dX7_gram_85 : decode cX7_gram 85 = .ok (.iload_n 3, 1) := by decide +kernel
theorem dX7_gram_86 : decode cX7_gram 86 = .ok (.iload 4, 2) := by decide +kernel
theorem dX7_gram_88 : decode cX7_gram 88 = .ok (.invokestatic 162, 3) := by decide +kernel
theorem dX7_gram_91 : decode cX7_gram 91 = .ok (.invokevirtual 165, 3) := by decide +kernel
theorem dX7_gram_94 : decode cX7_gram 94 = .ok (.ireturn, 1) := by decide +kernel
theorem dX7_near_0 : decode cX7_near 0 = .ok (.aload_n 0, 1) := by decide +kernel
theorem dX7_near_1 : decode cX7_near 1 = .ok (.iload_n 1, 1) := by decide +kernel
theorem dX7_near_2 : decode cX7_near 2 = .ok (.invokevirtual 108, 3) := by decide +kernel
theorem dX7_near_5 : decode cX7_near 5 = .ok (.ifCond .ne 7, 3) := by decide +kernel
theorem dX7_near_8 : decode cX7_near 8 = .ok (.sipush (-1001), 3) := by decide +kernel
theorem dX7_near_11 : decode cX7_near 11 = .ok (.ireturn, 1) := by decide +kernel
theorem dX7_near_12 : decode cX7_near 12 = .ok (.iload_n 2, 1) := by decide +kernel
theorem dX7_near_13 : decode cX7_near 13 = .ok (.bipush 10, 2) := by decide +kernel
theorem dX7_near_15 : decode cX7_near 15 = .ok (.invokestatic 124, 3) := by decide +kernel
theorem dX7_near_18 : decode cX7_near 18 = .ok (.ifCond .ne 7, 3) := by decide +kernel
theorem dX7_near_21 : decode cX7_near 21 = .ok (.sipush (-1002), 3) := by decide +kernel
theorem dX7_near_24 : decode cX7_near 24 = .ok (.ireturn, 1) := by decide +kernel
theorem dX7_near_25 : decode cX7_near 25 = .ok (.aload_n 0, 1) := by decide +kernel
theorem dX7_near_26 : decode cX7_near 26 = .ok (.invokevirtual 168, 3) := by decide +kernel
theorem dX7_near_29 : decode cX7_near 29 = .ok (.ifCond .ne 7, 3) := by decide +kernel
theorem dX7_near_32 : decode cX7_near 32 = .ok (.sipush (-1003), 3) := by decide +kernel
theorem dX7_near_35 : decode cX7_near 35 = .ok (.ireturn, 1) := by decide +kernel
theorem dX7_near_36 : decode cX7_near 36 = .ok (.aload_n 0, 1) := by decide +kernel
theorem dX7_near_37 : decode cX7_near 37 = .ok (.invokevirtual 171, 3) := by decide +kernel
theorem dX7_near_40 : decode cX7_near 40 = .ok (.aload_n 0, 1) := by decide +kernel
theorem dX7_near_41 : decode cX7_near 41 = .ok (.getfield 51, 3) := by decide +kernel
theorem dX7_near_44 : decode cX7_near 44 = .ok (.getfield 174, 3) := by decide +kernel
theorem dX7_near_47 : decode cX7_near 47 = .ok (.iload_n 1, 1) := by decide +kernel
theorem dX7_near_48 : decode cX7_near 48 = .ok (.aaload, 1) := by decide +kernel
theorem dX7_near_49 : decode cX7_near 49 = .ok (.iload_n 2, 1) := by decide +kernel
theorem dX7_near_50 : decode cX7_near 50 = .ok (.invokevirtual 155, 3) := by decide +kernel
theorem dX7_near_53 : decode cX7_near 53 = .ok (.ireturn, 1) := by decide +kernel
theorem dX7_step_0 : decode cX7_step 0 = .ok (.aload_n 0, 1) := by decide +kernel
theorem dX7_step_1 : decode cX7_step 1 = .ok (.iload_n 1, 1) := by decide +kernel
theorem dX7_step_2 : decode cX7_step 2 = .ok (.invokevirtual 108, 3) := by decide +kernel
theorem dX7_step_5 : decode cX7_step 5 = .ok (.ifCond .ne 7, 3) := by decide +kernel
theorem dX7_step_8 : decode cX7_step 8 = .ok (.sipush (-1001), 3) := by decide +kernel
theorem dX7_step_11 : decode cX7_step 11 = .ok (.ireturn, 1) := by decide +kernel
theorem dX7_step_12 : decode cX7_step 12 = .ok (.iload_n 3, 1) := by decide +kernel
theorem dX7_step_13 : decode cX7_step 13 = .ok (.iconst 4, 1) := by decide +kernel
theorem dX7_step_14 : decode cX7_step 14 = .ok (.invokestatic 124, 3) := by decide +kernel
theorem dX7_step_17 : decode cX7_step 17 = .ok (.ifCond .ne 7, 3) := by decide +kernel
theorem dX7_step_20 : decode cX7_step 20 = .ok (.sipush (-1002), 3) := by decide +kernel
theorem dX7_step_23 : decode cX7_step 23 = .ok (.ireturn, 1) := by decide +kernel
theorem dX7_step_24 : decode cX7_step 24 = .ok (.aload_n 0, 1) := by decide +kernel
theorem dX7_step_25 : decode cX7_step 25 = .ok (.invokevirtual 168, 3) := by decide +kernel
theorem dX7_step_28 : decode cX7_step 28 = .ok (.ifCond .ne 7, 3) := by decide +kernel
theorem dX7_step_31 : decode cX7_step 31 = .ok (.sipush (-1003), 3) := by decide +kernel
theorem dX7_step_34 : decode cX7_step 34 = .ok (.ireturn, 1) := by decide +kernel
theorem dX7_step_35 : decode cX7_step 35 = .ok (.aload_n 0, 1) := by decide +kernel
theorem dX7_step_36 : decode cX7_step 36 = .ok (.invokevirtual 171, 3) := by decide +kernel
theorem dX7_step_39 : decode cX7_step 39 = .ok (.aload_n 0, 1) := by decide +kernel
theorem dX7_step_40 : decode cX7_step 40 = .ok (.getfield 51, 3) := by decide +kernel
theorem dX7_step_43 : decode cX7_step 43 = .ok (.getfield 174, 3) := by decide +kernel
theorem dX7_step_46 : decode cX7_step 46 = .ok (.iload_n 1, 1) := by decide +kernel
theorem dX7_step_47 : decode cX7_step 47 = .ok (.aaload, 1) := by decide +kernel
theorem dX7_step_48 : decode cX7_step 48 = .ok (.astore 4, 2) := by decide +kernel
theorem dX7_step_50 : decode cX7_step 50 = .ok (.iload_n 2, 1) := by decide +kernel
theorem dX7_step_51 : decode cX7_step 51 = .ok (.aload 4, 2) := by decide +kernel
theorem dX7_step_53 : decode cX7_step 53 = .ok (.getfield 178, 3) := by decide +kernel
theorem dX7_step_56 : decode cX7_step 56 = .ok (.invokestatic 124, 3) := by decide +kernel
theorem dX7_step_59 : decode cX7_step 59 = .ok (.ifCond .ne 7, 3) := by decide +kernel
theorem dX7_step_62 : decode cX7_step 62 = .ok (.sipush (-1001), 3) := by decide +kernel
theorem dX7_step_65 : decode cX7_step 65 = .ok (.ireturn, 1) := by decide +kernel
theorem dX7_step_66 : decode cX7_step 66 = .ok (.aload 4, 2) := by decide +kernel
theorem dX7_step_68 : decode cX7_step 68 = .ok (.iload_n 2, 1) := by decide +kernel
theorem dX7_step_69 : decode cX7_step 69 = .ok (.iload_n 3, 1) := by decide +kernel
theorem dX7_step_70 : decode cX7_step 70 = .ok (.invokevirtual 181, 3) := by decide +kernel
theorem dX7_step_73 : decode cX7_step 73 = .ok (.ireturn, 1) := by decide +kernel
theorem dX7_rank_0 : decode cX7_rank 0 = .ok (.aload_n 0, 1) := by decide +kernel
theorem dX7_rank_1 : decode cX7_rank 1 = .ok (.invokevirtual 168, 3) := by decide +kernel
theorem dX7_rank_4 : decode cX7_rank 4 = .ok (.ifCond .ne 7, 3) := by decide +kernel
theorem dX7_rank_7 : decode cX7_rank 7 = .ok (.sipush (-1003), 3) := by decide +kernel
theorem dX7_rank_10 : decode cX7_rank 10 = .ok (.ireturn, 1) := by decide +kernel
theorem dX7_rank_11 : decode cX7_rank 11 = .ok (.aload_n 0, 1) := by decide +kernel
theorem dX7_rank_12 : decode cX7_rank 12 = .ok (.invokevirtual 171, 3) := by decide +kernel
theorem dX7_rank_15 : decode cX7_rank 15 = .ok (.iload_n 1, 1) := by decide +kernel
theorem dX7_rank_16 : decode cX7_rank 16 = .ok (.aload_n 0, 1) := by decide +kernel
theorem dX7_rank_17 : decode cX7_rank 17 = .ok (.getfield 51, 3) := by decide +kernel
theorem dX7_rank_20 : decode cX7_rank 20 = .ok (.getfield 184, 3) := by decide +kernel
theorem dX7_rank_23 : decode cX7_rank 23 = .ok (.invokestatic 124, 3) := by decide +kernel
theorem dX7_rank_26 : decode cX7_rank 26 = .ok (.ifCond .ne 7, 3) := by decide +kernel
theorem dX7_rank_29 : decode cX7_rank 29 = .ok (.sipush (-1001), 3) := by decide +kernel
theorem dX7_rank_32 : decode cX7_rank 32 = .ok (.ireturn, 1) := by decide +kernel
theorem dX7_rank_33 : decode cX7_rank 33 = .ok (.aload_n 0, 1) := by decide +kernel
theorem dX7_rank_34 : decode cX7_rank 34 = .ok (.getfield 51, 3) := by decide +kernel
theorem dX7_rank_37 : decode cX7_rank 37 = .ok (.getfield 187, 3) := by decide +kernel
theorem dX7_rank_40 : decode cX7_rank 40 = .ok (.iload_n 1, 1) := by decide +kernel
theorem dX7_rank_41 : decode cX7_rank 41 = .ok (.iaload, 1) := by decide +kernel
theorem dX7_rank_42 : decode cX7_rank 42 = .ok (.ireturn, 1) := by decide +kernel
theorem dX7_question_0 : decode cX7_question 0 = .ok (.iload_n 1, 1) := by decide +kernel
theorem dX7_question_1 : decode cX7_question 1 = .ok (.bipush 10, 2) := by decide +kernel
theorem dX7_question_3 : decode cX7_question 3 = .ok (.invokestatic 124, 3) := by decide +kernel
theorem dX7_question_6 : decode cX7_question 6 = .ok (.ifCond .ne 7, 3) := by decide +kernel
theorem dX7_question_9 : decode cX7_question 9 = .ok (.sipush (-1002), 3) := by decide +kernel
theorem dX7_question_12 : decode cX7_question 12 = .ok (.ireturn, 1) := by decide +kernel
theorem dX7_question_13 : decode cX7_question 13 = .ok (.aload_n 0, 1) := by decide +kernel
theorem dX7_question_14 : decode cX7_question 14 = .ok (.invokevirtual 168, 3) := by decide +kernel
theorem dX7_question_17 : decode cX7_question 17 = .ok (.ifCond .ne 7, 3) := by decide +kernel
theorem dX7_question_20 : decode cX7_question 20 = .ok (.sipush (-1003), 3) := by decide +kernel
theorem dX7_question_23 : decode cX7_question 23 = .ok (.ireturn, 1) := by decide +kernel
theorem dX7_question_24 : decode cX7_question 24 = .ok (.aload_n 0, 1) := by decide +kernel
theorem dX7_question_25 : decode cX7_question 25 = .ok (.invokevirtual 171, 3) := by decide +kernel
theorem dX7_question_28 : decode cX7_question 28 = .ok (.aload_n 0, 1) := by decide +kernel
theorem dX7_question_29 : decode cX7_question 29 = .ok (.iload_n 1, 1) := by decide +kernel
theorem dX7_question_30 : decode cX7_question 30 = .ok (.invokevirtual 191, 3) := by decide +kernel
theorem dX7_question_33 : decode cX7_question 33 = .ok (.ireturn, 1) := by decide +kernel
theorem dX7_covered_0 : decode cX7_covered 0 = .ok (.aload_n 0, 1) := by decide +kernel
theorem dX7_covered_1 : decode cX7_covered 1 = .ok (.invokevirtual 168, 3) := by decide +kernel
theorem dX7_covered_4 : decode cX7_covered 4 = .ok (.ifCond .ne 7, 3) := by decide +kernel
theorem dX7_covered_7 : decode cX7_covered 7 = .ok (.sipush (-1003), 3) := by decide +kernel
theorem dX7_covered_10 : decode cX7_covered 10 = .ok (.ireturn, 1) := by decide +kernel
theorem dX7_covered_11 : decode cX7_covered 11 = .ok (.iload_n 1, 1) := by decide +kernel
theorem dX7_covered_12 : decode cX7_covered 12 = .ok (.aload_n 0, 1) := by decide +kernel
theorem dX7_covered_13 : decode cX7_covered 13 = .ok (.getfield 23, 3) := by decide +kernel
theorem dX7_covered_16 : decode cX7_covered 16 = .ok (.getfield 121, 3) := by decide +kernel
theorem dX7_covered_19 : decode cX7_covered 19 = .ok (.invokestatic 124, 3) := by decide +kernel
theorem dX7_covered_22 : decode cX7_covered 22 = .ok (.ifCond .ne 7, 3) := by decide +kernel
theorem dX7_covered_25 : decode cX7_covered 25 = .ok (.sipush (-1001), 3) := by decide +kernel
theorem dX7_covered_28 : decode cX7_covered 28 = .ok (.ireturn, 1) := by decide +kernel
theorem dX7_covered_29 : decode cX7_covered 29 = .ok (.aload_n 0, 1) := by decide +kernel
theorem dX7_covered_30 : decode cX7_covered 30 = .ok (.invokevirtual 171, 3) := by decide +kernel
theorem dX7_covered_33 : decode cX7_covered 33 = .ok (.aload_n 0, 1) := by decide +kernel
theorem dX7_covered_34 : decode cX7_covered 34 = .ok (.getfield 51, 3) := by decide +kernel
theorem dX7_covered_37 : decode cX7_covered 37 = .ok (.getfield 194, 3) := by decide +kernel
theorem dX7_covered_40 : decode cX7_covered 40 = .ok (.iload_n 1, 1) := by decide +kernel
theorem dX7_covered_41 : decode cX7_covered 41 = .ok (.baload, 1) := by decide +kernel
theorem dX7_covered_42 : decode cX7_covered 42 = .ok (.ifCond .eq 7, 3) := by decide +kernel
theorem dX7_covered_45 : decode cX7_covered 45 = .ok (.iconst 1, 1) := by decide +kernel
theorem dX7_covered_46 : decode cX7_covered 46 = .ok (.goto 4, 3) := by decide +kernel
theorem dX7_covered_49 : decode cX7_covered 49 = .ok (.iconst 0, 1) := by decide +kernel
theorem dX7_covered_50 : decode cX7_covered 50 = .ok (.ireturn, 1) := by decide +kernel
theorem dX7_count_0 : decode cX7_count 0 = .ok (.iload_n 1, 1) := by decide +kernel
theorem dX7_count_1 : decode cX7_count 1 = .ok (.tableswitch 93 0 7 #[47, 55, 60, 65, 70, 75, 80, 85], 47) := by decide +kernel
theorem dX7_count_48 : decode cX7_count 48 = .ok (.aload_n 0, 1) := by decide +kernel
theorem dX7_count_49 : decode cX7_count 49 = .ok (.getfield 12, 3) := by decide +kernel
theorem dX7_count_52 : decode cX7_count 52 = .ok (.getfield 74, 3) := by decide +kernel
theorem dX7_count_55 : decode cX7_count 55 = .ok (.ireturn, 1) := by decide +kernel
theorem dX7_count_56 : decode cX7_count 56 = .ok (.aload_n 0, 1) := by decide +kernel
theorem dX7_count_57 : decode cX7_count 57 = .ok (.getfield 87, 3) := by decide +kernel
theorem dX7_count_60 : decode cX7_count 60 = .ok (.ireturn, 1) := by decide +kernel
theorem dX7_count_61 : decode cX7_count 61 = .ok (.aload_n 0, 1) := by decide +kernel
theorem dX7_count_62 : decode cX7_count 62 = .ok (.getfield 105, 3) := by decide +kernel
theorem dX7_count_65 : decode cX7_count 65 = .ok (.ireturn, 1) := by decide +kernel
theorem dX7_count_66 : decode cX7_count 66 = .ok (.aload_n 0, 1) := by decide +kernel
theorem dX7_count_67 : decode cX7_count 67 = .ok (.getfield 115, 3) := by decide +kernel
theorem dX7_count_70 : decode cX7_count 70 = .ok (.ireturn, 1) := by decide +kernel
theorem dX7_count_71 : decode cX7_count 71 = .ok (.aload_n 0, 1) := by decide +kernel
theorem dX7_count_72 : decode cX7_count 72 = .ok (.getfield 118, 3) := by decide +kernel
theorem dX7_count_75 : decode cX7_count 75 = .ok (.ireturn, 1) := by decide +kernel
theorem dX7_count_76 : decode cX7_count 76 = .ok (.aload_n 0, 1) := by decide +kernel
theorem dX7_count_77 : decode cX7_count 77 = .ok (.getfield 55, 3) := by decide +kernel
theorem dX7_count_80 : decode cX7_count 80 = .ok (.ireturn, 1) := by decide +kernel
theorem dX7_count_81 : decode cX7_count 81 = .ok (.aload_n 0, 1) := by decide +kernel
theorem dX7_count_82 : decode cX7_count 82 = .ok (.getfield 59, 3) := by decide +kernel
theorem dX7_count_85 : decode cX7_count 85 = .ok (.ireturn, 1) := by decide +kernel
theorem dX7_count_86 : decode cX7_count 86 = .ok (.aload_n 0, 1) := by decide +kernel
theorem dX7_count_87 : decode cX7_count 87 = .ok (.getfield 30, 3) := by decide +kernel
theorem dX7_count_90 : decode cX7_count 90 = .ok (.getfield 198, 3) := by decide +kernel
theorem dX7_count_93 : decode cX7_count 93 = .ok (.ireturn, 1) := by decide +kernel
theorem dX7_count_94 : decode cX7_count 94 = .ok (.sipush (-1002), 3) := by decide +kernel
theorem dX7_count_97 : decode cX7_count 97 = .ok (.ireturn, 1) := by decide +kernel
theorem dX7_digest_0 : decode cX7_digest 0 = .ok (.ldc2_w 201, 3) := by decide +kernel
theorem dX7_digest_3 : decode cX7_digest 3 = .ok (.lstore_n 1, 1) := by decide +kernel
theorem dX7_digest_4 : decode cX7_digest 4 = .ok (.aload_n 0, 1) := by decide +kernel
theorem dX7_digest_5 : decode cX7_digest 5 = .ok (.lload_n 1, 1) := by decide +kernel
theorem dX7_digest_6 : decode cX7_digest 6 = .ok (.invokevirtual 203, 3) := by decide +kernel
theorem dX7_digest_9 : decode cX7_digest 9 = .ok (.lstore_n 1, 1) := by decide +kernel
theorem dX7_digest_10 : decode cX7_digest 10 = .ok (.aload_n 0, 1) := by decide +kernel
theorem dX7_digest_11 : decode cX7_digest 11 = .ok (.lload_n 1, 1) := by decide +kernel
theorem dX7_digest_12 : decode cX7_digest 12 = .ok (.invokevirtual 207, 3) := by decide +kernel
theorem dX7_digest_15 : decode cX7_digest 15 = .ok (.lstore_n 1, 1) := by decide +kernel
theorem dX7_digest_16 : decode cX7_digest 16 = .ok (.aload_n 0, 1) := by decide +kernel
theorem dX7_digest_17 : decode cX7_digest 17 = .ok (.invokevirtual 168, 3) := by decide +kernel
theorem dX7_digest_20 : decode cX7_digest 20 = .ok (.ifCond .eq 13, 3) := by decide +kernel
theorem dX7_digest_23 : decode cX7_digest 23 = .ok (.aload_n 0, 1) := by decide +kernel
theorem dX7_digest_24 : decode cX7_digest 24 = .ok (.invokevirtual 171, 3) := by decide +kernel
theorem dX7_digest_27 : decode cX7_digest 27 = .ok (.aload_n 0, 1) := by decide +kernel
theorem dX7_digest_28 : decode cX7_digest 28 = .ok (.lload_n 1, 1) := by decide +kernel
theorem dX7_digest_29 : decode cX7_digest 29 = .ok (.invokevirtual 210, 3) := by decide +kernel
theorem dX7_digest_32 : decode cX7_digest 32 = .ok (.lstore_n 1, 1) := by decide +kernel
theorem dX7_digest_33 : decode cX7_digest 33 = .ok (.iconst 0, 1) := by decide +kernel
theorem dX7_digest_34 : decode cX7_digest 34 = .ok (.istore_n 3, 1) := by decide +kernel
theorem dX7_digest_35 : decode cX7_digest 35 = .ok (.iload_n 3, 1) := by decide +kernel
theorem dX7_digest_36 : decode cX7_digest 36 = .ok (.aload_n 0, 1) := by decide +kernel
theorem dX7_digest_37 : decode cX7_digest 37 = .ok (.getfield 12, 3) := by decide +kernel
theorem dX7_digest_40 : decode cX7_digest 40 = .ok (.getfield 74, 3) := by decide +kernel
theorem dX7_digest_43 : decode cX7_digest 43 = .ok (.if_icmp .ge 23, 3) := by decide +kernel
theorem dX7_digest_46 : decode cX7_digest 46 = .ok (.lload_n 1, 1) := by decide +kernel
theorem dX7_digest_47 : decode cX7_digest 47 = .ok (.aload_n 0, 1) := by decide +kernel
theorem dX7_digest_48 : decode cX7_digest 48 = .ok (.getfield 12, 3) := by decide +kernel
theorem dX7_digest_51 : decode cX7_digest 51 = .ok (.getfield 213, 3) := by decide +kernel
theorem dX7_digest_54 : decode cX7_digest 54 = .ok (.iload_n 3, 1) := by decide +kernel
theorem dX7_digest_55 : decode cX7_digest 55 = .ok (.iaload, 1) := by decide +kernel
theorem dX7_digest_56 : decode cX7_digest 56 = .ok (.invokestatic 216, 3) := by decide +kernel
theorem dX7_digest_59 : decode cX7_digest 59 = .ok (.lstore_n 1, 1) := by decide +kernel
theorem dX7_digest_60 : decode cX7_digest 60 = .ok (.iinc 3 1, 3) := by decide +kernel
theorem dX7_digest_63 : decode cX7_digest 63 = .ok (.goto (-28), 3) := by decide +kernel
theorem dX7_digest_66 : decode cX7_digest 66 = .ok (.iconst 0, 1) := by decide +kernel
theorem dX7_digest_67 : decode cX7_digest 67 = .ok (.istore_n 3, 1) := by decide +kernel
theorem dX7_digest_68 : decode cX7_digest 68 = .ok (.iload_n 3, 1) := by decide +kernel
theorem dX7_digest_69 : decode cX7_digest 69 = .ok (.bipush 8, 2) := by decide +kernel
theorem dX7_digest_71 : decode cX7_digest 71 = .ok (.if_icmp .ge 19, 3) := by decide +kernel
theorem dX7_digest_74 : decode cX7_digest 74 = .ok (.lload_n 1, 1) := by decide +kernel
theorem dX7_digest_75 : decode cX7_digest 75 = .ok (.aload_n 0, 1) := by decide +kernel
theorem dX7_digest_76 : decode cX7_digest 76 = .ok (.iload_n 3, 1) := by decide +kernel
theorem dX7_digest_77 : decode cX7_digest 77 = .ok (.invokevirtual 220, 3) := by decide +kernel
theorem dX7_digest_80 : decode cX7_digest 80 = .ok (.invokestatic 216, 3) := by decide +kernel
theorem dX7_digest_83 : decode cX7_digest 83 = .ok (.lstore_n 1, 1) := by decide +kernel
theorem dX7_digest_84 : decode cX7_digest 84 = .ok (.iinc 3 1, 3) := by decide +kernel
theorem dX7_digest_87 : decode cX7_digest 87 = .ok (.goto (-19), 3) := by decide +kernel
theorem dX7_digest_90 : decode cX7_digest 90 = .ok (.lload_n 1, 1) := by decide +kernel
theorem dX7_digest_91 : decode cX7_digest 91 = .ok (.lreturn, 1) := by decide +kernel
theorem dX7_mixSegments_0 : decode cX7_mixSegments 0 = .ok (.lload_n 1, 1) := by decide +kernel
theorem dX7_mixSegments_1 : decode cX7_mixSegments 1 = .ok (.lstore_n 3, 1) := by decide +kernel
theorem dX7_mixSegments_2 : decode cX7_mixSegments 2 = .ok (.iconst 0, 1) := by decide +kernel
theorem dX7_mixSegments_3 : decode cX7_mixSegments 3 = .ok (.istore 5, 2) := by decide +kernel
theorem dX7_mixSegments_5 : decode cX7_mixSegments 5 = .ok (.iload 5, 2) := by decide +kernel
theorem dX7_mixSegments_7 : decode cX7_mixSegments 7 = .ok (.aload_n 0, 1) := by decide +kernel
theorem dX7_mixSegments_8 : decode cX7_mixSegments 8 = .ok (.getfield 87, 3) := by decide +kernel
theorem dX7_mixSegments_11 : decode cX7_mixSegments 11 = .ok (.if_icmp .ge 46, 3) := by decide +kernel
theorem dX7_mixSegments_14 : decode cX7_mixSegments 14 = .ok (.iconst 0, 1) := by decide +kernel
theorem dX7_mixSegments_15 : decode cX7_mixSegments 15 = .ok (.istore 6, 2) := by decide +kernel
theorem dX7_mixSegments_17 : decode cX7_mixSegments 17 = .ok (.iload 6, 2) := by decide +kernel
theorem dX7_mixSegments_19 : decode cX7_mixSegments 19 = .ok (.bipush 6, 2) := by decide +kernel
theorem dX7_mixSegments_21 : decode cX7_mixSegments 21 = .ok (.if_icmp .ge 30, 3) := by decide +kernel
theorem dX7_mixSegments_24 : decode cX7_mixSegments 24 = .ok (.lload_n 3, 1) := by decide +kernel
theorem dX7_mixSegments_25 : decode cX7_mixSegments 25 = .ok (.aload_n 0, 1) := by decide +kernel
theorem dX7_mixSegments_26 : decode cX7_mixSegments 26 = .ok (.getfield 18, 3) := by decide +kernel
theorem dX7_mixSegments_29 : decode cX7_mixSegments 29 = .ok (.iload 5, 2) := by decide +kernel
theorem dX7_mixSegments_31 : decode cX7_mixSegments 31 = .ok (.aaload, 1) := by decide +kernel
theorem dX7_mixSegments_32 : decode cX7_mixSegments 32 = .ok (.iload 6, 2) := by decide +kernel
theorem dX7_mixSegments_34 : decode cX7_mixSegments 34 = .ok (.aload_n 0, 1) := by decide +kernel
theorem dX7_mixSegments_35 : decode cX7_mixSegments 35 = .ok (.getfield 55, 3) := by decide +kernel
theorem dX7_mixSegments_38 : decode cX7_mixSegments 38 = .ok (.invokevirtual 128, 3) := by decide +kernel
theorem dX7_mixSegments_41 : decode cX7_mixSegments 41 = .ok (.invokestatic 216, 3) := by decide +kernel
theorem dX7_mixSegments_44 : decode cX7_mixSegments 44 = .ok (.lstore_n 3, 1) := by decide +kernel
theorem dX7_mixSegments_45 : decode cX7_mixSegments 45 = .ok (.iinc 6 1, 3) := by decide +kernel
theorem dX7_mixSegments_48 : decode cX7_mixSegments 48 = .ok (.goto (-31), 3) := by decide +kernel
theorem dX7_mixSegments_51 : decode cX7_mixSegments 51 = .ok (.iinc 5 1, 3) := by decide +kernel
theorem dX7_mixSegments_54 : decode cX7_mixSegments 54 = .ok (.goto (-49), 3) := by decide +kernel
theorem dX7_mixSegments_57 : decode cX7_mixSegments 57 = .ok (.lload_n 3, 1) := by decide +kernel
theorem dX7_mixSegments_58 : decode cX7_mixSegments 58 = .ok (.lreturn, 1) := by decide +kernel
theorem dX7_mixPairs_0 : decode cX7_mixPairs 0 = .ok (.lload_n 1, 1) := by decide +kernel
theorem dX7_mixPairs_1 : decode cX7_mixPairs 1 = .ok (.lstore_n 3, 1) := by decide +kernel
theorem dX7_mixPairs_2 : decode cX7_mixPairs 2 = .ok (.iconst 0, 1) := by decide +kernel
theorem dX7_mixPairs_3 : decode cX7_mixPairs 3 = .ok (.istore 5, 2) := by decide +kernel
theorem dX7_mixPairs_5 : decode cX7_mixPairs 5 = .ok (.iload 5, 2) := by decide +kernel
theorem dX7_mixPairs_7 : decode cX7_mixPairs 7 = .ok (.aload_n 0, 1) := by decide +kernel
theorem dX7_mixPairs_8 : decode cX7_mixPairs 8 = .ok (.getfield 87, 3) := by decide +kernel
theorem dX7_mixPairs_11 : decode cX7_mixPairs 11 = .ok (.if_icmp .ge 88, 3) := by decide +kernel
theorem dX7_mixPairs_14 : decode cX7_mixPairs 14 = .ok (.iload 5, 2) := by decide +kernel
theorem dX7_mixPairs_16 : decode cX7_mixPairs 16 = .ok (.iconst 1, 1) := by decide +kernel
theorem dX7_mixPairs_17 : decode cX7_mixPairs 17 = .ok (.iadd, 1) := by decide +kernel
theorem dX7_mixPairs_18 : decode cX7_mixPairs 18 = .ok (.istore 6, 2) := by decide +kernel
theorem dX7_mixPairs_20 : decode cX7_mixPairs 20 = .ok (.iload 6, 2) := by decide +kernel
theorem dX7_mixPairs_22 : decode cX7_mixPairs 22 = .ok (.aload_n 0, 1) := by decide +kernel
theorem dX7_mixPairs_23 : decode cX7_mixPairs 23 = .ok (.getfield 87, 3) := by decide +kernel
theorem dX7_mixPairs_26 : decode cX7_mixPairs 26 = .ok (.if_icmp .ge 67, 3) := by decide +kernel
theorem dX7_mixPairs_29 : decode cX7_mixPairs 29 = .ok (.aload_n 0, 1) := by decide +kernel
theorem dX7_mixPairs_30 : decode cX7_mixPairs 30 = .ok (.getfield 37, 3) := by decide +kernel
theorem dX7_mixPairs_33 : decode cX7_mixPairs 33 = .ok (.aload_n 0, 1) := by decide +kernel
theorem dX7_mixPairs_34 : decode cX7_mixPairs 34 = .ok (.getfield 18, 3) := by decide +kernel
theorem dX7_mixPairs_37 : decode cX7_mixPairs 37 = .ok (.iload 5, 2) := by decide +kernel
theorem dX7_mixPairs_39 : decode cX7_mixPairs 39 = .ok (.aaload, 1) := by decide +kernel
theorem dX7_mixPairs_40 : decode cX7_mixPairs 40 = .ok (.aload_n 0, 1) := by decide +kernel
theorem dX7_mixPairs_41 : decode cX7_mixPairs 41 = .ok (.getfield 18, 3) := by decide +kernel
theorem dX7_mixPairs_44 : decode cX7_mixPairs 44 = .ok (.iload 6, 2) := by decide +kernel
theorem dX7_mixPairs_46 : decode cX7_mixPairs 46 = .ok (.aaload, 1) := by decide +kernel
theorem dX7_mixPairs_47 : decode cX7_mixPairs 47 = .ok (.aload_n 0, 1) := by decide +kernel
theorem dX7_mixPairs_48 : decode cX7_mixPairs 48 = .ok (.getfield 55, 3) := by decide +kernel
theorem dX7_mixPairs_51 : decode cX7_mixPairs 51 = .ok (.aload_n 0, 1) := by decide +kernel
theorem dX7_mixPairs_52 : decode cX7_mixPairs 52 = .ok (.getfield 44, 3) := by decide +kernel
theorem dX7_mixPairs_55 : decode cX7_mixPairs 55 = .ok (.invokevirtual 151, 3) := by decide +kernel
theorem dX7_mixPairs_58 : decode cX7_mixPairs 58 = .ok (.iconst 0, 1) := by decide +kernel
theorem dX7_mixPairs_59 : decode cX7_mixPairs 59 = .ok (.istore 7, 2) := by decide +kernel
theorem dX7_mixPairs_61 : decode cX7_mixPairs 61 = .ok (.iload 7, 2) := by decide +kernel
theorem dX7_mixPairs_63 : decode cX7_mixPairs 63 = .ok (.iconst 5, 1) := by decide +kernel
theorem dX7_mixPairs_64 : decode cX7_mixPairs 64 = .ok (.if_icmp .ge 23, 3) := by decide +kernel
theorem dX7_mixPairs_67 : decode cX7_mixPairs 67 = .ok (.lload_n 3, 1) := by decide +kernel
theorem dX7_mixPairs_68 : decode cX7_mixPairs 68 = .ok (.aload_n 0, 1) := by decide +kernel
theorem dX7_mixPairs_69 : decode cX7_mixPairs 69 = .ok (.getfield 44, 3) := by decide +kernel
theorem dX7_mixPairs_72 : decode cX7_mixPairs 72 = .ok (.iload 7, 2) := by decide +kernel
theorem dX7_mixPairs_74 : decode cX7_mixPairs 74 = .ok (.invokevirtual 155, 3) := by decide +kernel
theorem dX7_mixPairs_77 : decode cX7_mixPairs 77 = .ok (.invokestatic 216, 3) := by decide +kernel
theorem dX7_mixPairs_80 : decode cX7_mixPairs 80 = .ok (.lstore_n 3, 1) := by decide +kernel
theorem dX7_mixPairs_81 : decode cX7_mixPairs 81 = .ok (.iinc 7 1, 3) := by decide +kernel
theorem dX7_mixPairs_84 : decode cX7_mixPairs 84 = .ok (.goto (-23), 3) := by decide +kernel
theorem dX7_mixPairs_87 : decode cX7_mixPairs 87 = .ok (.iinc 6 1, 3) := by decide +kernel
theorem dX7_mixPairs_90 : decode cX7_mixPairs 90 = .ok (.goto (-70), 3) := by decide +kernel
theorem dX7_mixPairs_93 : decode cX7_mixPairs 93 = .ok (.iinc 5 1, 3) := by decide +kernel
theorem dX7_mixPairs_96 : decode cX7_mixPairs 96 = .ok (.goto (-91), 3) := by decide +kernel
theorem dX7_mixPairs_99 : decode cX7_mixPairs 99 = .ok (.lload_n 3, 1) := by decide +kernel
theorem dX7_mixPairs_100 : decode cX7_mixPairs 100 = .ok (.lreturn, 1) := by decide +kernel
theorem dX7_mixFindings_0 : decode cX7_mixFindings 0 = .ok (.lload_n 1, 1) := by decide +kernel
theorem dX7_mixFindings_1 : decode cX7_mixFindings 1 = .ok (.lstore_n 3, 1) := by decide +kernel
theorem dX7_mixFindings_2 : decode cX7_mixFindings 2 = .ok (.iconst 0, 1) := by decide +kernel
theorem dX7_mixFindings_3 : decode cX7_mixFindings 3 = .ok (.istore 5, 2) := by decide +kernel
theorem dX7_mixFindings_5 : decode cX7_mixFindings 5 = .ok (.iload 5, 2) := by decide +kernel
theorem dX7_mixFindings_7 : decode cX7_mixFindings 7 = .ok (.bipush 10, 2) := by decide +kernel
theorem dX7_mixFindings_9 : decode cX7_mixFindings 9 = .ok (.if_icmp .ge 20, 3) := by decide +kernel
theorem dX7_mixFindings_12 : decode cX7_mixFindings 12 = .ok (.lload_n 3, 1) := by decide +kernel
theorem dX7_mixFindings_13 : decode cX7_mixFindings 13 = .ok (.aload_n 0, 1) := by decide +kernel
theorem dX7_mixFindings_14 : decode cX7_mixFindings 14 = .ok (.iload 5, 2) := by decide +kernel
theorem dX7_mixFindings_16 : decode cX7_mixFindings 16 = .ok (.invokevirtual 191, 3) := by decide +kernel
theorem dX7_mixFindings_19 : decode cX7_mixFindings 19 = .ok (.invokestatic 216, 3) := by decide +kernel
theorem dX7_mixFindings_22 : decode cX7_mixFindings 22 = .ok (.lstore_n 3, 1) := by decide +kernel
theorem dX7_mixFindings_23 : decode cX7_mixFindings 23 = .ok (.iinc 5 1, 3) := by decide +kernel
theorem dX7_mixFindings_26 : decode cX7_mixFindings 26 = .ok (.goto (-21), 3) := by decide +kernel
theorem dX7_mixFindings_29 : decode cX7_mixFindings 29 = .ok (.iconst 0, 1) := by decide +kernel
theorem dX7_mixFindings_30 : decode cX7_mixFindings 30 = .ok (.istore 5, 2) := by decide +kernel
theorem dX7_mixFindings_32 : decode cX7_mixFindings 32 = .ok (.iload 5, 2) := by decide +kernel
theorem dX7_mixFindings_34 : decode cX7_mixFindings 34 = .ok (.aload_n 0, 1) := by decide +kernel
theorem dX7_mixFindings_35 : decode cX7_mixFindings 35 = .ok (.getfield 87, 3) := by decide +kernel
theorem dX7_mixFindings_38 : decode cX7_mixFindings 38 = .ok (.if_icmp .ge 45, 3) := by decide +kernel
theorem dX7_mixFindings_41 : decode cX7_mixFindings 41 = .ok (.iconst 0, 1) := by decide +kernel
theorem dX7_mixFindings_42 : decode cX7_mixFindings 42 = .ok (.istore 6, 2) := by decide +kernel
theorem dX7_mixFindings_44 : decode cX7_mixFindings 44 = .ok (.iload 6, 2) := by decide +kernel
theorem dX7_mixFindings_46 : decode cX7_mixFindings 46 = .ok (.bipush 10, 2) := by decide +kernel
theorem dX7_mixFindings_48 : decode cX7_mixFindings 48 = .ok (.if_icmp .ge 29, 3) := by decide +kernel
theorem dX7_mixFindings_51 : decode cX7_mixFindings 51 = .ok (.lload_n 3, 1) := by decide +kernel
theorem dX7_mixFindings_52 : decode cX7_mixFindings 52 = .ok (.aload_n 0, 1) := by decide +kernel
theorem dX7_mixFindings_53 : decode cX7_mixFindings 53 = .ok (.getfield 51, 3) := by decide +kernel
theorem dX7_mixFindings_56 : decode cX7_mixFindings 56 = .ok (.getfield 174, 3) := by decide +kernel
theorem dX7_mixFindings_59 : decode cX7_mixFindings 59 = .ok (.iload 5, 2) := by decide +kernel
theorem dX7_mixFindings_61 : decode cX7_mixFindings 61 = .ok (.aaload, 1) := by decide +kernel
theorem dX7_mixFindings_62 : decode cX7_mixFindings 62 = .ok (.iload 6, 2) := by decide +kernel
theorem dX7_mixFindings_64 : decode cX7_mixFindings 64 = .ok (.invokevirtual 155, 3) := by decide +kernel
theorem dX7_mixFindings_67 : decode cX7_mixFindings 67 = .ok (.invokestatic 216, 3) := by decide +kernel
theorem dX7_mixFindings_70 : decode cX7_mixFindings 70 = .ok (.lstore_n 3, 1) := by decide +kernel
theorem dX7_mixFindings_71 : decode cX7_mixFindings 71 = .ok (.iinc 6 1, 3) := by decide +kernel
theorem dX7_mixFindings_74 : decode cX7_mixFindings 74 = .ok (.goto (-30), 3) := by decide +kernel
theorem dX7_mixFindings_77 : decode cX7_mixFindings 77 = .ok (.iinc 5 1, 3) := by decide +kernel
theorem dX7_mixFindings_80 : decode cX7_mixFindings 80 = .ok (.goto (-48), 3) := by decide +kernel
theorem dX7_mixFindings_83 : decode cX7_mixFindings 83 = .ok (.iconst 0, 1) := by decide +kernel
theorem dX7_mixFindings_84 : decode cX7_mixFindings 84 = .ok (.istore 5, 2) := by decide +kernel
theorem dX7_mixFindings_86 : decode cX7_mixFindings 86 = .ok (.iload 5, 2) := by decide +kernel
theorem dX7_mixFindings_88 : decode cX7_mixFindings 88 = .ok (.aload_n 0, 1) := by decide +kernel
theorem dX7_mixFindings_89 : decode cX7_mixFindings 89 = .ok (.getfield 51, 3) := by decide +kernel
theorem dX7_mixFindings_92 : decode cX7_mixFindings 92 = .ok (.getfield 184, 3) := by decide +kernel
theorem dX7_mixFindings_95 : decode cX7_mixFindings 95 = .ok (.if_icmp .ge 24, 3) := by decide +kernel
theorem dX7_mixFindings_98 : decode cX7_mixFindings 98 = .ok (.lload_n 3, 1) := by decide +kernel
theorem dX7_mixFindings_99 : decode cX7_mixFindings 99 = .ok (.aload_n 0, 1) := by decide +kernel
theorem dX7_mixFindings_100 : decode cX7_mixFindings 100 = .ok (.getfield 51, 3) := by decide +kernel
theorem dX7_mixFindings_103 : decode cX7_mixFindings 103 = .ok (.getfield 187, 3) := by decide +kernel
theorem dX7_mixFindings_106 : decode cX7_mixFindings 106 = .ok (.iload 5, 2) := by decide +kernel
theorem dX7_mixFindings_108 : decode cX7_mixFindings 108 = .ok (.iaload, 1) := by decide +kernel
theorem dX7_mixFindings_109 : decode cX7_mixFindings 109 = .ok (.invokestatic 216, 3) := by decide +kernel
theorem dX7_mixFindings_112 : decode cX7_mixFindings 112 = .ok (.lstore_n 3, 1) := by decide +kernel
theorem dX7_mixFindings_113 : decode cX7_mixFindings 113 = .ok (.iinc 5 1, 3) := by decide +kernel
theorem dX7_mixFindings_116 : decode cX7_mixFindings 116 = .ok (.goto (-30), 3) := by decide +kernel
theorem dX7_mixFindings_119 : decode cX7_mixFindings 119 = .ok (.lload_n 3, 1) := by decide +kernel
theorem dX7_mixFindings_120 : decode cX7_mixFindings 120 = .ok (.lreturn, 1) := by decide +kernel
theorem dX7_mix_0 : decode cX7_mix 0 = .ok (.ldc2_w 223, 3) := by decide +kernel
theorem dX7_mix_3 : decode cX7_mix 3 = .ok (.lload_n 0, 1) := by decide +kernel
theorem dX7_mix_4 : decode cX7_mix 4 = .ok (.lmul, 1) := by decide +kernel
theorem dX7_mix_5 : decode cX7_mix 5 = .ok (.iload_n 2, 1) := by decide +kernel
theorem dX7_mix_6 : decode cX7_mix 6 = .ok (.i2l, 1) := by decide +kernel
theorem dX7_mix_7 : decode cX7_mix 7 = .ok (.ladd, 1) := by decide +kernel
theorem dX7_mix_8 : decode cX7_mix 8 = .ok (.lreturn, 1) := by decide +kernel
theorem dX7_isKept_0 : decode cX7_isKept 0 = .ok (.iload_n 1, 1) := by decide +kernel
theorem dX7_isKept_1 : decode cX7_isKept 1 = .ok (.aload_n 0, 1) := by decide +kernel
theorem dX7_isKept_2 : decode cX7_isKept 2 = .ok (.getfield 87, 3) := by decide +kernel
theorem dX7_isKept_5 : decode cX7_isKept 5 = .ok (.invokestatic 124, 3) := by decide +kernel
theorem dX7_isKept_8 : decode cX7_isKept 8 = .ok (.ireturn, 1) := by decide +kernel
theorem dX7_isSignOfKept_0 : decode cX7_isSignOfKept 0 = .ok (.aload_n 0, 1) := by decide +kernel
theorem dX7_isSignOfKept_1 : decode cX7_isSignOfKept 1 = .ok (.iload_n 1, 1) := by decide +kernel
theorem dX7_isSignOfKept_2 : decode cX7_isSignOfKept 2 = .ok (.invokevirtual 108, 3) := by decide +kernel
theorem dX7_isSignOfKept_5 : decode cX7_isSignOfKept 5 = .ok (.ifCond .eq 23, 3) := by decide +kernel
theorem dX7_isSignOfKept_8 : decode cX7_isSignOfKept 8 = .ok (.iload_n 2, 1) := by decide +kernel
theorem dX7_isSignOfKept_9 : decode cX7_isSignOfKept 9 = .ok (.aload_n 0, 1) := by decide +kernel
theorem dX7_isSignOfKept_10 : decode cX7_isSignOfKept 10 = .ok (.getfield 18, 3) := by decide +kernel
theorem dX7_isSignOfKept_13 : decode cX7_isSignOfKept 13 = .ok (.iload_n 1, 1) := by decide +kernel
theorem dX7_isSignOfKept_14 : decode cX7_isSignOfKept 14 = .ok (.aaload, 1) := by decide +kernel
theorem dX7_isSignOfKept_15 : decode cX7_isSignOfKept 15 = .ok (.getfield 121, 3) := by decide +kernel
theorem dX7_isSignOfKept_18 : decode cX7_isSignOfKept 18 = .ok (.invokestatic 124, 3) := by decide +kernel
theorem dX7_isSignOfKept_21 : decode cX7_isSignOfKept 21 = .ok (.ifCond .eq 7, 3) := by decide +kernel
theorem dX7_isSignOfKept_24 : decode cX7_isSignOfKept 24 = .ok (.iconst 1, 1) := by decide +kernel
theorem dX7_isSignOfKept_25 : decode cX7_isSignOfKept 25 = .ok (.goto 4, 3) := by decide +kernel
theorem dX7_isSignOfKept_28 : decode cX7_isSignOfKept 28 = .ok (.iconst 0, 1) := by decide +kernel
theorem dX7_isSignOfKept_29 : decode cX7_isSignOfKept 29 = .ok (.ireturn, 1) := by decide +kernel
theorem dX7_hasQuestion_0 : decode cX7_hasQuestion 0 = .ok (.aload_n 0, 1) := by decide +kernel
theorem dX7_hasQuestion_1 : decode cX7_hasQuestion 1 = .ok (.getfield 118, 3) := by decide +kernel
theorem dX7_hasQuestion_4 : decode cX7_hasQuestion 4 = .ok (.ifCond .le 7, 3) := by decide +kernel
theorem dX7_hasQuestion_7 : decode cX7_hasQuestion 7 = .ok (.iconst 1, 1) := by decide +kernel
theorem dX7_hasQuestion_8 : decode cX7_hasQuestion 8 = .ok (.goto 4, 3) := by decide +kernel
theorem dX7_hasQuestion_11 : decode cX7_hasQuestion 11 = .ok (.iconst 0, 1) := by decide +kernel
theorem dX7_hasQuestion_12 : decode cX7_hasQuestion 12 = .ok (.ireturn, 1) := by decide +kernel
theorem dX7_numberOfSame_0 : decode cX7_numberOfSame 0 = .ok (.iconst 0, 1) := by decide +kernel
theorem dX7_numberOfSame_1 : decode cX7_numberOfSame 1 = .ok (.istore_n 2, 1) := by decide +kernel
theorem dX7_numberOfSame_2 : decode cX7_numberOfSame 2 = .ok (.iload_n 2, 1) := by decide +kernel
theorem dX7_numberOfSame_3 : decode cX7_numberOfSame 3 = .ok (.aload_n 0, 1) := by decide +kernel
theorem dX7_numberOfSame_4 : decode cX7_numberOfSame 4 = .ok (.getfield 87, 3) := by decide +kernel
theorem dX7_numberOfSame_7 : decode cX7_numberOfSame 7 = .ok (.if_icmp .ge 24, 3) := by decide +kernel
theorem dX7_numberOfSame_10 : decode cX7_numberOfSame 10 = .ok (.aload_n 0, 1) := by decide +kernel
theorem dX7_numberOfSame_11 : decode cX7_numberOfSame 11 = .ok (.getfield 18, 3) := by decide +kernel
theorem dX7_numberOfSame_14 : decode cX7_numberOfSame 14 = .ok (.iload_n 2, 1) := by decide +kernel
theorem dX7_numberOfSame_15 : decode cX7_numberOfSame 15 = .ok (.aaload, 1) := by decide +kernel
theorem dX7_numberOfSame_16 : decode cX7_numberOfSame 16 = .ok (.aload_n 1, 1) := by decide +kernel
theorem dX7_numberOfSame_17 : decode cX7_numberOfSame 17 = .ok (.invokevirtual 225, 3) := by decide +kernel
theorem dX7_numberOfSame_20 : decode cX7_numberOfSame 20 = .ok (.ifCond .eq 5, 3) := by decide +kernel
theorem dX7_numberOfSame_23 : decode cX7_numberOfSame 23 = .ok (.iload_n 2, 1) := by decide +kernel
theorem dX7_numberOfSame_24 : decode cX7_numberOfSame 24 = .ok (.ireturn, 1) := by decide +kernel
theorem dX7_numberOfSame_25 : decode cX7_numberOfSame 25 = .ok (.iinc 2 1, 3) := by decide +kernel
theorem dX7_numberOfSame_28 : decode cX7_numberOfSame 28 = .ok (.goto (-26), 3) := by decide +kernel
theorem dX7_numberOfSame_31 : decode cX7_numberOfSame 31 = .ok (.aload_n 0, 1) := by decide +kernel
theorem dX7_numberOfSame_32 : decode cX7_numberOfSame 32 = .ok (.getfield 87, 3) := by decide +kernel
theorem dX7_numberOfSame_35 : decode cX7_numberOfSame 35 = .ok (.ireturn, 1) := by decide +kernel
theorem dX7_tellQuestion_0 : decode cX7_tellQuestion 0 = .ok (.iload_n 1, 1) := by decide +kernel
theorem dX7_tellQuestion_1 : decode cX7_tellQuestion 1 = .ok (.iconst 5, 1) := by decide +kernel
theorem dX7_tellQuestion_2 : decode cX7_tellQuestion 2 = .ok (.if_icmp .ge 18, 3) := by decide +kernel
theorem dX7_tellQuestion_5 : decode cX7_tellQuestion 5 = .ok (.aload_n 0, 1) := by decide +kernel
theorem dX7_tellQuestion_6 : decode cX7_tellQuestion 6 = .ok (.getfield 23, 3) := by decide +kernel
theorem dX7_tellQuestion_9 : decode cX7_tellQuestion 9 = .ok (.iload_n 1, 1) := by decide +kernel
theorem dX7_tellQuestion_10 : decode cX7_tellQuestion 10 = .ok (.aload_n 0, 1) := by decide +kernel
theorem dX7_tellQuestion_11 : decode cX7_tellQuestion 11 = .ok (.getfield 55, 3) := by decide +kernel
theorem dX7_tellQuestion_14 : decode cX7_tellQuestion 14 = .ok (.invokevirtual 128, 3) := by decide +kernel
theorem dX7_tellQuestion_17 : decode cX7_tellQuestion 17 = .ok (.goto 11, 3) := by decide +kernel
theorem dX7_tellQuestion_20 : decode cX7_tellQuestion 20 = .ok (.aload_n 0, 1) := by decide +kernel
theorem dX7_tellQuestion_21 : decode cX7_tellQuestion 21 = .ok (.getfield 51, 3) := by decide +kernel
theorem dX7_tellQuestion_24 : decode cX7_tellQuestion 24 = .ok (.iload_n 1, 1) := by decide +kernel
theorem dX7_tellQuestion_25 : decode cX7_tellQuestion 25 = .ok (.invokevirtual 229, 3) := by decide +kernel
theorem dX7_tellQuestion_28 : decode cX7_tellQuestion 28 = .ok (.ireturn, 1) := by decide +kernel
theorem dX7_refreshFindings_0 : decode cX7_refreshFindings 0 = .ok (.aload_n 0, 1) := by decide +kernel
theorem dX7_refreshFindings_1 : decode cX7_refreshFindings 1 = .ok (.getfield 62, 3) := by decide +kernel
theorem dX7_refreshFindings_4 : decode cX7_refreshFindings 4 = .ok (.ifCond .ne 4, 3) := by decide +kernel
theorem dX7_refreshFindings_7 : decode cX7_refreshFindings 7 = .ok (.return_, 1) := by decide +kernel
theorem dX7_refreshFindings_8 : decode cX7_refreshFindings 8 = .ok (.iconst 0, 1) := by decide +kernel
theorem dX7_refreshFindings_9 : decode cX7_refreshFindings 9 = .ok (.istore_n 1, 1) := by decide +kernel
theorem dX7_refreshFindings_10 : decode cX7_refreshFindings 10 = .ok (.iload_n 1, 1) := by decide +kernel
theorem dX7_refreshFindings_11 : decode cX7_refreshFindings 11 = .ok (.aload_n 0, 1) := by decide +kernel
theorem dX7_refreshFindings_12 : decode cX7_refreshFindings 12 = .ok (.getfield 87, 3) := by decide +kernel
theorem dX7_refreshFindings_15 : decode cX7_refreshFindings 15 = .ok (.if_icmp .ge 63, 3) := by decide +kernel
theorem dX7_refreshFindings_18 : decode cX7_refreshFindings 18 = .ok (.aload_n 0, 1) := by decide +kernel
theorem dX7_refreshFindings_19 : decode cX7_refreshFindings 19 = .ok (.getfield 51, 3) := by decide +kernel
theorem dX7_refreshFindings_22 : decode cX7_refreshFindings 22 = .ok (.getfield 174, 3) := by decide +kernel
theorem dX7_refreshFindings_25 : decode cX7_refreshFindings 25 = .ok (.iload_n 1, 1) := by decide +kernel
theorem dX7_refreshFindings_26 : decode cX7_refreshFindings 26 = .ok (.aaload, 1) := by decide +kernel
theorem dX7_refreshFindings_27 : decode cX7_refreshFindings 27 = .ok (.astore_n 2, 1) := by decide +kernel
theorem dX7_refreshFindings_28 : decode cX7_refreshFindings 28 = .ok (.aload_n 0, 1) := by decide +kernel
theorem dX7_refreshFindings_29 : decode cX7_refreshFindings 29 = .ok (.getfield 37, 3) := by decide +kernel
theorem dX7_refreshFindings_32 : decode cX7_refreshFindings 32 = .ok (.aload_n 0, 1) := by decide +kernel
theorem dX7_refreshFindings_33 : decode cX7_refreshFindings 33 = .ok (.getfield 18, 3) := by decide +kernel
theorem dX7_refreshFindings_36 : decode cX7_refreshFindings 36 = .ok (.iload_n 1, 1) := by decide +kernel
theorem dX7_refreshFindings_37 : decode cX7_refreshFindings 37 = .ok (.aaload, 1) := by decide +kernel
theorem dX7_refreshFindings_38 : decode cX7_refreshFindings 38 = .ok (.aload_n 0, 1) := by decide +kernel
theorem dX7_refreshFindings_39 : decode cX7_refreshFindings 39 = .ok (.getfield 23, 3) := by decide +kernel
theorem dX7_refreshFindings_42 : decode cX7_refreshFindings 42 = .ok (.aload_n 0, 1) := by decide +kernel
theorem dX7_refreshFindings_43 : decode cX7_refreshFindings 43 = .ok (.getfield 55, 3) := by decide +kernel
theorem dX7_refreshFindings_46 : decode cX7_refreshFindings 46 = .ok (.aload_n 2, 1) := by decide +kernel
theorem dX7_refreshFindings_47 : decode cX7_refreshFindings 47 = .ok (.invokevirtual 151, 3) := by decide +kernel
theorem dX7_refreshFindings_50 : decode cX7_refreshFindings 50 = .ok (.aload_n 2, 1) := by decide +kernel
theorem dX7_refreshFindings_51 : decode cX7_refreshFindings 51 = .ok (.aload_n 0, 1) := by decide +kernel
theorem dX7_refreshFindings_52 : decode cX7_refreshFindings 52 = .ok (.getfield 18, 3) := by decide +kernel
theorem dX7_refreshFindings_55 : decode cX7_refreshFindings 55 = .ok (.iload_n 1, 1) := by decide +kernel
