theorem dX2_init_0 : decode cX2_init 0 = .ok (.aload_n 0, 1) := by decide +kernel
theorem dX2_init_1 : decode cX2_init 1 = .ok (.invokespecial 3, 3) := by decide +kernel
theorem dX2_init_4 : decode cX2_init 4 = .ok (.aload_n 0, 1) := by decide +kernel
theorem dX2_init_5 : decode cX2_init 5 = .ok (.bipush 12, 2) := by decide +kernel
theorem dX2_init_7 : decode cX2_init 7 = .ok (.anewarray 9, 3) := by decide +kernel
theorem dX2_init_10 : decode cX2_init 10 = .ok (.putfield 11, 3) := by decide +kernel
theorem dX2_init_13 : decode cX2_init 13 = .ok (.iconst 0, 1) := by decide +kernel
theorem dX2_init_14 : decode cX2_init 14 = .ok (.istore_n 1, 1) := by decide +kernel
theorem dX2_init_15 : decode cX2_init 15 = .ok (.iload_n 1, 1) := by decide +kernel
theorem dX2_init_16 : decode cX2_init 16 = .ok (.aload_n 0, 1) := by decide +kernel
theorem dX2_init_17 : decode cX2_init 17 = .ok (.getfield 11, 3) := by decide +kernel
theorem dX2_init_20 : decode cX2_init 20 = .ok (.arraylength, 1) := by decide +kernel
theorem dX2_init_21 : decode cX2_init 21 = .ok (.if_icmp .ge 22, 3) := by decide +kernel
theorem dX2_init_24 : decode cX2_init 24 = .ok (.aload_n 0, 1) := by decide +kernel
theorem dX2_init_25 : decode cX2_init 25 = .ok (.getfield 11, 3) := by decide +kernel
theorem dX2_init_28 : decode cX2_init 28 = .ok (.iload_n 1, 1) := by decide +kernel
theorem dX2_init_29 : decode cX2_init 29 = .ok (.new 9, 3) := by decide +kernel
theorem dX2_init_32 : decode cX2_init 32 = .ok (.dup, 1) := by decide +kernel
theorem dX2_init_33 : decode cX2_init 33 = .ok (.invokespecial 17, 3) := by decide +kernel
theorem dX2_init_36 : decode cX2_init 36 = .ok (.aastore, 1) := by decide +kernel
theorem dX2_init_37 : decode cX2_init 37 = .ok (.iinc 1 1, 3) := by decide +kernel
theorem dX2_init_40 : decode cX2_init 40 = .ok (.goto (-25), 3) := by decide +kernel
theorem dX2_init_43 : decode cX2_init 43 = .ok (.aload_n 0, 1) := by decide +kernel
theorem dX2_init_44 : decode cX2_init 44 = .ok (.bipush 12, 2) := by decide +kernel
theorem dX2_init_46 : decode cX2_init 46 = .ok (.newarray .int, 2) := by decide +kernel
theorem dX2_init_48 : decode cX2_init 48 = .ok (.putfield 18, 3) := by decide +kernel
theorem dX2_init_51 : decode cX2_init 51 = .ok (.aload_n 0, 1) := by decide +kernel
theorem dX2_init_52 : decode cX2_init 52 = .ok (.bipush 8, 2) := by decide +kernel
theorem dX2_init_54 : decode cX2_init 54 = .ok (.newarray .boolean, 2) := by decide +kernel
theorem dX2_init_56 : decode cX2_init 56 = .ok (.putfield 22, 3) := by decide +kernel
theorem dX2_init_59 : decode cX2_init 59 = .ok (.return_, 1) := by decide +kernel
theorem dX2_gather_0 : decode cX2_gather 0 = .ok (.aload_n 0, 1) := by decide +kernel
theorem dX2_gather_1 : decode cX2_gather 1 = .ok (.iconst 0, 1) := by decide +kernel
theorem dX2_gather_2 : decode cX2_gather 2 = .ok (.putfield 26, 3) := by decide +kernel
theorem dX2_gather_5 : decode cX2_gather 5 = .ok (.aload_n 0, 1) := by decide +kernel
theorem dX2_gather_6 : decode cX2_gather 6 = .ok (.iconst 0, 1) := by decide +kernel
theorem dX2_gather_7 : decode cX2_gather 7 = .ok (.putfield 30, 3) := by decide +kernel
theorem dX2_gather_10 : decode cX2_gather 10 = .ok (.aload_n 0, 1) := by decide +kernel
theorem dX2_gather_11 : decode cX2_gather 11 = .ok (.iconst 0, 1) := by decide +kernel
theorem dX2_gather_12 : decode cX2_gather 12 = .ok (.putfield 33, 3) := by decide +kernel
theorem dX2_gather_15 : decode cX2_gather 15 = .ok (.aload_n 0, 1) := by decide +kernel
theorem dX2_gather_16 : decode cX2_gather 16 = .ok (.iconst 0, 1) := by decide +kernel
theorem dX2_gather_17 : decode cX2_gather 17 = .ok (.putfield 36, 3) := by decide +kernel
theorem dX2_gather_20 : decode cX2_gather 20 = .ok (.iconst 0, 1) := by decide +kernel
theorem dX2_gather_21 : decode cX2_gather 21 = .ok (.istore_n 2, 1) := by decide +kernel
theorem dX2_gather_22 : decode cX2_gather 22 = .ok (.iload_n 2, 1) := by decide +kernel
theorem dX2_gather_23 : decode cX2_gather 23 = .ok (.aload_n 0, 1) := by decide +kernel
theorem dX2_gather_24 : decode cX2_gather 24 = .ok (.getfield 22, 3) := by decide +kernel
theorem dX2_gather_27 : decode cX2_gather 27 = .ok (.arraylength, 1) := by decide +kernel
theorem dX2_gather_28 : decode cX2_gather 28 = .ok (.if_icmp .ge 16, 3) := by decide +kernel
theorem dX2_gather_31 : decode cX2_gather 31 = .ok (.aload_n 0, 1) := by decide +kernel
theorem dX2_gather_32 : decode cX2_gather 32 = .ok (.getfield 22, 3) := by decide +kernel
theorem dX2_gather_35 : decode cX2_gather 35 = .ok (.iload_n 2, 1) := by decide +kernel
theorem dX2_gather_36 : decode cX2_gather 36 = .ok (.iconst 0, 1) := by decide +kernel
theorem dX2_gather_37 : decode cX2_gather 37 = .ok (.bastore, 1) := by decide +kernel
theorem dX2_gather_38 : decode cX2_gather 38 = .ok (.iinc 2 1, 3) := by decide +kernel
theorem dX2_gather_41 : decode cX2_gather 41 = .ok (.goto (-19), 3) := by decide +kernel
theorem dX2_gather_44 : decode cX2_gather 44 = .ok (.iconst 0, 1) := by decide +kernel
theorem dX2_gather_45 : decode cX2_gather 45 = .ok (.istore_n 2, 1) := by decide +kernel
theorem dX2_gather_46 : decode cX2_gather 46 = .ok (.iload_n 2, 1) := by decide +kernel
theorem dX2_gather_47 : decode cX2_gather 47 = .ok (.iload_n 1, 1) := by decide +kernel
theorem dX2_gather_48 : decode cX2_gather 48 = .ok (.if_icmp .ge 112, 3) := by decide +kernel
theorem dX2_gather_51 : decode cX2_gather 51 = .ok (.iload_n 2, 1) := by decide +kernel
theorem dX2_gather_52 : decode cX2_gather 52 = .ok (.aload_n 0, 1) := by decide +kernel
theorem dX2_gather_53 : decode cX2_gather 53 = .ok (.getfield 11, 3) := by decide +kernel
theorem dX2_gather_56 : decode cX2_gather 56 = .ok (.arraylength, 1) := by decide +kernel
theorem dX2_gather_57 : decode cX2_gather 57 = .ok (.if_icmp .ge 103, 3) := by decide +kernel
theorem dX2_gather_60 : decode cX2_gather 60 = .ok (.aload_n 0, 1) := by decide +kernel
theorem dX2_gather_61 : decode cX2_gather 61 = .ok (.getfield 11, 3) := by decide +kernel
theorem dX2_gather_64 : decode cX2_gather 64 = .ok (.iload_n 2, 1) := by decide +kernel
theorem dX2_gather_65 : decode cX2_gather 65 = .ok (.aaload, 1) := by decide +kernel
theorem dX2_gather_66 : decode cX2_gather 66 = .ok (.astore_n 3, 1) := by decide +kernel
theorem dX2_gather_67 : decode cX2_gather 67 = .ok (.aload_n 0, 1) := by decide +kernel
theorem dX2_gather_68 : decode cX2_gather 68 = .ok (.dup, 1) := by decide +kernel
theorem dX2_gather_69 : decode cX2_gather 69 = .ok (.getfield 30, 3) := by decide +kernel
theorem dX2_gather_72 : decode cX2_gather 72 = .ok (.aload_n 3, 1) := by decide +kernel
theorem dX2_gather_73 : decode cX2_gather 73 = .ok (.getfield 39, 3) := by decide +kernel
theorem dX2_gather_76 : decode cX2_gather 76 = .ok (.ifCond .eq 7, 3) := by decide +kernel
theorem dX2_gather_79 : decode cX2_gather 79 = .ok (.iconst 1, 1) := by decide +kernel
theorem dX2_gather_80 : decode cX2_gather 80 = .ok (.goto 4, 3) := by decide +kernel
theorem dX2_gather_83 : decode cX2_gather 83 = .ok (.iconst 0, 1) := by decide +kernel
theorem dX2_gather_84 : decode cX2_gather 84 = .ok (.iadd, 1) := by decide +kernel
theorem dX2_gather_85 : decode cX2_gather 85 = .ok (.putfield 30, 3) := by decide +kernel
theorem dX2_gather_88 : decode cX2_gather 88 = .ok (.aload_n 0, 1) := by decide +kernel
theorem dX2_gather_89 : decode cX2_gather 89 = .ok (.dup, 1) := by decide +kernel
theorem dX2_gather_90 : decode cX2_gather 90 = .ok (.getfield 33, 3) := by decide +kernel
theorem dX2_gather_93 : decode cX2_gather 93 = .ok (.aload_n 3, 1) := by decide +kernel
theorem dX2_gather_94 : decode cX2_gather 94 = .ok (.getfield 43, 3) := by decide +kernel
theorem dX2_gather_97 : decode cX2_gather 97 = .ok (.ifCond .eq 7, 3) := by decide +kernel
theorem dX2_gather_100 : decode cX2_gather 100 = .ok (.iconst 1, 1) := by decide +kernel
theorem dX2_gather_101 : decode cX2_gather 101 = .ok (.goto 4, 3) := by decide +kernel
theorem dX2_gather_104 : decode cX2_gather 104 = .ok (.iconst 0, 1) := by decide +kernel
theorem dX2_gather_105 : decode cX2_gather 105 = .ok (.iadd, 1) := by decide +kernel
theorem dX2_gather_106 : decode cX2_gather 106 = .ok (.putfield 33, 3) := by decide +kernel
theorem dX2_gather_109 : decode cX2_gather 109 = .ok (.aload_n 0, 1) := by decide +kernel
theorem dX2_gather_110 : decode cX2_gather 110 = .ok (.dup, 1) := by decide +kernel
theorem dX2_gather_111 : decode cX2_gather 111 = .ok (.getfield 36, 3) := by decide +kernel
theorem dX2_gather_114 : decode cX2_gather 114 = .ok (.aload_n 3, 1) := by decide +kernel
theorem dX2_gather_115 : decode cX2_gather 115 = .ok (.getfield 39, 3) := by decide +kernel
theorem dX2_gather_118 : decode cX2_gather 118 = .ok (.ifCond .eq 14, 3) := by decide +kernel
theorem dX2_gather_121 : decode cX2_gather 121 = .ok (.aload_n 3, 1) := by decide +kernel
theorem dX2_gather_122 : decode cX2_gather 122 = .ok (.getfield 43, 3) := by decide +kernel
theorem dX2_gather_125 : decode cX2_gather 125 = .ok (.ifCond .eq 7, 3) := by decide +kernel
theorem dX2_gather_128 : decode cX2_gather 128 = .ok (.iconst 1, 1) := by decide +kernel
theorem dX2_gather_129 : decode cX2_gather 129 = .ok (.goto 4, 3) := by decide +kernel
theorem dX2_gather_132 : decode cX2_gather 132 = .ok (.iconst 0, 1) := by decide +kernel
theorem dX2_gather_133 : decode cX2_gather 133 = .ok (.iadd, 1) := by decide +kernel
theorem dX2_gather_134 : decode cX2_gather 134 = .ok (.putfield 36, 3) := by decide +kernel
theorem dX2_gather_137 : decode cX2_gather 137 = .ok (.aload_n 3, 1) := by decide +kernel
theorem dX2_gather_138 : decode cX2_gather 138 = .ok (.getfield 46, 3) := by decide +kernel
theorem dX2_gather_141 : decode cX2_gather 141 = .ok (.ifCond .eq 13, 3) := by decide +kernel
theorem dX2_gather_144 : decode cX2_gather 144 = .ok (.aload_n 0, 1) := by decide +kernel
theorem dX2_gather_145 : decode cX2_gather 145 = .ok (.iload_n 2, 1) := by decide +kernel
theorem dX2_gather_146 : decode cX2_gather 146 = .ok (.invokevirtual 49, 3) := by decide +kernel
theorem dX2_gather_149 : decode cX2_gather 149 = .ok (.aload_n 0, 1) := by decide +kernel
theorem dX2_gather_150 : decode cX2_gather 150 = .ok (.aload_n 3, 1) := by decide +kernel
theorem dX2_gather_151 : decode cX2_gather 151 = .ok (.invokevirtual 53, 3) := by decide +kernel
theorem dX2_gather_154 : decode cX2_gather 154 = .ok (.iinc 2 1, 3) := by decide +kernel
theorem dX2_gather_157 : decode cX2_gather 157 = .ok (.goto (-111), 3) := by decide +kernel
theorem dX2_gather_160 : decode cX2_gather 160 = .ok (.return_, 1) := by decide +kernel
theorem dX2_tell_0 : decode cX2_tell 0 = .ok (.iload_n 1, 1) := by decide +kernel
theorem dX2_tell_1 : decode cX2_tell 1 = .ok (.tableswitch 60 5 9 #[35, 40, 45, 50, 55], 35) := by decide +kernel
theorem dX2_tell_36 : decode cX2_tell 36 = .ok (.aload_n 0, 1) := by decide +kernel
theorem dX2_tell_37 : decode cX2_tell 37 = .ok (.getfield 26, 3) := by decide +kernel
theorem dX2_tell_40 : decode cX2_tell 40 = .ok (.ireturn, 1) := by decide +kernel
theorem dX2_tell_41 : decode cX2_tell 41 = .ok (.aload_n 0, 1) := by decide +kernel
theorem dX2_tell_42 : decode cX2_tell 42 = .ok (.getfield 30, 3) := by decide +kernel
theorem dX2_tell_45 : decode cX2_tell 45 = .ok (.ireturn, 1) := by decide +kernel
theorem dX2_tell_46 : decode cX2_tell 46 = .ok (.aload_n 0, 1) := by decide +kernel
theorem dX2_tell_47 : decode cX2_tell 47 = .ok (.getfield 33, 3) := by decide +kernel
theorem dX2_tell_50 : decode cX2_tell 50 = .ok (.ireturn, 1) := by decide +kernel
theorem dX2_tell_51 : decode cX2_tell 51 = .ok (.aload_n 0, 1) := by decide +kernel
theorem dX2_tell_52 : decode cX2_tell 52 = .ok (.getfield 36, 3) := by decide +kernel
theorem dX2_tell_55 : decode cX2_tell 55 = .ok (.ireturn, 1) := by decide +kernel
theorem dX2_tell_56 : decode cX2_tell 56 = .ok (.aload_n 0, 1) := by decide +kernel
theorem dX2_tell_57 : decode cX2_tell 57 = .ok (.invokevirtual 57, 3) := by decide +kernel
theorem dX2_tell_60 : decode cX2_tell 60 = .ok (.ireturn, 1) := by decide +kernel
theorem dX2_tell_61 : decode cX2_tell 61 = .ok (.sipush (-1002), 3) := by decide +kernel
theorem dX2_tell_64 : decode cX2_tell 64 = .ok (.ireturn, 1) := by decide +kernel
theorem dX2_insertMatch_0 : decode cX2_insertMatch 0 = .ok (.aload_n 0, 1) := by decide +kernel
theorem dX2_insertMatch_1 : decode cX2_insertMatch 1 = .ok (.getfield 26, 3) := by decide +kernel
theorem dX2_insertMatch_4 : decode cX2_insertMatch 4 = .ok (.aload_n 0, 1) := by decide +kernel
theorem dX2_insertMatch_5 : decode cX2_insertMatch 5 = .ok (.getfield 18, 3) := by decide +kernel
theorem dX2_insertMatch_8 : decode cX2_insertMatch 8 = .ok (.arraylength, 1) := by decide +kernel
theorem dX2_insertMatch_9 : decode cX2_insertMatch 9 = .ok (.if_icmp .lt 4, 3) := by decide +kernel
theorem dX2_insertMatch_12 : decode cX2_insertMatch 12 = .ok (.return_, 1) := by decide +kernel
theorem dX2_insertMatch_13 : decode cX2_insertMatch 13 = .ok (.aload_n 0, 1) := by decide +kernel
theorem dX2_insertMatch_14 : decode cX2_insertMatch 14 = .ok (.getfield 26, 3) := by decide +kernel
theorem dX2_insertMatch_17 : decode cX2_insertMatch 17 = .ok (.istore_n 2, 1) := by decide +kernel
theorem dX2_insertMatch_18 : decode cX2_insertMatch 18 = .ok (.iload_n 2, 1) := by decide +kernel
theorem dX2_insertMatch_19 : decode cX2_insertMatch 19 = .ok (.ifCond .le 48, 3) := by decide +kernel
theorem dX2_insertMatch_22 : decode cX2_insertMatch 22 = .ok (.aload_n 0, 1) := by decide +kernel
theorem dX2_insertMatch_23 : decode cX2_insertMatch 23 = .ok (.getfield 11, 3) := by decide +kernel
theorem dX2_insertMatch_26 : decode cX2_insertMatch 26 = .ok (.iload_n 1, 1) := by decide +kernel
theorem dX2_insertMatch_27 : decode cX2_insertMatch 27 = .ok (.aaload, 1) := by decide +kernel
theorem dX2_insertMatch_28 : decode cX2_insertMatch 28 = .ok (.aload_n 0, 1) := by decide +kernel
theorem dX2_insertMatch_29 : decode cX2_insertMatch 29 = .ok (.getfield 11, 3) := by decide +kernel
theorem dX2_insertMatch_32 : decode cX2_insertMatch 32 = .ok (.aload_n 0, 1) := by decide +kernel
theorem dX2_insertMatch_33 : decode cX2_insertMatch 33 = .ok (.getfield 18, 3) := by decide +kernel
theorem dX2_insertMatch_36 : decode cX2_insertMatch 36 = .ok (.iload_n 2, 1) := by decide +kernel
theorem dX2_insertMatch_37 : decode cX2_insertMatch 37 = .ok (.iconst 1, 1) := by decide +kernel
theorem dX2_insertMatch_38 : decode cX2_insertMatch 38 = .ok (.isub, 1) := by decide +kernel
theorem dX2_insertMatch_39 : decode cX2_insertMatch 39 = .ok (.iaload, 1) := by decide +kernel
theorem dX2_insertMatch_40 : decode cX2_insertMatch 40 = .ok (.aaload, 1) := by decide +kernel
theorem dX2_insertMatch_41 : decode cX2_insertMatch 41 = .ok (.invokevirtual 61, 3) := by decide +kernel
theorem dX2_insertMatch_44 : decode cX2_insertMatch 44 = .ok (.ifCond .eq 23, 3) := by decide +kernel
theorem dX2_insertMatch_47 : decode cX2_insertMatch 47 = .ok (.aload_n 0, 1) := by decide +kernel
theorem dX2_insertMatch_48 : decode cX2_insertMatch 48 = .ok (.getfield 18, 3) := by decide +kernel
theorem dX2_insertMatch_51 : decode cX2_insertMatch 51 = .ok (.iload_n 2, 1) := by decide +kernel
theorem dX2_insertMatch_52 : decode cX2_insertMatch 52 = .ok (.aload_n 0, 1) := by decide +kernel
theorem dX2_insertMatch_53 : decode cX2_insertMatch 53 = .ok (.getfield 18, 3) := by decide +kernel
theorem dX2_insertMatch_56 : decode cX2_insertMatch 56 = .ok (.iload_n 2, 1) := by decide +kernel
theorem dX2_insertMatch_57 : decode cX2_insertMatch 57 = .ok (.iconst 1, 1) := by decide +kernel
theorem dX2_insertMatch_58 : decode cX2_insertMatch 58 = .ok (.isub, 1) := by decide +kernel
theorem dX2_insertMatch_59 : decode cX2_insertMatch 59 = .ok (.iaload, 1) := by decide +kernel
theorem dX2_insertMatch_60 : decode cX2_insertMatch 60 = .ok (.iastore, 1) := by decide +kernel
theorem dX2_insertMatch_61 : decode cX2_insertMatch 61 = .ok (.iinc 2 (-1), 3) := by decide +kernel
theorem dX2_insertMatch_64 : decode cX2_insertMatch 64 = .ok (.goto (-46), 3) := by decide +kernel
theorem dX2_insertMatch_67 : decode cX2_insertMatch 67 = .ok (.aload_n 0, 1) := by decide +kernel
theorem dX2_insertMatch_68 : decode cX2_insertMatch 68 = .ok (.getfield 18, 3) := by decide +kernel
theorem dX2_insertMatch_71 : decode cX2_insertMatch 71 = .ok (.iload_n 2, 1) := by decide +kernel
theorem dX2_insertMatch_72 : decode cX2_insertMatch 72 = .ok (.iload_n 1, 1) := by decide +kernel
theorem dX2_insertMatch_73 : decode cX2_insertMatch 73 = .ok (.iastore, 1) := by decide +kernel
theorem dX2_insertMatch_74 : decode cX2_insertMatch 74 = .ok (.aload_n 0, 1) := by decide +kernel
theorem dX2_insertMatch_75 : decode cX2_insertMatch 75 = .ok (.dup, 1) := by decide +kernel
theorem dX2_insertMatch_76 : decode cX2_insertMatch 76 = .ok (.getfield 26, 3) := by decide +kernel
theorem dX2_insertMatch_79 : decode cX2_insertMatch 79 = .ok (.iconst 1, 1) := by decide +kernel
theorem dX2_insertMatch_80 : decode cX2_insertMatch 80 = .ok (.iadd, 1) := by decide +kernel
theorem dX2_insertMatch_81 : decode cX2_insertMatch 81 = .ok (.putfield 26, 3) := by decide +kernel
theorem dX2_insertMatch_84 : decode cX2_insertMatch 84 = .ok (.return_, 1) := by decide +kernel
theorem dX2_cover_0 : decode cX2_cover 0 = .ok (.iconst 0, 1) := by decide +kernel
theorem dX2_cover_1 : decode cX2_cover 1 = .ok (.istore_n 2, 1) := by decide +kernel
theorem dX2_cover_2 : decode cX2_cover 2 = .ok (.iload_n 2, 1) := by decide +kernel
theorem dX2_cover_3 : decode cX2_cover 3 = .ok (.aload_n 1, 1) := by decide +kernel
theorem dX2_cover_4 : decode cX2_cover 4 = .ok (.getfield 65, 3) := by decide +kernel
theorem dX2_cover_7 : decode cX2_cover 7 = .ok (.if_icmp .ge 53, 3) := by decide +kernel
theorem dX2_cover_10 : decode cX2_cover 10 = .ok (.aload_n 1, 1) := by decide +kernel
theorem dX2_cover_11 : decode cX2_cover 11 = .ok (.getfield 68, 3) := by decide +kernel
theorem dX2_cover_14 : decode cX2_cover 14 = .ok (.iload_n 2, 1) := by decide +kernel
theorem dX2_cover_15 : decode cX2_cover 15 = .ok (.iaload, 1) := by decide +kernel
theorem dX2_cover_16 : decode cX2_cover 16 = .ok (.istore_n 3, 1) := by decide +kernel
theorem dX2_cover_17 : decode cX2_cover 17 = .ok (.aload_n 1, 1) := by decide +kernel
theorem dX2_cover_18 : decode cX2_cover 18 = .ok (.getfield 71, 3) := by decide +kernel
theorem dX2_cover_21 : decode cX2_cover 21 = .ok (.iload_n 2, 1) := by decide +kernel
theorem dX2_cover_22 : decode cX2_cover 22 = .ok (.iaload, 1) := by decide +kernel
theorem dX2_cover_23 : decode cX2_cover 23 = .ok (.ifCond .ne 31, 3) := by decide +kernel
theorem dX2_cover_26 : decode cX2_cover 26 = .ok (.aload_n 1, 1) := by decide +kernel
theorem dX2_cover_27 : decode cX2_cover 27 = .ok (.getfield 74, 3) := by decide +kernel
theorem dX2_cover_30 : decode cX2_cover 30 = .ok (.iload_n 2, 1) := by decide +kernel
theorem dX2_cover_31 : decode cX2_cover 31 = .ok (.iaload, 1) := by decide +kernel
theorem dX2_cover_32 : decode cX2_cover 32 = .ok (.ifCond .ne 22, 3) := by decide +kernel
theorem dX2_cover_35 : decode cX2_cover 35 = .ok (.iload_n 3, 1) := by decide +kernel
theorem dX2_cover_36 : decode cX2_cover 36 = .ok (.aload_n 0, 1) := by decide +kernel
theorem dX2_cover_37 : decode cX2_cover 37 = .ok (.getfield 22, 3) := by decide +kernel
theorem dX2_cover_40 : decode cX2_cover 40 = .ok (.arraylength, 1) := by decide +kernel
theorem dX2_cover_41 : decode cX2_cover 41 = .ok (.invokestatic 77, 3) := by decide +kernel
theorem dX2_cover_44 : decode cX2_cover 44 = .ok (.ifCond .eq 10, 3) := by decide +kernel
theorem dX2_cover_47 : decode cX2_cover 47 = .ok (.aload_n 0, 1) := by decide +kernel
theorem dX2_cover_48 : decode cX2_cover 48 = .ok (.getfield 22, 3) := by decide +kernel
theorem dX2_cover_51 : decode cX2_cover 51 = .ok (.iload_n 3, 1) := by decide +kernel
theorem dX2_cover_52 : decode cX2_cover 52 = .ok (.iconst 1, 1) := by decide +kernel
theorem dX2_cover_53 : decode cX2_cover 53 = .ok (.bastore, 1) := by decide +kernel
theorem dX2_cover_54 : decode cX2_cover 54 = .ok (.iinc 2 1, 3) := by decide +kernel
theorem dX2_cover_57 : decode cX2_cover 57 = .ok (.goto (-55), 3) := by decide +kernel
theorem dX2_cover_60 : decode cX2_cover 60 = .ok (.return_, 1) := by decide +kernel
theorem dX2_countCovered_0 : decode cX2_countCovered 0 = .ok (.iconst 0, 1) := by decide +kernel
theorem dX2_countCovered_1 : decode cX2_countCovered 1 = .ok (.istore_n 1, 1) := by decide +kernel
theorem dX2_countCovered_2 : decode cX2_countCovered 2 = .ok (.iconst 0, 1) := by decide +kernel
theorem dX2_countCovered_3 : decode cX2_countCovered 3 = .ok (.istore_n 2, 1) := by decide +kernel
theorem dX2_countCovered_4 : decode cX2_countCovered 4 = .ok (.iload_n 2, 1) := by decide +kernel
theorem dX2_countCovered_5 : decode cX2_countCovered 5 = .ok (.aload_n 0, 1) := by decide +kernel
theorem dX2_countCovered_6 : decode cX2_countCovered 6 = .ok (.getfield 22, 3) := by decide +kernel
theorem dX2_countCovered_9 : decode cX2_countCovered 9 = .ok (.arraylength, 1) := by decide +kernel
theorem dX2_countCovered_10 : decode cX2_countCovered 10 = .ok (.if_icmp .ge 26, 3) := by decide +kernel
theorem dX2_countCovered_13 : decode cX2_countCovered 13 = .ok (.iload_n 1, 1) := by decide +kernel
theorem dX2_countCovered_14 : decode cX2_countCovered 14 = .ok (.aload_n 0, 1) := by decide +kernel
theorem dX2_countCovered_15 : decode cX2_countCovered 15 = .ok (.getfield 22, 3) := by decide +kernel
theorem dX2_countCovered_18 : decode cX2_countCovered 18 = .ok (.iload_n 2, 1) := by decide +kernel
theorem dX2_countCovered_19 : decode cX2_countCovered 19 = .ok (.baload, 1) := by decide +kernel
theorem dX2_countCovered_20 : decode cX2_countCovered 20 = .ok (.ifCond .eq 7, 3) := by decide +kernel
theorem dX2_countCovered_23 : decode cX2_countCovered 23 = .ok (.iconst 1, 1) := by decide +kernel
theorem dX2_countCovered_24 : decode cX2_countCovered 24 = .ok (.goto 4, 3) := by decide +kernel
theorem dX2_countCovered_27 : decode cX2_countCovered 27 = .ok (.iconst 0, 1) := by decide +kernel
theorem dX2_countCovered_28 : decode cX2_countCovered 28 = .ok (.iadd, 1) := by decide +kernel
theorem dX2_countCovered_29 : decode cX2_countCovered 29 = .ok (.istore_n 1, 1) := by decide +kernel
theorem dX2_countCovered_30 : decode cX2_countCovered 30 = .ok (.iinc 2 1, 3) := by decide +kernel
theorem dX2_countCovered_33 : decode cX2_countCovered 33 = .ok (.goto (-29), 3) := by decide +kernel
theorem dX2_countCovered_36 : decode cX2_countCovered 36 = .ok (.iload_n 1, 1) := by decide +kernel
theorem dX2_countCovered_37 : decode cX2_countCovered 37 = .ok (.ireturn, 1) := by decide +kernel
