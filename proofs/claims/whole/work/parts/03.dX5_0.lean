theorem dX5_init_0 : decode cX5_init 0 = .ok (.aload_n 0, 1) := by decide +kernel
theorem dX5_init_1 : decode cX5_init 1 = .ok (.invokespecial 3, 3) := by decide +kernel
theorem dX5_init_4 : decode cX5_init 4 = .ok (.aload_n 0, 1) := by decide +kernel
theorem dX5_init_5 : decode cX5_init 5 = .ok (.bipush 8, 2) := by decide +kernel
theorem dX5_init_7 : decode cX5_init 7 = .ok (.anewarray 9, 3) := by decide +kernel
theorem dX5_init_10 : decode cX5_init 10 = .ok (.putfield 11, 3) := by decide +kernel
theorem dX5_init_13 : decode cX5_init 13 = .ok (.iconst 0, 1) := by decide +kernel
theorem dX5_init_14 : decode cX5_init 14 = .ok (.istore_n 1, 1) := by decide +kernel
theorem dX5_init_15 : decode cX5_init 15 = .ok (.iload_n 1, 1) := by decide +kernel
theorem dX5_init_16 : decode cX5_init 16 = .ok (.aload_n 0, 1) := by decide +kernel
theorem dX5_init_17 : decode cX5_init 17 = .ok (.getfield 11, 3) := by decide +kernel
theorem dX5_init_20 : decode cX5_init 20 = .ok (.arraylength, 1) := by decide +kernel
theorem dX5_init_21 : decode cX5_init 21 = .ok (.if_icmp .ge 22, 3) := by decide +kernel
theorem dX5_init_24 : decode cX5_init 24 = .ok (.aload_n 0, 1) := by decide +kernel
theorem dX5_init_25 : decode cX5_init 25 = .ok (.getfield 11, 3) := by decide +kernel
theorem dX5_init_28 : decode cX5_init 28 = .ok (.iload_n 1, 1) := by decide +kernel
theorem dX5_init_29 : decode cX5_init 29 = .ok (.new 9, 3) := by decide +kernel
theorem dX5_init_32 : decode cX5_init 32 = .ok (.dup, 1) := by decide +kernel
theorem dX5_init_33 : decode cX5_init 33 = .ok (.invokespecial 17, 3) := by decide +kernel
theorem dX5_init_36 : decode cX5_init 36 = .ok (.aastore, 1) := by decide +kernel
theorem dX5_init_37 : decode cX5_init 37 = .ok (.iinc 1 1, 3) := by decide +kernel
theorem dX5_init_40 : decode cX5_init 40 = .ok (.goto (-25), 3) := by decide +kernel
theorem dX5_init_43 : decode cX5_init 43 = .ok (.aload_n 0, 1) := by decide +kernel
theorem dX5_init_44 : decode cX5_init 44 = .ok (.bipush 56, 2) := by decide +kernel
theorem dX5_init_46 : decode cX5_init 46 = .ok (.newarray .int, 2) := by decide +kernel
theorem dX5_init_48 : decode cX5_init 48 = .ok (.putfield 18, 3) := by decide +kernel
theorem dX5_init_51 : decode cX5_init 51 = .ok (.return_, 1) := by decide +kernel
theorem dX5_read_0 : decode cX5_read 0 = .ok (.aload_n 0, 1) := by decide +kernel
theorem dX5_read_1 : decode cX5_read 1 = .ok (.getfield 11, 3) := by decide +kernel
theorem dX5_read_4 : decode cX5_read 4 = .ok (.iconst 0, 1) := by decide +kernel
theorem dX5_read_5 : decode cX5_read 5 = .ok (.aaload, 1) := by decide +kernel
theorem dX5_read_6 : decode cX5_read 6 = .ok (.invokevirtual 22, 3) := by decide +kernel
theorem dX5_read_9 : decode cX5_read 9 = .ok (.iconst 0, 1) := by decide +kernel
theorem dX5_read_10 : decode cX5_read 10 = .ok (.istore_n 2, 1) := by decide +kernel
theorem dX5_read_11 : decode cX5_read 11 = .ok (.iconst 0, 1) := by decide +kernel
theorem dX5_read_12 : decode cX5_read 12 = .ok (.istore_n 3, 1) := by decide +kernel
theorem dX5_read_13 : decode cX5_read 13 = .ok (.iload_n 3, 1) := by decide +kernel
theorem dX5_read_14 : decode cX5_read 14 = .ok (.aload_n 1, 1) := by decide +kernel
theorem dX5_read_15 : decode cX5_read 15 = .ok (.getfield 25, 3) := by decide +kernel
theorem dX5_read_18 : decode cX5_read 18 = .ok (.if_icmp .ge 61, 3) := by decide +kernel
theorem dX5_read_21 : decode cX5_read 21 = .ok (.aload_n 1, 1) := by decide +kernel
theorem dX5_read_22 : decode cX5_read 22 = .ok (.getfield 31, 3) := by decide +kernel
theorem dX5_read_25 : decode cX5_read 25 = .ok (.iload_n 3, 1) := by decide +kernel
theorem dX5_read_26 : decode cX5_read 26 = .ok (.iaload, 1) := by decide +kernel
theorem dX5_read_27 : decode cX5_read 27 = .ok (.istore 4, 2) := by decide +kernel
theorem dX5_read_29 : decode cX5_read 29 = .ok (.iload 4, 2) := by decide +kernel
theorem dX5_read_31 : decode cX5_read 31 = .ok (.bipush 32, 2) := by decide +kernel
theorem dX5_read_33 : decode cX5_read 33 = .ok (.if_icmp .ne 29, 3) := by decide +kernel
theorem dX5_read_36 : decode cX5_read 36 = .ok (.iload_n 2, 1) := by decide +kernel
theorem dX5_read_37 : decode cX5_read 37 = .ok (.iconst 1, 1) := by decide +kernel
theorem dX5_read_38 : decode cX5_read 38 = .ok (.iadd, 1) := by decide +kernel
theorem dX5_read_39 : decode cX5_read 39 = .ok (.aload_n 0, 1) := by decide +kernel
theorem dX5_read_40 : decode cX5_read 40 = .ok (.getfield 11, 3) := by decide +kernel
theorem dX5_read_43 : decode cX5_read 43 = .ok (.arraylength, 1) := by decide +kernel
theorem dX5_read_44 : decode cX5_read 44 = .ok (.if_icmp .ge 18, 3) := by decide +kernel
theorem dX5_read_47 : decode cX5_read 47 = .ok (.iinc 2 1, 3) := by decide +kernel
theorem dX5_read_50 : decode cX5_read 50 = .ok (.aload_n 0, 1) := by decide +kernel
theorem dX5_read_51 : decode cX5_read 51 = .ok (.getfield 11, 3) := by decide +kernel
theorem dX5_read_54 : decode cX5_read 54 = .ok (.iload_n 2, 1) := by decide +kernel
theorem dX5_read_55 : decode cX5_read 55 = .ok (.aaload, 1) := by decide +kernel
theorem dX5_read_56 : decode cX5_read 56 = .ok (.invokevirtual 22, 3) := by decide +kernel
theorem dX5_read_59 : decode cX5_read 59 = .ok (.goto 14, 3) := by decide +kernel
theorem dX5_read_62 : decode cX5_read 62 = .ok (.aload_n 0, 1) := by decide +kernel
theorem dX5_read_63 : decode cX5_read 63 = .ok (.getfield 11, 3) := by decide +kernel
theorem dX5_read_66 : decode cX5_read 66 = .ok (.iload_n 2, 1) := by decide +kernel
theorem dX5_read_67 : decode cX5_read 67 = .ok (.aaload, 1) := by decide +kernel
theorem dX5_read_68 : decode cX5_read 68 = .ok (.iload 4, 2) := by decide +kernel
theorem dX5_read_70 : decode cX5_read 70 = .ok (.invokevirtual 34, 3) := by decide +kernel
theorem dX5_read_73 : decode cX5_read 73 = .ok (.iinc 3 1, 3) := by decide +kernel
theorem dX5_read_76 : decode cX5_read 76 = .ok (.goto (-63), 3) := by decide +kernel
theorem dX5_read_79 : decode cX5_read 79 = .ok (.aload_n 0, 1) := by decide +kernel
theorem dX5_read_80 : decode cX5_read 80 = .ok (.iload_n 2, 1) := by decide +kernel
theorem dX5_read_81 : decode cX5_read 81 = .ok (.iconst 1, 1) := by decide +kernel
theorem dX5_read_82 : decode cX5_read 82 = .ok (.iadd, 1) := by decide +kernel
theorem dX5_read_83 : decode cX5_read 83 = .ok (.putfield 38, 3) := by decide +kernel
theorem dX5_read_86 : decode cX5_read 86 = .ok (.aload_n 0, 1) := by decide +kernel
theorem dX5_read_87 : decode cX5_read 87 = .ok (.iconst 0, 1) := by decide +kernel
theorem dX5_read_88 : decode cX5_read 88 = .ok (.putfield 41, 3) := by decide +kernel
theorem dX5_read_91 : decode cX5_read 91 = .ok (.aload_n 0, 1) := by decide +kernel
theorem dX5_read_92 : decode cX5_read 92 = .ok (.iconst 0, 1) := by decide +kernel
theorem dX5_read_93 : decode cX5_read 93 = .ok (.putfield 44, 3) := by decide +kernel
theorem dX5_read_96 : decode cX5_read 96 = .ok (.aload_n 0, 1) := by decide +kernel
theorem dX5_read_97 : decode cX5_read 97 = .ok (.iconst 0, 1) := by decide +kernel
theorem dX5_read_98 : decode cX5_read 98 = .ok (.putfield 47, 3) := by decide +kernel
theorem dX5_read_101 : decode cX5_read 101 = .ok (.iconst 0, 1) := by decide +kernel
theorem dX5_read_102 : decode cX5_read 102 = .ok (.istore_n 3, 1) := by decide +kernel
theorem dX5_read_103 : decode cX5_read 103 = .ok (.iload_n 3, 1) := by decide +kernel
theorem dX5_read_104 : decode cX5_read 104 = .ok (.aload_n 0, 1) := by decide +kernel
theorem dX5_read_105 : decode cX5_read 105 = .ok (.getfield 38, 3) := by decide +kernel
theorem dX5_read_108 : decode cX5_read 108 = .ok (.if_icmp .ge 41, 3) := by decide +kernel
theorem dX5_read_111 : decode cX5_read 111 = .ok (.aload_n 0, 1) := by decide +kernel
theorem dX5_read_112 : decode cX5_read 112 = .ok (.getfield 11, 3) := by decide +kernel
theorem dX5_read_115 : decode cX5_read 115 = .ok (.iload_n 3, 1) := by decide +kernel
theorem dX5_read_116 : decode cX5_read 116 = .ok (.aaload, 1) := by decide +kernel
theorem dX5_read_117 : decode cX5_read 117 = .ok (.invokevirtual 50, 3) := by decide +kernel
theorem dX5_read_120 : decode cX5_read 120 = .ok (.ifCond .eq 23, 3) := by decide +kernel
theorem dX5_read_123 : decode cX5_read 123 = .ok (.aload_n 0, 1) := by decide +kernel
theorem dX5_read_124 : decode cX5_read 124 = .ok (.dup, 1) := by decide +kernel
theorem dX5_read_125 : decode cX5_read 125 = .ok (.getfield 41, 3) := by decide +kernel
theorem dX5_read_128 : decode cX5_read 128 = .ok (.iconst 1, 1) := by decide +kernel
theorem dX5_read_129 : decode cX5_read 129 = .ok (.iadd, 1) := by decide +kernel
theorem dX5_read_130 : decode cX5_read 130 = .ok (.putfield 41, 3) := by decide +kernel
theorem dX5_read_133 : decode cX5_read 133 = .ok (.aload_n 0, 1) := by decide +kernel
theorem dX5_read_134 : decode cX5_read 134 = .ok (.aload_n 0, 1) := by decide +kernel
theorem dX5_read_135 : decode cX5_read 135 = .ok (.getfield 11, 3) := by decide +kernel
theorem dX5_read_138 : decode cX5_read 138 = .ok (.iload_n 3, 1) := by decide +kernel
theorem dX5_read_139 : decode cX5_read 139 = .ok (.aaload, 1) := by decide +kernel
theorem dX5_read_140 : decode cX5_read 140 = .ok (.invokevirtual 54, 3) := by decide +kernel
theorem dX5_read_143 : decode cX5_read 143 = .ok (.iinc 3 1, 3) := by decide +kernel
theorem dX5_read_146 : decode cX5_read 146 = .ok (.goto (-43), 3) := by decide +kernel
theorem dX5_read_149 : decode cX5_read 149 = .ok (.return_, 1) := by decide +kernel
theorem dX5_tags_0 : decode cX5_tags 0 = .ok (.aload_n 0, 1) := by decide +kernel
theorem dX5_tags_1 : decode cX5_tags 1 = .ok (.getfield 38, 3) := by decide +kernel
theorem dX5_tags_4 : decode cX5_tags 4 = .ok (.aload_n 0, 1) := by decide +kernel
theorem dX5_tags_5 : decode cX5_tags 5 = .ok (.getfield 41, 3) := by decide +kernel
theorem dX5_tags_8 : decode cX5_tags 8 = .ok (.isub, 1) := by decide +kernel
theorem dX5_tags_9 : decode cX5_tags 9 = .ok (.ireturn, 1) := by decide +kernel
theorem dX5_cost_0 : decode cX5_cost 0 = .ok (.bipush 10, 2) := by decide +kernel
theorem dX5_cost_2 : decode cX5_cost 2 = .ok (.aload_n 0, 1) := by decide +kernel
theorem dX5_cost_3 : decode cX5_cost 3 = .ok (.getfield 41, 3) := by decide +kernel
theorem dX5_cost_6 : decode cX5_cost 6 = .ok (.imul, 1) := by decide +kernel
theorem dX5_cost_7 : decode cX5_cost 7 = .ok (.iload_n 1, 1) := by decide +kernel
theorem dX5_cost_8 : decode cX5_cost 8 = .ok (.aload_n 0, 1) := by decide +kernel
theorem dX5_cost_9 : decode cX5_cost 9 = .ok (.invokevirtual 58, 3) := by decide +kernel
theorem dX5_cost_12 : decode cX5_cost 12 = .ok (.imul, 1) := by decide +kernel
theorem dX5_cost_13 : decode cX5_cost 13 = .ok (.iadd, 1) := by decide +kernel
theorem dX5_cost_14 : decode cX5_cost 14 = .ok (.ireturn, 1) := by decide +kernel
theorem dX5_isSameAs_0 : decode cX5_isSameAs 0 = .ok (.aload_n 0, 1) := by decide +kernel
theorem dX5_isSameAs_1 : decode cX5_isSameAs 1 = .ok (.getfield 38, 3) := by decide +kernel
theorem dX5_isSameAs_4 : decode cX5_isSameAs 4 = .ok (.aload_n 1, 1) := by decide +kernel
theorem dX5_isSameAs_5 : decode cX5_isSameAs 5 = .ok (.getfield 38, 3) := by decide +kernel
theorem dX5_isSameAs_8 : decode cX5_isSameAs 8 = .ok (.if_icmp .eq 5, 3) := by decide +kernel
theorem dX5_isSameAs_11 : decode cX5_isSameAs 11 = .ok (.iconst 0, 1) := by decide +kernel
theorem dX5_isSameAs_12 : decode cX5_isSameAs 12 = .ok (.ireturn, 1) := by decide +kernel
theorem dX5_isSameAs_13 : decode cX5_isSameAs 13 = .ok (.iconst 0, 1) := by decide +kernel
theorem dX5_isSameAs_14 : decode cX5_isSameAs 14 = .ok (.istore_n 2, 1) := by decide +kernel
theorem dX5_isSameAs_15 : decode cX5_isSameAs 15 = .ok (.iload_n 2, 1) := by decide +kernel
theorem dX5_isSameAs_16 : decode cX5_isSameAs 16 = .ok (.aload_n 0, 1) := by decide +kernel
theorem dX5_isSameAs_17 : decode cX5_isSameAs 17 = .ok (.getfield 38, 3) := by decide +kernel
theorem dX5_isSameAs_20 : decode cX5_isSameAs 20 = .ok (.if_icmp .ge 29, 3) := by decide +kernel
theorem dX5_isSameAs_23 : decode cX5_isSameAs 23 = .ok (.aload_n 0, 1) := by decide +kernel
theorem dX5_isSameAs_24 : decode cX5_isSameAs 24 = .ok (.getfield 11, 3) := by decide +kernel
theorem dX5_isSameAs_27 : decode cX5_isSameAs 27 = .ok (.iload_n 2, 1) := by decide +kernel
theorem dX5_isSameAs_28 : decode cX5_isSameAs 28 = .ok (.aaload, 1) := by decide +kernel
theorem dX5_isSameAs_29 : decode cX5_isSameAs 29 = .ok (.aload_n 1, 1) := by decide +kernel
theorem dX5_isSameAs_30 : decode cX5_isSameAs 30 = .ok (.getfield 11, 3) := by decide +kernel
theorem dX5_isSameAs_33 : decode cX5_isSameAs 33 = .ok (.iload_n 2, 1) := by decide +kernel
theorem dX5_isSameAs_34 : decode cX5_isSameAs 34 = .ok (.aaload, 1) := by decide +kernel
theorem dX5_isSameAs_35 : decode cX5_isSameAs 35 = .ok (.invokevirtual 62, 3) := by decide +kernel
theorem dX5_isSameAs_38 : decode cX5_isSameAs 38 = .ok (.ifCond .ne 5, 3) := by decide +kernel
theorem dX5_isSameAs_41 : decode cX5_isSameAs 41 = .ok (.iconst 0, 1) := by decide +kernel
theorem dX5_isSameAs_42 : decode cX5_isSameAs 42 = .ok (.ireturn, 1) := by decide +kernel
theorem dX5_isSameAs_43 : decode cX5_isSameAs 43 = .ok (.iinc 2 1, 3) := by decide +kernel
theorem dX5_isSameAs_46 : decode cX5_isSameAs 46 = .ok (.goto (-31), 3) := by decide +kernel
theorem dX5_isSameAs_49 : decode cX5_isSameAs 49 = .ok (.iconst 1, 1) := by decide +kernel
theorem dX5_isSameAs_50 : decode cX5_isSameAs 50 = .ok (.ireturn, 1) := by decide +kernel
theorem dX5_tell_0 : decode cX5_tell 0 = .ok (.iload_n 1, 1) := by decide +kernel
theorem dX5_tell_1 : decode cX5_tell 1 = .ok (.tableswitch 70 0 5 #[39, 44, 49, 54, 59, 65], 39) := by decide +kernel
theorem dX5_tell_40 : decode cX5_tell 40 = .ok (.aload_n 0, 1) := by decide +kernel
theorem dX5_tell_41 : decode cX5_tell 41 = .ok (.getfield 38, 3) := by decide +kernel
theorem dX5_tell_44 : decode cX5_tell 44 = .ok (.ireturn, 1) := by decide +kernel
theorem dX5_tell_45 : decode cX5_tell 45 = .ok (.aload_n 0, 1) := by decide +kernel
theorem dX5_tell_46 : decode cX5_tell 46 = .ok (.getfield 41, 3) := by decide +kernel
theorem dX5_tell_49 : decode cX5_tell 49 = .ok (.ireturn, 1) := by decide +kernel
theorem dX5_tell_50 : decode cX5_tell 50 = .ok (.aload_n 0, 1) := by decide +kernel
theorem dX5_tell_51 : decode cX5_tell 51 = .ok (.invokevirtual 58, 3) := by decide +kernel
theorem dX5_tell_54 : decode cX5_tell 54 = .ok (.ireturn, 1) := by decide +kernel
theorem dX5_tell_55 : decode cX5_tell 55 = .ok (.aload_n 0, 1) := by decide +kernel
theorem dX5_tell_56 : decode cX5_tell 56 = .ok (.getfield 44, 3) := by decide +kernel
theorem dX5_tell_59 : decode cX5_tell 59 = .ok (.ireturn, 1) := by decide +kernel
theorem dX5_tell_60 : decode cX5_tell 60 = .ok (.aload_n 0, 1) := by decide +kernel
theorem dX5_tell_61 : decode cX5_tell 61 = .ok (.iload_n 2, 1) := by decide +kernel
theorem dX5_tell_62 : decode cX5_tell 62 = .ok (.invokevirtual 66, 3) := by decide +kernel
theorem dX5_tell_65 : decode cX5_tell 65 = .ok (.ireturn, 1) := by decide +kernel
theorem dX5_tell_66 : decode cX5_tell 66 = .ok (.aload_n 0, 1) := by decide +kernel
theorem dX5_tell_67 : decode cX5_tell 67 = .ok (.getfield 47, 3) := by decide +kernel
theorem dX5_tell_70 : decode cX5_tell 70 = .ok (.ireturn, 1) := by decide +kernel
theorem dX5_tell_71 : decode cX5_tell 71 = .ok (.sipush (-1002), 3) := by decide +kernel
theorem dX5_tell_74 : decode cX5_tell 74 = .ok (.ireturn, 1) := by decide +kernel
theorem dX5_sharedWith_0 : decode cX5_sharedWith 0 = .ok (.iconst 0, 1) := by decide +kernel
theorem dX5_sharedWith_1 : decode cX5_sharedWith 1 = .ok (.istore_n 2, 1) := by decide +kernel
theorem dX5_sharedWith_2 : decode cX5_sharedWith 2 = .ok (.iconst 0, 1) := by decide +kernel
theorem dX5_sharedWith_3 : decode cX5_sharedWith 3 = .ok (.istore_n 3, 1) := by decide +kernel
theorem dX5_sharedWith_4 : decode cX5_sharedWith 4 = .ok (.iconst 0, 1) := by decide +kernel
theorem dX5_sharedWith_5 : decode cX5_sharedWith 5 = .ok (.istore 4, 2) := by decide +kernel
theorem dX5_sharedWith_7 : decode cX5_sharedWith 7 = .ok (.iload_n 3, 1) := by decide +kernel
theorem dX5_sharedWith_8 : decode cX5_sharedWith 8 = .ok (.aload_n 0, 1) := by decide +kernel
theorem dX5_sharedWith_9 : decode cX5_sharedWith 9 = .ok (.getfield 44, 3) := by decide +kernel
theorem dX5_sharedWith_12 : decode cX5_sharedWith 12 = .ok (.if_icmp .ge 62, 3) := by decide +kernel
theorem dX5_sharedWith_15 : decode cX5_sharedWith 15 = .ok (.iload 4, 2) := by decide +kernel
theorem dX5_sharedWith_17 : decode cX5_sharedWith 17 = .ok (.aload_n 1, 1) := by decide +kernel
theorem dX5_sharedWith_18 : decode cX5_sharedWith 18 = .ok (.getfield 44, 3) := by decide +kernel
theorem dX5_sharedWith_21 : decode cX5_sharedWith 21 = .ok (.if_icmp .ge 53, 3) := by decide +kernel
theorem dX5_sharedWith_24 : decode cX5_sharedWith 24 = .ok (.aload_n 0, 1) := by decide +kernel
theorem dX5_sharedWith_25 : decode cX5_sharedWith 25 = .ok (.getfield 18, 3) := by decide +kernel
theorem dX5_sharedWith_28 : decode cX5_sharedWith 28 = .ok (.iload_n 3, 1) := by decide +kernel
theorem dX5_sharedWith_29 : decode cX5_sharedWith 29 = .ok (.iaload, 1) := by decide +kernel
theorem dX5_sharedWith_30 : decode cX5_sharedWith 30 = .ok (.istore 5, 2) := by decide +kernel
theorem dX5_sharedWith_32 : decode cX5_sharedWith 32 = .ok (.aload_n 1, 1) := by decide +kernel
theorem dX5_sharedWith_33 : decode cX5_sharedWith 33 = .ok (.getfield 18, 3) := by decide +kernel
theorem dX5_sharedWith_36 : decode cX5_sharedWith 36 = .ok (.iload 4, 2) := by decide +kernel
theorem dX5_sharedWith_38 : decode cX5_sharedWith 38 = .ok (.iaload, 1) := by decide +kernel
theorem dX5_sharedWith_39 : decode cX5_sharedWith 39 = .ok (.istore 6, 2) := by decide +kernel
theorem dX5_sharedWith_41 : decode cX5_sharedWith 41 = .ok (.iload 5, 2) := by decide +kernel
theorem dX5_sharedWith_43 : decode cX5_sharedWith 43 = .ok (.iload 6, 2) := by decide +kernel
theorem dX5_sharedWith_45 : decode cX5_sharedWith 45 = .ok (.if_icmp .ne 6, 3) := by decide +kernel
theorem dX5_sharedWith_48 : decode cX5_sharedWith 48 = .ok (.iinc 2 1, 3) := by decide +kernel
theorem dX5_sharedWith_51 : decode cX5_sharedWith 51 = .ok (.iload 5, 2) := by decide +kernel
theorem dX5_sharedWith_53 : decode cX5_sharedWith 53 = .ok (.iload 6, 2) := by decide +kernel
theorem dX5_sharedWith_55 : decode cX5_sharedWith 55 = .ok (.if_icmp .gt 6, 3) := by decide +kernel
theorem dX5_sharedWith_58 : decode cX5_sharedWith 58 = .ok (.iinc 3 1, 3) := by decide +kernel
theorem dX5_sharedWith_61 : decode cX5_sharedWith 61 = .ok (.iload 6, 2) := by decide +kernel
theorem dX5_sharedWith_63 : decode cX5_sharedWith 63 = .ok (.iload 5, 2) := by decide +kernel
theorem dX5_sharedWith_65 : decode cX5_sharedWith 65 = .ok (.if_icmp .gt 6, 3) := by decide +kernel
theorem dX5_sharedWith_68 : decode cX5_sharedWith 68 = .ok (.iinc 4 1, 3) := by decide +kernel
theorem dX5_sharedWith_71 : decode cX5_sharedWith 71 = .ok (.goto (-64), 3) := by decide +kernel
theorem dX5_sharedWith_74 : decode cX5_sharedWith 74 = .ok (.iload_n 2, 1) := by decide +kernel
theorem dX5_sharedWith_75 : decode cX5_sharedWith 75 = .ok (.ireturn, 1) := by decide +kernel
theorem dX5_isFirstOfItsKind_0 : decode cX5_isFirstOfItsKind 0 = .ok (.iload_n 1, 1) := by decide +kernel
theorem dX5_isFirstOfItsKind_1 : decode cX5_isFirstOfItsKind 1 = .ok (.ifCond .eq 20, 3) := by decide +kernel
theorem dX5_isFirstOfItsKind_4 : decode cX5_isFirstOfItsKind 4 = .ok (.aload_n 0, 1) := by decide +kernel
theorem dX5_isFirstOfItsKind_5 : decode cX5_isFirstOfItsKind 5 = .ok (.getfield 18, 3) := by decide +kernel
theorem dX5_isFirstOfItsKind_8 : decode cX5_isFirstOfItsKind 8 = .ok (.iload_n 1, 1) := by decide +kernel
theorem dX5_isFirstOfItsKind_9 : decode cX5_isFirstOfItsKind 9 = .ok (.iaload, 1) := by decide +kernel
theorem dX5_isFirstOfItsKind_10 : decode cX5_isFirstOfItsKind 10 = .ok (.aload_n 0, 1) := by decide +kernel
theorem dX5_isFirstOfItsKind_11 : decode cX5_isFirstOfItsKind 11 = .ok (.getfield 18, 3) := by decide +kernel
theorem dX5_isFirstOfItsKind_14 : decode cX5_isFirstOfItsKind 14 = .ok (.iload_n 1, 1) := by decide +kernel
theorem dX5_isFirstOfItsKind_15 : decode cX5_isFirstOfItsKind 15 = .ok (.iconst 1, 1) := by decide +kernel
theorem dX5_isFirstOfItsKind_16 : decode cX5_isFirstOfItsKind 16 = .ok (.isub, 1) := by decide +kernel
theorem dX5_isFirstOfItsKind_17 : decode cX5_isFirstOfItsKind 17 = .ok (.iaload, 1) := by decide +kernel
theorem dX5_isFirstOfItsKind_18 : decode cX5_isFirstOfItsKind 18 = .ok (.if_icmp .eq 7, 3) := by decide +kernel
theorem dX5_isFirstOfItsKind_21 : decode cX5_isFirstOfItsKind 21 = .ok (.iconst 1, 1) := by decide +kernel
theorem dX5_isFirstOfItsKind_22 : decode cX5_isFirstOfItsKind 22 = .ok (.goto 4, 3) := by decide +kernel
theorem dX5_isFirstOfItsKind_25 : decode cX5_isFirstOfItsKind 25 = .ok (.iconst 0, 1) := by decide +kernel
theorem dX5_isFirstOfItsKind_26 : decode cX5_isFirstOfItsKind 26 = .ok (.ireturn, 1) := by decide +kernel
theorem dX5_addGramsOf_0 : decode cX5_addGramsOf 0 = .ok (.iconst 0, 1) := by decide +kernel
theorem dX5_addGramsOf_1 : decode cX5_addGramsOf 1 = .ok (.istore_n 2, 1) := by decide +kernel
theorem dX5_addGramsOf_2 : decode cX5_addGramsOf 2 = .ok (.iconst 0, 1) := by decide +kernel
theorem dX5_addGramsOf_3 : decode cX5_addGramsOf 3 = .ok (.istore_n 3, 1) := by decide +kernel
theorem dX5_addGramsOf_4 : decode cX5_addGramsOf 4 = .ok (.iload_n 3, 1) := by decide +kernel
theorem dX5_addGramsOf_5 : decode cX5_addGramsOf 5 = .ok (.aload_n 1, 1) := by decide +kernel
theorem dX5_addGramsOf_6 : decode cX5_addGramsOf 6 = .ok (.getfield 70, 3) := by decide +kernel
theorem dX5_addGramsOf_9 : decode cX5_addGramsOf 9 = .ok (.if_icmp .ge 33, 3) := by decide +kernel
theorem dX5_addGramsOf_12 : decode cX5_addGramsOf 12 = .ok (.aload_n 1, 1) := by decide +kernel
theorem dX5_addGramsOf_13 : decode cX5_addGramsOf 13 = .ok (.getfield 73, 3) := by decide +kernel
theorem dX5_addGramsOf_16 : decode cX5_addGramsOf 16 = .ok (.iload_n 3, 1) := by decide +kernel
theorem dX5_addGramsOf_17 : decode cX5_addGramsOf 17 = .ok (.iaload, 1) := by decide +kernel
theorem dX5_addGramsOf_18 : decode cX5_addGramsOf 18 = .ok (.invokestatic 76, 3) := by decide +kernel
theorem dX5_addGramsOf_21 : decode cX5_addGramsOf 21 = .ok (.istore 4, 2) := by decide +kernel
theorem dX5_addGramsOf_23 : decode cX5_addGramsOf 23 = .ok (.aload_n 0, 1) := by decide +kernel
theorem dX5_addGramsOf_24 : decode cX5_addGramsOf 24 = .ok (.iload_n 2, 1) := by decide +kernel
theorem dX5_addGramsOf_25 : decode cX5_addGramsOf 25 = .ok (.iload 4, 2) := by decide +kernel
theorem dX5_addGramsOf_27 : decode cX5_addGramsOf 27 = .ok (.invokestatic 79, 3) := by decide +kernel
theorem dX5_addGramsOf_30 : decode cX5_addGramsOf 30 = .ok (.invokevirtual 83, 3) := by decide +kernel
theorem dX5_addGramsOf_33 : decode cX5_addGramsOf 33 = .ok (.iload 4, 2) := by decide +kernel
theorem dX5_addGramsOf_35 : decode cX5_addGramsOf 35 = .ok (.istore_n 2, 1) := by decide +kernel
theorem dX5_addGramsOf_36 : decode cX5_addGramsOf 36 = .ok (.iinc 3 1, 3) := by decide +kernel
theorem dX5_addGramsOf_39 : decode cX5_addGramsOf 39 = .ok (.goto (-35), 3) := by decide +kernel
theorem dX5_addGramsOf_42 : decode cX5_addGramsOf 42 = .ok (.aload_n 0, 1) := by decide +kernel
theorem dX5_addGramsOf_43 : decode cX5_addGramsOf 43 = .ok (.iload_n 2, 1) := by decide +kernel
theorem dX5_addGramsOf_44 : decode cX5_addGramsOf 44 = .ok (.iconst 0, 1) := by decide +kernel
theorem dX5_addGramsOf_45 : decode cX5_addGramsOf 45 = .ok (.invokestatic 79, 3) := by decide +kernel
theorem dX5_addGramsOf_48 : decode cX5_addGramsOf 48 = .ok (.invokevirtual 83, 3) := by decide +kernel
theorem dX5_addGramsOf_51 : decode cX5_addGramsOf 51 = .ok (.return_, 1) := by decide +kernel
theorem dX5_insertGram_0 : decode cX5_insertGram 0 = .ok (.aload_n 0, 1) := by decide +kernel
theorem dX5_insertGram_1 : decode cX5_insertGram 1 = .ok (.getfield 44, 3) := by decide +kernel
theorem dX5_insertGram_4 : decode cX5_insertGram 4 = .ok (.aload_n 0, 1) := by decide +kernel
theorem dX5_insertGram_5 : decode cX5_insertGram 5 = .ok (.getfield 18, 3) := by decide +kernel
theorem dX5_insertGram_8 : decode cX5_insertGram 8 = .ok (.arraylength, 1) := by decide +kernel
theorem dX5_insertGram_9 : decode cX5_insertGram 9 = .ok (.if_icmp .lt 4, 3) := by decide +kernel
theorem dX5_insertGram_12 : decode cX5_insertGram 12 = .ok (.return_, 1) := by decide +kernel
theorem dX5_insertGram_13 : decode cX5_insertGram 13 = .ok (.aload_n 0, 1) := by decide +kernel
theorem dX5_insertGram_14 : decode cX5_insertGram 14 = .ok (.getfield 44, 3) := by decide +kernel
theorem dX5_insertGram_17 : decode cX5_insertGram 17 = .ok (.istore_n 2, 1) := by decide +kernel
theorem dX5_insertGram_18 : decode cX5_insertGram 18 = .ok (.iload_n 2, 1) := by decide +kernel
theorem dX5_insertGram_19 : decode cX5_insertGram 19 = .ok (.ifCond .le 35, 3) := by decide +kernel
theorem dX5_insertGram_22 : decode cX5_insertGram 22 = .ok (.aload_n 0, 1) := by decide +kernel
theorem dX5_insertGram_23 : decode cX5_insertGram 23 = .ok (.getfield 18, 3) := by decide +kernel
theorem dX5_insertGram_26 : decode cX5_insertGram 26 = .ok (.iload_n 2, 1) := by decide +kernel
theorem dX5_insertGram_27 : decode cX5_insertGram 27 = .ok (.iconst 1, 1) := by decide +kernel
theorem dX5_insertGram_28 : decode cX5_insertGram 28 = .ok (.isub, 1) := by decide +kernel
theorem dX5_insertGram_29 : decode cX5_insertGram 29 = .ok (.iaload, 1) := by decide +kernel
theorem dX5_insertGram_30 : decode cX5_insertGram 30 = .ok (.iload_n 1, 1) := by decide +kernel
theorem dX5_insertGram_31 : decode cX5_insertGram 31 = .ok (.if_icmp .le 23, 3) := by decide +kernel
theorem dX5_insertGram_34 : decode cX5_insertGram 34 = .ok (.aload_n 0, 1) := by decide +kernel
theorem dX5_insertGram_35 : decode cX5_insertGram 35 = .ok (.getfield 18, 3) := by decide +kernel
theorem dX5_insertGram_38 : decode cX5_insertGram 38 = .ok (.iload_n 2, 1) := by decide +kernel
theorem dX5_insertGram_39 : decode cX5_insertGram 39 = .ok (.aload_n 0, 1) := by decide +kernel
theorem dX5_insertGram_40 : decode cX5_insertGram 40 = .ok (.getfield 18, 3) := by decide +kernel
theorem dX5_insertGram_43 : decode cX5_insertGram 43 = .ok (.iload_n 2, 1) := by decide +kernel
theorem dX5_insertGram_44 : decode cX5_insertGram 44 = .ok (.iconst 1, 1) := by decide +kernel
theorem dX5_insertGram_45 : decode cX5_insertGram 45 = .ok (.isub, 1) := by decide +kernel
theorem dX5_insertGram_46 : decode cX5_insertGram 46 = .ok (.iaload, 1) := by decide +kernel
theorem dX5_insertGram_47 : decode cX5_insertGram 47 = .ok (.iastore, 1) := by decide +kernel
theorem dX5_insertGram_48 : decode cX5_insertGram 48 = .ok (.iinc 2 (-1), 3) := by decide +kernel
theorem dX5_insertGram_51 : decode cX5_insertGram 51 = .ok (.goto (-33), 3) := by decide +kernel
theorem dX5_insertGram_54 : decode cX5_insertGram 54 = .ok (.aload_n 0, 1) := by decide +kernel
theorem dX5_insertGram_55 : decode cX5_insertGram 55 = .ok (.getfield 18, 3) := by decide +kernel
theorem dX5_insertGram_58 : decode cX5_insertGram 58 = .ok (.iload_n 2, 1) := by decide +kernel
theorem dX5_insertGram_59 : decode cX5_insertGram 59 = .ok (.iload_n 1, 1) := by decide +kernel
theorem dX5_insertGram_60 : decode cX5_insertGram 60 = .ok (.iastore, 1) := by decide +kernel
theorem dX5_insertGram_61 : decode cX5_insertGram 61 = .ok (.aload_n 0, 1) := by decide +kernel
theorem dX5_insertGram_62 : decode cX5_insertGram 62 = .ok (.dup, 1) := by decide +kernel
theorem dX5_insertGram_63 : decode cX5_insertGram 63 = .ok (.getfield 44, 3) := by decide +kernel
theorem dX5_insertGram_66 : decode cX5_insertGram 66 = .ok (.iconst 1, 1) := by decide +kernel
theorem dX5_insertGram_67 : decode cX5_insertGram 67 = .ok (.iadd, 1) := by decide +kernel
theorem dX5_insertGram_68 : decode cX5_insertGram 68 = .ok (.putfield 44, 3) := by decide +kernel
theorem dX5_insertGram_71 : decode cX5_insertGram 71 = .ok (.return_, 1) := by decide +kernel
