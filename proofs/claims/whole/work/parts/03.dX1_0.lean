theorem dX1_init_0 : decode cX1_init 0 = .ok (.aload_n 0, 1) := by decide +kernel
theorem dX1_init_1 : decode cX1_init 1 = .ok (.invokespecial 3, 3) := by decide +kernel
theorem dX1_init_4 : decode cX1_init 4 = .ok (.aload_n 0, 1) := by decide +kernel
theorem dX1_init_5 : decode cX1_init 5 = .ok (.bipush 16, 2) := by decide +kernel
theorem dX1_init_7 : decode cX1_init 7 = .ok (.newarray .int, 2) := by decide +kernel
theorem dX1_init_9 : decode cX1_init 9 = .ok (.putfield 9, 3) := by decide +kernel
theorem dX1_init_12 : decode cX1_init 12 = .ok (.aload_n 0, 1) := by decide +kernel
theorem dX1_init_13 : decode cX1_init 13 = .ok (.bipush 16, 2) := by decide +kernel
theorem dX1_init_15 : decode cX1_init 15 = .ok (.newarray .int, 2) := by decide +kernel
theorem dX1_init_17 : decode cX1_init 17 = .ok (.putfield 15, 3) := by decide +kernel
theorem dX1_init_20 : decode cX1_init 20 = .ok (.aload_n 0, 1) := by decide +kernel
theorem dX1_init_21 : decode cX1_init 21 = .ok (.bipush 16, 2) := by decide +kernel
theorem dX1_init_23 : decode cX1_init 23 = .ok (.newarray .int, 2) := by decide +kernel
theorem dX1_init_25 : decode cX1_init 25 = .ok (.putfield 18, 3) := by decide +kernel
theorem dX1_init_28 : decode cX1_init 28 = .ok (.aload_n 0, 1) := by decide +kernel
theorem dX1_init_29 : decode cX1_init 29 = .ok (.bipush 16, 2) := by decide +kernel
theorem dX1_init_31 : decode cX1_init 31 = .ok (.newarray .int, 2) := by decide +kernel
theorem dX1_init_33 : decode cX1_init 33 = .ok (.putfield 21, 3) := by decide +kernel
theorem dX1_init_36 : decode cX1_init 36 = .ok (.return_, 1) := by decide +kernel
theorem dX1_clearSteps_0 : decode cX1_clearSteps 0 = .ok (.aload_n 0, 1) := by decide +kernel
theorem dX1_clearSteps_1 : decode cX1_clearSteps 1 = .ok (.iconst 0, 1) := by decide +kernel
theorem dX1_clearSteps_2 : decode cX1_clearSteps 2 = .ok (.putfield 24, 3) := by decide +kernel
theorem dX1_clearSteps_5 : decode cX1_clearSteps 5 = .ok (.aload_n 0, 1) := by decide +kernel
theorem dX1_clearSteps_6 : decode cX1_clearSteps 6 = .ok (.iconst 0, 1) := by decide +kernel
theorem dX1_clearSteps_7 : decode cX1_clearSteps 7 = .ok (.putfield 28, 3) := by decide +kernel
theorem dX1_clearSteps_10 : decode cX1_clearSteps 10 = .ok (.return_, 1) := by decide +kernel
theorem dX1_addStep_0 : decode cX1_addStep 0 = .ok (.aload_n 0, 1) := by decide +kernel
theorem dX1_addStep_1 : decode cX1_addStep 1 = .ok (.getfield 24, 3) := by decide +kernel
theorem dX1_addStep_4 : decode cX1_addStep 4 = .ok (.aload_n 0, 1) := by decide +kernel
theorem dX1_addStep_5 : decode cX1_addStep 5 = .ok (.getfield 9, 3) := by decide +kernel
theorem dX1_addStep_8 : decode cX1_addStep 8 = .ok (.arraylength, 1) := by decide +kernel
theorem dX1_addStep_9 : decode cX1_addStep 9 = .ok (.if_icmp .lt 4, 3) := by decide +kernel
theorem dX1_addStep_12 : decode cX1_addStep 12 = .ok (.return_, 1) := by decide +kernel
theorem dX1_addStep_13 : decode cX1_addStep 13 = .ok (.aload_n 0, 1) := by decide +kernel
theorem dX1_addStep_14 : decode cX1_addStep 14 = .ok (.getfield 9, 3) := by decide +kernel
theorem dX1_addStep_17 : decode cX1_addStep 17 = .ok (.aload_n 0, 1) := by decide +kernel
theorem dX1_addStep_18 : decode cX1_addStep 18 = .ok (.getfield 24, 3) := by decide +kernel
theorem dX1_addStep_21 : decode cX1_addStep 21 = .ok (.iload_n 1, 1) := by decide +kernel
theorem dX1_addStep_22 : decode cX1_addStep 22 = .ok (.iastore, 1) := by decide +kernel
theorem dX1_addStep_23 : decode cX1_addStep 23 = .ok (.aload_n 0, 1) := by decide +kernel
theorem dX1_addStep_24 : decode cX1_addStep 24 = .ok (.getfield 15, 3) := by decide +kernel
theorem dX1_addStep_27 : decode cX1_addStep 27 = .ok (.aload_n 0, 1) := by decide +kernel
theorem dX1_addStep_28 : decode cX1_addStep 28 = .ok (.getfield 24, 3) := by decide +kernel
theorem dX1_addStep_31 : decode cX1_addStep 31 = .ok (.iload_n 2, 1) := by decide +kernel
theorem dX1_addStep_32 : decode cX1_addStep 32 = .ok (.iastore, 1) := by decide +kernel
theorem dX1_addStep_33 : decode cX1_addStep 33 = .ok (.aload_n 0, 1) := by decide +kernel
theorem dX1_addStep_34 : decode cX1_addStep 34 = .ok (.getfield 18, 3) := by decide +kernel
theorem dX1_addStep_37 : decode cX1_addStep 37 = .ok (.aload_n 0, 1) := by decide +kernel
theorem dX1_addStep_38 : decode cX1_addStep 38 = .ok (.getfield 24, 3) := by decide +kernel
theorem dX1_addStep_41 : decode cX1_addStep 41 = .ok (.iload_n 3, 1) := by decide +kernel
theorem dX1_addStep_42 : decode cX1_addStep 42 = .ok (.iastore, 1) := by decide +kernel
theorem dX1_addStep_43 : decode cX1_addStep 43 = .ok (.aload_n 0, 1) := by decide +kernel
theorem dX1_addStep_44 : decode cX1_addStep 44 = .ok (.getfield 21, 3) := by decide +kernel
theorem dX1_addStep_47 : decode cX1_addStep 47 = .ok (.aload_n 0, 1) := by decide +kernel
theorem dX1_addStep_48 : decode cX1_addStep 48 = .ok (.getfield 24, 3) := by decide +kernel
theorem dX1_addStep_51 : decode cX1_addStep 51 = .ok (.iload 4, 2) := by decide +kernel
theorem dX1_addStep_53 : decode cX1_addStep 53 = .ok (.iastore, 1) := by decide +kernel
theorem dX1_addStep_54 : decode cX1_addStep 54 = .ok (.aload_n 0, 1) := by decide +kernel
theorem dX1_addStep_55 : decode cX1_addStep 55 = .ok (.dup, 1) := by decide +kernel
theorem dX1_addStep_56 : decode cX1_addStep 56 = .ok (.getfield 24, 3) := by decide +kernel
theorem dX1_addStep_59 : decode cX1_addStep 59 = .ok (.iconst 1, 1) := by decide +kernel
theorem dX1_addStep_60 : decode cX1_addStep 60 = .ok (.iadd, 1) := by decide +kernel
theorem dX1_addStep_61 : decode cX1_addStep 61 = .ok (.putfield 24, 3) := by decide +kernel
theorem dX1_addStep_64 : decode cX1_addStep 64 = .ok (.iload 5, 2) := by decide +kernel
theorem dX1_addStep_66 : decode cX1_addStep 66 = .ok (.ifCond .eq 17, 3) := by decide +kernel
theorem dX1_addStep_69 : decode cX1_addStep 69 = .ok (.iload_n 2, 1) := by decide +kernel
theorem dX1_addStep_70 : decode cX1_addStep 70 = .ok (.ifCond .le 13, 3) := by decide +kernel
theorem dX1_addStep_73 : decode cX1_addStep 73 = .ok (.aload_n 0, 1) := by decide +kernel
theorem dX1_addStep_74 : decode cX1_addStep 74 = .ok (.dup, 1) := by decide +kernel
theorem dX1_addStep_75 : decode cX1_addStep 75 = .ok (.getfield 28, 3) := by decide +kernel
theorem dX1_addStep_78 : decode cX1_addStep 78 = .ok (.iconst 1, 1) := by decide +kernel
theorem dX1_addStep_79 : decode cX1_addStep 79 = .ok (.iadd, 1) := by decide +kernel
theorem dX1_addStep_80 : decode cX1_addStep 80 = .ok (.putfield 28, 3) := by decide +kernel
theorem dX1_addStep_83 : decode cX1_addStep 83 = .ok (.return_, 1) := by decide +kernel
theorem dX1_setScore_0 : decode cX1_setScore 0 = .ok (.aload_n 0, 1) := by decide +kernel
theorem dX1_setScore_1 : decode cX1_setScore 1 = .ok (.aload_n 0, 1) := by decide +kernel
theorem dX1_setScore_2 : decode cX1_setScore 2 = .ok (.getfield 31, 3) := by decide +kernel
theorem dX1_setScore_5 : decode cX1_setScore 5 = .ok (.ifCond .le 30, 3) := by decide +kernel
theorem dX1_setScore_8 : decode cX1_setScore 8 = .ok (.sipush 1000, 3) := by decide +kernel
theorem dX1_setScore_11 : decode cX1_setScore 11 = .ok (.sipush 1000, 3) := by decide +kernel
theorem dX1_setScore_14 : decode cX1_setScore 14 = .ok (.aload_n 0, 1) := by decide +kernel
theorem dX1_setScore_15 : decode cX1_setScore 15 = .ok (.getfield 34, 3) := by decide +kernel
theorem dX1_setScore_18 : decode cX1_setScore 18 = .ok (.imul, 1) := by decide +kernel
theorem dX1_setScore_19 : decode cX1_setScore 19 = .ok (.aload_n 0, 1) := by decide +kernel
theorem dX1_setScore_20 : decode cX1_setScore 20 = .ok (.getfield 31, 3) := by decide +kernel
theorem dX1_setScore_23 : decode cX1_setScore 23 = .ok (.iadd, 1) := by decide +kernel
theorem dX1_setScore_24 : decode cX1_setScore 24 = .ok (.iconst 1, 1) := by decide +kernel
theorem dX1_setScore_25 : decode cX1_setScore 25 = .ok (.isub, 1) := by decide +kernel
theorem dX1_setScore_26 : decode cX1_setScore 26 = .ok (.aload_n 0, 1) := by decide +kernel
theorem dX1_setScore_27 : decode cX1_setScore 27 = .ok (.getfield 31, 3) := by decide +kernel
theorem dX1_setScore_30 : decode cX1_setScore 30 = .ok (.idiv, 1) := by decide +kernel
theorem dX1_setScore_31 : decode cX1_setScore 31 = .ok (.isub, 1) := by decide +kernel
theorem dX1_setScore_32 : decode cX1_setScore 32 = .ok (.goto 6, 3) := by decide +kernel
theorem dX1_setScore_35 : decode cX1_setScore 35 = .ok (.sipush 1000, 3) := by decide +kernel
theorem dX1_setScore_38 : decode cX1_setScore 38 = .ok (.putfield 37, 3) := by decide +kernel
theorem dX1_setScore_41 : decode cX1_setScore 41 = .ok (.return_, 1) := by decide +kernel
theorem dX1_judge_0 : decode cX1_judge 0 = .ok (.aload_n 0, 1) := by decide +kernel
theorem dX1_judge_1 : decode cX1_judge 1 = .ok (.sipush 1000, 3) := by decide +kernel
theorem dX1_judge_4 : decode cX1_judge 4 = .ok (.iload 4, 2) := by decide +kernel
theorem dX1_judge_6 : decode cX1_judge 6 = .ok (.isub, 1) := by decide +kernel
theorem dX1_judge_7 : decode cX1_judge 7 = .ok (.aload_n 0, 1) := by decide +kernel
theorem dX1_judge_8 : decode cX1_judge 8 = .ok (.getfield 31, 3) := by decide +kernel
theorem dX1_judge_11 : decode cX1_judge 11 = .ok (.imul, 1) := by decide +kernel
theorem dX1_judge_12 : decode cX1_judge 12 = .ok (.sipush 1000, 3) := by decide +kernel
theorem dX1_judge_15 : decode cX1_judge 15 = .ok (.idiv, 1) := by decide +kernel
theorem dX1_judge_16 : decode cX1_judge 16 = .ok (.putfield 40, 3) := by decide +kernel
theorem dX1_judge_19 : decode cX1_judge 19 = .ok (.aload_n 1, 1) := by decide +kernel
theorem dX1_judge_20 : decode cX1_judge 20 = .ok (.getfield 43, 3) := by decide +kernel
theorem dX1_judge_23 : decode cX1_judge 23 = .ok (.aload_n 2, 1) := by decide +kernel
theorem dX1_judge_24 : decode cX1_judge 24 = .ok (.getfield 43, 3) := by decide +kernel
theorem dX1_judge_27 : decode cX1_judge 27 = .ok (.isub, 1) := by decide +kernel
theorem dX1_judge_28 : decode cX1_judge 28 = .ok (.invokestatic 48, 3) := by decide +kernel
theorem dX1_judge_31 : decode cX1_judge 31 = .ok (.istore 5, 2) := by decide +kernel
theorem dX1_judge_33 : decode cX1_judge 33 = .ok (.aload_n 1, 1) := by decide +kernel
theorem dX1_judge_34 : decode cX1_judge 34 = .ok (.invokevirtual 54, 3) := by decide +kernel
theorem dX1_judge_37 : decode cX1_judge 37 = .ok (.aload_n 2, 1) := by decide +kernel
theorem dX1_judge_38 : decode cX1_judge 38 = .ok (.invokevirtual 54, 3) := by decide +kernel
theorem dX1_judge_41 : decode cX1_judge 41 = .ok (.isub, 1) := by decide +kernel
theorem dX1_judge_42 : decode cX1_judge 42 = .ok (.invokestatic 48, 3) := by decide +kernel
theorem dX1_judge_45 : decode cX1_judge 45 = .ok (.istore 6, 2) := by decide +kernel
theorem dX1_judge_47 : decode cX1_judge 47 = .ok (.aload_n 0, 1) := by decide +kernel
theorem dX1_judge_48 : decode cX1_judge 48 = .ok (.bipush 10, 2) := by decide +kernel
theorem dX1_judge_50 : decode cX1_judge 50 = .ok (.iload 5, 2) := by decide +kernel
theorem dX1_judge_52 : decode cX1_judge 52 = .ok (.imul, 1) := by decide +kernel
theorem dX1_judge_53 : decode cX1_judge 53 = .ok (.iload_n 3, 1) := by decide +kernel
theorem dX1_judge_54 : decode cX1_judge 54 = .ok (.iload 6, 2) := by decide +kernel
theorem dX1_judge_56 : decode cX1_judge 56 = .ok (.imul, 1) := by decide +kernel
theorem dX1_judge_57 : decode cX1_judge 57 = .ok (.iadd, 1) := by decide +kernel
theorem dX1_judge_58 : decode cX1_judge 58 = .ok (.aload_n 0, 1) := by decide +kernel
theorem dX1_judge_59 : decode cX1_judge 59 = .ok (.getfield 40, 3) := by decide +kernel
theorem dX1_judge_62 : decode cX1_judge 62 = .ok (.if_icmp .gt 7, 3) := by decide +kernel
theorem dX1_judge_65 : decode cX1_judge 65 = .ok (.iconst 1, 1) := by decide +kernel
theorem dX1_judge_66 : decode cX1_judge 66 = .ok (.goto 4, 3) := by decide +kernel
theorem dX1_judge_69 : decode cX1_judge 69 = .ok (.iconst 0, 1) := by decide +kernel
theorem dX1_judge_70 : decode cX1_judge 70 = .ok (.putfield 58, 3) := by decide +kernel
theorem dX1_judge_73 : decode cX1_judge 73 = .ok (.aload_n 1, 1) := by decide +kernel
theorem dX1_judge_74 : decode cX1_judge 74 = .ok (.getfield 62, 3) := by decide +kernel
theorem dX1_judge_77 : decode cX1_judge 77 = .ok (.aload_n 2, 1) := by decide +kernel
theorem dX1_judge_78 : decode cX1_judge 78 = .ok (.getfield 62, 3) := by decide +kernel
theorem dX1_judge_81 : decode cX1_judge 81 = .ok (.invokestatic 65, 3) := by decide +kernel
theorem dX1_judge_84 : decode cX1_judge 84 = .ok (.istore 7, 2) := by decide +kernel
theorem dX1_judge_86 : decode cX1_judge 86 = .ok (.aload_n 0, 1) := by decide +kernel
theorem dX1_judge_87 : decode cX1_judge 87 = .ok (.iconst 5, 1) := by decide +kernel
theorem dX1_judge_88 : decode cX1_judge 88 = .ok (.iload 7, 2) := by decide +kernel
theorem dX1_judge_90 : decode cX1_judge 90 = .ok (.aload_n 0, 1) := by decide +kernel
theorem dX1_judge_91 : decode cX1_judge 91 = .ok (.getfield 69, 3) := by decide +kernel
theorem dX1_judge_94 : decode cX1_judge 94 = .ok (.isub, 1) := by decide +kernel
theorem dX1_judge_95 : decode cX1_judge 95 = .ok (.imul, 1) := by decide +kernel
theorem dX1_judge_96 : decode cX1_judge 96 = .ok (.bipush 12, 2) := by decide +kernel
theorem dX1_judge_98 : decode cX1_judge 98 = .ok (.aload_n 0, 1) := by decide +kernel
theorem dX1_judge_99 : decode cX1_judge 99 = .ok (.getfield 40, 3) := by decide +kernel
theorem dX1_judge_102 : decode cX1_judge 102 = .ok (.imul, 1) := by decide +kernel
theorem dX1_judge_103 : decode cX1_judge 103 = .ok (.if_icmp .gt 7, 3) := by decide +kernel
theorem dX1_judge_106 : decode cX1_judge 106 = .ok (.iconst 1, 1) := by decide +kernel
theorem dX1_judge_107 : decode cX1_judge 107 = .ok (.goto 4, 3) := by decide +kernel
theorem dX1_judge_110 : decode cX1_judge 110 = .ok (.iconst 0, 1) := by decide +kernel
theorem dX1_judge_111 : decode cX1_judge 111 = .ok (.putfield 72, 3) := by decide +kernel
theorem dX1_judge_114 : decode cX1_judge 114 = .ok (.aload_n 0, 1) := by decide +kernel
theorem dX1_judge_115 : decode cX1_judge 115 = .ok (.aload_n 0, 1) := by decide +kernel
theorem dX1_judge_116 : decode cX1_judge 116 = .ok (.getfield 37, 3) := by decide +kernel
theorem dX1_judge_119 : decode cX1_judge 119 = .ok (.iload 4, 2) := by decide +kernel
theorem dX1_judge_121 : decode cX1_judge 121 = .ok (.if_icmp .lt 7, 3) := by decide +kernel
theorem dX1_judge_124 : decode cX1_judge 124 = .ok (.iconst 1, 1) := by decide +kernel
theorem dX1_judge_125 : decode cX1_judge 125 = .ok (.goto 4, 3) := by decide +kernel
theorem dX1_judge_128 : decode cX1_judge 128 = .ok (.iconst 0, 1) := by decide +kernel
theorem dX1_judge_129 : decode cX1_judge 129 = .ok (.putfield 75, 3) := by decide +kernel
theorem dX1_judge_132 : decode cX1_judge 132 = .ok (.return_, 1) := by decide +kernel
theorem dX1_ranksAheadOf_0 : decode cX1_ranksAheadOf 0 = .ok (.aload_n 0, 1) := by decide +kernel
theorem dX1_ranksAheadOf_1 : decode cX1_ranksAheadOf 1 = .ok (.getfield 37, 3) := by decide +kernel
theorem dX1_ranksAheadOf_4 : decode cX1_ranksAheadOf 4 = .ok (.aload_n 1, 1) := by decide +kernel
theorem dX1_ranksAheadOf_5 : decode cX1_ranksAheadOf 5 = .ok (.getfield 37, 3) := by decide +kernel
theorem dX1_ranksAheadOf_8 : decode cX1_ranksAheadOf 8 = .ok (.if_icmp .eq 20, 3) := by decide +kernel
theorem dX1_ranksAheadOf_11 : decode cX1_ranksAheadOf 11 = .ok (.aload_n 0, 1) := by decide +kernel
theorem dX1_ranksAheadOf_12 : decode cX1_ranksAheadOf 12 = .ok (.getfield 37, 3) := by decide +kernel
theorem dX1_ranksAheadOf_15 : decode cX1_ranksAheadOf 15 = .ok (.aload_n 1, 1) := by decide +kernel
theorem dX1_ranksAheadOf_16 : decode cX1_ranksAheadOf 16 = .ok (.getfield 37, 3) := by decide +kernel
theorem dX1_ranksAheadOf_19 : decode cX1_ranksAheadOf 19 = .ok (.if_icmp .le 7, 3) := by decide +kernel
theorem dX1_ranksAheadOf_22 : decode cX1_ranksAheadOf 22 = .ok (.iconst 1, 1) := by decide +kernel
theorem dX1_ranksAheadOf_23 : decode cX1_ranksAheadOf 23 = .ok (.goto 4, 3) := by decide +kernel
theorem dX1_ranksAheadOf_26 : decode cX1_ranksAheadOf 26 = .ok (.iconst 0, 1) := by decide +kernel
theorem dX1_ranksAheadOf_27 : decode cX1_ranksAheadOf 27 = .ok (.ireturn, 1) := by decide +kernel
theorem dX1_ranksAheadOf_28 : decode cX1_ranksAheadOf 28 = .ok (.aload_n 0, 1) := by decide +kernel
theorem dX1_ranksAheadOf_29 : decode cX1_ranksAheadOf 29 = .ok (.getfield 28, 3) := by decide +kernel
theorem dX1_ranksAheadOf_32 : decode cX1_ranksAheadOf 32 = .ok (.aload_n 1, 1) := by decide +kernel
theorem dX1_ranksAheadOf_33 : decode cX1_ranksAheadOf 33 = .ok (.getfield 28, 3) := by decide +kernel
theorem dX1_ranksAheadOf_36 : decode cX1_ranksAheadOf 36 = .ok (.if_icmp .ge 7, 3) := by decide +kernel
theorem dX1_ranksAheadOf_39 : decode cX1_ranksAheadOf 39 = .ok (.iconst 1, 1) := by decide +kernel
theorem dX1_ranksAheadOf_40 : decode cX1_ranksAheadOf 40 = .ok (.goto 4, 3) := by decide +kernel
theorem dX1_ranksAheadOf_43 : decode cX1_ranksAheadOf 43 = .ok (.iconst 0, 1) := by decide +kernel
theorem dX1_ranksAheadOf_44 : decode cX1_ranksAheadOf 44 = .ok (.ireturn, 1) := by decide +kernel
theorem dX1_tell_0 : decode cX1_tell 0 = .ok (.iload_n 1, 1) := by decide +kernel
theorem dX1_tell_1 : decode cX1_tell 1 = .ok (.tableswitch 129 0 9 #[55, 60, 65, 70, 75, 80, 85, 98, 111, 124], 55) := by decide +kernel
theorem dX1_tell_56 : decode cX1_tell 56 = .ok (.aload_n 0, 1) := by decide +kernel
theorem dX1_tell_57 : decode cX1_tell 57 = .ok (.getfield 34, 3) := by decide +kernel
theorem dX1_tell_60 : decode cX1_tell 60 = .ok (.ireturn, 1) := by decide +kernel
theorem dX1_tell_61 : decode cX1_tell 61 = .ok (.aload_n 0, 1) := by decide +kernel
theorem dX1_tell_62 : decode cX1_tell 62 = .ok (.getfield 31, 3) := by decide +kernel
theorem dX1_tell_65 : decode cX1_tell 65 = .ok (.ireturn, 1) := by decide +kernel
theorem dX1_tell_66 : decode cX1_tell 66 = .ok (.aload_n 0, 1) := by decide +kernel
theorem dX1_tell_67 : decode cX1_tell 67 = .ok (.getfield 37, 3) := by decide +kernel
theorem dX1_tell_70 : decode cX1_tell 70 = .ok (.ireturn, 1) := by decide +kernel
theorem dX1_tell_71 : decode cX1_tell 71 = .ok (.aload_n 0, 1) := by decide +kernel
theorem dX1_tell_72 : decode cX1_tell 72 = .ok (.getfield 69, 3) := by decide +kernel
theorem dX1_tell_75 : decode cX1_tell 75 = .ok (.ireturn, 1) := by decide +kernel
theorem dX1_tell_76 : decode cX1_tell 76 = .ok (.aload_n 0, 1) := by decide +kernel
theorem dX1_tell_77 : decode cX1_tell 77 = .ok (.getfield 24, 3) := by decide +kernel
theorem dX1_tell_80 : decode cX1_tell 80 = .ok (.ireturn, 1) := by decide +kernel
theorem dX1_tell_81 : decode cX1_tell 81 = .ok (.aload_n 0, 1) := by decide +kernel
theorem dX1_tell_82 : decode cX1_tell 82 = .ok (.getfield 40, 3) := by decide +kernel
theorem dX1_tell_85 : decode cX1_tell 85 = .ok (.ireturn, 1) := by decide +kernel
theorem dX1_tell_86 : decode cX1_tell 86 = .ok (.aload_n 0, 1) := by decide +kernel
theorem dX1_tell_87 : decode cX1_tell 87 = .ok (.getfield 58, 3) := by decide +kernel
theorem dX1_tell_90 : decode cX1_tell 90 = .ok (.ifCond .eq 7, 3) := by decide +kernel
theorem dX1_tell_93 : decode cX1_tell 93 = .ok (.iconst 1, 1) := by decide +kernel
theorem dX1_tell_94 : decode cX1_tell 94 = .ok (.goto 4, 3) := by decide +kernel
theorem dX1_tell_97 : decode cX1_tell 97 = .ok (.iconst 0, 1) := by decide +kernel
theorem dX1_tell_98 : decode cX1_tell 98 = .ok (.ireturn, 1) := by decide +kernel
theorem dX1_tell_99 : decode cX1_tell 99 = .ok (.aload_n 0, 1) := by decide +kernel
theorem dX1_tell_100 : decode cX1_tell 100 = .ok (.getfield 72, 3) := by decide +kernel
theorem dX1_tell_103 : decode cX1_tell 103 = .ok (.ifCond .eq 7, 3) := by decide +kernel
theorem dX1_tell_106 : decode cX1_tell 106 = .ok (.iconst 1, 1) := by decide +kernel
theorem dX1_tell_107 : decode cX1_tell 107 = .ok (.goto 4, 3) := by decide +kernel
theorem dX1_tell_110 : decode cX1_tell 110 = .ok (.iconst 0, 1) := by decide +kernel
theorem dX1_tell_111 : decode cX1_tell 111 = .ok (.ireturn, 1) := by decide +kernel
theorem dX1_tell_112 : decode cX1_tell 112 = .ok (.aload_n 0, 1) := by decide +kernel
theorem dX1_tell_113 : decode cX1_tell 113 = .ok (.getfield 75, 3) := by decide +kernel
theorem dX1_tell_116 : decode cX1_tell 116 = .ok (.ifCond .eq 7, 3) := by decide +kernel
theorem dX1_tell_119 : decode cX1_tell 119 = .ok (.iconst 1, 1) := by decide +kernel
theorem dX1_tell_120 : decode cX1_tell 120 = .ok (.goto 4, 3) := by decide +kernel
theorem dX1_tell_123 : decode cX1_tell 123 = .ok (.iconst 0, 1) := by decide +kernel
theorem dX1_tell_124 : decode cX1_tell 124 = .ok (.ireturn, 1) := by decide +kernel
theorem dX1_tell_125 : decode cX1_tell 125 = .ok (.aload_n 0, 1) := by decide +kernel
theorem dX1_tell_126 : decode cX1_tell 126 = .ok (.getfield 28, 3) := by decide +kernel
theorem dX1_tell_129 : decode cX1_tell 129 = .ok (.ireturn, 1) := by decide +kernel
theorem dX1_tell_130 : decode cX1_tell 130 = .ok (.sipush (-1002), 3) := by decide +kernel
theorem dX1_tell_133 : decode cX1_tell 133 = .ok (.ireturn, 1) := by decide +kernel
theorem dX1_tellStep_0 : decode cX1_tellStep 0 = .ok (.iload_n 1, 1) := by decide +kernel
theorem dX1_tellStep_1 : decode cX1_tellStep 1 = .ok (.aload_n 0, 1) := by decide +kernel
theorem dX1_tellStep_2 : decode cX1_tellStep 2 = .ok (.getfield 24, 3) := by decide +kernel
theorem dX1_tellStep_5 : decode cX1_tellStep 5 = .ok (.invokestatic 78, 3) := by decide +kernel
theorem dX1_tellStep_8 : decode cX1_tellStep 8 = .ok (.ifCond .ne 7, 3) := by decide +kernel
theorem dX1_tellStep_11 : decode cX1_tellStep 11 = .ok (.sipush (-1001), 3) := by decide +kernel
theorem dX1_tellStep_14 : decode cX1_tellStep 14 = .ok (.ireturn, 1) := by decide +kernel
theorem dX1_tellStep_15 : decode cX1_tellStep 15 = .ok (.iload_n 2, 1) := by decide +kernel
theorem dX1_tellStep_16 : decode cX1_tellStep 16 = .ok (.tableswitch 60 0 3 #[32, 39, 46, 53], 32) := by decide +kernel
theorem dX1_tellStep_48 : decode cX1_tellStep 48 = .ok (.aload_n 0, 1) := by decide +kernel
theorem dX1_tellStep_49 : decode cX1_tellStep 49 = .ok (.getfield 9, 3) := by decide +kernel
theorem dX1_tellStep_52 : decode cX1_tellStep 52 = .ok (.iload_n 1, 1) := by decide +kernel
theorem dX1_tellStep_53 : decode cX1_tellStep 53 = .ok (.iaload, 1) := by decide +kernel
theorem dX1_tellStep_54 : decode cX1_tellStep 54 = .ok (.ireturn, 1) := by decide +kernel
theorem dX1_tellStep_55 : decode cX1_tellStep 55 = .ok (.aload_n 0, 1) := by decide +kernel
theorem dX1_tellStep_56 : decode cX1_tellStep 56 = .ok (.getfield 15, 3) := by decide +kernel
theorem dX1_tellStep_59 : decode cX1_tellStep 59 = .ok (.iload_n 1, 1) := by decide +kernel
theorem dX1_tellStep_60 : decode cX1_tellStep 60 = .ok (.iaload, 1) := by decide +kernel
theorem dX1_tellStep_61 : decode cX1_tellStep 61 = .ok (.ireturn, 1) := by decide +kernel
theorem dX1_tellStep_62 : decode cX1_tellStep 62 = .ok (.aload_n 0, 1) := by decide +kernel
theorem dX1_tellStep_63 : decode cX1_tellStep 63 = .ok (.getfield 18, 3) := by decide +kernel
theorem dX1_tellStep_66 : decode cX1_tellStep 66 = .ok (.iload_n 1, 1) := by decide +kernel
theorem dX1_tellStep_67 : decode cX1_tellStep 67 = .ok (.iaload, 1) := by decide +kernel
theorem dX1_tellStep_68 : decode cX1_tellStep 68 = .ok (.ireturn, 1) := by decide +kernel
theorem dX1_tellStep_69 : decode cX1_tellStep 69 = .ok (.aload_n 0, 1) := by decide +kernel
theorem dX1_tellStep_70 : decode cX1_tellStep 70 = .ok (.getfield 21, 3) := by decide +kernel
theorem dX1_tellStep_73 : decode cX1_tellStep 73 = .ok (.iload_n 1, 1) := by decide +kernel
theorem dX1_tellStep_74 : decode cX1_tellStep 74 = .ok (.iaload, 1) := by decide +kernel
theorem dX1_tellStep_75 : decode cX1_tellStep 75 = .ok (.ireturn, 1) := by decide +kernel
theorem dX1_tellStep_76 : decode cX1_tellStep 76 = .ok (.sipush (-1002), 3) := by decide +kernel
theorem dX1_tellStep_79 : decode cX1_tellStep 79 = .ok (.ireturn, 1) := by decide +kernel
