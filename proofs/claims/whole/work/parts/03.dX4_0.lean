theorem dX4_init_0 : decode cX4_init 0 = .ok (.aload_n 0, 1) := by decide +kernel
theorem dX4_init_1 : decode cX4_init 1 = .ok (.invokespecial 3, 3) := by decide +kernel
theorem dX4_init_4 : decode cX4_init 4 = .ok (.aload_n 0, 1) := by decide +kernel
theorem dX4_init_5 : decode cX4_init 5 = .ok (.bipush 48, 2) := by decide +kernel
theorem dX4_init_7 : decode cX4_init 7 = .ok (.newarray .int, 2) := by decide +kernel
theorem dX4_init_9 : decode cX4_init 9 = .ok (.putfield 9, 3) := by decide +kernel
theorem dX4_init_12 : decode cX4_init 12 = .ok (.return_, 1) := by decide +kernel
theorem dX4_isFull_0 : decode cX4_isFull 0 = .ok (.aload_n 0, 1) := by decide +kernel
theorem dX4_isFull_1 : decode cX4_isFull 1 = .ok (.getfield 15, 3) := by decide +kernel
theorem dX4_isFull_4 : decode cX4_isFull 4 = .ok (.aload_n 0, 1) := by decide +kernel
theorem dX4_isFull_5 : decode cX4_isFull 5 = .ok (.getfield 9, 3) := by decide +kernel
theorem dX4_isFull_8 : decode cX4_isFull 8 = .ok (.arraylength, 1) := by decide +kernel
theorem dX4_isFull_9 : decode cX4_isFull 9 = .ok (.if_icmp .lt 7, 3) := by decide +kernel
theorem dX4_isFull_12 : decode cX4_isFull 12 = .ok (.iconst 1, 1) := by decide +kernel
theorem dX4_isFull_13 : decode cX4_isFull 13 = .ok (.goto 4, 3) := by decide +kernel
theorem dX4_isFull_16 : decode cX4_isFull 16 = .ok (.iconst 0, 1) := by decide +kernel
theorem dX4_isFull_17 : decode cX4_isFull 17 = .ok (.ireturn, 1) := by decide +kernel
theorem dX4_append_0 : decode cX4_append 0 = .ok (.aload_n 0, 1) := by decide +kernel
theorem dX4_append_1 : decode cX4_append 1 = .ok (.getfield 15, 3) := by decide +kernel
theorem dX4_append_4 : decode cX4_append 4 = .ok (.aload_n 0, 1) := by decide +kernel
theorem dX4_append_5 : decode cX4_append 5 = .ok (.getfield 9, 3) := by decide +kernel
theorem dX4_append_8 : decode cX4_append 8 = .ok (.arraylength, 1) := by decide +kernel
theorem dX4_append_9 : decode cX4_append 9 = .ok (.if_icmp .ge 23, 3) := by decide +kernel
theorem dX4_append_12 : decode cX4_append 12 = .ok (.aload_n 0, 1) := by decide +kernel
theorem dX4_append_13 : decode cX4_append 13 = .ok (.getfield 9, 3) := by decide +kernel
theorem dX4_append_16 : decode cX4_append 16 = .ok (.aload_n 0, 1) := by decide +kernel
theorem dX4_append_17 : decode cX4_append 17 = .ok (.getfield 15, 3) := by decide +kernel
theorem dX4_append_20 : decode cX4_append 20 = .ok (.iload_n 1, 1) := by decide +kernel
theorem dX4_append_21 : decode cX4_append 21 = .ok (.iastore, 1) := by decide +kernel
theorem dX4_append_22 : decode cX4_append 22 = .ok (.aload_n 0, 1) := by decide +kernel
theorem dX4_append_23 : decode cX4_append 23 = .ok (.dup, 1) := by decide +kernel
theorem dX4_append_24 : decode cX4_append 24 = .ok (.getfield 15, 3) := by decide +kernel
theorem dX4_append_27 : decode cX4_append 27 = .ok (.iconst 1, 1) := by decide +kernel
theorem dX4_append_28 : decode cX4_append 28 = .ok (.iadd, 1) := by decide +kernel
theorem dX4_append_29 : decode cX4_append 29 = .ok (.putfield 15, 3) := by decide +kernel
theorem dX4_append_32 : decode cX4_append 32 = .ok (.return_, 1) := by decide +kernel
theorem dX4_clear_0 : decode cX4_clear 0 = .ok (.aload_n 0, 1) := by decide +kernel
theorem dX4_clear_1 : decode cX4_clear 1 = .ok (.iconst 0, 1) := by decide +kernel
theorem dX4_clear_2 : decode cX4_clear 2 = .ok (.putfield 15, 3) := by decide +kernel
theorem dX4_clear_5 : decode cX4_clear 5 = .ok (.return_, 1) := by decide +kernel
theorem dX4_firstFault_0 : decode cX4_firstFault 0 = .ok (.aload_n 0, 1) := by decide +kernel
theorem dX4_firstFault_1 : decode cX4_firstFault 1 = .ok (.iconst 0, 1) := by decide +kernel
theorem dX4_firstFault_2 : decode cX4_firstFault 2 = .ok (.putfield 19, 3) := by decide +kernel
theorem dX4_firstFault_5 : decode cX4_firstFault 5 = .ok (.aload_n 0, 1) := by decide +kernel
theorem dX4_firstFault_6 : decode cX4_firstFault 6 = .ok (.iconst 0, 1) := by decide +kernel
theorem dX4_firstFault_7 : decode cX4_firstFault 7 = .ok (.putfield 22, 3) := by decide +kernel
theorem dX4_firstFault_10 : decode cX4_firstFault 10 = .ok (.aload_n 0, 1) := by decide +kernel
theorem dX4_firstFault_11 : decode cX4_firstFault 11 = .ok (.iconst 0, 1) := by decide +kernel
theorem dX4_firstFault_12 : decode cX4_firstFault 12 = .ok (.putfield 25, 3) := by decide +kernel
theorem dX4_firstFault_15 : decode cX4_firstFault 15 = .ok (.iconst 0, 1) := by decide +kernel
theorem dX4_firstFault_16 : decode cX4_firstFault 16 = .ok (.istore_n 1, 1) := by decide +kernel
theorem dX4_firstFault_17 : decode cX4_firstFault 17 = .ok (.iload_n 1, 1) := by decide +kernel
theorem dX4_firstFault_18 : decode cX4_firstFault 18 = .ok (.aload_n 0, 1) := by decide +kernel
theorem dX4_firstFault_19 : decode cX4_firstFault 19 = .ok (.getfield 15, 3) := by decide +kernel
theorem dX4_firstFault_22 : decode cX4_firstFault 22 = .ok (.if_icmp .ge 24, 3) := by decide +kernel
theorem dX4_firstFault_25 : decode cX4_firstFault 25 = .ok (.aload_n 0, 1) := by decide +kernel
theorem dX4_firstFault_26 : decode cX4_firstFault 26 = .ok (.aload_n 0, 1) := by decide +kernel
theorem dX4_firstFault_27 : decode cX4_firstFault 27 = .ok (.getfield 9, 3) := by decide +kernel
theorem dX4_firstFault_30 : decode cX4_firstFault 30 = .ok (.iload_n 1, 1) := by decide +kernel
theorem dX4_firstFault_31 : decode cX4_firstFault 31 = .ok (.iaload, 1) := by decide +kernel
theorem dX4_firstFault_32 : decode cX4_firstFault 32 = .ok (.invokevirtual 28, 3) := by decide +kernel
theorem dX4_firstFault_35 : decode cX4_firstFault 35 = .ok (.ifCond .ne 5, 3) := by decide +kernel
theorem dX4_firstFault_38 : decode cX4_firstFault 38 = .ok (.iload_n 1, 1) := by decide +kernel
theorem dX4_firstFault_39 : decode cX4_firstFault 39 = .ok (.ireturn, 1) := by decide +kernel
theorem dX4_firstFault_40 : decode cX4_firstFault 40 = .ok (.iinc 1 1, 3) := by decide +kernel
theorem dX4_firstFault_43 : decode cX4_firstFault 43 = .ok (.goto (-26), 3) := by decide +kernel
theorem dX4_firstFault_46 : decode cX4_firstFault 46 = .ok (.aload_n 0, 1) := by decide +kernel
theorem dX4_firstFault_47 : decode cX4_firstFault 47 = .ok (.getfield 15, 3) := by decide +kernel
theorem dX4_firstFault_50 : decode cX4_firstFault 50 = .ok (.ireturn, 1) := by decide +kernel
theorem dX4_isSegment_0 : decode cX4_isSegment 0 = .ok (.aload_n 0, 1) := by decide +kernel
theorem dX4_isSegment_1 : decode cX4_isSegment 1 = .ok (.invokevirtual 32, 3) := by decide +kernel
theorem dX4_isSegment_4 : decode cX4_isSegment 4 = .ok (.aload_n 0, 1) := by decide +kernel
theorem dX4_isSegment_5 : decode cX4_isSegment 5 = .ok (.getfield 15, 3) := by decide +kernel
theorem dX4_isSegment_8 : decode cX4_isSegment 8 = .ok (.if_icmp .ne 23, 3) := by decide +kernel
theorem dX4_isSegment_11 : decode cX4_isSegment 11 = .ok (.aload_n 0, 1) := by decide +kernel
theorem dX4_isSegment_12 : decode cX4_isSegment 12 = .ok (.getfield 19, 3) := by decide +kernel
theorem dX4_isSegment_15 : decode cX4_isSegment 15 = .ok (.iconst 1, 1) := by decide +kernel
theorem dX4_isSegment_16 : decode cX4_isSegment 16 = .ok (.if_icmp .eq 11, 3) := by decide +kernel
theorem dX4_isSegment_19 : decode cX4_isSegment 19 = .ok (.aload_n 0, 1) := by decide +kernel
theorem dX4_isSegment_20 : decode cX4_isSegment 20 = .ok (.getfield 19, 3) := by decide +kernel
theorem dX4_isSegment_23 : decode cX4_isSegment 23 = .ok (.iconst 4, 1) := by decide +kernel
theorem dX4_isSegment_24 : decode cX4_isSegment 24 = .ok (.if_icmp .ne 7, 3) := by decide +kernel
theorem dX4_isSegment_27 : decode cX4_isSegment 27 = .ok (.iconst 1, 1) := by decide +kernel
theorem dX4_isSegment_28 : decode cX4_isSegment 28 = .ok (.goto 4, 3) := by decide +kernel
theorem dX4_isSegment_31 : decode cX4_isSegment 31 = .ok (.iconst 0, 1) := by decide +kernel
theorem dX4_isSegment_32 : decode cX4_isSegment 32 = .ok (.ireturn, 1) := by decide +kernel
theorem dX4_goesOn_0 : decode cX4_goesOn 0 = .ok (.aload_n 0, 1) := by decide +kernel
theorem dX4_goesOn_1 : decode cX4_goesOn 1 = .ok (.getfield 19, 3) := by decide +kernel
theorem dX4_goesOn_4 : decode cX4_goesOn 4 = .ok (.tableswitch 98 0 3 #[32, 38, 58, 81], 32) := by decide +kernel
theorem dX4_goesOn_36 : decode cX4_goesOn 36 = .ok (.aload_n 0, 1) := by decide +kernel
theorem dX4_goesOn_37 : decode cX4_goesOn 37 = .ok (.iload_n 1, 1) := by decide +kernel
theorem dX4_goesOn_38 : decode cX4_goesOn 38 = .ok (.invokevirtual 36, 3) := by decide +kernel
theorem dX4_goesOn_41 : decode cX4_goesOn 41 = .ok (.ireturn, 1) := by decide +kernel
theorem dX4_goesOn_42 : decode cX4_goesOn 42 = .ok (.iload_n 1, 1) := by decide +kernel
theorem dX4_goesOn_43 : decode cX4_goesOn 43 = .ok (.invokestatic 39, 3) := by decide +kernel
theorem dX4_goesOn_46 : decode cX4_goesOn 46 = .ok (.ifCond .eq 10, 3) := by decide +kernel
theorem dX4_goesOn_49 : decode cX4_goesOn 49 = .ok (.aload_n 0, 1) := by decide +kernel
theorem dX4_goesOn_50 : decode cX4_goesOn 50 = .ok (.invokevirtual 42, 3) := by decide +kernel
theorem dX4_goesOn_53 : decode cX4_goesOn 53 = .ok (.goto 8, 3) := by decide +kernel
theorem dX4_goesOn_56 : decode cX4_goesOn 56 = .ok (.aload_n 0, 1) := by decide +kernel
theorem dX4_goesOn_57 : decode cX4_goesOn 57 = .ok (.iload_n 1, 1) := by decide +kernel
theorem dX4_goesOn_58 : decode cX4_goesOn 58 = .ok (.invokevirtual 46, 3) := by decide +kernel
theorem dX4_goesOn_61 : decode cX4_goesOn 61 = .ok (.ireturn, 1) := by decide +kernel
theorem dX4_goesOn_62 : decode cX4_goesOn 62 = .ok (.aload_n 0, 1) := by decide +kernel
theorem dX4_goesOn_63 : decode cX4_goesOn 63 = .ok (.iconst 3, 1) := by decide +kernel
theorem dX4_goesOn_64 : decode cX4_goesOn 64 = .ok (.putfield 19, 3) := by decide +kernel
theorem dX4_goesOn_67 : decode cX4_goesOn 67 = .ok (.iload_n 1, 1) := by decide +kernel
theorem dX4_goesOn_68 : decode cX4_goesOn 68 = .ok (.bipush 49, 2) := by decide +kernel
theorem dX4_goesOn_70 : decode cX4_goesOn 70 = .ok (.if_icmp .lt 13, 3) := by decide +kernel
theorem dX4_goesOn_73 : decode cX4_goesOn 73 = .ok (.iload_n 1, 1) := by decide +kernel
theorem dX4_goesOn_74 : decode cX4_goesOn 74 = .ok (.bipush 57, 2) := by decide +kernel
theorem dX4_goesOn_76 : decode cX4_goesOn 76 = .ok (.if_icmp .gt 7, 3) := by decide +kernel
theorem dX4_goesOn_79 : decode cX4_goesOn 79 = .ok (.iconst 1, 1) := by decide +kernel
theorem dX4_goesOn_80 : decode cX4_goesOn 80 = .ok (.goto 4, 3) := by decide +kernel
theorem dX4_goesOn_83 : decode cX4_goesOn 83 = .ok (.iconst 0, 1) := by decide +kernel
theorem dX4_goesOn_84 : decode cX4_goesOn 84 = .ok (.ireturn, 1) := by decide +kernel
theorem dX4_goesOn_85 : decode cX4_goesOn 85 = .ok (.aload_n 0, 1) := by decide +kernel
theorem dX4_goesOn_86 : decode cX4_goesOn 86 = .ok (.iconst 4, 1) := by decide +kernel
theorem dX4_goesOn_87 : decode cX4_goesOn 87 = .ok (.putfield 19, 3) := by decide +kernel
theorem dX4_goesOn_90 : decode cX4_goesOn 90 = .ok (.iload_n 1, 1) := by decide +kernel
theorem dX4_goesOn_91 : decode cX4_goesOn 91 = .ok (.bipush 93, 2) := by decide +kernel
theorem dX4_goesOn_93 : decode cX4_goesOn 93 = .ok (.if_icmp .ne 7, 3) := by decide +kernel
theorem dX4_goesOn_96 : decode cX4_goesOn 96 = .ok (.iconst 1, 1) := by decide +kernel
theorem dX4_goesOn_97 : decode cX4_goesOn 97 = .ok (.goto 4, 3) := by decide +kernel
theorem dX4_goesOn_100 : decode cX4_goesOn 100 = .ok (.iconst 0, 1) := by decide +kernel
theorem dX4_goesOn_101 : decode cX4_goesOn 101 = .ok (.ireturn, 1) := by decide +kernel
theorem dX4_goesOn_102 : decode cX4_goesOn 102 = .ok (.aload_n 0, 1) := by decide +kernel
theorem dX4_goesOn_103 : decode cX4_goesOn 103 = .ok (.iload_n 1, 1) := by decide +kernel
theorem dX4_goesOn_104 : decode cX4_goesOn 104 = .ok (.invokevirtual 46, 3) := by decide +kernel
theorem dX4_goesOn_107 : decode cX4_goesOn 107 = .ok (.ireturn, 1) := by decide +kernel
theorem dX4_beginsSign_0 : decode cX4_beginsSign 0 = .ok (.aload_n 0, 1) := by decide +kernel
theorem dX4_beginsSign_1 : decode cX4_beginsSign 1 = .ok (.dup, 1) := by decide +kernel
theorem dX4_beginsSign_2 : decode cX4_beginsSign 2 = .ok (.getfield 22, 3) := by decide +kernel
theorem dX4_beginsSign_5 : decode cX4_beginsSign 5 = .ok (.iconst 1, 1) := by decide +kernel
theorem dX4_beginsSign_6 : decode cX4_beginsSign 6 = .ok (.iadd, 1) := by decide +kernel
theorem dX4_beginsSign_7 : decode cX4_beginsSign 7 = .ok (.putfield 22, 3) := by decide +kernel
theorem dX4_beginsSign_10 : decode cX4_beginsSign 10 = .ok (.aload_n 0, 1) := by decide +kernel
theorem dX4_beginsSign_11 : decode cX4_beginsSign 11 = .ok (.iconst 1, 1) := by decide +kernel
theorem dX4_beginsSign_12 : decode cX4_beginsSign 12 = .ok (.putfield 25, 3) := by decide +kernel
theorem dX4_beginsSign_15 : decode cX4_beginsSign 15 = .ok (.aload_n 0, 1) := by decide +kernel
theorem dX4_beginsSign_16 : decode cX4_beginsSign 16 = .ok (.iload_n 1, 1) := by decide +kernel
theorem dX4_beginsSign_17 : decode cX4_beginsSign 17 = .ok (.bipush 91, 2) := by decide +kernel
theorem dX4_beginsSign_19 : decode cX4_beginsSign 19 = .ok (.if_icmp .ne 7, 3) := by decide +kernel
theorem dX4_beginsSign_22 : decode cX4_beginsSign 22 = .ok (.iconst 2, 1) := by decide +kernel
theorem dX4_beginsSign_23 : decode cX4_beginsSign 23 = .ok (.goto 4, 3) := by decide +kernel
theorem dX4_beginsSign_26 : decode cX4_beginsSign 26 = .ok (.iconst 1, 1) := by decide +kernel
theorem dX4_beginsSign_27 : decode cX4_beginsSign 27 = .ok (.putfield 19, 3) := by decide +kernel
theorem dX4_beginsSign_30 : decode cX4_beginsSign 30 = .ok (.iload_n 1, 1) := by decide +kernel
theorem dX4_beginsSign_31 : decode cX4_beginsSign 31 = .ok (.bipush 91, 2) := by decide +kernel
theorem dX4_beginsSign_33 : decode cX4_beginsSign 33 = .ok (.if_icmp .eq 10, 3) := by decide +kernel
theorem dX4_beginsSign_36 : decode cX4_beginsSign 36 = .ok (.iload_n 1, 1) := by decide +kernel
theorem dX4_beginsSign_37 : decode cX4_beginsSign 37 = .ok (.invokestatic 39, 3) := by decide +kernel
theorem dX4_beginsSign_40 : decode cX4_beginsSign 40 = .ok (.ifCond .eq 7, 3) := by decide +kernel
theorem dX4_beginsSign_43 : decode cX4_beginsSign 43 = .ok (.iconst 1, 1) := by decide +kernel
theorem dX4_beginsSign_44 : decode cX4_beginsSign 44 = .ok (.goto 4, 3) := by decide +kernel
theorem dX4_beginsSign_47 : decode cX4_beginsSign 47 = .ok (.iconst 0, 1) := by decide +kernel
theorem dX4_beginsSign_48 : decode cX4_beginsSign 48 = .ok (.ireturn, 1) := by decide +kernel
theorem dX4_lengthensWord_0 : decode cX4_lengthensWord 0 = .ok (.aload_n 0, 1) := by decide +kernel
theorem dX4_lengthensWord_1 : decode cX4_lengthensWord 1 = .ok (.dup, 1) := by decide +kernel
theorem dX4_lengthensWord_2 : decode cX4_lengthensWord 2 = .ok (.getfield 25, 3) := by decide +kernel
theorem dX4_lengthensWord_5 : decode cX4_lengthensWord 5 = .ok (.iconst 1, 1) := by decide +kernel
theorem dX4_lengthensWord_6 : decode cX4_lengthensWord 6 = .ok (.iadd, 1) := by decide +kernel
theorem dX4_lengthensWord_7 : decode cX4_lengthensWord 7 = .ok (.putfield 25, 3) := by decide +kernel
theorem dX4_lengthensWord_10 : decode cX4_lengthensWord 10 = .ok (.aload_n 0, 1) := by decide +kernel
theorem dX4_lengthensWord_11 : decode cX4_lengthensWord 11 = .ok (.getfield 25, 3) := by decide +kernel
theorem dX4_lengthensWord_14 : decode cX4_lengthensWord 14 = .ok (.bipush 12, 2) := by decide +kernel
theorem dX4_lengthensWord_16 : decode cX4_lengthensWord 16 = .ok (.if_icmp .gt 7, 3) := by decide +kernel
theorem dX4_lengthensWord_19 : decode cX4_lengthensWord 19 = .ok (.iconst 1, 1) := by decide +kernel
theorem dX4_lengthensWord_20 : decode cX4_lengthensWord 20 = .ok (.goto 4, 3) := by decide +kernel
theorem dX4_lengthensWord_23 : decode cX4_lengthensWord 23 = .ok (.iconst 0, 1) := by decide +kernel
theorem dX4_lengthensWord_24 : decode cX4_lengthensWord 24 = .ok (.ireturn, 1) := by decide +kernel
theorem dX4_endsSign_0 : decode cX4_endsSign 0 = .ok (.aload_n 0, 1) := by decide +kernel
theorem dX4_endsSign_1 : decode cX4_endsSign 1 = .ok (.iconst 0, 1) := by decide +kernel
theorem dX4_endsSign_2 : decode cX4_endsSign 2 = .ok (.putfield 19, 3) := by decide +kernel
theorem dX4_endsSign_5 : decode cX4_endsSign 5 = .ok (.iload_n 1, 1) := by decide +kernel
theorem dX4_endsSign_6 : decode cX4_endsSign 6 = .ok (.bipush 32, 2) := by decide +kernel
theorem dX4_endsSign_8 : decode cX4_endsSign 8 = .ok (.if_icmp .ne 16, 3) := by decide +kernel
theorem dX4_endsSign_11 : decode cX4_endsSign 11 = .ok (.aload_n 0, 1) := by decide +kernel
theorem dX4_endsSign_12 : decode cX4_endsSign 12 = .ok (.getfield 22, 3) := by decide +kernel
theorem dX4_endsSign_15 : decode cX4_endsSign 15 = .ok (.bipush 8, 2) := by decide +kernel
theorem dX4_endsSign_17 : decode cX4_endsSign 17 = .ok (.if_icmp .ge 7, 3) := by decide +kernel
theorem dX4_endsSign_20 : decode cX4_endsSign 20 = .ok (.iconst 1, 1) := by decide +kernel
theorem dX4_endsSign_21 : decode cX4_endsSign 21 = .ok (.goto 4, 3) := by decide +kernel
theorem dX4_endsSign_24 : decode cX4_endsSign 24 = .ok (.iconst 0, 1) := by decide +kernel
theorem dX4_endsSign_25 : decode cX4_endsSign 25 = .ok (.ireturn, 1) := by decide +kernel
