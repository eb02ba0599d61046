theorem dX8_gram_56 : decode cX8_gram 56 = .ok (.istore 5, 2) := by decide +kernel
theorem dX8_gram_58 : decode cX8_gram 58 = .ok (.iload 5, 2) := by decide +kernel
theorem dX8_gram_60 : decode cX8_gram 60 = .ok (.aload_n 0, 1) := by decide +kernel
theorem dX8_gram_61 : decode cX8_gram 61 = .ok (.getfield 107, 3) := by decide +kernel
theorem dX8_gram_64 : decode cX8_gram 64 = .ok (.if_icmp .ge 45, 3) := by decide +kernel
theorem dX8_gram_67 : decode cX8_gram 67 = .ok (.aload_n 0, 1) := by decide +kernel
theorem dX8_gram_68 : decode cX8_gram 68 = .ok (.iload 5, 2) := by decide +kernel
theorem dX8_gram_70 : decode cX8_gram 70 = .ok (.invokevirtual 179, 3) := by decide +kernel
theorem dX8_gram_73 : decode cX8_gram 73 = .ok (.iload 4, 2) := by decide +kernel
theorem dX8_gram_75 : decode cX8_gram 75 = .ok (.aload_n 0, 1) := by decide +kernel
theorem dX8_gram_76 : decode cX8_gram 76 = .ok (.getfield 56, 3) := by decide +kernel
theorem dX8_gram_79 : decode cX8_gram 79 = .ok (.bipush 28, 2) := by decide +kernel
theorem dX8_gram_81 : decode cX8_gram 81 = .ok (.iload_n 1, 1) := by decide +kernel
theorem dX8_gram_82 : decode cX8_gram 82 = .ok (.invokestatic 173, 3) := by decide +kernel
theorem dX8_gram_85 : decode cX8_gram 85 = .ok (.imul, 1) := by decide +kernel
theorem dX8_gram_86 : decode cX8_gram 86 = .ok (.iload_n 2, 1) := by decide +kernel
theorem dX8_gram_87 : decode cX8_gram 87 = .ok (.invokestatic 173, 3) := by decide +kernel
theorem dX8_gram_90 : decode cX8_gram 90 = .ok (.iadd, 1) := by decide +kernel
theorem dX8_gram_91 : decode cX8_gram 91 = .ok (.iaload, 1) := by decide +kernel
theorem dX8_gram_92 : decode cX8_gram 92 = .ok (.ifCond .le 7, 3) := by decide +kernel
theorem dX8_gram_95 : decode cX8_gram 95 = .ok (.iconst 1, 1) := by decide +kernel
theorem dX8_gram_96 : decode cX8_gram 96 = .ok (.goto 4, 3) := by decide +kernel
theorem dX8_gram_99 : decode cX8_gram 99 = .ok (.iconst 0, 1) := by decide +kernel
theorem dX8_gram_100 : decode cX8_gram 100 = .ok (.iadd, 1) := by decide +kernel
theorem dX8_gram_101 : decode cX8_gram 101 = .ok (.istore 4, 2) := by decide +kernel
theorem dX8_gram_103 : decode cX8_gram 103 = .ok (.iinc 5 1, 3) := by decide +kernel
theorem dX8_gram_106 : decode cX8_gram 106 = .ok (.goto (-48), 3) := by decide +kernel
theorem dX8_gram_109 : decode cX8_gram 109 = .ok (.iload 4, 2) := by decide +kernel
theorem dX8_gram_111 : decode cX8_gram 111 = .ok (.ireturn, 1) := by decide +kernel
theorem dX8_roomOf_0 : decode cX8_roomOf 0 = .ok (.sipush 1000, 3) := by decide +kernel
theorem dX8_roomOf_3 : decode cX8_roomOf 3 = .ok (.aload_n 0, 1) := by decide +kernel
theorem dX8_roomOf_4 : decode cX8_roomOf 4 = .ok (.getfield 32, 3) := by decide +kernel
theorem dX8_roomOf_7 : decode cX8_roomOf 7 = .ok (.isub, 1) := by decide +kernel
theorem dX8_roomOf_8 : decode cX8_roomOf 8 = .ok (.aload_n 0, 1) := by decide +kernel
theorem dX8_roomOf_9 : decode cX8_roomOf 9 = .ok (.iload_n 1, 1) := by decide +kernel
theorem dX8_roomOf_10 : decode cX8_roomOf 10 = .ok (.bipush 12, 2) := by decide +kernel
theorem dX8_roomOf_12 : decode cX8_roomOf 12 = .ok (.invokevirtual 167, 3) := by decide +kernel
theorem dX8_roomOf_15 : decode cX8_roomOf 15 = .ok (.imul, 1) := by decide +kernel
theorem dX8_roomOf_16 : decode cX8_roomOf 16 = .ok (.sipush 1000, 3) := by decide +kernel
theorem dX8_roomOf_19 : decode cX8_roomOf 19 = .ok (.idiv, 1) := by decide +kernel
theorem dX8_roomOf_20 : decode cX8_roomOf 20 = .ok (.ireturn, 1) := by decide +kernel
theorem dX8_size_0 : decode cX8_size 0 = .ok (.iload_n 0, 1) := by decide +kernel
theorem dX8_size_1 : decode cX8_size 1 = .ok (.ifCond .ge 8, 3) := by decide +kernel
theorem dX8_size_4 : decode cX8_size 4 = .ok (.iload_n 0, 1) := by decide +kernel
theorem dX8_size_5 : decode cX8_size 5 = .ok (.ineg, 1) := by decide +kernel
theorem dX8_size_6 : decode cX8_size 6 = .ok (.goto 4, 3) := by decide +kernel
theorem dX8_size_9 : decode cX8_size 9 = .ok (.iload_n 0, 1) := by decide +kernel
theorem dX8_size_10 : decode cX8_size 10 = .ok (.ireturn, 1) := by decide +kernel
theorem dX8_canByLengths_0 : decode cX8_canByLengths 0 = .ok (.aload_n 0, 1) := by decide +kernel
theorem dX8_canByLengths_1 : decode cX8_canByLengths 1 = .ok (.iload_n 1, 1) := by decide +kernel
theorem dX8_canByLengths_2 : decode cX8_canByLengths 2 = .ok (.invokevirtual 183, 3) := by decide +kernel
theorem dX8_canByLengths_5 : decode cX8_canByLengths 5 = .ok (.aload_n 0, 1) := by decide +kernel
theorem dX8_canByLengths_6 : decode cX8_canByLengths 6 = .ok (.bipush 12, 2) := by decide +kernel
theorem dX8_canByLengths_8 : decode cX8_canByLengths 8 = .ok (.invokevirtual 183, 3) := by decide +kernel
theorem dX8_canByLengths_11 : decode cX8_canByLengths 11 = .ok (.isub, 1) := by decide +kernel
theorem dX8_canByLengths_12 : decode cX8_canByLengths 12 = .ok (.invokestatic 220, 3) := by decide +kernel
theorem dX8_canByLengths_15 : decode cX8_canByLengths 15 = .ok (.istore_n 2, 1) := by decide +kernel
theorem dX8_canByLengths_16 : decode cX8_canByLengths 16 = .ok (.aload_n 0, 1) := by decide +kernel
theorem dX8_canByLengths_17 : decode cX8_canByLengths 17 = .ok (.iload_n 1, 1) := by decide +kernel
theorem dX8_canByLengths_18 : decode cX8_canByLengths 18 = .ok (.invokevirtual 186, 3) := by decide +kernel
theorem dX8_canByLengths_21 : decode cX8_canByLengths 21 = .ok (.aload_n 0, 1) := by decide +kernel
theorem dX8_canByLengths_22 : decode cX8_canByLengths 22 = .ok (.bipush 12, 2) := by decide +kernel
theorem dX8_canByLengths_24 : decode cX8_canByLengths 24 = .ok (.invokevirtual 186, 3) := by decide +kernel
theorem dX8_canByLengths_27 : decode cX8_canByLengths 27 = .ok (.isub, 1) := by decide +kernel
theorem dX8_canByLengths_28 : decode cX8_canByLengths 28 = .ok (.invokestatic 220, 3) := by decide +kernel
theorem dX8_canByLengths_31 : decode cX8_canByLengths 31 = .ok (.istore_n 3, 1) := by decide +kernel
theorem dX8_canByLengths_32 : decode cX8_canByLengths 32 = .ok (.bipush 10, 2) := by decide +kernel
theorem dX8_canByLengths_34 : decode cX8_canByLengths 34 = .ok (.iload_n 2, 1) := by decide +kernel
theorem dX8_canByLengths_35 : decode cX8_canByLengths 35 = .ok (.imul, 1) := by decide +kernel
theorem dX8_canByLengths_36 : decode cX8_canByLengths 36 = .ok (.aload_n 0, 1) := by decide +kernel
theorem dX8_canByLengths_37 : decode cX8_canByLengths 37 = .ok (.getfield 28, 3) := by decide +kernel
theorem dX8_canByLengths_40 : decode cX8_canByLengths 40 = .ok (.iload_n 3, 1) := by decide +kernel
theorem dX8_canByLengths_41 : decode cX8_canByLengths 41 = .ok (.imul, 1) := by decide +kernel
theorem dX8_canByLengths_42 : decode cX8_canByLengths 42 = .ok (.iadd, 1) := by decide +kernel
theorem dX8_canByLengths_43 : decode cX8_canByLengths 43 = .ok (.aload_n 0, 1) := by decide +kernel
theorem dX8_canByLengths_44 : decode cX8_canByLengths 44 = .ok (.iload_n 1, 1) := by decide +kernel
theorem dX8_canByLengths_45 : decode cX8_canByLengths 45 = .ok (.invokevirtual 223, 3) := by decide +kernel
theorem dX8_canByLengths_48 : decode cX8_canByLengths 48 = .ok (.if_icmp .gt 7, 3) := by decide +kernel
theorem dX8_canByLengths_51 : decode cX8_canByLengths 51 = .ok (.iconst 1, 1) := by decide +kernel
theorem dX8_canByLengths_52 : decode cX8_canByLengths 52 = .ok (.goto 4, 3) := by decide +kernel
theorem dX8_canByLengths_55 : decode cX8_canByLengths 55 = .ok (.iconst 0, 1) := by decide +kernel
theorem dX8_canByLengths_56 : decode cX8_canByLengths 56 = .ok (.ireturn, 1) := by decide +kernel
theorem dX8_canByGrams_0 : decode cX8_canByGrams 0 = .ok (.aload_n 0, 1) := by decide +kernel
theorem dX8_canByGrams_1 : decode cX8_canByGrams 1 = .ok (.iload_n 1, 1) := by decide +kernel
theorem dX8_canByGrams_2 : decode cX8_canByGrams 2 = .ok (.invokevirtual 189, 3) := by decide +kernel
theorem dX8_canByGrams_5 : decode cX8_canByGrams 5 = .ok (.istore_n 2, 1) := by decide +kernel
theorem dX8_canByGrams_6 : decode cX8_canByGrams 6 = .ok (.aload_n 0, 1) := by decide +kernel
theorem dX8_canByGrams_7 : decode cX8_canByGrams 7 = .ok (.bipush 12, 2) := by decide +kernel
theorem dX8_canByGrams_9 : decode cX8_canByGrams 9 = .ok (.invokevirtual 189, 3) := by decide +kernel
theorem dX8_canByGrams_12 : decode cX8_canByGrams 12 = .ok (.istore_n 3, 1) := by decide +kernel
theorem dX8_canByGrams_13 : decode cX8_canByGrams 13 = .ok (.iconst 5, 1) := by decide +kernel
theorem dX8_canByGrams_14 : decode cX8_canByGrams 14 = .ok (.iload_n 2, 1) := by decide +kernel
theorem dX8_canByGrams_15 : decode cX8_canByGrams 15 = .ok (.iload_n 3, 1) := by decide +kernel
theorem dX8_canByGrams_16 : decode cX8_canByGrams 16 = .ok (.if_icmp .le 7, 3) := by decide +kernel
theorem dX8_canByGrams_19 : decode cX8_canByGrams 19 = .ok (.iload_n 2, 1) := by decide +kernel
theorem dX8_canByGrams_20 : decode cX8_canByGrams 20 = .ok (.goto 4, 3) := by decide +kernel
theorem dX8_canByGrams_23 : decode cX8_canByGrams 23 = .ok (.iload_n 3, 1) := by decide +kernel
theorem dX8_canByGrams_24 : decode cX8_canByGrams 24 = .ok (.aload_n 0, 1) := by decide +kernel
theorem dX8_canByGrams_25 : decode cX8_canByGrams 25 = .ok (.iload_n 1, 1) := by decide +kernel
theorem dX8_canByGrams_26 : decode cX8_canByGrams 26 = .ok (.bipush 12, 2) := by decide +kernel
theorem dX8_canByGrams_28 : decode cX8_canByGrams 28 = .ok (.invokevirtual 207, 3) := by decide +kernel
theorem dX8_canByGrams_31 : decode cX8_canByGrams 31 = .ok (.isub, 1) := by decide +kernel
theorem dX8_canByGrams_32 : decode cX8_canByGrams 32 = .ok (.imul, 1) := by decide +kernel
theorem dX8_canByGrams_33 : decode cX8_canByGrams 33 = .ok (.bipush 12, 2) := by decide +kernel
theorem dX8_canByGrams_35 : decode cX8_canByGrams 35 = .ok (.aload_n 0, 1) := by decide +kernel
theorem dX8_canByGrams_36 : decode cX8_canByGrams 36 = .ok (.iload_n 1, 1) := by decide +kernel
theorem dX8_canByGrams_37 : decode cX8_canByGrams 37 = .ok (.invokevirtual 223, 3) := by decide +kernel
theorem dX8_canByGrams_40 : decode cX8_canByGrams 40 = .ok (.imul, 1) := by decide +kernel
theorem dX8_canByGrams_41 : decode cX8_canByGrams 41 = .ok (.if_icmp .gt 7, 3) := by decide +kernel
theorem dX8_canByGrams_44 : decode cX8_canByGrams 44 = .ok (.iconst 1, 1) := by decide +kernel
theorem dX8_canByGrams_45 : decode cX8_canByGrams 45 = .ok (.goto 4, 3) := by decide +kernel
theorem dX8_canByGrams_48 : decode cX8_canByGrams 48 = .ok (.iconst 0, 1) := by decide +kernel
theorem dX8_canByGrams_49 : decode cX8_canByGrams 49 = .ok (.ireturn, 1) := by decide +kernel
theorem dX8_isMatch_0 : decode cX8_isMatch 0 = .ok (.aload_n 0, 1) := by decide +kernel
theorem dX8_isMatch_1 : decode cX8_isMatch 1 = .ok (.iload_n 1, 1) := by decide +kernel
theorem dX8_isMatch_2 : decode cX8_isMatch 2 = .ok (.bipush 12, 2) := by decide +kernel
theorem dX8_isMatch_4 : decode cX8_isMatch 4 = .ok (.invokevirtual 204, 3) := by decide +kernel
theorem dX8_isMatch_7 : decode cX8_isMatch 7 = .ok (.aload_n 0, 1) := by decide +kernel
theorem dX8_isMatch_8 : decode cX8_isMatch 8 = .ok (.getfield 32, 3) := by decide +kernel
theorem dX8_isMatch_11 : decode cX8_isMatch 11 = .ok (.if_icmp .lt 7, 3) := by decide +kernel
theorem dX8_isMatch_14 : decode cX8_isMatch 14 = .ok (.iconst 1, 1) := by decide +kernel
theorem dX8_isMatch_15 : decode cX8_isMatch 15 = .ok (.goto 4, 3) := by decide +kernel
theorem dX8_isMatch_18 : decode cX8_isMatch 18 = .ok (.iconst 0, 1) := by decide +kernel
theorem dX8_isMatch_19 : decode cX8_isMatch 19 = .ok (.ireturn, 1) := by decide +kernel
theorem dX8_tagSteps_0 : decode cX8_tagSteps 0 = .ok (.aload_n 0, 1) := by decide +kernel
theorem dX8_tagSteps_1 : decode cX8_tagSteps 1 = .ok (.iload_n 1, 1) := by decide +kernel
theorem dX8_tagSteps_2 : decode cX8_tagSteps 2 = .ok (.bipush 12, 2) := by decide +kernel
theorem dX8_tagSteps_4 : decode cX8_tagSteps 4 = .ok (.invokevirtual 201, 3) := by decide +kernel
theorem dX8_tagSteps_7 : decode cX8_tagSteps 7 = .ok (.iconst 0, 1) := by decide +kernel
theorem dX8_tagSteps_8 : decode cX8_tagSteps 8 = .ok (.istore_n 2, 1) := by decide +kernel
theorem dX8_tagSteps_9 : decode cX8_tagSteps 9 = .ok (.iconst 0, 1) := by decide +kernel
theorem dX8_tagSteps_10 : decode cX8_tagSteps 10 = .ok (.istore_n 3, 1) := by decide +kernel
theorem dX8_tagSteps_11 : decode cX8_tagSteps 11 = .ok (.iload_n 3, 1) := by decide +kernel
theorem dX8_tagSteps_12 : decode cX8_tagSteps 12 = .ok (.aload_n 0, 1) := by decide +kernel
theorem dX8_tagSteps_13 : decode cX8_tagSteps 13 = .ok (.getfield 154, 3) := by decide +kernel
theorem dX8_tagSteps_16 : decode cX8_tagSteps 16 = .ok (.if_icmp .ge 70, 3) := by decide +kernel
theorem dX8_tagSteps_19 : decode cX8_tagSteps 19 = .ok (.aload_n 0, 1) := by decide +kernel
theorem dX8_tagSteps_20 : decode cX8_tagSteps 20 = .ok (.getfield 44, 3) := by decide +kernel
theorem dX8_tagSteps_23 : decode cX8_tagSteps 23 = .ok (.iload_n 3, 1) := by decide +kernel
theorem dX8_tagSteps_24 : decode cX8_tagSteps 24 = .ok (.iaload, 1) := by decide +kernel
theorem dX8_tagSteps_25 : decode cX8_tagSteps 25 = .ok (.iconst 2, 1) := by decide +kernel
theorem dX8_tagSteps_26 : decode cX8_tagSteps 26 = .ok (.if_icmp .ne 15, 3) := by decide +kernel
theorem dX8_tagSteps_29 : decode cX8_tagSteps 29 = .ok (.bipush 96, 2) := by decide +kernel
theorem dX8_tagSteps_31 : decode cX8_tagSteps 31 = .ok (.aload_n 0, 1) := by decide +kernel
theorem dX8_tagSteps_32 : decode cX8_tagSteps 32 = .ok (.getfield 53, 3) := by decide +kernel
theorem dX8_tagSteps_35 : decode cX8_tagSteps 35 = .ok (.iload_n 3, 1) := by decide +kernel
theorem dX8_tagSteps_36 : decode cX8_tagSteps 36 = .ok (.iaload, 1) := by decide +kernel
theorem dX8_tagSteps_37 : decode cX8_tagSteps 37 = .ok (.iadd, 1) := by decide +kernel
theorem dX8_tagSteps_38 : decode cX8_tagSteps 38 = .ok (.goto 14, 3) := by decide +kernel
theorem dX8_tagSteps_41 : decode cX8_tagSteps 41 = .ok (.bipush 8, 2) := by decide +kernel
theorem dX8_tagSteps_43 : decode cX8_tagSteps 43 = .ok (.iload_n 1, 1) := by decide +kernel
theorem dX8_tagSteps_44 : decode cX8_tagSteps 44 = .ok (.imul, 1) := by decide +kernel
theorem dX8_tagSteps_45 : decode cX8_tagSteps 45 = .ok (.aload_n 0, 1) := by decide +kernel
theorem dX8_tagSteps_46 : decode cX8_tagSteps 46 = .ok (.getfield 50, 3) := by decide +kernel
theorem dX8_tagSteps_49 : decode cX8_tagSteps 49 = .ok (.iload_n 3, 1) := by decide +kernel
theorem dX8_tagSteps_50 : decode cX8_tagSteps 50 = .ok (.iaload, 1) := by decide +kernel
theorem dX8_tagSteps_51 : decode cX8_tagSteps 51 = .ok (.iadd, 1) := by decide +kernel
theorem dX8_tagSteps_52 : decode cX8_tagSteps 52 = .ok (.istore 4, 2) := by decide +kernel
theorem dX8_tagSteps_54 : decode cX8_tagSteps 54 = .ok (.iload_n 2, 1) := by decide +kernel
theorem dX8_tagSteps_55 : decode cX8_tagSteps 55 = .ok (.aload_n 0, 1) := by decide +kernel
theorem dX8_tagSteps_56 : decode cX8_tagSteps 56 = .ok (.iload 4, 2) := by decide +kernel
theorem dX8_tagSteps_58 : decode cX8_tagSteps 58 = .ok (.invokevirtual 140, 3) := by decide +kernel
theorem dX8_tagSteps_61 : decode cX8_tagSteps 61 = .ok (.ifCond .ne 16, 3) := by decide +kernel
theorem dX8_tagSteps_64 : decode cX8_tagSteps 64 = .ok (.aload_n 0, 1) := by decide +kernel
theorem dX8_tagSteps_65 : decode cX8_tagSteps 65 = .ok (.getfield 47, 3) := by decide +kernel
theorem dX8_tagSteps_68 : decode cX8_tagSteps 68 = .ok (.iload_n 3, 1) := by decide +kernel
theorem dX8_tagSteps_69 : decode cX8_tagSteps 69 = .ok (.iaload, 1) := by decide +kernel
theorem dX8_tagSteps_70 : decode cX8_tagSteps 70 = .ok (.ifCond .le 7, 3) := by decide +kernel
theorem dX8_tagSteps_73 : decode cX8_tagSteps 73 = .ok (.iconst 1, 1) := by decide +kernel
theorem dX8_tagSteps_74 : decode cX8_tagSteps 74 = .ok (.goto 4, 3) := by decide +kernel
theorem dX8_tagSteps_77 : decode cX8_tagSteps 77 = .ok (.iconst 0, 1) := by decide +kernel
theorem dX8_tagSteps_78 : decode cX8_tagSteps 78 = .ok (.iadd, 1) := by decide +kernel
theorem dX8_tagSteps_79 : decode cX8_tagSteps 79 = .ok (.istore_n 2, 1) := by decide +kernel
theorem dX8_tagSteps_80 : decode cX8_tagSteps 80 = .ok (.iinc 3 1, 3) := by decide +kernel
theorem dX8_tagSteps_83 : decode cX8_tagSteps 83 = .ok (.goto (-72), 3) := by decide +kernel
theorem dX8_tagSteps_86 : decode cX8_tagSteps 86 = .ok (.iload_n 2, 1) := by decide +kernel
theorem dX8_tagSteps_87 : decode cX8_tagSteps 87 = .ok (.ireturn, 1) := by decide +kernel
theorem dX8_bit_0 : decode cX8_bit 0 = .ok (.iload_n 0, 1) := by decide +kernel
theorem dX8_bit_1 : decode cX8_bit 1 = .ok (.ifCond .eq 7, 3) := by decide +kernel
theorem dX8_bit_4 : decode cX8_bit 4 = .ok (.iconst 1, 1) := by decide +kernel
theorem dX8_bit_5 : decode cX8_bit 5 = .ok (.goto 4, 3) := by decide +kernel
theorem dX8_bit_8 : decode cX8_bit 8 = .ok (.iconst 0, 1) := by decide +kernel
theorem dX8_bit_9 : decode cX8_bit 9 = .ok (.ireturn, 1) := by decide +kernel
theorem dX8_nearNow_0 : decode cX8_nearNow 0 = .ok (.iload_n 2, 1) := by decide +kernel
theorem dX8_nearNow_1 : decode cX8_nearNow 1 = .ok (.tableswitch 74 5 9 #[35, 41, 50, 59, 68], 35) := by decide +kernel
theorem dX8_nearNow_36 : decode cX8_nearNow 36 = .ok (.aload_n 0, 1) := by decide +kernel
theorem dX8_nearNow_37 : decode cX8_nearNow 37 = .ok (.iload_n 1, 1) := by decide +kernel
theorem dX8_nearNow_38 : decode cX8_nearNow 38 = .ok (.invokevirtual 223, 3) := by decide +kernel
theorem dX8_nearNow_41 : decode cX8_nearNow 41 = .ok (.ireturn, 1) := by decide +kernel
theorem dX8_nearNow_42 : decode cX8_nearNow 42 = .ok (.aload_n 0, 1) := by decide +kernel
theorem dX8_nearNow_43 : decode cX8_nearNow 43 = .ok (.iload_n 1, 1) := by decide +kernel
theorem dX8_nearNow_44 : decode cX8_nearNow 44 = .ok (.invokevirtual 226, 3) := by decide +kernel
theorem dX8_nearNow_47 : decode cX8_nearNow 47 = .ok (.invokestatic 229, 3) := by decide +kernel
theorem dX8_nearNow_50 : decode cX8_nearNow 50 = .ok (.ireturn, 1) := by decide +kernel
theorem dX8_nearNow_51 : decode cX8_nearNow 51 = .ok (.aload_n 0, 1) := by decide +kernel
theorem dX8_nearNow_52 : decode cX8_nearNow 52 = .ok (.iload_n 1, 1) := by decide +kernel
theorem dX8_nearNow_53 : decode cX8_nearNow 53 = .ok (.invokevirtual 233, 3) := by decide +kernel
theorem dX8_nearNow_56 : decode cX8_nearNow 56 = .ok (.invokestatic 229, 3) := by decide +kernel
theorem dX8_nearNow_59 : decode cX8_nearNow 59 = .ok (.ireturn, 1) := by decide +kernel
theorem dX8_nearNow_60 : decode cX8_nearNow 60 = .ok (.aload_n 0, 1) := by decide +kernel
theorem dX8_nearNow_61 : decode cX8_nearNow 61 = .ok (.iload_n 1, 1) := by decide +kernel
theorem dX8_nearNow_62 : decode cX8_nearNow 62 = .ok (.invokevirtual 236, 3) := by decide +kernel
theorem dX8_nearNow_65 : decode cX8_nearNow 65 = .ok (.invokestatic 229, 3) := by decide +kernel
theorem dX8_nearNow_68 : decode cX8_nearNow 68 = .ok (.ireturn, 1) := by decide +kernel
theorem dX8_nearNow_69 : decode cX8_nearNow 69 = .ok (.aload_n 0, 1) := by decide +kernel
theorem dX8_nearNow_70 : decode cX8_nearNow 70 = .ok (.iload_n 1, 1) := by decide +kernel
theorem dX8_nearNow_71 : decode cX8_nearNow 71 = .ok (.invokevirtual 239, 3) := by decide +kernel
theorem dX8_nearNow_74 : decode cX8_nearNow 74 = .ok (.ireturn, 1) := by decide +kernel
theorem dX8_nearNow_75 : decode cX8_nearNow 75 = .ok (.aload_n 0, 1) := by decide +kernel
theorem dX8_nearNow_76 : decode cX8_nearNow 76 = .ok (.iload_n 1, 1) := by decide +kernel
theorem dX8_nearNow_77 : decode cX8_nearNow 77 = .ok (.bipush 12, 2) := by decide +kernel
theorem dX8_nearNow_79 : decode cX8_nearNow 79 = .ok (.iload_n 2, 1) := by decide +kernel
theorem dX8_nearNow_80 : decode cX8_nearNow 80 = .ok (.invokevirtual 213, 3) := by decide +kernel
theorem dX8_nearNow_83 : decode cX8_nearNow 83 = .ok (.ireturn, 1) := by decide +kernel
theorem dX8_near_0 : decode cX8_near 0 = .ok (.aload_n 0, 1) := by decide +kernel
theorem dX8_near_1 : decode cX8_near 1 = .ok (.iload_n 1, 1) := by decide +kernel
theorem dX8_near_2 : decode cX8_near 2 = .ok (.invokevirtual 120, 3) := by decide +kernel
theorem dX8_near_5 : decode cX8_near 5 = .ok (.ifCond .ne 7, 3) := by decide +kernel
theorem dX8_near_8 : decode cX8_near 8 = .ok (.sipush (-1001), 3) := by decide +kernel
theorem dX8_near_11 : decode cX8_near 11 = .ok (.ireturn, 1) := by decide +kernel
theorem dX8_near_12 : decode cX8_near 12 = .ok (.iload_n 2, 1) := by decide +kernel
theorem dX8_near_13 : decode cX8_near 13 = .ok (.iconst 0, 1) := by decide +kernel
theorem dX8_near_14 : decode cX8_near 14 = .ok (.bipush 9, 2) := by decide +kernel
theorem dX8_near_16 : decode cX8_near 16 = .ok (.invokestatic 75, 3) := by decide +kernel
theorem dX8_near_19 : decode cX8_near 19 = .ok (.ifCond .ne 7, 3) := by decide +kernel
theorem dX8_near_22 : decode cX8_near 22 = .ok (.sipush (-1002), 3) := by decide +kernel
theorem dX8_near_25 : decode cX8_near 25 = .ok (.ireturn, 1) := by decide +kernel
theorem dX8_near_26 : decode cX8_near 26 = .ok (.aload_n 0, 1) := by decide +kernel
theorem dX8_near_27 : decode cX8_near 27 = .ok (.getfield 126, 3) := by decide +kernel
theorem dX8_near_30 : decode cX8_near 30 = .ok (.ifCond .eq 12, 3) := by decide +kernel
theorem dX8_near_33 : decode cX8_near 33 = .ok (.aload_n 0, 1) := by decide +kernel
theorem dX8_near_34 : decode cX8_near 34 = .ok (.iload_n 1, 1) := by decide +kernel
theorem dX8_near_35 : decode cX8_near 35 = .ok (.iload_n 2, 1) := by decide +kernel
theorem dX8_near_36 : decode cX8_near 36 = .ok (.invokevirtual 242, 3) := by decide +kernel
theorem dX8_near_39 : decode cX8_near 39 = .ok (.goto 6, 3) := by decide +kernel
theorem dX8_near_42 : decode cX8_near 42 = .ok (.sipush (-1003), 3) := by decide +kernel
theorem dX8_near_45 : decode cX8_near 45 = .ok (.ireturn, 1) := by decide +kernel
theorem dX8_step_0 : decode cX8_step 0 = .ok (.aload_n 0, 1) := by decide +kernel
theorem dX8_step_1 : decode cX8_step 1 = .ok (.iload_n 1, 1) := by decide +kernel
theorem dX8_step_2 : decode cX8_step 2 = .ok (.invokevirtual 120, 3) := by decide +kernel
theorem dX8_step_5 : decode cX8_step 5 = .ok (.ifCond .ne 7, 3) := by decide +kernel
theorem dX8_step_8 : decode cX8_step 8 = .ok (.sipush (-1001), 3) := by decide +kernel
theorem dX8_step_11 : decode cX8_step 11 = .ok (.ireturn, 1) := by decide +kernel
theorem dX8_step_12 : decode cX8_step 12 = .ok (.iload_n 3, 1) := by decide +kernel
theorem dX8_step_13 : decode cX8_step 13 = .ok (.iconst 0, 1) := by decide +kernel
theorem dX8_step_14 : decode cX8_step 14 = .ok (.iconst 3, 1) := by decide +kernel
theorem dX8_step_15 : decode cX8_step 15 = .ok (.invokestatic 75, 3) := by decide +kernel
theorem dX8_step_18 : decode cX8_step 18 = .ok (.ifCond .ne 7, 3) := by decide +kernel
theorem dX8_step_21 : decode cX8_step 21 = .ok (.sipush (-1002), 3) := by decide +kernel
theorem dX8_step_24 : decode cX8_step 24 = .ok (.ireturn, 1) := by decide +kernel
theorem dX8_step_25 : decode cX8_step 25 = .ok (.aload_n 0, 1) := by decide +kernel
theorem dX8_step_26 : decode cX8_step 26 = .ok (.getfield 126, 3) := by decide +kernel
theorem dX8_step_29 : decode cX8_step 29 = .ok (.ifCond .ne 7, 3) := by decide +kernel
theorem dX8_step_32 : decode cX8_step 32 = .ok (.sipush (-1003), 3) := by decide +kernel
theorem dX8_step_35 : decode cX8_step 35 = .ok (.ireturn, 1) := by decide +kernel
theorem dX8_step_36 : decode cX8_step 36 = .ok (.aload_n 0, 1) := by decide +kernel
theorem dX8_step_37 : decode cX8_step 37 = .ok (.iload_n 1, 1) := by decide +kernel
theorem dX8_step_38 : decode cX8_step 38 = .ok (.bipush 12, 2) := by decide +kernel
theorem dX8_step_40 : decode cX8_step 40 = .ok (.invokevirtual 201, 3) := by decide +kernel
theorem dX8_step_43 : decode cX8_step 43 = .ok (.iload_n 2, 1) := by decide +kernel
theorem dX8_step_44 : decode cX8_step 44 = .ok (.iconst 0, 1) := by decide +kernel
theorem dX8_step_45 : decode cX8_step 45 = .ok (.aload_n 0, 1) := by decide +kernel
theorem dX8_step_46 : decode cX8_step 46 = .ok (.getfield 154, 3) := by decide +kernel
theorem dX8_step_49 : decode cX8_step 49 = .ok (.iconst 1, 1) := by decide +kernel
theorem dX8_step_50 : decode cX8_step 50 = .ok (.isub, 1) := by decide +kernel
theorem dX8_step_51 : decode cX8_step 51 = .ok (.invokestatic 75, 3) := by decide +kernel
theorem dX8_step_54 : decode cX8_step 54 = .ok (.ifCond .ne 7, 3) := by decide +kernel
theorem dX8_step_57 : decode cX8_step 57 = .ok (.sipush (-1001), 3) := by decide +kernel
theorem dX8_step_60 : decode cX8_step 60 = .ok (.ireturn, 1) := by decide +kernel
theorem dX8_step_61 : decode cX8_step 61 = .ok (.iload_n 3, 1) := by decide +kernel
theorem dX8_step_62 : decode cX8_step 62 = .ok (.ifCond .ne 12, 3) := by decide +kernel
theorem dX8_step_65 : decode cX8_step 65 = .ok (.aload_n 0, 1) := by decide +kernel
theorem dX8_step_66 : decode cX8_step 66 = .ok (.getfield 44, 3) := by decide +kernel
theorem dX8_step_69 : decode cX8_step 69 = .ok (.iload_n 2, 1) := by decide +kernel
theorem dX8_step_70 : decode cX8_step 70 = .ok (.iaload, 1) := by decide +kernel
theorem dX8_step_71 : decode cX8_step 71 = .ok (.goto 37, 3) := by decide +kernel
theorem dX8_step_74 : decode cX8_step 74 = .ok (.iload_n 3, 1) := by decide +kernel
theorem dX8_step_75 : decode cX8_step 75 = .ok (.iconst 1, 1) := by decide +kernel
theorem dX8_step_76 : decode cX8_step 76 = .ok (.if_icmp .ne 12, 3) := by decide +kernel
theorem dX8_step_79 : decode cX8_step 79 = .ok (.aload_n 0, 1) := by decide +kernel
theorem dX8_step_80 : decode cX8_step 80 = .ok (.getfield 47, 3) := by decide +kernel
theorem dX8_step_83 : decode cX8_step 83 = .ok (.iload_n 2, 1) := by decide +kernel
theorem dX8_step_84 : decode cX8_step 84 = .ok (.iaload, 1) := by decide +kernel
theorem dX8_step_85 : decode cX8_step 85 = .ok (.goto 23, 3) := by decide +kernel
theorem dX8_step_88 : decode cX8_step 88 = .ok (.iload_n 3, 1) := by decide +kernel
theorem dX8_step_89 : decode cX8_step 89 = .ok (.iconst 2, 1) := by decide +kernel
theorem dX8_step_90 : decode cX8_step 90 = .ok (.if_icmp .ne 12, 3) := by decide +kernel
theorem dX8_step_93 : decode cX8_step 93 = .ok (.aload_n 0, 1) := by decide +kernel
theorem dX8_step_94 : decode cX8_step 94 = .ok (.getfield 50, 3) := by decide +kernel
theorem dX8_step_97 : decode cX8_step 97 = .ok (.iload_n 2, 1) := by decide +kernel
theorem dX8_step_98 : decode cX8_step 98 = .ok (.iaload, 1) := by decide +kernel
theorem dX8_step_99 : decode cX8_step 99 = .ok (.goto 9, 3) := by decide +kernel
theorem dX8_step_102 : decode cX8_step 102 = .ok (.aload_n 0, 1) := by decide +kernel
theorem dX8_step_103 : decode cX8_step 103 = .ok (.getfield 53, 3) := by decide +kernel
theorem dX8_step_106 : decode cX8_step 106 = .ok (.iload_n 2, 1) := by decide +kernel
theorem dX8_step_107 : decode cX8_step 107 = .ok (.iaload, 1) := by decide +kernel
theorem dX8_step_108 : decode cX8_step 108 = .ok (.ireturn, 1) := by decide +kernel
theorem dX8_isAhead_0 : decode cX8_isAhead 0 = .ok (.aload_n 0, 1) := by decide +kernel
theorem dX8_isAhead_1 : decode cX8_isAhead 1 = .ok (.getfield 62, 3) := by decide +kernel
theorem dX8_isAhead_4 : decode cX8_isAhead 4 = .ok (.iload_n 1, 1) := by decide +kernel
theorem dX8_isAhead_5 : decode cX8_isAhead 5 = .ok (.iaload, 1) := by decide +kernel
theorem dX8_isAhead_6 : decode cX8_isAhead 6 = .ok (.aload_n 0, 1) := by decide +kernel
theorem dX8_isAhead_7 : decode cX8_isAhead 7 = .ok (.getfield 62, 3) := by decide +kernel
theorem dX8_isAhead_10 : decode cX8_isAhead 10 = .ok (.iload_n 2, 1) := by decide +kernel
theorem dX8_isAhead_11 : decode cX8_isAhead 11 = .ok (.iaload, 1) := by decide +kernel
theorem dX8_isAhead_12 : decode cX8_isAhead 12 = .ok (.if_icmp .eq 24, 3) := by decide +kernel
theorem dX8_isAhead_15 : decode cX8_isAhead 15 = .ok (.aload_n 0, 1) := by decide +kernel
theorem dX8_isAhead_16 : decode cX8_isAhead 16 = .ok (.getfield 62, 3) := by decide +kernel
theorem dX8_isAhead_19 : decode cX8_isAhead 19 = .ok (.iload_n 1, 1) := by decide +kernel
theorem dX8_isAhead_20 : decode cX8_isAhead 20 = .ok (.iaload, 1) := by decide +kernel
theorem dX8_isAhead_21 : decode cX8_isAhead 21 = .ok (.aload_n 0, 1) := by decide +kernel
theorem dX8_isAhead_22 : decode cX8_isAhead 22 = .ok (.getfield 62, 3) := by decide +kernel
theorem dX8_isAhead_25 : decode cX8_isAhead 25 = .ok (.iload_n 2, 1) := by decide +kernel
theorem dX8_isAhead_26 : decode cX8_isAhead 26 = .ok (.iaload, 1) := by decide +kernel
theorem dX8_isAhead_27 : decode cX8_isAhead 27 = .ok (.if_icmp .le 7, 3) := by decide +kernel
theorem dX8_isAhead_30 : decode cX8_isAhead 30 = .ok (.iconst 1, 1) := by decide +kernel
theorem dX8_isAhead_31 : decode cX8_isAhead 31 = .ok (.goto 4, 3) := by decide +kernel
theorem dX8_isAhead_34 : decode cX8_isAhead 34 = .ok (.iconst 0, 1) := by decide +kernel
theorem dX8_isAhead_35 : decode cX8_isAhead 35 = .ok (.ireturn, 1) := by decide +kernel
theorem dX8_isAhead_36 : decode cX8_isAhead 36 = .ok (.aload_n 0, 1) := by decide +kernel
theorem dX8_isAhead_37 : decode cX8_isAhead 37 = .ok (.getfield 65, 3) := by decide +kernel
theorem dX8_isAhead_40 : decode cX8_isAhead 40 = .ok (.iload_n 1, 1) := by decide +kernel
theorem dX8_isAhead_41 : decode cX8_isAhead 41 = .ok (.iaload, 1) := by decide +kernel
theorem dX8_isAhead_42 : decode cX8_isAhead 42 = .ok (.aload_n 0, 1) := by decide +kernel
theorem dX8_isAhead_43 : decode cX8_isAhead 43 = .ok (.getfield 65, 3) := by decide +kernel
theorem dX8_isAhead_46 : decode cX8_isAhead 46 = .ok (.iload_n 2, 1) := by decide +kernel
theorem dX8_isAhead_47 : decode cX8_isAhead 47 = .ok (.iaload, 1) := by decide +kernel
theorem dX8_isAhead_48 : decode cX8_isAhead 48 = .ok (.if_icmp .ge 7, 3) := by decide +kernel
theorem dX8_isAhead_51 : decode cX8_isAhead 51 = .ok (.iconst 1, 1) := by decide +kernel
theorem dX8_isAhead_52 : decode cX8_isAhead 52 = .ok (.goto 4, 3) := by decide +kernel
theorem dX8_isAhead_55 : decode cX8_isAhead 55 = .ok (.iconst 0, 1) := by decide +kernel
theorem dX8_isAhead_56 : decode cX8_isAhead 56 = .ok (.ireturn, 1) := by decide +kernel
theorem dX8_layRanks_0 : decode cX8_layRanks 0 = .ok (.aload_n 0, 1) := by decide +kernel
theorem dX8_layRanks_1 : decode cX8_layRanks 1 = .ok (.iconst 0, 1) := by decide +kernel
theorem dX8_layRanks_2 : decode cX8_layRanks 2 = .ok (.putfield 245, 3) := by decide +kernel
theorem dX8_layRanks_5 : decode cX8_layRanks 5 = .ok (.iconst 0, 1) := by decide +kernel
theorem dX8_layRanks_6 : decode cX8_layRanks 6 = .ok (.istore_n 1, 1) := by decide +kernel
theorem dX8_layRanks_7 : decode cX8_layRanks 7 = .ok (.iload_n 1, 1) := by decide +kernel
theorem dX8_layRanks_8 : decode cX8_layRanks 8 = .ok (.aload_n 0, 1) := by decide +kernel
theorem dX8_layRanks_9 : decode cX8_layRanks 9 = .ok (.getfield 107, 3) := by decide +kernel
theorem dX8_layRanks_12 : decode cX8_layRanks 12 = .ok (.if_icmp .ge 108, 3) := by decide +kernel
theorem dX8_layRanks_15 : decode cX8_layRanks 15 = .ok (.aload_n 0, 1) := by decide +kernel
theorem dX8_layRanks_16 : decode cX8_layRanks 16 = .ok (.getfield 62, 3) := by decide +kernel
theorem dX8_layRanks_19 : decode cX8_layRanks 19 = .ok (.iload_n 1, 1) := by decide +kernel
theorem dX8_layRanks_20 : decode cX8_layRanks 20 = .ok (.aload_n 0, 1) := by decide +kernel
theorem dX8_layRanks_21 : decode cX8_layRanks 21 = .ok (.iload_n 1, 1) := by decide +kernel
theorem dX8_layRanks_22 : decode cX8_layRanks 22 = .ok (.bipush 12, 2) := by decide +kernel
theorem dX8_layRanks_24 : decode cX8_layRanks 24 = .ok (.invokevirtual 204, 3) := by decide +kernel
theorem dX8_layRanks_27 : decode cX8_layRanks 27 = .ok (.iastore, 1) := by decide +kernel
theorem dX8_layRanks_28 : decode cX8_layRanks 28 = .ok (.aload_n 0, 1) := by decide +kernel
theorem dX8_layRanks_29 : decode cX8_layRanks 29 = .ok (.getfield 65, 3) := by decide +kernel
theorem dX8_layRanks_32 : decode cX8_layRanks 32 = .ok (.iload_n 1, 1) := by decide +kernel
theorem dX8_layRanks_33 : decode cX8_layRanks 33 = .ok (.aload_n 0, 1) := by decide +kernel
theorem dX8_layRanks_34 : decode cX8_layRanks 34 = .ok (.iload_n 1, 1) := by decide +kernel
theorem dX8_layRanks_35 : decode cX8_layRanks 35 = .ok (.invokevirtual 239, 3) := by decide +kernel
theorem dX8_layRanks_38 : decode cX8_layRanks 38 = .ok (.iastore, 1) := by decide +kernel
theorem dX8_layRanks_39 : decode cX8_layRanks 39 = .ok (.aload_n 0, 1) := by decide +kernel
theorem dX8_layRanks_40 : decode cX8_layRanks 40 = .ok (.getfield 62, 3) := by decide +kernel
theorem dX8_layRanks_43 : decode cX8_layRanks 43 = .ok (.iload_n 1, 1) := by decide +kernel
theorem dX8_layRanks_44 : decode cX8_layRanks 44 = .ok (.iaload, 1) := by decide +kernel
theorem dX8_layRanks_45 : decode cX8_layRanks 45 = .ok (.aload_n 0, 1) := by decide +kernel
theorem dX8_layRanks_46 : decode cX8_layRanks 46 = .ok (.getfield 32, 3) := by decide +kernel
theorem dX8_layRanks_49 : decode cX8_layRanks 49 = .ok (.if_icmp .lt 65, 3) := by decide +kernel
theorem dX8_layRanks_52 : decode cX8_layRanks 52 = .ok (.aload_n 0, 1) := by decide +kernel
theorem dX8_layRanks_53 : decode cX8_layRanks 53 = .ok (.getfield 245, 3) := by decide +kernel
theorem dX8_layRanks_56 : decode cX8_layRanks 56 = .ok (.istore_n 2, 1) := by decide +kernel
theorem dX8_layRanks_57 : decode cX8_layRanks 57 = .ok (.iload_n 2, 1) := by decide +kernel
theorem dX8_layRanks_58 : decode cX8_layRanks 58 = .ok (.ifCond .le 39, 3) := by decide +kernel
theorem dX8_layRanks_61 : decode cX8_layRanks 61 = .ok (.aload_n 0, 1) := by decide +kernel
theorem dX8_layRanks_62 : decode cX8_layRanks 62 = .ok (.iload_n 1, 1) := by decide +kernel
theorem dX8_layRanks_63 : decode cX8_layRanks 63 = .ok (.aload_n 0, 1) := by decide +kernel
theorem dX8_layRanks_64 : decode cX8_layRanks 64 = .ok (.getfield 59, 3) := by decide +kernel
theorem dX8_layRanks_67 : decode cX8_layRanks 67 = .ok (.iload_n 2, 1) := by decide +kernel
theorem dX8_layRanks_68 : decode cX8_layRanks 68 = .ok (.iconst 1, 1) := by decide +kernel
theorem dX8_layRanks_69 : decode cX8_layRanks 69 = .ok (.isub, 1) := by decide +kernel
theorem dX8_layRanks_70 : decode cX8_layRanks 70 = .ok (.iaload, 1) := by decide +kernel
theorem dX8_layRanks_71 : decode cX8_layRanks 71 = .ok (.invokevirtual 248, 3) := by decide +kernel
theorem dX8_layRanks_74 : decode cX8_layRanks 74 = .ok (.ifCond .eq 23, 3) := by decide +kernel
theorem dX8_layRanks_77 : decode cX8_layRanks 77 = .ok (.aload_n 0, 1) := by decide +kernel
theorem dX8_layRanks_78 : decode cX8_layRanks 78 = .ok (.getfield 59, 3) := by decide +kernel
theorem dX8_layRanks_81 : decode cX8_layRanks 81 = .ok (.iload_n 2, 1) := by decide +kernel
theorem dX8_layRanks_82 : decode cX8_layRanks 82 = .ok (.aload_n 0, 1) := by decide +kernel
theorem dX8_layRanks_83 : decode cX8_layRanks 83 = .ok (.getfield 59, 3) := by decide +kernel
theorem dX8_layRanks_86 : decode cX8_layRanks 86 = .ok (.iload_n 2, 1) := by decide +kernel
theorem dX8_layRanks_87 : decode cX8_layRanks 87 = .ok (.iconst 1, 1) := by decide +kernel
theorem dX8_layRanks_88 : decode cX8_layRanks 88 = .ok (.isub, 1) := by decide +kernel
theorem dX8_layRanks_89 : decode cX8_layRanks 89 = .ok (.iaload, 1) := by decide +kernel
theorem dX8_layRanks_90 : decode cX8_layRanks 90 = .ok (.iastore, 1) := by decide +kernel
theorem dX8_layRanks_91 : decode cX8_layRanks 91 = .ok (.iinc 2 (-1), 3) := by decide +kernel
theorem dX8_layRanks_94 : decode cX8_layRanks 94 = .ok (.goto (-37), 3) := by decide +kernel
theorem dX8_layRanks_97 : decode cX8_layRanks 97 = .ok (.aload_n 0, 1) := by decide +kernel
theorem dX8_layRanks_98 : decode cX8_layRanks 98 = .ok (.getfield 59, 3) := by decide +kernel
theorem dX8_layRanks_101 : decode cX8_layRanks 101 = .ok (.iload_n 2, 1) := by decide +kernel
theorem dX8_layRanks_102 : decode cX8_layRanks 102 = .ok (.iload_n 1, 1) := by decide +kernel
theorem dX8_layRanks_103 : decode cX8_layRanks 103 = .ok (.iastore, 1) := by decide +kernel
theorem dX8_layRanks_104 : decode cX8_layRanks 104 = .ok (.aload_n 0, 1) := by decide +kernel
theorem dX8_layRanks_105 : decode cX8_layRanks 105 = .ok (.dup, 1) := by decide +kernel
theorem dX8_layRanks_106 : decode cX8_layRanks 106 = .ok (.getfield 245, 3) := by decide +kernel
theorem dX8_layRanks_109 : decode cX8_layRanks 109 = .ok (.iconst 1, 1) := by decide +kernel
theorem dX8_layRanks_110 : decode cX8_layRanks 110 = .ok (.iadd, 1) := by decide +kernel
theorem dX8_layRanks_111 : decode cX8_layRanks 111 = .ok (.putfield 245, 3) := by decide +kernel
theorem dX8_layRanks_114 : decode cX8_layRanks 114 = .ok (.iinc 1 1, 3) := by decide +kernel
theorem dX8_layRanks_117 : decode cX8_layRanks 117 = .ok (.goto (-110), 3) := by decide +kernel
theorem dX8_layRanks_120 : decode cX8_layRanks 120 = .ok (.return_, 1) := by decide +kernel
theorem dX8_rank_0 : decode cX8_rank 0 = .ok (.aload_n 0, 1) := by decide +kernel
theorem dX8_rank_1 : decode cX8_rank 1 = .ok (.getfield 126, 3) := by decide +kernel
theorem dX8_rank_4 : decode cX8_rank 4 = .ok (.ifCond .ne 7, 3) := by decide +kernel
theorem dX8_rank_7 : decode cX8_rank 7 = .ok (.sipush (-1003), 3) := by decide +kernel
theorem dX8_rank_10 : decode cX8_rank 10 = .ok (.ireturn, 1) := by decide +kernel
theorem dX8_rank_11 : decode cX8_rank 11 = .ok (.aload_n 0, 1) := by decide +kernel
theorem dX8_rank_12 : decode cX8_rank 12 = .ok (.invokevirtual 251, 3) := by decide +kernel
theorem dX8_rank_15 : decode cX8_rank 15 = .ok (.iload_n 1, 1) := by decide +kernel
theorem dX8_rank_16 : decode cX8_rank 16 = .ok (.iconst 0, 1) := by decide +kernel
theorem dX8_rank_17 : decode cX8_rank 17 = .ok (.aload_n 0, 1) := by decide +kernel
theorem dX8_rank_18 : decode cX8_rank 18 = .ok (.getfield 245, 3) := by decide +kernel
theorem dX8_rank_21 : decode cX8_rank 21 = .ok (.iconst 1, 1) := by decide +kernel
theorem dX8_rank_22 : decode cX8_rank 22 = .ok (.isub, 1) := by decide +kernel
theorem dX8_rank_23 : decode cX8_rank 23 = .ok (.invokestatic 75, 3) := by decide +kernel
theorem dX8_rank_26 : decode cX8_rank 26 = .ok (.ifCond .eq 12, 3) := by decide +kernel
theorem dX8_rank_29 : decode cX8_rank 29 = .ok (.aload_n 0, 1) := by decide +kernel
theorem dX8_rank_30 : decode cX8_rank 30 = .ok (.getfield 59, 3) := by decide +kernel
theorem dX8_rank_33 : decode cX8_rank 33 = .ok (.iload_n 1, 1) := by decide +kernel
theorem dX8_rank_34 : decode cX8_rank 34 = .ok (.iaload, 1) := by decide +kernel
theorem dX8_rank_35 : decode cX8_rank 35 = .ok (.goto 6, 3) := by decide +kernel
theorem dX8_rank_38 : decode cX8_rank 38 = .ok (.sipush (-1001), 3) := by decide +kernel
theorem dX8_rank_41 : decode cX8_rank 41 = .ok (.ireturn, 1) := by decide +kernel
theorem dX8_layCovered_0 : decode cX8_layCovered 0 = .ok (.iconst 0, 1) := by decide +kernel
theorem dX8_layCovered_1 : decode cX8_layCovered 1 = .ok (.istore_n 1, 1) := by decide +kernel
theorem dX8_layCovered_2 : decode cX8_layCovered 2 = .ok (.iload_n 1, 1) := by decide +kernel
theorem dX8_layCovered_3 : decode cX8_layCovered 3 = .ok (.bipush 8, 2) := by decide +kernel
theorem dX8_layCovered_5 : decode cX8_layCovered 5 = .ok (.if_icmp .ge 16, 3) := by decide +kernel
theorem dX8_layCovered_8 : decode cX8_layCovered 8 = .ok (.aload_n 0, 1) := by decide +kernel
theorem dX8_layCovered_9 : decode cX8_layCovered 9 = .ok (.getfield 68, 3) := by decide +kernel
theorem dX8_layCovered_12 : decode cX8_layCovered 12 = .ok (.iload_n 1, 1) := by decide +kernel
theorem dX8_layCovered_13 : decode cX8_layCovered 13 = .ok (.iconst 0, 1) := by decide +kernel
theorem dX8_layCovered_14 : decode cX8_layCovered 14 = .ok (.bastore, 1) := by decide +kernel
theorem dX8_layCovered_15 : decode cX8_layCovered 15 = .ok (.iinc 1 1, 3) := by decide +kernel
theorem dX8_layCovered_18 : decode cX8_layCovered 18 = .ok (.goto (-16), 3) := by decide +kernel
theorem dX8_layCovered_21 : decode cX8_layCovered 21 = .ok (.iconst 0, 1) := by decide +kernel
theorem dX8_layCovered_22 : decode cX8_layCovered 22 = .ok (.istore_n 1, 1) := by decide +kernel
theorem dX8_layCovered_23 : decode cX8_layCovered 23 = .ok (.iload_n 1, 1) := by decide +kernel
theorem dX8_layCovered_24 : decode cX8_layCovered 24 = .ok (.aload_n 0, 1) := by decide +kernel
theorem dX8_layCovered_25 : decode cX8_layCovered 25 = .ok (.getfield 107, 3) := by decide +kernel
theorem dX8_layCovered_28 : decode cX8_layCovered 28 = .ok (.if_icmp .ge 72, 3) := by decide +kernel
theorem dX8_layCovered_31 : decode cX8_layCovered 31 = .ok (.aload_n 0, 1) := by decide +kernel
theorem dX8_layCovered_32 : decode cX8_layCovered 32 = .ok (.iload_n 1, 1) := by decide +kernel
theorem dX8_layCovered_33 : decode cX8_layCovered 33 = .ok (.invokevirtual 236, 3) := by decide +kernel
theorem dX8_layCovered_36 : decode cX8_layCovered 36 = .ok (.istore_n 2, 1) := by decide +kernel
theorem dX8_layCovered_37 : decode cX8_layCovered 37 = .ok (.aload_n 0, 1) := by decide +kernel
theorem dX8_layCovered_38 : decode cX8_layCovered 38 = .ok (.iload_n 1, 1) := by decide +kernel
theorem dX8_layCovered_39 : decode cX8_layCovered 39 = .ok (.bipush 12, 2) := by decide +kernel
theorem dX8_layCovered_41 : decode cX8_layCovered 41 = .ok (.invokevirtual 201, 3) := by decide +kernel
theorem dX8_layCovered_44 : decode cX8_layCovered 44 = .ok (.iconst 0, 1) := by decide +kernel
theorem dX8_layCovered_45 : decode cX8_layCovered 45 = .ok (.istore_n 3, 1) := by decide +kernel
theorem dX8_layCovered_46 : decode cX8_layCovered 46 = .ok (.iload_n 3, 1) := by decide +kernel
theorem dX8_layCovered_47 : decode cX8_layCovered 47 = .ok (.aload_n 0, 1) := by decide +kernel
theorem dX8_layCovered_48 : decode cX8_layCovered 48 = .ok (.getfield 154, 3) := by decide +kernel
theorem dX8_layCovered_51 : decode cX8_layCovered 51 = .ok (.if_icmp .ge 43, 3) := by decide +kernel
theorem dX8_layCovered_54 : decode cX8_layCovered 54 = .ok (.iload_n 2, 1) := by decide +kernel
theorem dX8_layCovered_55 : decode cX8_layCovered 55 = .ok (.ifCond .eq 39, 3) := by decide +kernel
theorem dX8_layCovered_58 : decode cX8_layCovered 58 = .ok (.aload_n 0, 1) := by decide +kernel
theorem dX8_layCovered_59 : decode cX8_layCovered 59 = .ok (.getfield 44, 3) := by decide +kernel
theorem dX8_layCovered_62 : decode cX8_layCovered 62 = .ok (.iload_n 3, 1) := by decide +kernel
theorem dX8_layCovered_63 : decode cX8_layCovered 63 = .ok (.iaload, 1) := by decide +kernel
theorem dX8_layCovered_64 : decode cX8_layCovered 64 = .ok (.ifCond .ne 24, 3) := by decide +kernel
theorem dX8_layCovered_67 : decode cX8_layCovered 67 = .ok (.aload_n 0, 1) := by decide +kernel
theorem dX8_layCovered_68 : decode cX8_layCovered 68 = .ok (.getfield 47, 3) := by decide +kernel
theorem dX8_layCovered_71 : decode cX8_layCovered 71 = .ok (.iload_n 3, 1) := by decide +kernel
theorem dX8_layCovered_72 : decode cX8_layCovered 72 = .ok (.iaload, 1) := by decide +kernel
theorem dX8_layCovered_73 : decode cX8_layCovered 73 = .ok (.ifCond .ne 15, 3) := by decide +kernel
theorem dX8_layCovered_76 : decode cX8_layCovered 76 = .ok (.aload_n 0, 1) := by decide +kernel
theorem dX8_layCovered_77 : decode cX8_layCovered 77 = .ok (.getfield 68, 3) := by decide +kernel
theorem dX8_layCovered_80 : decode cX8_layCovered 80 = .ok (.aload_n 0, 1) := by decide +kernel
theorem dX8_layCovered_81 : decode cX8_layCovered 81 = .ok (.getfield 53, 3) := by decide +kernel
theorem dX8_layCovered_84 : decode cX8_layCovered 84 = .ok (.iload_n 3, 1) := by decide +kernel
theorem dX8_layCovered_85 : decode cX8_layCovered 85 = .ok (.iaload, 1) := by decide +kernel
theorem dX8_layCovered_86 : decode cX8_layCovered 86 = .ok (.iconst 1, 1) := by decide +kernel
theorem dX8_layCovered_87 : decode cX8_layCovered 87 = .ok (.bastore, 1) := by decide +kernel
theorem dX8_layCovered_88 : decode cX8_layCovered 88 = .ok (.iinc 3 1, 3) := by decide +kernel
theorem dX8_layCovered_91 : decode cX8_layCovered 91 = .ok (.goto (-45), 3) := by decide +kernel
theorem dX8_layCovered_94 : decode cX8_layCovered 94 = .ok (.iinc 1 1, 3) := by decide +kernel
theorem dX8_layCovered_97 : decode cX8_layCovered 97 = .ok (.goto (-74), 3) := by decide +kernel
theorem dX8_layCovered_100 : decode cX8_layCovered 100 = .ok (.return_, 1) := by decide +kernel
theorem dX8_canMany_0 : decode cX8_canMany 0 = .ok (.iconst 0, 1) := by decide +kernel
theorem dX8_canMany_1 : decode cX8_canMany 1 = .ok (.istore_n 3, 1) := by decide +kernel
theorem dX8_canMany_2 : decode cX8_canMany 2 = .ok (.iconst 0, 1) := by decide +kernel
theorem dX8_canMany_3 : decode cX8_canMany 3 = .ok (.istore 4, 2) := by decide +kernel
theorem dX8_canMany_5 : decode cX8_canMany 5 = .ok (.iload 4, 2) := by decide +kernel
theorem dX8_canMany_7 : decode cX8_canMany 7 = .ok (.aload_n 0, 1) := by decide +kernel
theorem dX8_canMany_8 : decode cX8_canMany 8 = .ok (.getfield 107, 3) := by decide +kernel
theorem dX8_canMany_11 : decode cX8_canMany 11 = .ok (.if_icmp .ge 46, 3) := by decide +kernel
theorem dX8_canMany_14 : decode cX8_canMany 14 = .ok (.iload_n 3, 1) := by decide +kernel
theorem dX8_canMany_15 : decode cX8_canMany 15 = .ok (.iload_n 1, 1) := by decide +kernel
theorem dX8_canMany_16 : decode cX8_canMany 16 = .ok (.ifCond .eq 12, 3) := by decide +kernel
theorem dX8_canMany_19 : decode cX8_canMany 19 = .ok (.aload_n 0, 1) := by decide +kernel
theorem dX8_canMany_20 : decode cX8_canMany 20 = .ok (.iload 4, 2) := by decide +kernel
theorem dX8_canMany_22 : decode cX8_canMany 22 = .ok (.invokevirtual 226, 3) := by decide +kernel
theorem dX8_canMany_25 : decode cX8_canMany 25 = .ok (.ifCond .eq 20, 3) := by decide +kernel
theorem dX8_canMany_28 : decode cX8_canMany 28 = .ok (.iload_n 2, 1) := by decide +kernel
theorem dX8_canMany_29 : decode cX8_canMany 29 = .ok (.ifCond .eq 12, 3) := by decide +kernel
theorem dX8_canMany_32 : decode cX8_canMany 32 = .ok (.aload_n 0, 1) := by decide +kernel
theorem dX8_canMany_33 : decode cX8_canMany 33 = .ok (.iload 4, 2) := by decide +kernel
theorem dX8_canMany_35 : decode cX8_canMany 35 = .ok (.invokevirtual 233, 3) := by decide +kernel
theorem dX8_canMany_38 : decode cX8_canMany 38 = .ok (.ifCond .eq 7, 3) := by decide +kernel
theorem dX8_canMany_41 : decode cX8_canMany 41 = .ok (.iconst 1, 1) := by decide +kernel
theorem dX8_canMany_42 : decode cX8_canMany 42 = .ok (.goto 4, 3) := by decide +kernel
theorem dX8_canMany_45 : decode cX8_canMany 45 = .ok (.iconst 0, 1) := by decide +kernel
theorem dX8_canMany_46 : decode cX8_canMany 46 = .ok (.invokestatic 229, 3) := by decide +kernel
theorem dX8_canMany_49 : decode cX8_canMany 49 = .ok (.iadd, 1) := by decide +kernel
theorem dX8_canMany_50 : decode cX8_canMany 50 = .ok (.istore_n 3, 1) := by decide +kernel
theorem dX8_canMany_51 : decode cX8_canMany 51 = .ok (.iinc 4 1, 3) := by decide +kernel
theorem dX8_canMany_54 : decode cX8_canMany 54 = .ok (.goto (-49), 3) := by decide +kernel
theorem dX8_canMany_57 : decode cX8_canMany 57 = .ok (.iload_n 3, 1) := by decide +kernel
theorem dX8_canMany_58 : decode cX8_canMany 58 = .ok (.ireturn, 1) := by decide +kernel
theorem dX8_coveredMany_0 : decode cX8_coveredMany 0 = .ok (.aload_n 0, 1) := by decide +kernel
theorem dX8_coveredMany_1 : decode cX8_coveredMany 1 = .ok (.invokevirtual 254, 3) := by decide +kernel
theorem dX8_coveredMany_4 : decode cX8_coveredMany 4 = .ok (.iconst 0, 1) := by decide +kernel
theorem dX8_coveredMany_5 : decode cX8_coveredMany 5 = .ok (.istore_n 1, 1) := by decide +kernel
theorem dX8_coveredMany_6 : decode cX8_coveredMany 6 = .ok (.iconst 0, 1) := by decide +kernel
theorem dX8_coveredMany_7 : decode cX8_coveredMany 7 = .ok (.istore_n 2, 1) := by decide +kernel
theorem dX8_coveredMany_8 : decode cX8_coveredMany 8 = .ok (.iload_n 2, 1) := by decide +kernel
theorem dX8_coveredMany_9 : decode cX8_coveredMany 9 = .ok (.aload_n 0, 1) := by decide +kernel
theorem dX8_coveredMany_10 : decode cX8_coveredMany 10 = .ok (.getfield 13, 3) := by decide +kernel
theorem dX8_coveredMany_13 : decode cX8_coveredMany 13 = .ok (.bipush 12, 2) := by decide +kernel
theorem dX8_coveredMany_15 : decode cX8_coveredMany 15 = .ok (.iaload, 1) := by decide +kernel
theorem dX8_coveredMany_16 : decode cX8_coveredMany 16 = .ok (.if_icmp .ge 21, 3) := by decide +kernel
theorem dX8_coveredMany_19 : decode cX8_coveredMany 19 = .ok (.iload_n 1, 1) := by decide +kernel
theorem dX8_coveredMany_20 : decode cX8_coveredMany 20 = .ok (.aload_n 0, 1) := by decide +kernel
theorem dX8_coveredMany_21 : decode cX8_coveredMany 21 = .ok (.getfield 68, 3) := by decide +kernel
theorem dX8_coveredMany_24 : decode cX8_coveredMany 24 = .ok (.iload_n 2, 1) := by decide +kernel
theorem dX8_coveredMany_25 : decode cX8_coveredMany 25 = .ok (.baload, 1) := by decide +kernel
theorem dX8_coveredMany_26 : decode cX8_coveredMany 26 = .ok (.invokestatic 229, 3) := by decide +kernel
theorem dX8_coveredMany_29 : decode cX8_coveredMany 29 = .ok (.iadd, 1) := by decide +kernel
theorem dX8_coveredMany_30 : decode cX8_coveredMany 30 = .ok (.istore_n 1, 1) := by decide +kernel
theorem dX8_coveredMany_31 : decode cX8_coveredMany 31 = .ok (.iinc 2 1, 3) := by decide +kernel
theorem dX8_coveredMany_34 : decode cX8_coveredMany 34 = .ok (.goto (-26), 3) := by decide +kernel
theorem dX8_coveredMany_37 : decode cX8_coveredMany 37 = .ok (.iload_n 1, 1) := by decide +kernel
theorem dX8_coveredMany_38 : decode cX8_coveredMany 38 = .ok (.ireturn, 1) := by decide +kernel
theorem dX8_matchesMany_0 : decode cX8_matchesMany 0 = .ok (.aload_n 0, 1) := by decide +kernel
theorem dX8_matchesMany_1 : decode cX8_matchesMany 1 = .ok (.invokevirtual 251, 3) := by decide +kernel
theorem dX8_matchesMany_4 : decode cX8_matchesMany 4 = .ok (.aload_n 0, 1) := by decide +kernel
theorem dX8_matchesMany_5 : decode cX8_matchesMany 5 = .ok (.getfield 245, 3) := by decide +kernel
theorem dX8_matchesMany_8 : decode cX8_matchesMany 8 = .ok (.ireturn, 1) := by decide +kernel
theorem dX8_questionNow_0 : decode cX8_questionNow 0 = .ok (.iload_n 1, 1) := by decide +kernel
theorem dX8_questionNow_1 : decode cX8_questionNow 1 = .ok (.tableswitch 66 5 9 #[35, 40, 47, 54, 61], 35) := by decide +kernel
theorem dX8_questionNow_36 : decode cX8_questionNow 36 = .ok (.aload_n 0, 1) := by decide +kernel
theorem dX8_questionNow_37 : decode cX8_questionNow 37 = .ok (.invokevirtual 257, 3) := by decide +kernel
theorem dX8_questionNow_40 : decode cX8_questionNow 40 = .ok (.ireturn, 1) := by decide +kernel
theorem dX8_questionNow_41 : decode cX8_questionNow 41 = .ok (.aload_n 0, 1) := by decide +kernel
theorem dX8_questionNow_42 : decode cX8_questionNow 42 = .ok (.iconst 1, 1) := by decide +kernel
theorem dX8_questionNow_43 : decode cX8_questionNow 43 = .ok (.iconst 0, 1) := by decide +kernel
theorem dX8_questionNow_44 : decode cX8_questionNow 44 = .ok (.invokevirtual 260, 3) := by decide +kernel
theorem dX8_questionNow_47 : decode cX8_questionNow 47 = .ok (.ireturn, 1) := by decide +kernel
theorem dX8_questionNow_48 : decode cX8_questionNow 48 = .ok (.aload_n 0, 1) := by decide +kernel
theorem dX8_questionNow_49 : decode cX8_questionNow 49 = .ok (.iconst 0, 1) := by decide +kernel
theorem dX8_questionNow_50 : decode cX8_questionNow 50 = .ok (.iconst 1, 1) := by decide +kernel
theorem dX8_questionNow_51 : decode cX8_questionNow 51 = .ok (.invokevirtual 260, 3) := by decide +kernel
theorem dX8_questionNow_54 : decode cX8_questionNow 54 = .ok (.ireturn, 1) := by decide +kernel
theorem dX8_questionNow_55 : decode cX8_questionNow 55 = .ok (.aload_n 0, 1) := by decide +kernel
theorem dX8_questionNow_56 : decode cX8_questionNow 56 = .ok (.iconst 1, 1) := by decide +kernel
theorem dX8_questionNow_57 : decode cX8_questionNow 57 = .ok (.iconst 1, 1) := by decide +kernel
theorem dX8_questionNow_58 : decode cX8_questionNow 58 = .ok (.invokevirtual 260, 3) := by decide +kernel
theorem dX8_questionNow_61 : decode cX8_questionNow 61 = .ok (.ireturn, 1) := by decide +kernel
theorem dX8_questionNow_62 : decode cX8_questionNow 62 = .ok (.aload_n 0, 1) := by decide +kernel
theorem dX8_questionNow_63 : decode cX8_questionNow 63 = .ok (.invokevirtual 264, 3) := by decide +kernel
theorem dX8_questionNow_66 : decode cX8_questionNow 66 = .ok (.ireturn, 1) := by decide +kernel
theorem dX8_questionNow_67 : decode cX8_questionNow 67 = .ok (.aload_n 0, 1) := by decide +kernel
theorem dX8_questionNow_68 : decode cX8_questionNow 68 = .ok (.bipush 12, 2) := by decide +kernel
theorem dX8_questionNow_70 : decode cX8_questionNow 70 = .ok (.iload_n 1, 1) := by decide +kernel
theorem dX8_questionNow_71 : decode cX8_questionNow 71 = .ok (.invokevirtual 192, 3) := by decide +kernel
theorem dX8_questionNow_74 : decode cX8_questionNow 74 = .ok (.ireturn, 1) := by decide +kernel
theorem dX8_question_0 : decode cX8_question 0 = .ok (.iload_n 1, 1) := by decide +kernel
theorem dX8_question_1 : decode cX8_question 1 = .ok (.iconst 0, 1) := by decide +kernel
theorem dX8_question_2 : decode cX8_question 2 = .ok (.bipush 9, 2) := by decide +kernel
theorem dX8_question_4 : decode cX8_question 4 = .ok (.invokestatic 75, 3) := by decide +kernel
theorem dX8_question_7 : decode cX8_question 7 = .ok (.ifCond .ne 7, 3) := by decide +kernel
theorem dX8_question_10 : decode cX8_question 10 = .ok (.sipush (-1002), 3) := by decide +kernel
theorem dX8_question_13 : decode cX8_question 13 = .ok (.ireturn, 1) := by decide +kernel
theorem dX8_question_14 : decode cX8_question 14 = .ok (.aload_n 0, 1) := by decide +kernel
theorem dX8_question_15 : decode cX8_question 15 = .ok (.getfield 126, 3) := by decide +kernel
theorem dX8_question_18 : decode cX8_question 18 = .ok (.ifCond .eq 11, 3) := by decide +kernel
theorem dX8_question_21 : decode cX8_question 21 = .ok (.aload_n 0, 1) := by decide +kernel
theorem dX8_question_22 : decode cX8_question 22 = .ok (.iload_n 1, 1) := by decide +kernel
theorem dX8_question_23 : decode cX8_question 23 = .ok (.invokevirtual 267, 3) := by decide +kernel
theorem dX8_question_26 : decode cX8_question 26 = .ok (.goto 6, 3) := by decide +kernel
theorem dX8_question_29 : decode cX8_question 29 = .ok (.sipush (-1003), 3) := by decide +kernel
theorem dX8_question_32 : decode cX8_question 32 = .ok (.ireturn, 1) := by decide +kernel
theorem dX8_covered_0 : decode cX8_covered 0 = .ok (.aload_n 0, 1) := by decide +kernel
theorem dX8_covered_1 : decode cX8_covered 1 = .ok (.getfield 126, 3) := by decide +kernel
theorem dX8_covered_4 : decode cX8_covered 4 = .ok (.ifCond .ne 7, 3) := by decide +kernel
theorem dX8_covered_7 : decode cX8_covered 7 = .ok (.sipush (-1003), 3) := by decide +kernel
theorem dX8_covered_10 : decode cX8_covered 10 = .ok (.ireturn, 1) := by decide +kernel
theorem dX8_covered_11 : decode cX8_covered 11 = .ok (.iload_n 1, 1) := by decide +kernel
theorem dX8_covered_12 : decode cX8_covered 12 = .ok (.iconst 0, 1) := by decide +kernel
theorem dX8_covered_13 : decode cX8_covered 13 = .ok (.aload_n 0, 1) := by decide +kernel
theorem dX8_covered_14 : decode cX8_covered 14 = .ok (.getfield 13, 3) := by decide +kernel
theorem dX8_covered_17 : decode cX8_covered 17 = .ok (.bipush 12, 2) := by decide +kernel
theorem dX8_covered_19 : decode cX8_covered 19 = .ok (.iaload, 1) := by decide +kernel
theorem dX8_covered_20 : decode cX8_covered 20 = .ok (.iconst 1, 1) := by decide +kernel
theorem dX8_covered_21 : decode cX8_covered 21 = .ok (.isub, 1) := by decide +kernel
theorem dX8_covered_22 : decode cX8_covered 22 = .ok (.invokestatic 75, 3) := by decide +kernel
theorem dX8_covered_25 : decode cX8_covered 25 = .ok (.ifCond .ne 7, 3) := by decide +kernel
theorem dX8_covered_28 : decode cX8_covered 28 = .ok (.sipush (-1001), 3) := by decide +kernel
theorem dX8_covered_31 : decode cX8_covered 31 = .ok (.ireturn, 1) := by decide +kernel
theorem dX8_covered_32 : decode cX8_covered 32 = .ok (.aload_n 0, 1) := by decide +kernel
theorem dX8_covered_33 : decode cX8_covered 33 = .ok (.invokevirtual 254, 3) := by decide +kernel
theorem dX8_covered_36 : decode cX8_covered 36 = .ok (.aload_n 0, 1) := by decide +kernel
theorem dX8_covered_37 : decode cX8_covered 37 = .ok (.getfield 68, 3) := by decide +kernel
theorem dX8_covered_40 : decode cX8_covered 40 = .ok (.iload_n 1, 1) := by decide +kernel
theorem dX8_covered_41 : decode cX8_covered 41 = .ok (.baload, 1) := by decide +kernel
theorem dX8_covered_42 : decode cX8_covered 42 = .ok (.invokestatic 229, 3) := by decide +kernel
theorem dX8_covered_45 : decode cX8_covered 45 = .ok (.ireturn, 1) := by decide +kernel
theorem dX8_gramsAll_0 : decode cX8_gramsAll 0 = .ok (.iconst 0, 1) := by decide +kernel
theorem dX8_gramsAll_1 : decode cX8_gramsAll 1 = .ok (.istore_n 1, 1) := by decide +kernel
theorem dX8_gramsAll_2 : decode cX8_gramsAll 2 = .ok (.iload_n 1, 1) := by decide +kernel
theorem dX8_gramsAll_3 : decode cX8_gramsAll 3 = .ok (.sipush 784, 3) := by decide +kernel
theorem dX8_gramsAll_6 : decode cX8_gramsAll 6 = .ok (.if_icmp .ge 16, 3) := by decide +kernel
theorem dX8_gramsAll_9 : decode cX8_gramsAll 9 = .ok (.aload_n 0, 1) := by decide +kernel
theorem dX8_gramsAll_10 : decode cX8_gramsAll 10 = .ok (.getfield 72, 3) := by decide +kernel
theorem dX8_gramsAll_13 : decode cX8_gramsAll 13 = .ok (.iload_n 1, 1) := by decide +kernel
theorem dX8_gramsAll_14 : decode cX8_gramsAll 14 = .ok (.iconst 0, 1) := by decide +kernel
theorem dX8_gramsAll_15 : decode cX8_gramsAll 15 = .ok (.bastore, 1) := by decide +kernel
theorem dX8_gramsAll_16 : decode cX8_gramsAll 16 = .ok (.iinc 1 1, 3) := by decide +kernel
theorem dX8_gramsAll_19 : decode cX8_gramsAll 19 = .ok (.goto (-17), 3) := by decide +kernel
theorem dX8_gramsAll_22 : decode cX8_gramsAll 22 = .ok (.iconst 0, 1) := by decide +kernel
theorem dX8_gramsAll_23 : decode cX8_gramsAll 23 = .ok (.istore_n 1, 1) := by decide +kernel
theorem dX8_gramsAll_24 : decode cX8_gramsAll 24 = .ok (.iload_n 1, 1) := by decide +kernel
theorem dX8_gramsAll_25 : decode cX8_gramsAll 25 = .ok (.aload_n 0, 1) := by decide +kernel
theorem dX8_gramsAll_26 : decode cX8_gramsAll 26 = .ok (.getfield 107, 3) := by decide +kernel
theorem dX8_gramsAll_29 : decode cX8_gramsAll 29 = .ok (.if_icmp .ge 58, 3) := by decide +kernel
theorem dX8_gramsAll_32 : decode cX8_gramsAll 32 = .ok (.aload_n 0, 1) := by decide +kernel
theorem dX8_gramsAll_33 : decode cX8_gramsAll 33 = .ok (.iload_n 1, 1) := by decide +kernel
theorem dX8_gramsAll_34 : decode cX8_gramsAll 34 = .ok (.invokevirtual 179, 3) := by decide +kernel
theorem dX8_gramsAll_37 : decode cX8_gramsAll 37 = .ok (.iconst 0, 1) := by decide +kernel
theorem dX8_gramsAll_38 : decode cX8_gramsAll 38 = .ok (.istore_n 2, 1) := by decide +kernel
theorem dX8_gramsAll_39 : decode cX8_gramsAll 39 = .ok (.iload_n 2, 1) := by decide +kernel
theorem dX8_gramsAll_40 : decode cX8_gramsAll 40 = .ok (.sipush 784, 3) := by decide +kernel
theorem dX8_gramsAll_43 : decode cX8_gramsAll 43 = .ok (.if_icmp .ge 38, 3) := by decide +kernel
theorem dX8_gramsAll_46 : decode cX8_gramsAll 46 = .ok (.aload_n 0, 1) := by decide +kernel
theorem dX8_gramsAll_47 : decode cX8_gramsAll 47 = .ok (.getfield 72, 3) := by decide +kernel
theorem dX8_gramsAll_50 : decode cX8_gramsAll 50 = .ok (.iload_n 2, 1) := by decide +kernel
theorem dX8_gramsAll_51 : decode cX8_gramsAll 51 = .ok (.aload_n 0, 1) := by decide +kernel
theorem dX8_gramsAll_52 : decode cX8_gramsAll 52 = .ok (.getfield 72, 3) := by decide +kernel
theorem dX8_gramsAll_55 : decode cX8_gramsAll 55 = .ok (.iload_n 2, 1) := by decide +kernel
theorem dX8_gramsAll_56 : decode cX8_gramsAll 56 = .ok (.baload, 1) := by decide +kernel
theorem dX8_gramsAll_57 : decode cX8_gramsAll 57 = .ok (.ifCond .ne 12, 3) := by decide +kernel
theorem dX8_gramsAll_60 : decode cX8_gramsAll 60 = .ok (.aload_n 0, 1) := by decide +kernel
theorem dX8_gramsAll_61 : decode cX8_gramsAll 61 = .ok (.getfield 56, 3) := by decide +kernel
theorem dX8_gramsAll_64 : decode cX8_gramsAll 64 = .ok (.iload_n 2, 1) := by decide +kernel
theorem dX8_gramsAll_65 : decode cX8_gramsAll 65 = .ok (.iaload, 1) := by decide +kernel
theorem dX8_gramsAll_66 : decode cX8_gramsAll 66 = .ok (.ifCond .le 7, 3) := by decide +kernel
theorem dX8_gramsAll_69 : decode cX8_gramsAll 69 = .ok (.iconst 1, 1) := by decide +kernel
theorem dX8_gramsAll_70 : decode cX8_gramsAll 70 = .ok (.goto 4, 3) := by decide +kernel
theorem dX8_gramsAll_73 : decode cX8_gramsAll 73 = .ok (.iconst 0, 1) := by decide +kernel
theorem dX8_gramsAll_74 : decode cX8_gramsAll 74 = .ok (.bastore, 1) := by decide +kernel
theorem dX8_gramsAll_75 : decode cX8_gramsAll 75 = .ok (.iinc 2 1, 3) := by decide +kernel
theorem dX8_gramsAll_78 : decode cX8_gramsAll 78 = .ok (.goto (-39), 3) := by decide +kernel
theorem dX8_gramsAll_81 : decode cX8_gramsAll 81 = .ok (.iinc 1 1, 3) := by decide +kernel
theorem dX8_gramsAll_84 : decode cX8_gramsAll 84 = .ok (.goto (-60), 3) := by decide +kernel
theorem dX8_gramsAll_87 : decode cX8_gramsAll 87 = .ok (.iconst 0, 1) := by decide +kernel
theorem dX8_gramsAll_88 : decode cX8_gramsAll 88 = .ok (.istore_n 1, 1) := by decide +kernel
theorem dX8_gramsAll_89 : decode cX8_gramsAll 89 = .ok (.iconst 0, 1) := by decide +kernel
theorem dX8_gramsAll_90 : decode cX8_gramsAll 90 = .ok (.istore_n 2, 1) := by decide +kernel
theorem dX8_gramsAll_91 : decode cX8_gramsAll 91 = .ok (.iload_n 2, 1) := by decide +kernel
theorem dX8_gramsAll_92 : decode cX8_gramsAll 92 = .ok (.sipush 784, 3) := by decide +kernel
theorem dX8_gramsAll_95 : decode cX8_gramsAll 95 = .ok (.if_icmp .ge 21, 3) := by decide +kernel
theorem dX8_gramsAll_98 : decode cX8_gramsAll 98 = .ok (.iload_n 1, 1) := by decide +kernel
theorem dX8_gramsAll_99 : decode cX8_gramsAll 99 = .ok (.aload_n 0, 1) := by decide +kernel
theorem dX8_gramsAll_100 : decode cX8_gramsAll 100 = .ok (.getfield 72, 3) := by decide +kernel
theorem dX8_gramsAll_103 : decode cX8_gramsAll 103 = .ok (.iload_n 2, 1) := by decide +kernel
theorem dX8_gramsAll_104 : decode cX8_gramsAll 104 = .ok (.baload, 1) := by decide +kernel
theorem dX8_gramsAll_105 : decode cX8_gramsAll 105 = .ok (.invokestatic 229, 3) := by decide +kernel
theorem dX8_gramsAll_108 : decode cX8_gramsAll 108 = .ok (.iadd, 1) := by decide +kernel
theorem dX8_gramsAll_109 : decode cX8_gramsAll 109 = .ok (.istore_n 1, 1) := by decide +kernel
theorem dX8_gramsAll_110 : decode cX8_gramsAll 110 = .ok (.iinc 2 1, 3) := by decide +kernel
theorem dX8_gramsAll_113 : decode cX8_gramsAll 113 = .ok (.goto (-22), 3) := by decide +kernel
theorem dX8_gramsAll_116 : decode cX8_gramsAll 116 = .ok (.iload_n 1, 1) := by decide +kernel
theorem dX8_gramsAll_117 : decode cX8_gramsAll 117 = .ok (.ireturn, 1) := by decide +kernel
theorem dX8_howMany_0 : decode cX8_howMany 0 = .ok (.iload_n 1, 1) := by decide +kernel
theorem dX8_howMany_1 : decode cX8_howMany 1 = .ok (.tableswitch 87 0 7 #[47, 52, 57, 62, 67, 72, 77, 82], 47) := by decide +kernel
theorem dX8_howMany_48 : decode cX8_howMany 48 = .ok (.aload_n 0, 1) := by decide +kernel
theorem dX8_howMany_49 : decode cX8_howMany 49 = .ok (.getfield 79, 3) := by decide +kernel
theorem dX8_howMany_52 : decode cX8_howMany 52 = .ok (.ireturn, 1) := by decide +kernel
theorem dX8_howMany_53 : decode cX8_howMany 53 = .ok (.aload_n 0, 1) := by decide +kernel
theorem dX8_howMany_54 : decode cX8_howMany 54 = .ok (.getfield 107, 3) := by decide +kernel
theorem dX8_howMany_57 : decode cX8_howMany 57 = .ok (.ireturn, 1) := by decide +kernel
theorem dX8_howMany_58 : decode cX8_howMany 58 = .ok (.aload_n 0, 1) := by decide +kernel
theorem dX8_howMany_59 : decode cX8_howMany 59 = .ok (.getfield 117, 3) := by decide +kernel
theorem dX8_howMany_62 : decode cX8_howMany 62 = .ok (.ireturn, 1) := by decide +kernel
theorem dX8_howMany_63 : decode cX8_howMany 63 = .ok (.aload_n 0, 1) := by decide +kernel
theorem dX8_howMany_64 : decode cX8_howMany 64 = .ok (.getfield 123, 3) := by decide +kernel
theorem dX8_howMany_67 : decode cX8_howMany 67 = .ok (.ireturn, 1) := by decide +kernel
theorem dX8_howMany_68 : decode cX8_howMany 68 = .ok (.aload_n 0, 1) := by decide +kernel
theorem dX8_howMany_69 : decode cX8_howMany 69 = .ok (.getfield 130, 3) := by decide +kernel
theorem dX8_howMany_72 : decode cX8_howMany 72 = .ok (.ireturn, 1) := by decide +kernel
theorem dX8_howMany_73 : decode cX8_howMany 73 = .ok (.aload_n 0, 1) := by decide +kernel
theorem dX8_howMany_74 : decode cX8_howMany 74 = .ok (.getfield 28, 3) := by decide +kernel
theorem dX8_howMany_77 : decode cX8_howMany 77 = .ok (.ireturn, 1) := by decide +kernel
theorem dX8_howMany_78 : decode cX8_howMany 78 = .ok (.aload_n 0, 1) := by decide +kernel
theorem dX8_howMany_79 : decode cX8_howMany 79 = .ok (.getfield 32, 3) := by decide +kernel
theorem dX8_howMany_82 : decode cX8_howMany 82 = .ok (.ireturn, 1) := by decide +kernel
theorem dX8_howMany_83 : decode cX8_howMany 83 = .ok (.aload_n 0, 1) := by decide +kernel
theorem dX8_howMany_84 : decode cX8_howMany 84 = .ok (.invokevirtual 270, 3) := by decide +kernel
theorem dX8_howMany_87 : decode cX8_howMany 87 = .ok (.ireturn, 1) := by decide +kernel
theorem dX8_howMany_88 : decode cX8_howMany 88 = .ok (.sipush (-1002), 3) := by decide +kernel
theorem dX8_howMany_91 : decode cX8_howMany 91 = .ok (.ireturn, 1) := by decide +kernel
theorem dX8_count_0 : decode cX8_count 0 = .ok (.aload_n 0, 1) := by decide +kernel
theorem dX8_count_1 : decode cX8_count 1 = .ok (.iload_n 1, 1) := by decide +kernel
theorem dX8_count_2 : decode cX8_count 2 = .ok (.invokevirtual 273, 3) := by decide +kernel
theorem dX8_count_5 : decode cX8_count 5 = .ok (.ireturn, 1) := by decide +kernel
theorem dX8_mix_0 : decode cX8_mix 0 = .ok (.aload_n 0, 1) := by decide +kernel
theorem dX8_mix_1 : decode cX8_mix 1 = .ok (.ldc2_w 276, 3) := by decide +kernel
theorem dX8_mix_4 : decode cX8_mix 4 = .ok (.aload_n 0, 1) := by decide +kernel
theorem dX8_mix_5 : decode cX8_mix 5 = .ok (.getfield 278, 3) := by decide +kernel
theorem dX8_mix_8 : decode cX8_mix 8 = .ok (.lmul, 1) := by decide +kernel
theorem dX8_mix_9 : decode cX8_mix 9 = .ok (.lload_n 1, 1) := by decide +kernel
theorem dX8_mix_10 : decode cX8_mix 10 = .ok (.ladd, 1) := by decide +kernel
theorem dX8_mix_11 : decode cX8_mix 11 = .ok (.putfield 278, 3) := by decide +kernel
theorem dX8_mix_14 : decode cX8_mix 14 = .ok (.return_, 1) := by decide +kernel
theorem dX8_mixQuestion_0 : decode cX8_mixQuestion 0 = .ok (.iconst 0, 1) := by decide +kernel
theorem dX8_mixQuestion_1 : decode cX8_mixQuestion 1 = .ok (.istore_n 1, 1) := by decide +kernel
theorem dX8_mixQuestion_2 : decode cX8_mixQuestion 2 = .ok (.iload_n 1, 1) := by decide +kernel
theorem dX8_mixQuestion_3 : decode cX8_mixQuestion 3 = .ok (.bipush 10, 2) := by decide +kernel
theorem dX8_mixQuestion_5 : decode cX8_mixQuestion 5 = .ok (.if_icmp .ge 19, 3) := by decide +kernel
theorem dX8_mixQuestion_8 : decode cX8_mixQuestion 8 = .ok (.aload_n 0, 1) := by decide +kernel
theorem dX8_mixQuestion_9 : decode cX8_mixQuestion 9 = .ok (.aload_n 0, 1) := by decide +kernel
theorem dX8_mixQuestion_10 : decode cX8_mixQuestion 10 = .ok (.iload_n 1, 1) := by decide +kernel
theorem dX8_mixQuestion_11 : decode cX8_mixQuestion 11 = .ok (.invokevirtual 267, 3) := by decide +kernel
theorem dX8_mixQuestion_14 : decode cX8_mixQuestion 14 = .ok (.i2l, 1) := by decide +kernel
theorem dX8_mixQuestion_15 : decode cX8_mixQuestion 15 = .ok (.invokevirtual 282, 3) := by decide +kernel
theorem dX8_mixQuestion_18 : decode cX8_mixQuestion 18 = .ok (.iinc 1 1, 3) := by decide +kernel
theorem dX8_mixQuestion_21 : decode cX8_mixQuestion 21 = .ok (.goto (-19), 3) := by decide +kernel
theorem dX8_mixQuestion_24 : decode cX8_mixQuestion 24 = .ok (.iconst 0, 1) := by decide +kernel
theorem dX8_mixQuestion_25 : decode cX8_mixQuestion 25 = .ok (.istore_n 1, 1) := by decide +kernel
theorem dX8_mixQuestion_26 : decode cX8_mixQuestion 26 = .ok (.iload_n 1, 1) := by decide +kernel
theorem dX8_mixQuestion_27 : decode cX8_mixQuestion 27 = .ok (.aload_n 0, 1) := by decide +kernel
theorem dX8_mixQuestion_28 : decode cX8_mixQuestion 28 = .ok (.getfield 107, 3) := by decide +kernel
theorem dX8_mixQuestion_31 : decode cX8_mixQuestion 31 = .ok (.if_icmp .ge 34, 3) := by decide +kernel
theorem dX8_mixQuestion_34 : decode cX8_mixQuestion 34 = .ok (.iconst 0, 1) := by decide +kernel
theorem dX8_mixQuestion_35 : decode cX8_mixQuestion 35 = .ok (.istore_n 2, 1) := by decide +kernel
theorem dX8_mixQuestion_36 : decode cX8_mixQuestion 36 = .ok (.iload_n 2, 1) := by decide +kernel
theorem dX8_mixQuestion_37 : decode cX8_mixQuestion 37 = .ok (.bipush 10, 2) := by decide +kernel
theorem dX8_mixQuestion_39 : decode cX8_mixQuestion 39 = .ok (.if_icmp .ge 20, 3) := by decide +kernel
theorem dX8_mixQuestion_42 : decode cX8_mixQuestion 42 = .ok (.aload_n 0, 1) := by decide +kernel
theorem dX8_mixQuestion_43 : decode cX8_mixQuestion 43 = .ok (.aload_n 0, 1) := by decide +kernel
theorem dX8_mixQuestion_44 : decode cX8_mixQuestion 44 = .ok (.iload_n 1, 1) := by decide +kernel
theorem dX8_mixQuestion_45 : decode cX8_mixQuestion 45 = .ok (.iload_n 2, 1) := by decide +kernel
theorem dX8_mixQuestion_46 : decode cX8_mixQuestion 46 = .ok (.invokevirtual 242, 3) := by decide +kernel
theorem dX8_mixQuestion_49 : decode cX8_mixQuestion 49 = .ok (.i2l, 1) := by decide +kernel
theorem dX8_mixQuestion_50 : decode cX8_mixQuestion 50 = .ok (.invokevirtual 282, 3) := by decide +kernel
theorem dX8_mixQuestion_53 : decode cX8_mixQuestion 53 = .ok (.iinc 2 1, 3) := by decide +kernel
theorem dX8_mixQuestion_56 : decode cX8_mixQuestion 56 = .ok (.goto (-20), 3) := by decide +kernel
theorem dX8_mixQuestion_59 : decode cX8_mixQuestion 59 = .ok (.iinc 1 1, 3) := by decide +kernel
theorem dX8_mixQuestion_62 : decode cX8_mixQuestion 62 = .ok (.goto (-36), 3) := by decide +kernel
theorem dX8_mixQuestion_65 : decode cX8_mixQuestion 65 = .ok (.aload_n 0, 1) := by decide +kernel
theorem dX8_mixQuestion_66 : decode cX8_mixQuestion 66 = .ok (.invokevirtual 251, 3) := by decide +kernel
theorem dX8_mixQuestion_69 : decode cX8_mixQuestion 69 = .ok (.iconst 0, 1) := by decide +kernel
theorem dX8_mixQuestion_70 : decode cX8_mixQuestion 70 = .ok (.istore_n 1, 1) := by decide +kernel
theorem dX8_mixQuestion_71 : decode cX8_mixQuestion 71 = .ok (.iload_n 1, 1) := by decide +kernel
theorem dX8_mixQuestion_72 : decode cX8_mixQuestion 72 = .ok (.aload_n 0, 1) := by decide +kernel
theorem dX8_mixQuestion_73 : decode cX8_mixQuestion 73 = .ok (.getfield 245, 3) := by decide +kernel
theorem dX8_mixQuestion_76 : decode cX8_mixQuestion 76 = .ok (.if_icmp .ge 20, 3) := by decide +kernel
theorem dX8_mixQuestion_79 : decode cX8_mixQuestion 79 = .ok (.aload_n 0, 1) := by decide +kernel
theorem dX8_mixQuestion_80 : decode cX8_mixQuestion 80 = .ok (.aload_n 0, 1) := by decide +kernel
theorem dX8_mixQuestion_81 : decode cX8_mixQuestion 81 = .ok (.getfield 59, 3) := by decide +kernel
theorem dX8_mixQuestion_84 : decode cX8_mixQuestion 84 = .ok (.iload_n 1, 1) := by decide +kernel
theorem dX8_mixQuestion_85 : decode cX8_mixQuestion 85 = .ok (.iaload, 1) := by decide +kernel
theorem dX8_mixQuestion_86 : decode cX8_mixQuestion 86 = .ok (.i2l, 1) := by decide +kernel
theorem dX8_mixQuestion_87 : decode cX8_mixQuestion 87 = .ok (.invokevirtual 282, 3) := by decide +kernel
theorem dX8_mixQuestion_90 : decode cX8_mixQuestion 90 = .ok (.iinc 1 1, 3) := by decide +kernel
theorem dX8_mixQuestion_93 : decode cX8_mixQuestion 93 = .ok (.goto (-22), 3) := by decide +kernel
theorem dX8_mixQuestion_96 : decode cX8_mixQuestion 96 = .ok (.return_, 1) := by decide +kernel
theorem dX8_digest_0 : decode cX8_digest 0 = .ok (.aload_n 0, 1) := by decide +kernel
theorem dX8_digest_1 : decode cX8_digest 1 = .ok (.ldc2_w 286, 3) := by decide +kernel
theorem dX8_digest_4 : decode cX8_digest 4 = .ok (.putfield 278, 3) := by decide +kernel
theorem dX8_digest_7 : decode cX8_digest 7 = .ok (.iconst 0, 1) := by decide +kernel
theorem dX8_digest_8 : decode cX8_digest 8 = .ok (.istore_n 1, 1) := by decide +kernel
theorem dX8_digest_9 : decode cX8_digest 9 = .ok (.iload_n 1, 1) := by decide +kernel
theorem dX8_digest_10 : decode cX8_digest 10 = .ok (.bipush 6, 2) := by decide +kernel
theorem dX8_digest_12 : decode cX8_digest 12 = .ok (.aload_n 0, 1) := by decide +kernel
theorem dX8_digest_13 : decode cX8_digest 13 = .ok (.getfield 107, 3) := by decide +kernel
theorem dX8_digest_16 : decode cX8_digest 16 = .ok (.imul, 1) := by decide +kernel
theorem dX8_digest_17 : decode cX8_digest 17 = .ok (.if_icmp .ge 26, 3) := by decide +kernel
theorem dX8_digest_20 : decode cX8_digest 20 = .ok (.aload_n 0, 1) := by decide +kernel
theorem dX8_digest_21 : decode cX8_digest 21 = .ok (.aload_n 0, 1) := by decide +kernel
theorem dX8_digest_22 : decode cX8_digest 22 = .ok (.iload_n 1, 1) := by decide +kernel
theorem dX8_digest_23 : decode cX8_digest 23 = .ok (.bipush 6, 2) := by decide +kernel
theorem dX8_digest_25 : decode cX8_digest 25 = .ok (.idiv, 1) := by decide +kernel
theorem dX8_digest_26 : decode cX8_digest 26 = .ok (.iload_n 1, 1) := by decide +kernel
theorem dX8_digest_27 : decode cX8_digest 27 = .ok (.bipush 6, 2) := by decide +kernel
theorem dX8_digest_29 : decode cX8_digest 29 = .ok (.irem, 1) := by decide +kernel
theorem dX8_digest_30 : decode cX8_digest 30 = .ok (.invokevirtual 192, 3) := by decide +kernel
theorem dX8_digest_33 : decode cX8_digest 33 = .ok (.i2l, 1) := by decide +kernel
theorem dX8_digest_34 : decode cX8_digest 34 = .ok (.invokevirtual 282, 3) := by decide +kernel
theorem dX8_digest_37 : decode cX8_digest 37 = .ok (.iinc 1 1, 3) := by decide +kernel
theorem dX8_digest_40 : decode cX8_digest 40 = .ok (.goto (-31), 3) := by decide +kernel
theorem dX8_digest_43 : decode cX8_digest 43 = .ok (.iconst 0, 1) := by decide +kernel
theorem dX8_digest_44 : decode cX8_digest 44 = .ok (.istore_n 1, 1) := by decide +kernel
theorem dX8_digest_45 : decode cX8_digest 45 = .ok (.iload_n 1, 1) := by decide +kernel
theorem dX8_digest_46 : decode cX8_digest 46 = .ok (.aload_n 0, 1) := by decide +kernel
theorem dX8_digest_47 : decode cX8_digest 47 = .ok (.getfield 107, 3) := by decide +kernel
theorem dX8_digest_50 : decode cX8_digest 50 = .ok (.if_icmp .ge 52, 3) := by decide +kernel
theorem dX8_digest_53 : decode cX8_digest 53 = .ok (.iload_n 1, 1) := by decide +kernel
theorem dX8_digest_54 : decode cX8_digest 54 = .ok (.iconst 1, 1) := by decide +kernel
theorem dX8_digest_55 : decode cX8_digest 55 = .ok (.iadd, 1) := by decide +kernel
theorem dX8_digest_56 : decode cX8_digest 56 = .ok (.istore_n 2, 1) := by decide +kernel
theorem dX8_digest_57 : decode cX8_digest 57 = .ok (.iload_n 2, 1) := by decide +kernel
theorem dX8_digest_58 : decode cX8_digest 58 = .ok (.aload_n 0, 1) := by decide +kernel
theorem dX8_digest_59 : decode cX8_digest 59 = .ok (.getfield 107, 3) := by decide +kernel
theorem dX8_digest_62 : decode cX8_digest 62 = .ok (.if_icmp .ge 34, 3) := by decide +kernel
theorem dX8_digest_65 : decode cX8_digest 65 = .ok (.iconst 0, 1) := by decide +kernel
theorem dX8_digest_66 : decode cX8_digest 66 = .ok (.istore_n 3, 1) := by decide +kernel
theorem dX8_digest_67 : decode cX8_digest 67 = .ok (.iload_n 3, 1) := by decide +kernel
theorem dX8_digest_68 : decode cX8_digest 68 = .ok (.iconst 5, 1) := by decide +kernel
theorem dX8_digest_69 : decode cX8_digest 69 = .ok (.if_icmp .ge 21, 3) := by decide +kernel
theorem dX8_digest_72 : decode cX8_digest 72 = .ok (.aload_n 0, 1) := by decide +kernel
theorem dX8_digest_73 : decode cX8_digest 73 = .ok (.aload_n 0, 1) := by decide +kernel
theorem dX8_digest_74 : decode cX8_digest 74 = .ok (.iload_n 1, 1) := by decide +kernel
theorem dX8_digest_75 : decode cX8_digest 75 = .ok (.iload_n 2, 1) := by decide +kernel
theorem dX8_digest_76 : decode cX8_digest 76 = .ok (.iload_n 3, 1) := by decide +kernel
theorem dX8_digest_77 : decode cX8_digest 77 = .ok (.invokevirtual 213, 3) := by decide +kernel
theorem dX8_digest_80 : decode cX8_digest 80 = .ok (.i2l, 1) := by decide +kernel
theorem dX8_digest_81 : decode cX8_digest 81 = .ok (.invokevirtual 282, 3) := by decide +kernel
theorem dX8_digest_84 : decode cX8_digest 84 = .ok (.iinc 3 1, 3) := by decide +kernel
theorem dX8_digest_87 : decode cX8_digest 87 = .ok (.goto (-20), 3) := by decide +kernel
theorem dX8_digest_90 : decode cX8_digest 90 = .ok (.iinc 2 1, 3) := by decide +kernel
theorem dX8_digest_93 : decode cX8_digest 93 = .ok (.goto (-36), 3) := by decide +kernel
theorem dX8_digest_96 : decode cX8_digest 96 = .ok (.iinc 1 1, 3) := by decide +kernel
theorem dX8_digest_99 : decode cX8_digest 99 = .ok (.goto (-54), 3) := by decide +kernel
theorem dX8_digest_102 : decode cX8_digest 102 = .ok (.aload_n 0, 1) := by decide +kernel
theorem dX8_digest_103 : decode cX8_digest 103 = .ok (.getfield 126, 3) := by decide +kernel
theorem dX8_digest_106 : decode cX8_digest 106 = .ok (.ifCond .eq 7, 3) := by decide +kernel
theorem dX8_digest_109 : decode cX8_digest 109 = .ok (.aload_n 0, 1) := by decide +kernel
theorem dX8_digest_110 : decode cX8_digest 110 = .ok (.invokevirtual 288, 3) := by decide +kernel
theorem dX8_digest_113 : decode cX8_digest 113 = .ok (.iconst 0, 1) := by decide +kernel
theorem dX8_digest_114 : decode cX8_digest 114 = .ok (.istore_n 1, 1) := by decide +kernel
theorem dX8_digest_115 : decode cX8_digest 115 = .ok (.iload_n 1, 1) := by decide +kernel
theorem dX8_digest_116 : decode cX8_digest 116 = .ok (.aload_n 0, 1) := by decide +kernel
theorem dX8_digest_117 : decode cX8_digest 117 = .ok (.getfield 79, 3) := by decide +kernel
theorem dX8_digest_120 : decode cX8_digest 120 = .ok (.if_icmp .ge 20, 3) := by decide +kernel
theorem dX8_digest_123 : decode cX8_digest 123 = .ok (.aload_n 0, 1) := by decide +kernel
theorem dX8_digest_124 : decode cX8_digest 124 = .ok (.aload_n 0, 1) := by decide +kernel
theorem dX8_digest_125 : decode cX8_digest 125 = .ok (.getfield 7, 3) := by decide +kernel
theorem dX8_digest_128 : decode cX8_digest 128 = .ok (.iload_n 1, 1) := by decide +kernel
theorem dX8_digest_129 : decode cX8_digest 129 = .ok (.iaload, 1) := by decide +kernel
theorem dX8_digest_130 : decode cX8_digest 130 = .ok (.i2l, 1) := by decide +kernel
theorem dX8_digest_131 : decode cX8_digest 131 = .ok (.invokevirtual 282, 3) := by decide +kernel
theorem dX8_digest_134 : decode cX8_digest 134 = .ok (.iinc 1 1, 3) := by decide +kernel
theorem dX8_digest_137 : decode cX8_digest 137 = .ok (.goto (-22), 3) := by decide +kernel
theorem dX8_digest_140 : decode cX8_digest 140 = .ok (.iconst 0, 1) := by decide +kernel
theorem dX8_digest_141 : decode cX8_digest 141 = .ok (.istore_n 1, 1) := by decide +kernel
theorem dX8_digest_142 : decode cX8_digest 142 = .ok (.iload_n 1, 1) := by decide +kernel
theorem dX8_digest_143 : decode cX8_digest 143 = .ok (.bipush 8, 2) := by decide +kernel
theorem dX8_digest_145 : decode cX8_digest 145 = .ok (.if_icmp .ge 19, 3) := by decide +kernel
theorem dX8_digest_148 : decode cX8_digest 148 = .ok (.aload_n 0, 1) := by decide +kernel
theorem dX8_digest_149 : decode cX8_digest 149 = .ok (.aload_n 0, 1) := by decide +kernel
theorem dX8_digest_150 : decode cX8_digest 150 = .ok (.iload_n 1, 1) := by decide +kernel
theorem dX8_digest_151 : decode cX8_digest 151 = .ok (.invokevirtual 273, 3) := by decide +kernel
theorem dX8_digest_154 : decode cX8_digest 154 = .ok (.i2l, 1) := by decide +kernel
theorem dX8_digest_155 : decode cX8_digest 155 = .ok (.invokevirtual 282, 3) := by decide +kernel
theorem dX8_digest_158 : decode cX8_digest 158 = .ok (.iinc 1 1, 3) := by decide +kernel
theorem dX8_digest_161 : decode cX8_digest 161 = .ok (.goto (-19), 3) := by decide +kernel
theorem dX8_digest_164 : decode cX8_digest 164 = .ok (.aload_n 0, 1) := by decide +kernel
theorem dX8_digest_165 : decode cX8_digest 165 = .ok (.getfield 278, 3) := by decide +kernel
theorem dX8_digest_168 : decode cX8_digest 168 = .ok (.lreturn, 1) := by decide +kernel
