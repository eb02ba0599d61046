theorem dX8_init_0 : decode cX8_init 0 = .ok (.aload_n 0, 1) := by decide +kernel
theorem dX8_init_1 : decode cX8_init 1 = .ok (.invokespecial 1, 3) := by decide +kernel
theorem dX8_init_4 : decode cX8_init 4 = .ok (.aload_n 0, 1) := by decide +kernel
theorem dX8_init_5 : decode cX8_init 5 = .ok (.bipush 48, 2) := by decide +kernel
theorem dX8_init_7 : decode cX8_init 7 = .ok (.newarray .int, 2) := by decide +kernel
theorem dX8_init_9 : decode cX8_init 9 = .ok (.putfield 7, 3) := by decide +kernel
theorem dX8_init_12 : decode cX8_init 12 = .ok (.aload_n 0, 1) := by decide +kernel
theorem dX8_init_13 : decode cX8_init 13 = .ok (.bipush 14, 2) := by decide +kernel
theorem dX8_init_15 : decode cX8_init 15 = .ok (.newarray .int, 2) := by decide +kernel
theorem dX8_init_17 : decode cX8_init 17 = .ok (.putfield 13, 3) := by decide +kernel
theorem dX8_init_20 : decode cX8_init 20 = .ok (.aload_n 0, 1) := by decide +kernel
theorem dX8_init_21 : decode cX8_init 21 = .ok (.bipush 14, 2) := by decide +kernel
theorem dX8_init_23 : decode cX8_init 23 = .ok (.newarray .int, 2) := by decide +kernel
theorem dX8_init_25 : decode cX8_init 25 = .ok (.putfield 16, 3) := by decide +kernel
theorem dX8_init_28 : decode cX8_init 28 = .ok (.aload_n 0, 1) := by decide +kernel
theorem dX8_init_29 : decode cX8_init 29 = .ok (.bipush 112, 2) := by decide +kernel
theorem dX8_init_31 : decode cX8_init 31 = .ok (.newarray .int, 2) := by decide +kernel
theorem dX8_init_33 : decode cX8_init 33 = .ok (.putfield 19, 3) := by decide +kernel
theorem dX8_init_36 : decode cX8_init 36 = .ok (.aload_n 0, 1) := by decide +kernel
theorem dX8_init_37 : decode cX8_init 37 = .ok (.bipush 112, 2) := by decide +kernel
theorem dX8_init_39 : decode cX8_init 39 = .ok (.newarray .int, 2) := by decide +kernel
theorem dX8_init_41 : decode cX8_init 41 = .ok (.putfield 22, 3) := by decide +kernel
theorem dX8_init_44 : decode cX8_init 44 = .ok (.aload_n 0, 1) := by decide +kernel
theorem dX8_init_45 : decode cX8_init 45 = .ok (.sipush 1344, 3) := by decide +kernel
theorem dX8_init_48 : decode cX8_init 48 = .ok (.newarray .int, 2) := by decide +kernel
theorem dX8_init_50 : decode cX8_init 50 = .ok (.putfield 25, 3) := by decide +kernel
theorem dX8_init_53 : decode cX8_init 53 = .ok (.aload_n 0, 1) := by decide +kernel
theorem dX8_init_54 : decode cX8_init 54 = .ok (.iconst 5, 1) := by decide +kernel
theorem dX8_init_55 : decode cX8_init 55 = .ok (.putfield 28, 3) := by decide +kernel
theorem dX8_init_58 : decode cX8_init 58 = .ok (.aload_n 0, 1) := by decide +kernel
theorem dX8_init_59 : decode cX8_init 59 = .ok (.sipush 700, 3) := by decide +kernel
theorem dX8_init_62 : decode cX8_init 62 = .ok (.putfield 32, 3) := by decide +kernel
theorem dX8_init_65 : decode cX8_init 65 = .ok (.aload_n 0, 1) := by decide +kernel
theorem dX8_init_66 : decode cX8_init 66 = .ok (.sipush 169, 3) := by decide +kernel
theorem dX8_init_69 : decode cX8_init 69 = .ok (.newarray .int, 2) := by decide +kernel
theorem dX8_init_71 : decode cX8_init 71 = .ok (.putfield 35, 3) := by decide +kernel
theorem dX8_init_74 : decode cX8_init 74 = .ok (.aload_n 0, 1) := by decide +kernel
theorem dX8_init_75 : decode cX8_init 75 = .ok (.bipush 81, 2) := by decide +kernel
theorem dX8_init_77 : decode cX8_init 77 = .ok (.newarray .int, 2) := by decide +kernel
theorem dX8_init_79 : decode cX8_init 79 = .ok (.putfield 38, 3) := by decide +kernel
theorem dX8_init_82 : decode cX8_init 82 = .ok (.aload_n 0, 1) := by decide +kernel
theorem dX8_init_83 : decode cX8_init 83 = .ok (.bipush 64, 2) := by decide +kernel
theorem dX8_init_85 : decode cX8_init 85 = .ok (.newarray .int, 2) := by decide +kernel
theorem dX8_init_87 : decode cX8_init 87 = .ok (.putfield 41, 3) := by decide +kernel
theorem dX8_init_90 : decode cX8_init 90 = .ok (.aload_n 0, 1) := by decide +kernel
theorem dX8_init_91 : decode cX8_init 91 = .ok (.bipush 16, 2) := by decide +kernel
theorem dX8_init_93 : decode cX8_init 93 = .ok (.newarray .int, 2) := by decide +kernel
theorem dX8_init_95 : decode cX8_init 95 = .ok (.putfield 44, 3) := by decide +kernel
theorem dX8_init_98 : decode cX8_init 98 = .ok (.aload_n 0, 1) := by decide +kernel
theorem dX8_init_99 : decode cX8_init 99 = .ok (.bipush 16, 2) := by decide +kernel
theorem dX8_init_101 : decode cX8_init 101 = .ok (.newarray .int, 2) := by decide +kernel
theorem dX8_init_103 : decode cX8_init 103 = .ok (.putfield 47, 3) := by decide +kernel
theorem dX8_init_106 : decode cX8_init 106 = .ok (.aload_n 0, 1) := by decide +kernel
theorem dX8_init_107 : decode cX8_init 107 = .ok (.bipush 16, 2) := by decide +kernel
theorem dX8_init_109 : decode cX8_init 109 = .ok (.newarray .int, 2) := by decide +kernel
theorem dX8_init_111 : decode cX8_init 111 = .ok (.putfield 50, 3) := by decide +kernel
theorem dX8_init_114 : decode cX8_init 114 = .ok (.aload_n 0, 1) := by decide +kernel
theorem dX8_init_115 : decode cX8_init 115 = .ok (.bipush 16, 2) := by decide +kernel
theorem dX8_init_117 : decode cX8_init 117 = .ok (.newarray .int, 2) := by decide +kernel
theorem dX8_init_119 : decode cX8_init 119 = .ok (.putfield 53, 3) := by decide +kernel
theorem dX8_init_122 : decode cX8_init 122 = .ok (.aload_n 0, 1) := by decide +kernel
theorem dX8_init_123 : decode cX8_init 123 = .ok (.sipush 784, 3) := by decide +kernel
theorem dX8_init_126 : decode cX8_init 126 = .ok (.newarray .int, 2) := by decide +kernel
theorem dX8_init_128 : decode cX8_init 128 = .ok (.putfield 56, 3) := by decide +kernel
theorem dX8_init_131 : decode cX8_init 131 = .ok (.aload_n 0, 1) := by decide +kernel
theorem dX8_init_132 : decode cX8_init 132 = .ok (.bipush 12, 2) := by decide +kernel
theorem dX8_init_134 : decode cX8_init 134 = .ok (.newarray .int, 2) := by decide +kernel
theorem dX8_init_136 : decode cX8_init 136 = .ok (.putfield 59, 3) := by decide +kernel
theorem dX8_init_139 : decode cX8_init 139 = .ok (.aload_n 0, 1) := by decide +kernel
theorem dX8_init_140 : decode cX8_init 140 = .ok (.bipush 12, 2) := by decide +kernel
theorem dX8_init_142 : decode cX8_init 142 = .ok (.newarray .int, 2) := by decide +kernel
theorem dX8_init_144 : decode cX8_init 144 = .ok (.putfield 62, 3) := by decide +kernel
theorem dX8_init_147 : decode cX8_init 147 = .ok (.aload_n 0, 1) := by decide +kernel
theorem dX8_init_148 : decode cX8_init 148 = .ok (.bipush 12, 2) := by decide +kernel
theorem dX8_init_150 : decode cX8_init 150 = .ok (.newarray .int, 2) := by decide +kernel
theorem dX8_init_152 : decode cX8_init 152 = .ok (.putfield 65, 3) := by decide +kernel
theorem dX8_init_155 : decode cX8_init 155 = .ok (.aload_n 0, 1) := by decide +kernel
theorem dX8_init_156 : decode cX8_init 156 = .ok (.bipush 8, 2) := by decide +kernel
theorem dX8_init_158 : decode cX8_init 158 = .ok (.newarray .boolean, 2) := by decide +kernel
theorem dX8_init_160 : decode cX8_init 160 = .ok (.putfield 68, 3) := by decide +kernel
theorem dX8_init_163 : decode cX8_init 163 = .ok (.aload_n 0, 1) := by decide +kernel
theorem dX8_init_164 : decode cX8_init 164 = .ok (.sipush 784, 3) := by decide +kernel
theorem dX8_init_167 : decode cX8_init 167 = .ok (.newarray .boolean, 2) := by decide +kernel
theorem dX8_init_169 : decode cX8_init 169 = .ok (.putfield 72, 3) := by decide +kernel
theorem dX8_init_172 : decode cX8_init 172 = .ok (.return_, 1) := by decide +kernel
theorem dX8_within_0 : decode cX8_within 0 = .ok (.iload_n 0, 1) := by decide +kernel
theorem dX8_within_1 : decode cX8_within 1 = .ok (.iload_n 1, 1) := by decide +kernel
theorem dX8_within_2 : decode cX8_within 2 = .ok (.if_icmp .lt 12, 3) := by decide +kernel
theorem dX8_within_5 : decode cX8_within 5 = .ok (.iload_n 0, 1) := by decide +kernel
theorem dX8_within_6 : decode cX8_within 6 = .ok (.iload_n 2, 1) := by decide +kernel
theorem dX8_within_7 : decode cX8_within 7 = .ok (.if_icmp .gt 7, 3) := by decide +kernel
theorem dX8_within_10 : decode cX8_within 10 = .ok (.iconst 1, 1) := by decide +kernel
theorem dX8_within_11 : decode cX8_within 11 = .ok (.goto 4, 3) := by decide +kernel
theorem dX8_within_14 : decode cX8_within 14 = .ok (.iconst 0, 1) := by decide +kernel
theorem dX8_within_15 : decode cX8_within 15 = .ok (.ireturn, 1) := by decide +kernel
theorem dX8_letter_0 : decode cX8_letter 0 = .ok (.iload_n 1, 1) := by decide +kernel
theorem dX8_letter_1 : decode cX8_letter 1 = .ok (.bipush 32, 2) := by decide +kernel
theorem dX8_letter_3 : decode cX8_letter 3 = .ok (.bipush 126, 2) := by decide +kernel
theorem dX8_letter_5 : decode cX8_letter 5 = .ok (.invokestatic 75, 3) := by decide +kernel
theorem dX8_letter_8 : decode cX8_letter 8 = .ok (.ifCond .ne 7, 3) := by decide +kernel
theorem dX8_letter_11 : decode cX8_letter 11 = .ok (.sipush (-1002), 3) := by decide +kernel
theorem dX8_letter_14 : decode cX8_letter 14 = .ok (.ireturn, 1) := by decide +kernel
theorem dX8_letter_15 : decode cX8_letter 15 = .ok (.aload_n 0, 1) := by decide +kernel
theorem dX8_letter_16 : decode cX8_letter 16 = .ok (.getfield 79, 3) := by decide +kernel
theorem dX8_letter_19 : decode cX8_letter 19 = .ok (.bipush 48, 2) := by decide +kernel
theorem dX8_letter_21 : decode cX8_letter 21 = .ok (.if_icmp .ne 7, 3) := by decide +kernel
theorem dX8_letter_24 : decode cX8_letter 24 = .ok (.sipush (-1004), 3) := by decide +kernel
theorem dX8_letter_27 : decode cX8_letter 27 = .ok (.ireturn, 1) := by decide +kernel
theorem dX8_letter_28 : decode cX8_letter 28 = .ok (.aload_n 0, 1) := by decide +kernel
theorem dX8_letter_29 : decode cX8_letter 29 = .ok (.getfield 7, 3) := by decide +kernel
theorem dX8_letter_32 : decode cX8_letter 32 = .ok (.aload_n 0, 1) := by decide +kernel
theorem dX8_letter_33 : decode cX8_letter 33 = .ok (.getfield 79, 3) := by decide +kernel
theorem dX8_letter_36 : decode cX8_letter 36 = .ok (.iload_n 1, 1) := by decide +kernel
theorem dX8_letter_37 : decode cX8_letter 37 = .ok (.iastore, 1) := by decide +kernel
theorem dX8_letter_38 : decode cX8_letter 38 = .ok (.aload_n 0, 1) := by decide +kernel
theorem dX8_letter_39 : decode cX8_letter 39 = .ok (.dup, 1) := by decide +kernel
theorem dX8_letter_40 : decode cX8_letter 40 = .ok (.getfield 79, 3) := by decide +kernel
theorem dX8_letter_43 : decode cX8_letter 43 = .ok (.iconst 1, 1) := by decide +kernel
theorem dX8_letter_44 : decode cX8_letter 44 = .ok (.iadd, 1) := by decide +kernel
theorem dX8_letter_45 : decode cX8_letter 45 = .ok (.putfield 79, 3) := by decide +kernel
theorem dX8_letter_48 : decode cX8_letter 48 = .ok (.aload_n 0, 1) := by decide +kernel
theorem dX8_letter_49 : decode cX8_letter 49 = .ok (.getfield 79, 3) := by decide +kernel
theorem dX8_letter_52 : decode cX8_letter 52 = .ok (.ireturn, 1) := by decide +kernel
theorem dX8_blank_0 : decode cX8_blank 0 = .ok (.aload_n 0, 1) := by decide +kernel
theorem dX8_blank_1 : decode cX8_blank 1 = .ok (.getfield 79, 3) := by decide +kernel
theorem dX8_blank_4 : decode cX8_blank 4 = .ok (.istore_n 1, 1) := by decide +kernel
theorem dX8_blank_5 : decode cX8_blank 5 = .ok (.aload_n 0, 1) := by decide +kernel
theorem dX8_blank_6 : decode cX8_blank 6 = .ok (.iconst 0, 1) := by decide +kernel
theorem dX8_blank_7 : decode cX8_blank 7 = .ok (.putfield 79, 3) := by decide +kernel
theorem dX8_blank_10 : decode cX8_blank 10 = .ok (.iload_n 1, 1) := by decide +kernel
theorem dX8_blank_11 : decode cX8_blank 11 = .ok (.ireturn, 1) := by decide +kernel
theorem dX8_begins_0 : decode cX8_begins 0 = .ok (.bipush 104, 2) := by decide +kernel
theorem dX8_begins_2 : decode cX8_begins 2 = .ok (.aload_n 0, 1) := by decide +kernel
theorem dX8_begins_3 : decode cX8_begins 3 = .ok (.getfield 13, 3) := by decide +kernel
theorem dX8_begins_6 : decode cX8_begins 6 = .ok (.bipush 13, 2) := by decide +kernel
theorem dX8_begins_8 : decode cX8_begins 8 = .ok (.iaload, 1) := by decide +kernel
theorem dX8_begins_9 : decode cX8_begins 9 = .ok (.iadd, 1) := by decide +kernel
theorem dX8_begins_10 : decode cX8_begins 10 = .ok (.istore_n 2, 1) := by decide +kernel
theorem dX8_begins_11 : decode cX8_begins 11 = .ok (.aload_n 0, 1) := by decide +kernel
theorem dX8_begins_12 : decode cX8_begins 12 = .ok (.getfield 19, 3) := by decide +kernel
theorem dX8_begins_15 : decode cX8_begins 15 = .ok (.iload_n 2, 1) := by decide +kernel
theorem dX8_begins_16 : decode cX8_begins 16 = .ok (.iconst 0, 1) := by decide +kernel
theorem dX8_begins_17 : decode cX8_begins 17 = .ok (.iastore, 1) := by decide +kernel
theorem dX8_begins_18 : decode cX8_begins 18 = .ok (.aload_n 0, 1) := by decide +kernel
theorem dX8_begins_19 : decode cX8_begins 19 = .ok (.getfield 22, 3) := by decide +kernel
theorem dX8_begins_22 : decode cX8_begins 22 = .ok (.iload_n 2, 1) := by decide +kernel
theorem dX8_begins_23 : decode cX8_begins 23 = .ok (.iconst 0, 1) := by decide +kernel
theorem dX8_begins_24 : decode cX8_begins 24 = .ok (.iastore, 1) := by decide +kernel
theorem dX8_begins_25 : decode cX8_begins 25 = .ok (.iload_n 1, 1) := by decide +kernel
theorem dX8_begins_26 : decode cX8_begins 26 = .ok (.bipush 91, 2) := by decide +kernel
theorem dX8_begins_28 : decode cX8_begins 28 = .ok (.if_icmp .ne 10, 3) := by decide +kernel
theorem dX8_begins_31 : decode cX8_begins 31 = .ok (.aload_n 0, 1) := by decide +kernel
theorem dX8_begins_32 : decode cX8_begins 32 = .ok (.iconst 2, 1) := by decide +kernel
theorem dX8_begins_33 : decode cX8_begins 33 = .ok (.putfield 82, 3) := by decide +kernel
theorem dX8_begins_36 : decode cX8_begins 36 = .ok (.iconst 1, 1) := by decide +kernel
theorem dX8_begins_37 : decode cX8_begins 37 = .ok (.ireturn, 1) := by decide +kernel
theorem dX8_begins_38 : decode cX8_begins 38 = .ok (.aload_n 0, 1) := by decide +kernel
theorem dX8_begins_39 : decode cX8_begins 39 = .ok (.iload_n 1, 1) := by decide +kernel
theorem dX8_begins_40 : decode cX8_begins 40 = .ok (.invokevirtual 85, 3) := by decide +kernel
theorem dX8_begins_43 : decode cX8_begins 43 = .ok (.ireturn, 1) := by decide +kernel
theorem dX8_takesLetter_0 : decode cX8_takesLetter 0 = .ok (.bipush 104, 2) := by decide +kernel
theorem dX8_takesLetter_2 : decode cX8_takesLetter 2 = .ok (.aload_n 0, 1) := by decide +kernel
theorem dX8_takesLetter_3 : decode cX8_takesLetter 3 = .ok (.getfield 13, 3) := by decide +kernel
theorem dX8_takesLetter_6 : decode cX8_takesLetter 6 = .ok (.bipush 13, 2) := by decide +kernel
theorem dX8_takesLetter_8 : decode cX8_takesLetter 8 = .ok (.iaload, 1) := by decide +kernel
theorem dX8_takesLetter_9 : decode cX8_takesLetter 9 = .ok (.iadd, 1) := by decide +kernel
theorem dX8_takesLetter_10 : decode cX8_takesLetter 10 = .ok (.istore_n 2, 1) := by decide +kernel
theorem dX8_takesLetter_11 : decode cX8_takesLetter 11 = .ok (.iload_n 1, 1) := by decide +kernel
theorem dX8_takesLetter_12 : decode cX8_takesLetter 12 = .ok (.bipush 97, 2) := by decide +kernel
theorem dX8_takesLetter_14 : decode cX8_takesLetter 14 = .ok (.bipush 122, 2) := by decide +kernel
theorem dX8_takesLetter_16 : decode cX8_takesLetter 16 = .ok (.invokestatic 75, 3) := by decide +kernel
theorem dX8_takesLetter_19 : decode cX8_takesLetter 19 = .ok (.ifCond .eq 14, 3) := by decide +kernel
theorem dX8_takesLetter_22 : decode cX8_takesLetter 22 = .ok (.aload_n 0, 1) := by decide +kernel
theorem dX8_takesLetter_23 : decode cX8_takesLetter 23 = .ok (.getfield 19, 3) := by decide +kernel
theorem dX8_takesLetter_26 : decode cX8_takesLetter 26 = .ok (.iload_n 2, 1) := by decide +kernel
theorem dX8_takesLetter_27 : decode cX8_takesLetter 27 = .ok (.iaload, 1) := by decide +kernel
theorem dX8_takesLetter_28 : decode cX8_takesLetter 28 = .ok (.bipush 12, 2) := by decide +kernel
theorem dX8_takesLetter_30 : decode cX8_takesLetter 30 = .ok (.if_icmp .ne 5, 3) := by decide +kernel
theorem dX8_takesLetter_33 : decode cX8_takesLetter 33 = .ok (.iconst 0, 1) := by decide +kernel
theorem dX8_takesLetter_34 : decode cX8_takesLetter 34 = .ok (.ireturn, 1) := by decide +kernel
theorem dX8_takesLetter_35 : decode cX8_takesLetter 35 = .ok (.aload_n 0, 1) := by decide +kernel
theorem dX8_takesLetter_36 : decode cX8_takesLetter 36 = .ok (.getfield 25, 3) := by decide +kernel
theorem dX8_takesLetter_39 : decode cX8_takesLetter 39 = .ok (.bipush 12, 2) := by decide +kernel
theorem dX8_takesLetter_41 : decode cX8_takesLetter 41 = .ok (.iload_n 2, 1) := by decide +kernel
theorem dX8_takesLetter_42 : decode cX8_takesLetter 42 = .ok (.imul, 1) := by decide +kernel
theorem dX8_takesLetter_43 : decode cX8_takesLetter 43 = .ok (.aload_n 0, 1) := by decide +kernel
theorem dX8_takesLetter_44 : decode cX8_takesLetter 44 = .ok (.getfield 19, 3) := by decide +kernel
theorem dX8_takesLetter_47 : decode cX8_takesLetter 47 = .ok (.iload_n 2, 1) := by decide +kernel
theorem dX8_takesLetter_48 : decode cX8_takesLetter 48 = .ok (.iaload, 1) := by decide +kernel
theorem dX8_takesLetter_49 : decode cX8_takesLetter 49 = .ok (.iadd, 1) := by decide +kernel
theorem dX8_takesLetter_50 : decode cX8_takesLetter 50 = .ok (.iload_n 1, 1) := by decide +kernel
theorem dX8_takesLetter_51 : decode cX8_takesLetter 51 = .ok (.iastore, 1) := by decide +kernel
theorem dX8_takesLetter_52 : decode cX8_takesLetter 52 = .ok (.aload_n 0, 1) := by decide +kernel
theorem dX8_takesLetter_53 : decode cX8_takesLetter 53 = .ok (.getfield 19, 3) := by decide +kernel
theorem dX8_takesLetter_56 : decode cX8_takesLetter 56 = .ok (.iload_n 2, 1) := by decide +kernel
theorem dX8_takesLetter_57 : decode cX8_takesLetter 57 = .ok (.dup2, 1) := by decide +kernel
theorem dX8_takesLetter_58 : decode cX8_takesLetter 58 = .ok (.iaload, 1) := by decide +kernel
theorem dX8_takesLetter_59 : decode cX8_takesLetter 59 = .ok (.iconst 1, 1) := by decide +kernel
theorem dX8_takesLetter_60 : decode cX8_takesLetter 60 = .ok (.iadd, 1) := by decide +kernel
theorem dX8_takesLetter_61 : decode cX8_takesLetter 61 = .ok (.iastore, 1) := by decide +kernel
theorem dX8_takesLetter_62 : decode cX8_takesLetter 62 = .ok (.aload_n 0, 1) := by decide +kernel
theorem dX8_takesLetter_63 : decode cX8_takesLetter 63 = .ok (.iconst 1, 1) := by decide +kernel
theorem dX8_takesLetter_64 : decode cX8_takesLetter 64 = .ok (.putfield 82, 3) := by decide +kernel
theorem dX8_takesLetter_67 : decode cX8_takesLetter 67 = .ok (.iconst 1, 1) := by decide +kernel
theorem dX8_takesLetter_68 : decode cX8_takesLetter 68 = .ok (.ireturn, 1) := by decide +kernel
theorem dX8_takes_0 : decode cX8_takes 0 = .ok (.aload_n 0, 1) := by decide +kernel
theorem dX8_takes_1 : decode cX8_takes 1 = .ok (.getfield 82, 3) := by decide +kernel
theorem dX8_takes_4 : decode cX8_takes 4 = .ok (.tableswitch 88 0 3 #[32, 88, 38, 71], 32) := by decide +kernel
theorem dX8_takes_36 : decode cX8_takes 36 = .ok (.aload_n 0, 1) := by decide +kernel
theorem dX8_takes_37 : decode cX8_takes 37 = .ok (.iload_n 1, 1) := by decide +kernel
theorem dX8_takes_38 : decode cX8_takes 38 = .ok (.invokevirtual 89, 3) := by decide +kernel
theorem dX8_takes_41 : decode cX8_takes 41 = .ok (.ireturn, 1) := by decide +kernel
theorem dX8_takes_42 : decode cX8_takes 42 = .ok (.aload_n 0, 1) := by decide +kernel
theorem dX8_takes_43 : decode cX8_takes 43 = .ok (.getfield 22, 3) := by decide +kernel
theorem dX8_takes_46 : decode cX8_takes 46 = .ok (.bipush 104, 2) := by decide +kernel
theorem dX8_takes_48 : decode cX8_takes 48 = .ok (.aload_n 0, 1) := by decide +kernel
theorem dX8_takes_49 : decode cX8_takes 49 = .ok (.getfield 13, 3) := by decide +kernel
theorem dX8_takes_52 : decode cX8_takes 52 = .ok (.bipush 13, 2) := by decide +kernel
theorem dX8_takes_54 : decode cX8_takes 54 = .ok (.iaload, 1) := by decide +kernel
theorem dX8_takes_55 : decode cX8_takes 55 = .ok (.iadd, 1) := by decide +kernel
theorem dX8_takes_56 : decode cX8_takes 56 = .ok (.iload_n 1, 1) := by decide +kernel
theorem dX8_takes_57 : decode cX8_takes 57 = .ok (.bipush 48, 2) := by decide +kernel
theorem dX8_takes_59 : decode cX8_takes 59 = .ok (.isub, 1) := by decide +kernel
theorem dX8_takes_60 : decode cX8_takes 60 = .ok (.iastore, 1) := by decide +kernel
theorem dX8_takes_61 : decode cX8_takes 61 = .ok (.aload_n 0, 1) := by decide +kernel
theorem dX8_takes_62 : decode cX8_takes 62 = .ok (.iconst 3, 1) := by decide +kernel
theorem dX8_takes_63 : decode cX8_takes 63 = .ok (.putfield 82, 3) := by decide +kernel
theorem dX8_takes_66 : decode cX8_takes 66 = .ok (.iload_n 1, 1) := by decide +kernel
theorem dX8_takes_67 : decode cX8_takes 67 = .ok (.bipush 49, 2) := by decide +kernel
theorem dX8_takes_69 : decode cX8_takes 69 = .ok (.bipush 57, 2) := by decide +kernel
theorem dX8_takes_71 : decode cX8_takes 71 = .ok (.invokestatic 75, 3) := by decide +kernel
theorem dX8_takes_74 : decode cX8_takes 74 = .ok (.ireturn, 1) := by decide +kernel
theorem dX8_takes_75 : decode cX8_takes 75 = .ok (.aload_n 0, 1) := by decide +kernel
theorem dX8_takes_76 : decode cX8_takes 76 = .ok (.iconst 4, 1) := by decide +kernel
theorem dX8_takes_77 : decode cX8_takes 77 = .ok (.putfield 82, 3) := by decide +kernel
theorem dX8_takes_80 : decode cX8_takes 80 = .ok (.iload_n 1, 1) := by decide +kernel
theorem dX8_takes_81 : decode cX8_takes 81 = .ok (.bipush 93, 2) := by decide +kernel
theorem dX8_takes_83 : decode cX8_takes 83 = .ok (.if_icmp .ne 7, 3) := by decide +kernel
theorem dX8_takes_86 : decode cX8_takes 86 = .ok (.iconst 1, 1) := by decide +kernel
theorem dX8_takes_87 : decode cX8_takes 87 = .ok (.goto 4, 3) := by decide +kernel
theorem dX8_takes_90 : decode cX8_takes 90 = .ok (.iconst 0, 1) := by decide +kernel
theorem dX8_takes_91 : decode cX8_takes 91 = .ok (.ireturn, 1) := by decide +kernel
theorem dX8_takes_92 : decode cX8_takes 92 = .ok (.iload_n 1, 1) := by decide +kernel
theorem dX8_takes_93 : decode cX8_takes 93 = .ok (.bipush 32, 2) := by decide +kernel
theorem dX8_takes_95 : decode cX8_takes 95 = .ok (.if_icmp .ne 33, 3) := by decide +kernel
theorem dX8_takes_98 : decode cX8_takes 98 = .ok (.aload_n 0, 1) := by decide +kernel
theorem dX8_takes_99 : decode cX8_takes 99 = .ok (.getfield 13, 3) := by decide +kernel
theorem dX8_takes_102 : decode cX8_takes 102 = .ok (.bipush 13, 2) := by decide +kernel
theorem dX8_takes_104 : decode cX8_takes 104 = .ok (.iaload, 1) := by decide +kernel
theorem dX8_takes_105 : decode cX8_takes 105 = .ok (.bipush 7, 2) := by decide +kernel
theorem dX8_takes_107 : decode cX8_takes 107 = .ok (.if_icmp .ge 21, 3) := by decide +kernel
theorem dX8_takes_110 : decode cX8_takes 110 = .ok (.aload_n 0, 1) := by decide +kernel
theorem dX8_takes_111 : decode cX8_takes 111 = .ok (.getfield 13, 3) := by decide +kernel
theorem dX8_takes_114 : decode cX8_takes 114 = .ok (.bipush 13, 2) := by decide +kernel
theorem dX8_takes_116 : decode cX8_takes 116 = .ok (.dup2, 1) := by decide +kernel
theorem dX8_takes_117 : decode cX8_takes 117 = .ok (.iaload, 1) := by decide +kernel
theorem dX8_takes_118 : decode cX8_takes 118 = .ok (.iconst 1, 1) := by decide +kernel
theorem dX8_takes_119 : decode cX8_takes 119 = .ok (.iadd, 1) := by decide +kernel
theorem dX8_takes_120 : decode cX8_takes 120 = .ok (.iastore, 1) := by decide +kernel
theorem dX8_takes_121 : decode cX8_takes 121 = .ok (.aload_n 0, 1) := by decide +kernel
theorem dX8_takes_122 : decode cX8_takes 122 = .ok (.iconst 0, 1) := by decide +kernel
theorem dX8_takes_123 : decode cX8_takes 123 = .ok (.putfield 82, 3) := by decide +kernel
theorem dX8_takes_126 : decode cX8_takes 126 = .ok (.iconst 1, 1) := by decide +kernel
theorem dX8_takes_127 : decode cX8_takes 127 = .ok (.ireturn, 1) := by decide +kernel
theorem dX8_takes_128 : decode cX8_takes 128 = .ok (.aload_n 0, 1) := by decide +kernel
theorem dX8_takes_129 : decode cX8_takes 129 = .ok (.getfield 82, 3) := by decide +kernel
theorem dX8_takes_132 : decode cX8_takes 132 = .ok (.iconst 1, 1) := by decide +kernel
theorem dX8_takes_133 : decode cX8_takes 133 = .ok (.if_icmp .ne 15, 3) := by decide +kernel
theorem dX8_takes_136 : decode cX8_takes 136 = .ok (.aload_n 0, 1) := by decide +kernel
theorem dX8_takes_137 : decode cX8_takes 137 = .ok (.iload_n 1, 1) := by decide +kernel
theorem dX8_takes_138 : decode cX8_takes 138 = .ok (.invokevirtual 85, 3) := by decide +kernel
theorem dX8_takes_141 : decode cX8_takes 141 = .ok (.ifCond .eq 7, 3) := by decide +kernel
theorem dX8_takes_144 : decode cX8_takes 144 = .ok (.iconst 1, 1) := by decide +kernel
theorem dX8_takes_145 : decode cX8_takes 145 = .ok (.goto 4, 3) := by decide +kernel
theorem dX8_takes_148 : decode cX8_takes 148 = .ok (.iconst 0, 1) := by decide +kernel
theorem dX8_takes_149 : decode cX8_takes 149 = .ok (.ireturn, 1) := by decide +kernel
theorem dX8_readPage_0 : decode cX8_readPage 0 = .ok (.aload_n 0, 1) := by decide +kernel
theorem dX8_readPage_1 : decode cX8_readPage 1 = .ok (.getfield 13, 3) := by decide +kernel
theorem dX8_readPage_4 : decode cX8_readPage 4 = .ok (.bipush 13, 2) := by decide +kernel
theorem dX8_readPage_6 : decode cX8_readPage 6 = .ok (.iconst 0, 1) := by decide +kernel
theorem dX8_readPage_7 : decode cX8_readPage 7 = .ok (.iastore, 1) := by decide +kernel
theorem dX8_readPage_8 : decode cX8_readPage 8 = .ok (.aload_n 0, 1) := by decide +kernel
theorem dX8_readPage_9 : decode cX8_readPage 9 = .ok (.iconst 0, 1) := by decide +kernel
theorem dX8_readPage_10 : decode cX8_readPage 10 = .ok (.putfield 82, 3) := by decide +kernel
theorem dX8_readPage_13 : decode cX8_readPage 13 = .ok (.iconst 0, 1) := by decide +kernel
theorem dX8_readPage_14 : decode cX8_readPage 14 = .ok (.istore_n 1, 1) := by decide +kernel
theorem dX8_readPage_15 : decode cX8_readPage 15 = .ok (.iload_n 1, 1) := by decide +kernel
theorem dX8_readPage_16 : decode cX8_readPage 16 = .ok (.aload_n 0, 1) := by decide +kernel
theorem dX8_readPage_17 : decode cX8_readPage 17 = .ok (.getfield 79, 3) := by decide +kernel
theorem dX8_readPage_20 : decode cX8_readPage 20 = .ok (.if_icmp .ge 22, 3) := by decide +kernel
theorem dX8_readPage_23 : decode cX8_readPage 23 = .ok (.aload_n 0, 1) := by decide +kernel
theorem dX8_readPage_24 : decode cX8_readPage 24 = .ok (.aload_n 0, 1) := by decide +kernel
theorem dX8_readPage_25 : decode cX8_readPage 25 = .ok (.getfield 7, 3) := by decide +kernel
theorem dX8_readPage_28 : decode cX8_readPage 28 = .ok (.iload_n 1, 1) := by decide +kernel
theorem dX8_readPage_29 : decode cX8_readPage 29 = .ok (.iaload, 1) := by decide +kernel
theorem dX8_readPage_30 : decode cX8_readPage 30 = .ok (.invokevirtual 92, 3) := by decide +kernel
theorem dX8_readPage_33 : decode cX8_readPage 33 = .ok (.ifCond .eq 9, 3) := by decide +kernel
theorem dX8_readPage_36 : decode cX8_readPage 36 = .ok (.iinc 1 1, 3) := by decide +kernel
theorem dX8_readPage_39 : decode cX8_readPage 39 = .ok (.goto (-24), 3) := by decide +kernel
theorem dX8_readPage_42 : decode cX8_readPage 42 = .ok (.iload_n 1, 1) := by decide +kernel
theorem dX8_readPage_43 : decode cX8_readPage 43 = .ok (.ireturn, 1) := by decide +kernel
theorem dX8_fault_0 : decode cX8_fault 0 = .ok (.aload_n 0, 1) := by decide +kernel
theorem dX8_fault_1 : decode cX8_fault 1 = .ok (.invokevirtual 95, 3) := by decide +kernel
theorem dX8_fault_4 : decode cX8_fault 4 = .ok (.ireturn, 1) := by decide +kernel
theorem dX8_isSegment_0 : decode cX8_isSegment 0 = .ok (.aload_n 0, 1) := by decide +kernel
theorem dX8_isSegment_1 : decode cX8_isSegment 1 = .ok (.invokevirtual 95, 3) := by decide +kernel
theorem dX8_isSegment_4 : decode cX8_isSegment 4 = .ok (.aload_n 0, 1) := by decide +kernel
theorem dX8_isSegment_5 : decode cX8_isSegment 5 = .ok (.getfield 79, 3) := by decide +kernel
theorem dX8_isSegment_8 : decode cX8_isSegment 8 = .ok (.if_icmp .ne 23, 3) := by decide +kernel
theorem dX8_isSegment_11 : decode cX8_isSegment 11 = .ok (.aload_n 0, 1) := by decide +kernel
theorem dX8_isSegment_12 : decode cX8_isSegment 12 = .ok (.getfield 82, 3) := by decide +kernel
theorem dX8_isSegment_15 : decode cX8_isSegment 15 = .ok (.iconst 1, 1) := by decide +kernel
theorem dX8_isSegment_16 : decode cX8_isSegment 16 = .ok (.if_icmp .eq 11, 3) := by decide +kernel
theorem dX8_isSegment_19 : decode cX8_isSegment 19 = .ok (.aload_n 0, 1) := by decide +kernel
theorem dX8_isSegment_20 : decode cX8_isSegment 20 = .ok (.getfield 82, 3) := by decide +kernel
theorem dX8_isSegment_23 : decode cX8_isSegment 23 = .ok (.iconst 4, 1) := by decide +kernel
theorem dX8_isSegment_24 : decode cX8_isSegment 24 = .ok (.if_icmp .ne 7, 3) := by decide +kernel
theorem dX8_isSegment_27 : decode cX8_isSegment 27 = .ok (.iconst 1, 1) := by decide +kernel
theorem dX8_isSegment_28 : decode cX8_isSegment 28 = .ok (.goto 4, 3) := by decide +kernel
theorem dX8_isSegment_31 : decode cX8_isSegment 31 = .ok (.iconst 0, 1) := by decide +kernel
theorem dX8_isSegment_32 : decode cX8_isSegment 32 = .ok (.istore_n 1, 1) := by decide +kernel
theorem dX8_isSegment_33 : decode cX8_isSegment 33 = .ok (.aload_n 0, 1) := by decide +kernel
theorem dX8_isSegment_34 : decode cX8_isSegment 34 = .ok (.getfield 13, 3) := by decide +kernel
theorem dX8_isSegment_37 : decode cX8_isSegment 37 = .ok (.bipush 13, 2) := by decide +kernel
theorem dX8_isSegment_39 : decode cX8_isSegment 39 = .ok (.dup2, 1) := by decide +kernel
theorem dX8_isSegment_40 : decode cX8_isSegment 40 = .ok (.iaload, 1) := by decide +kernel
theorem dX8_isSegment_41 : decode cX8_isSegment 41 = .ok (.iload_n 1, 1) := by decide +kernel
theorem dX8_isSegment_42 : decode cX8_isSegment 42 = .ok (.ifCond .eq 7, 3) := by decide +kernel
theorem dX8_isSegment_45 : decode cX8_isSegment 45 = .ok (.iconst 1, 1) := by decide +kernel
theorem dX8_isSegment_46 : decode cX8_isSegment 46 = .ok (.goto 4, 3) := by decide +kernel
theorem dX8_isSegment_49 : decode cX8_isSegment 49 = .ok (.iconst 0, 1) := by decide +kernel
theorem dX8_isSegment_50 : decode cX8_isSegment 50 = .ok (.iadd, 1) := by decide +kernel
theorem dX8_isSegment_51 : decode cX8_isSegment 51 = .ok (.iastore, 1) := by decide +kernel
theorem dX8_isSegment_52 : decode cX8_isSegment 52 = .ok (.iload_n 1, 1) := by decide +kernel
theorem dX8_isSegment_53 : decode cX8_isSegment 53 = .ok (.ireturn, 1) := by decide +kernel
theorem dX8_copy_0 : decode cX8_copy 0 = .ok (.aload_n 0, 1) := by decide +kernel
theorem dX8_copy_1 : decode cX8_copy 1 = .ok (.getfield 13, 3) := by decide +kernel
theorem dX8_copy_4 : decode cX8_copy 4 = .ok (.iload_n 2, 1) := by decide +kernel
theorem dX8_copy_5 : decode cX8_copy 5 = .ok (.aload_n 0, 1) := by decide +kernel
theorem dX8_copy_6 : decode cX8_copy 6 = .ok (.getfield 13, 3) := by decide +kernel
theorem dX8_copy_9 : decode cX8_copy 9 = .ok (.iload_n 1, 1) := by decide +kernel
theorem dX8_copy_10 : decode cX8_copy 10 = .ok (.iaload, 1) := by decide +kernel
theorem dX8_copy_11 : decode cX8_copy 11 = .ok (.iastore, 1) := by decide +kernel
theorem dX8_copy_12 : decode cX8_copy 12 = .ok (.aload_n 0, 1) := by decide +kernel
theorem dX8_copy_13 : decode cX8_copy 13 = .ok (.getfield 16, 3) := by decide +kernel
theorem dX8_copy_16 : decode cX8_copy 16 = .ok (.iload_n 2, 1) := by decide +kernel
theorem dX8_copy_17 : decode cX8_copy 17 = .ok (.aload_n 0, 1) := by decide +kernel
theorem dX8_copy_18 : decode cX8_copy 18 = .ok (.getfield 16, 3) := by decide +kernel
theorem dX8_copy_21 : decode cX8_copy 21 = .ok (.iload_n 1, 1) := by decide +kernel
theorem dX8_copy_22 : decode cX8_copy 22 = .ok (.iaload, 1) := by decide +kernel
theorem dX8_copy_23 : decode cX8_copy 23 = .ok (.iastore, 1) := by decide +kernel
theorem dX8_copy_24 : decode cX8_copy 24 = .ok (.iconst 0, 1) := by decide +kernel
theorem dX8_copy_25 : decode cX8_copy 25 = .ok (.istore_n 3, 1) := by decide +kernel
theorem dX8_copy_26 : decode cX8_copy 26 = .ok (.iload_n 3, 1) := by decide +kernel
theorem dX8_copy_27 : decode cX8_copy 27 = .ok (.bipush 8, 2) := by decide +kernel
theorem dX8_copy_29 : decode cX8_copy 29 = .ok (.if_icmp .ge 53, 3) := by decide +kernel
theorem dX8_copy_32 : decode cX8_copy 32 = .ok (.aload_n 0, 1) := by decide +kernel
theorem dX8_copy_33 : decode cX8_copy 33 = .ok (.getfield 19, 3) := by decide +kernel
theorem dX8_copy_36 : decode cX8_copy 36 = .ok (.bipush 8, 2) := by decide +kernel
theorem dX8_copy_38 : decode cX8_copy 38 = .ok (.iload_n 2, 1) := by decide +kernel
theorem dX8_copy_39 : decode cX8_copy 39 = .ok (.imul, 1) := by decide +kernel
theorem dX8_copy_40 : decode cX8_copy 40 = .ok (.iload_n 3, 1) := by decide +kernel
theorem dX8_copy_41 : decode cX8_copy 41 = .ok (.iadd, 1) := by decide +kernel
theorem dX8_copy_42 : decode cX8_copy 42 = .ok (.aload_n 0, 1) := by decide +kernel
theorem dX8_copy_43 : decode cX8_copy 43 = .ok (.getfield 19, 3) := by decide +kernel
theorem dX8_copy_46 : decode cX8_copy 46 = .ok (.bipush 8, 2) := by decide +kernel
theorem dX8_copy_48 : decode cX8_copy 48 = .ok (.iload_n 1, 1) := by decide +kernel
theorem dX8_copy_49 : decode cX8_copy 49 = .ok (.imul, 1) := by decide +kernel
theorem dX8_copy_50 : decode cX8_copy 50 = .ok (.iload_n 3, 1) := by decide +kernel
theorem dX8_copy_51 : decode cX8_copy 51 = .ok (.iadd, 1) := by decide +kernel
theorem dX8_copy_52 : decode cX8_copy 52 = .ok (.iaload, 1) := by decide +kernel
theorem dX8_copy_53 : decode cX8_copy 53 = .ok (.iastore, 1) := by decide +kernel
theorem dX8_copy_54 : decode cX8_copy 54 = .ok (.aload_n 0, 1) := by decide +kernel
theorem dX8_copy_55 : decode cX8_copy 55 = .ok (.getfield 22, 3) := by decide +kernel
theorem dX8_copy_58 : decode cX8_copy 58 = .ok (.bipush 8, 2) := by decide +kernel
theorem dX8_copy_60 : decode cX8_copy 60 = .ok (.iload_n 2, 1) := by decide +kernel
theorem dX8_copy_61 : decode cX8_copy 61 = .ok (.imul, 1) := by decide +kernel
theorem dX8_copy_62 : decode cX8_copy 62 = .ok (.iload_n 3, 1) := by decide +kernel
theorem dX8_copy_63 : decode cX8_copy 63 = .ok (.iadd, 1) := by decide +kernel
theorem dX8_copy_64 : decode cX8_copy 64 = .ok (.aload_n 0, 1) := by decide +kernel
theorem dX8_copy_65 : decode cX8_copy 65 = .ok (.getfield 22, 3) := by decide +kernel
theorem dX8_copy_68 : decode cX8_copy 68 = .ok (.bipush 8, 2) := by decide +kernel
theorem dX8_copy_70 : decode cX8_copy 70 = .ok (.iload_n 1, 1) := by decide +kernel
theorem dX8_copy_71 : decode cX8_copy 71 = .ok (.imul, 1) := by decide +kernel
theorem dX8_copy_72 : decode cX8_copy 72 = .ok (.iload_n 3, 1) := by decide +kernel
theorem dX8_copy_73 : decode cX8_copy 73 = .ok (.iadd, 1) := by decide +kernel
theorem dX8_copy_74 : decode cX8_copy 74 = .ok (.iaload, 1) := by decide +kernel
theorem dX8_copy_75 : decode cX8_copy 75 = .ok (.iastore, 1) := by decide +kernel
theorem dX8_copy_76 : decode cX8_copy 76 = .ok (.iinc 3 1, 3) := by decide +kernel
theorem dX8_copy_79 : decode cX8_copy 79 = .ok (.goto (-53), 3) := by decide +kernel
theorem dX8_copy_82 : decode cX8_copy 82 = .ok (.iconst 0, 1) := by decide +kernel
theorem dX8_copy_83 : decode cX8_copy 83 = .ok (.istore_n 3, 1) := by decide +kernel
theorem dX8_copy_84 : decode cX8_copy 84 = .ok (.iload_n 3, 1) := by decide +kernel
theorem dX8_copy_85 : decode cX8_copy 85 = .ok (.bipush 96, 2) := by decide +kernel
theorem dX8_copy_87 : decode cX8_copy 87 = .ok (.if_icmp .ge 31, 3) := by decide +kernel
theorem dX8_copy_90 : decode cX8_copy 90 = .ok (.aload_n 0, 1) := by decide +kernel
theorem dX8_copy_91 : decode cX8_copy 91 = .ok (.getfield 25, 3) := by decide +kernel
theorem dX8_copy_94 : decode cX8_copy 94 = .ok (.bipush 96, 2) := by decide +kernel
theorem dX8_copy_96 : decode cX8_copy 96 = .ok (.iload_n 2, 1) := by decide +kernel
theorem dX8_copy_97 : decode cX8_copy 97 = .ok (.imul, 1) := by decide +kernel
theorem dX8_copy_98 : decode cX8_copy 98 = .ok (.iload_n 3, 1) := by decide +kernel
theorem dX8_copy_99 : decode cX8_copy 99 = .ok (.iadd, 1) := by decide +kernel
theorem dX8_copy_100 : decode cX8_copy 100 = .ok (.aload_n 0, 1) := by decide +kernel
theorem dX8_copy_101 : decode cX8_copy 101 = .ok (.getfield 25, 3) := by decide +kernel
theorem dX8_copy_104 : decode cX8_copy 104 = .ok (.bipush 96, 2) := by decide +kernel
theorem dX8_copy_106 : decode cX8_copy 106 = .ok (.iload_n 1, 1) := by decide +kernel
theorem dX8_copy_107 : decode cX8_copy 107 = .ok (.imul, 1) := by decide +kernel
theorem dX8_copy_108 : decode cX8_copy 108 = .ok (.iload_n 3, 1) := by decide +kernel
theorem dX8_copy_109 : decode cX8_copy 109 = .ok (.iadd, 1) := by decide +kernel
theorem dX8_copy_110 : decode cX8_copy 110 = .ok (.iaload, 1) := by decide +kernel
theorem dX8_copy_111 : decode cX8_copy 111 = .ok (.iastore, 1) := by decide +kernel
theorem dX8_copy_112 : decode cX8_copy 112 = .ok (.iinc 3 1, 3) := by decide +kernel
theorem dX8_copy_115 : decode cX8_copy 115 = .ok (.goto (-31), 3) := by decide +kernel
theorem dX8_copy_118 : decode cX8_copy 118 = .ok (.return_, 1) := by decide +kernel
theorem dX8_areSame_0 : decode cX8_areSame 0 = .ok (.aload_n 0, 1) := by decide +kernel
theorem dX8_areSame_1 : decode cX8_areSame 1 = .ok (.getfield 13, 3) := by decide +kernel
theorem dX8_areSame_4 : decode cX8_areSame 4 = .ok (.iload_n 1, 1) := by decide +kernel
theorem dX8_areSame_5 : decode cX8_areSame 5 = .ok (.iaload, 1) := by decide +kernel
theorem dX8_areSame_6 : decode cX8_areSame 6 = .ok (.aload_n 0, 1) := by decide +kernel
theorem dX8_areSame_7 : decode cX8_areSame 7 = .ok (.getfield 13, 3) := by decide +kernel
theorem dX8_areSame_10 : decode cX8_areSame 10 = .ok (.iload_n 2, 1) := by decide +kernel
theorem dX8_areSame_11 : decode cX8_areSame 11 = .ok (.iaload, 1) := by decide +kernel
theorem dX8_areSame_12 : decode cX8_areSame 12 = .ok (.if_icmp .ne 7, 3) := by decide +kernel
theorem dX8_areSame_15 : decode cX8_areSame 15 = .ok (.iconst 1, 1) := by decide +kernel
theorem dX8_areSame_16 : decode cX8_areSame 16 = .ok (.goto 4, 3) := by decide +kernel
theorem dX8_areSame_19 : decode cX8_areSame 19 = .ok (.iconst 0, 1) := by decide +kernel
theorem dX8_areSame_20 : decode cX8_areSame 20 = .ok (.istore_n 3, 1) := by decide +kernel
theorem dX8_areSame_21 : decode cX8_areSame 21 = .ok (.iconst 0, 1) := by decide +kernel
theorem dX8_areSame_22 : decode cX8_areSame 22 = .ok (.istore 4, 2) := by decide +kernel
theorem dX8_areSame_24 : decode cX8_areSame 24 = .ok (.iload 4, 2) := by decide +kernel
theorem dX8_areSame_26 : decode cX8_areSame 26 = .ok (.aload_n 0, 1) := by decide +kernel
theorem dX8_areSame_27 : decode cX8_areSame 27 = .ok (.getfield 13, 3) := by decide +kernel
theorem dX8_areSame_30 : decode cX8_areSame 30 = .ok (.iload_n 1, 1) := by decide +kernel
theorem dX8_areSame_31 : decode cX8_areSame 31 = .ok (.iaload, 1) := by decide +kernel
theorem dX8_areSame_32 : decode cX8_areSame 32 = .ok (.if_icmp .ge 32, 3) := by decide +kernel
theorem dX8_areSame_35 : decode cX8_areSame 35 = .ok (.iload_n 3, 1) := by decide +kernel
theorem dX8_areSame_36 : decode cX8_areSame 36 = .ok (.ifCond .eq 28, 3) := by decide +kernel
theorem dX8_areSame_39 : decode cX8_areSame 39 = .ok (.aload_n 0, 1) := by decide +kernel
theorem dX8_areSame_40 : decode cX8_areSame 40 = .ok (.bipush 8, 2) := by decide +kernel
theorem dX8_areSame_42 : decode cX8_areSame 42 = .ok (.iload_n 1, 1) := by decide +kernel
theorem dX8_areSame_43 : decode cX8_areSame 43 = .ok (.imul, 1) := by decide +kernel
theorem dX8_areSame_44 : decode cX8_areSame 44 = .ok (.iload 4, 2) := by decide +kernel
theorem dX8_areSame_46 : decode cX8_areSame 46 = .ok (.iadd, 1) := by decide +kernel
theorem dX8_areSame_47 : decode cX8_areSame 47 = .ok (.bipush 8, 2) := by decide +kernel
theorem dX8_areSame_49 : decode cX8_areSame 49 = .ok (.iload_n 2, 1) := by decide +kernel
theorem dX8_areSame_50 : decode cX8_areSame 50 = .ok (.imul, 1) := by decide +kernel
theorem dX8_areSame_51 : decode cX8_areSame 51 = .ok (.iload 4, 2) := by decide +kernel
theorem dX8_areSame_53 : decode cX8_areSame 53 = .ok (.iadd, 1) := by decide +kernel
theorem dX8_areSame_54 : decode cX8_areSame 54 = .ok (.invokevirtual 99, 3) := by decide +kernel
theorem dX8_areSame_57 : decode cX8_areSame 57 = .ok (.istore_n 3, 1) := by decide +kernel
theorem dX8_areSame_58 : decode cX8_areSame 58 = .ok (.iinc 4 1, 3) := by decide +kernel
theorem dX8_areSame_61 : decode cX8_areSame 61 = .ok (.goto (-37), 3) := by decide +kernel
theorem dX8_areSame_64 : decode cX8_areSame 64 = .ok (.iload_n 3, 1) := by decide +kernel
theorem dX8_areSame_65 : decode cX8_areSame 65 = .ok (.ireturn, 1) := by decide +kernel
theorem dX8_isSameSign_0 : decode cX8_isSameSign 0 = .ok (.aload_n 0, 1) := by decide +kernel
theorem dX8_isSameSign_1 : decode cX8_isSameSign 1 = .ok (.getfield 19, 3) := by decide +kernel
theorem dX8_isSameSign_4 : decode cX8_isSameSign 4 = .ok (.iload_n 1, 1) := by decide +kernel
theorem dX8_isSameSign_5 : decode cX8_isSameSign 5 = .ok (.iaload, 1) := by decide +kernel
theorem dX8_isSameSign_6 : decode cX8_isSameSign 6 = .ok (.aload_n 0, 1) := by decide +kernel
theorem dX8_isSameSign_7 : decode cX8_isSameSign 7 = .ok (.getfield 19, 3) := by decide +kernel
theorem dX8_isSameSign_10 : decode cX8_isSameSign 10 = .ok (.iload_n 2, 1) := by decide +kernel
theorem dX8_isSameSign_11 : decode cX8_isSameSign 11 = .ok (.iaload, 1) := by decide +kernel
theorem dX8_isSameSign_12 : decode cX8_isSameSign 12 = .ok (.if_icmp .ne 31, 3) := by decide +kernel
theorem dX8_isSameSign_15 : decode cX8_isSameSign 15 = .ok (.aload_n 0, 1) := by decide +kernel
theorem dX8_isSameSign_16 : decode cX8_isSameSign 16 = .ok (.getfield 19, 3) := by decide +kernel
theorem dX8_isSameSign_19 : decode cX8_isSameSign 19 = .ok (.iload_n 1, 1) := by decide +kernel
theorem dX8_isSameSign_20 : decode cX8_isSameSign 20 = .ok (.iaload, 1) := by decide +kernel
theorem dX8_isSameSign_21 : decode cX8_isSameSign 21 = .ok (.ifCond .gt 18, 3) := by decide +kernel
theorem dX8_isSameSign_24 : decode cX8_isSameSign 24 = .ok (.aload_n 0, 1) := by decide +kernel
theorem dX8_isSameSign_25 : decode cX8_isSameSign 25 = .ok (.getfield 22, 3) := by decide +kernel
theorem dX8_isSameSign_28 : decode cX8_isSameSign 28 = .ok (.iload_n 1, 1) := by decide +kernel
theorem dX8_isSameSign_29 : decode cX8_isSameSign 29 = .ok (.iaload, 1) := by decide +kernel
theorem dX8_isSameSign_30 : decode cX8_isSameSign 30 = .ok (.aload_n 0, 1) := by decide +kernel
theorem dX8_isSameSign_31 : decode cX8_isSameSign 31 = .ok (.getfield 22, 3) := by decide +kernel
theorem dX8_isSameSign_34 : decode cX8_isSameSign 34 = .ok (.iload_n 2, 1) := by decide +kernel
theorem dX8_isSameSign_35 : decode cX8_isSameSign 35 = .ok (.iaload, 1) := by decide +kernel
theorem dX8_isSameSign_36 : decode cX8_isSameSign 36 = .ok (.if_icmp .ne 7, 3) := by decide +kernel
theorem dX8_isSameSign_39 : decode cX8_isSameSign 39 = .ok (.iconst 1, 1) := by decide +kernel
theorem dX8_isSameSign_40 : decode cX8_isSameSign 40 = .ok (.goto 4, 3) := by decide +kernel
theorem dX8_isSameSign_43 : decode cX8_isSameSign 43 = .ok (.iconst 0, 1) := by decide +kernel
theorem dX8_isSameSign_44 : decode cX8_isSameSign 44 = .ok (.istore_n 3, 1) := by decide +kernel
theorem dX8_isSameSign_45 : decode cX8_isSameSign 45 = .ok (.iconst 0, 1) := by decide +kernel
theorem dX8_isSameSign_46 : decode cX8_isSameSign 46 = .ok (.istore 4, 2) := by decide +kernel
theorem dX8_isSameSign_48 : decode cX8_isSameSign 48 = .ok (.iload 4, 2) := by decide +kernel
theorem dX8_isSameSign_50 : decode cX8_isSameSign 50 = .ok (.aload_n 0, 1) := by decide +kernel
theorem dX8_isSameSign_51 : decode cX8_isSameSign 51 = .ok (.getfield 19, 3) := by decide +kernel
theorem dX8_isSameSign_54 : decode cX8_isSameSign 54 = .ok (.iload_n 1, 1) := by decide +kernel
theorem dX8_isSameSign_55 : decode cX8_isSameSign 55 = .ok (.iaload, 1) := by decide +kernel
theorem dX8_isSameSign_56 : decode cX8_isSameSign 56 = .ok (.if_icmp .ge 46, 3) := by decide +kernel
theorem dX8_isSameSign_59 : decode cX8_isSameSign 59 = .ok (.iload_n 3, 1) := by decide +kernel
theorem dX8_isSameSign_60 : decode cX8_isSameSign 60 = .ok (.ifCond .eq 42, 3) := by decide +kernel
theorem dX8_isSameSign_63 : decode cX8_isSameSign 63 = .ok (.aload_n 0, 1) := by decide +kernel
theorem dX8_isSameSign_64 : decode cX8_isSameSign 64 = .ok (.getfield 25, 3) := by decide +kernel
theorem dX8_isSameSign_67 : decode cX8_isSameSign 67 = .ok (.bipush 12, 2) := by decide +kernel
theorem dX8_isSameSign_69 : decode cX8_isSameSign 69 = .ok (.iload_n 1, 1) := by decide +kernel
theorem dX8_isSameSign_70 : decode cX8_isSameSign 70 = .ok (.imul, 1) := by decide +kernel
theorem dX8_isSameSign_71 : decode cX8_isSameSign 71 = .ok (.iload 4, 2) := by decide +kernel
theorem dX8_isSameSign_73 : decode cX8_isSameSign 73 = .ok (.iadd, 1) := by decide +kernel
theorem dX8_isSameSign_74 : decode cX8_isSameSign 74 = .ok (.iaload, 1) := by decide +kernel
theorem dX8_isSameSign_75 : decode cX8_isSameSign 75 = .ok (.aload_n 0, 1) := by decide +kernel
theorem dX8_isSameSign_76 : decode cX8_isSameSign 76 = .ok (.getfield 25, 3) := by decide +kernel
theorem dX8_isSameSign_79 : decode cX8_isSameSign 79 = .ok (.bipush 12, 2) := by decide +kernel
theorem dX8_isSameSign_81 : decode cX8_isSameSign 81 = .ok (.iload_n 2, 1) := by decide +kernel
theorem dX8_isSameSign_82 : decode cX8_isSameSign 82 = .ok (.imul, 1) := by decide +kernel
theorem dX8_isSameSign_83 : decode cX8_isSameSign 83 = .ok (.iload 4, 2) := by decide +kernel
theorem dX8_isSameSign_85 : decode cX8_isSameSign 85 = .ok (.iadd, 1) := by decide +kernel
theorem dX8_isSameSign_86 : decode cX8_isSameSign 86 = .ok (.iaload, 1) := by decide +kernel
theorem dX8_isSameSign_87 : decode cX8_isSameSign 87 = .ok (.if_icmp .ne 7, 3) := by decide +kernel
theorem dX8_isSameSign_90 : decode cX8_isSameSign 90 = .ok (.iconst 1, 1) := by decide +kernel
theorem dX8_isSameSign_91 : decode cX8_isSameSign 91 = .ok (.goto 4, 3) := by decide +kernel
theorem dX8_isSameSign_94 : decode cX8_isSameSign 94 = .ok (.iconst 0, 1) := by decide +kernel
theorem dX8_isSameSign_95 : decode cX8_isSameSign 95 = .ok (.istore_n 3, 1) := by decide +kernel
theorem dX8_isSameSign_96 : decode cX8_isSameSign 96 = .ok (.iinc 4 1, 3) := by decide +kernel
theorem dX8_isSameSign_99 : decode cX8_isSameSign 99 = .ok (.goto (-51), 3) := by decide +kernel
theorem dX8_isSameSign_102 : decode cX8_isSameSign 102 = .ok (.iload_n 3, 1) := by decide +kernel
theorem dX8_isSameSign_103 : decode cX8_isSameSign 103 = .ok (.ireturn, 1) := by decide +kernel
theorem dX8_keep_0 : decode cX8_keep 0 = .ok (.aload_n 0, 1) := by decide +kernel
theorem dX8_keep_1 : decode cX8_keep 1 = .ok (.invokevirtual 103, 3) := by decide +kernel
theorem dX8_keep_4 : decode cX8_keep 4 = .ok (.ifCond .ne 7, 3) := by decide +kernel
theorem dX8_keep_7 : decode cX8_keep 7 = .ok (.sipush (-1003), 3) := by decide +kernel
theorem dX8_keep_10 : decode cX8_keep 10 = .ok (.ireturn, 1) := by decide +kernel
theorem dX8_keep_11 : decode cX8_keep 11 = .ok (.iconst 0, 1) := by decide +kernel
theorem dX8_keep_12 : decode cX8_keep 12 = .ok (.istore_n 1, 1) := by decide +kernel
theorem dX8_keep_13 : decode cX8_keep 13 = .ok (.iload_n 1, 1) := by decide +kernel
theorem dX8_keep_14 : decode cX8_keep 14 = .ok (.aload_n 0, 1) := by decide +kernel
theorem dX8_keep_15 : decode cX8_keep 15 = .ok (.getfield 107, 3) := by decide +kernel
theorem dX8_keep_18 : decode cX8_keep 18 = .ok (.if_icmp .ge 19, 3) := by decide +kernel
theorem dX8_keep_21 : decode cX8_keep 21 = .ok (.aload_n 0, 1) := by decide +kernel
theorem dX8_keep_22 : decode cX8_keep 22 = .ok (.iload_n 1, 1) := by decide +kernel
theorem dX8_keep_23 : decode cX8_keep 23 = .ok (.bipush 13, 2) := by decide +kernel
theorem dX8_keep_25 : decode cX8_keep 25 = .ok (.invokevirtual 110, 3) := by decide +kernel
theorem dX8_keep_28 : decode cX8_keep 28 = .ok (.ifCond .ne 9, 3) := by decide +kernel
theorem dX8_keep_31 : decode cX8_keep 31 = .ok (.iinc 1 1, 3) := by decide +kernel
theorem dX8_keep_34 : decode cX8_keep 34 = .ok (.goto (-21), 3) := by decide +kernel
theorem dX8_keep_37 : decode cX8_keep 37 = .ok (.iload_n 1, 1) := by decide +kernel
theorem dX8_keep_38 : decode cX8_keep 38 = .ok (.bipush 12, 2) := by decide +kernel
theorem dX8_keep_40 : decode cX8_keep 40 = .ok (.if_icmp .ne 7, 3) := by decide +kernel
theorem dX8_keep_43 : decode cX8_keep 43 = .ok (.sipush (-1004), 3) := by decide +kernel
theorem dX8_keep_46 : decode cX8_keep 46 = .ok (.ireturn, 1) := by decide +kernel
theorem dX8_keep_47 : decode cX8_keep 47 = .ok (.iload_n 1, 1) := by decide +kernel
theorem dX8_keep_48 : decode cX8_keep 48 = .ok (.aload_n 0, 1) := by decide +kernel
theorem dX8_keep_49 : decode cX8_keep 49 = .ok (.getfield 107, 3) := by decide +kernel
theorem dX8_keep_52 : decode cX8_keep 52 = .ok (.if_icmp .ne 33, 3) := by decide +kernel
theorem dX8_keep_55 : decode cX8_keep 55 = .ok (.aload_n 0, 1) := by decide +kernel
theorem dX8_keep_56 : decode cX8_keep 56 = .ok (.bipush 13, 2) := by decide +kernel
theorem dX8_keep_58 : decode cX8_keep 58 = .ok (.aload_n 0, 1) := by decide +kernel
theorem dX8_keep_59 : decode cX8_keep 59 = .ok (.getfield 107, 3) := by decide +kernel
theorem dX8_keep_62 : decode cX8_keep 62 = .ok (.invokevirtual 113, 3) := by decide +kernel
theorem dX8_keep_65 : decode cX8_keep 65 = .ok (.aload_n 0, 1) := by decide +kernel
theorem dX8_keep_66 : decode cX8_keep 66 = .ok (.getfield 16, 3) := by decide +kernel
theorem dX8_keep_69 : decode cX8_keep 69 = .ok (.aload_n 0, 1) := by decide +kernel
theorem dX8_keep_70 : decode cX8_keep 70 = .ok (.getfield 107, 3) := by decide +kernel
theorem dX8_keep_73 : decode cX8_keep 73 = .ok (.iconst 0, 1) := by decide +kernel
theorem dX8_keep_74 : decode cX8_keep 74 = .ok (.iastore, 1) := by decide +kernel
theorem dX8_keep_75 : decode cX8_keep 75 = .ok (.aload_n 0, 1) := by decide +kernel
theorem dX8_keep_76 : decode cX8_keep 76 = .ok (.dup, 1) := by decide +kernel
theorem dX8_keep_77 : decode cX8_keep 77 = .ok (.getfield 107, 3) := by decide +kernel
theorem dX8_keep_80 : decode cX8_keep 80 = .ok (.iconst 1, 1) := by decide +kernel
theorem dX8_keep_81 : decode cX8_keep 81 = .ok (.iadd, 1) := by decide +kernel
theorem dX8_keep_82 : decode cX8_keep 82 = .ok (.putfield 107, 3) := by decide +kernel
theorem dX8_keep_85 : decode cX8_keep 85 = .ok (.aload_n 0, 1) := by decide +kernel
theorem dX8_keep_86 : decode cX8_keep 86 = .ok (.getfield 16, 3) := by decide +kernel
theorem dX8_keep_89 : decode cX8_keep 89 = .ok (.iload_n 1, 1) := by decide +kernel
theorem dX8_keep_90 : decode cX8_keep 90 = .ok (.dup2, 1) := by decide +kernel
theorem dX8_keep_91 : decode cX8_keep 91 = .ok (.iaload, 1) := by decide +kernel
theorem dX8_keep_92 : decode cX8_keep 92 = .ok (.iconst 1, 1) := by decide +kernel
theorem dX8_keep_93 : decode cX8_keep 93 = .ok (.iadd, 1) := by decide +kernel
theorem dX8_keep_94 : decode cX8_keep 94 = .ok (.iastore, 1) := by decide +kernel
theorem dX8_keep_95 : decode cX8_keep 95 = .ok (.aload_n 0, 1) := by decide +kernel
theorem dX8_keep_96 : decode cX8_keep 96 = .ok (.dup, 1) := by decide +kernel
theorem dX8_keep_97 : decode cX8_keep 97 = .ok (.getfield 117, 3) := by decide +kernel
theorem dX8_keep_100 : decode cX8_keep 100 = .ok (.iconst 1, 1) := by decide +kernel
theorem dX8_keep_101 : decode cX8_keep 101 = .ok (.iadd, 1) := by decide +kernel
theorem dX8_keep_102 : decode cX8_keep 102 = .ok (.putfield 117, 3) := by decide +kernel
theorem dX8_keep_105 : decode cX8_keep 105 = .ok (.aload_n 0, 1) := by decide +kernel
theorem dX8_keep_106 : decode cX8_keep 106 = .ok (.iconst 0, 1) := by decide +kernel
theorem dX8_keep_107 : decode cX8_keep 107 = .ok (.putfield 79, 3) := by decide +kernel
theorem dX8_keep_110 : decode cX8_keep 110 = .ok (.iload_n 1, 1) := by decide +kernel
theorem dX8_keep_111 : decode cX8_keep 111 = .ok (.ireturn, 1) := by decide +kernel
theorem dX8_isKept_0 : decode cX8_isKept 0 = .ok (.iload_n 1, 1) := by decide +kernel
theorem dX8_isKept_1 : decode cX8_isKept 1 = .ok (.iconst 0, 1) := by decide +kernel
theorem dX8_isKept_2 : decode cX8_isKept 2 = .ok (.aload_n 0, 1) := by decide +kernel
theorem dX8_isKept_3 : decode cX8_isKept 3 = .ok (.getfield 107, 3) := by decide +kernel
theorem dX8_isKept_6 : decode cX8_isKept 6 = .ok (.iconst 1, 1) := by decide +kernel
theorem dX8_isKept_7 : decode cX8_isKept 7 = .ok (.isub, 1) := by decide +kernel
theorem dX8_isKept_8 : decode cX8_isKept 8 = .ok (.invokestatic 75, 3) := by decide +kernel
theorem dX8_isKept_11 : decode cX8_isKept 11 = .ok (.ireturn, 1) := by decide +kernel
theorem dX8_drop_0 : decode cX8_drop 0 = .ok (.aload_n 0, 1) := by decide +kernel
theorem dX8_drop_1 : decode cX8_drop 1 = .ok (.iload_n 1, 1) := by decide +kernel
theorem dX8_drop_2 : decode cX8_drop 2 = .ok (.invokevirtual 120, 3) := by decide +kernel
theorem dX8_drop_5 : decode cX8_drop 5 = .ok (.ifCond .ne 7, 3) := by decide +kernel
theorem dX8_drop_8 : decode cX8_drop 8 = .ok (.sipush (-1001), 3) := by decide +kernel
theorem dX8_drop_11 : decode cX8_drop 11 = .ok (.ireturn, 1) := by decide +kernel
theorem dX8_drop_12 : decode cX8_drop 12 = .ok (.aload_n 0, 1) := by decide +kernel
theorem dX8_drop_13 : decode cX8_drop 13 = .ok (.dup, 1) := by decide +kernel
theorem dX8_drop_14 : decode cX8_drop 14 = .ok (.getfield 107, 3) := by decide +kernel
theorem dX8_drop_17 : decode cX8_drop 17 = .ok (.iconst 1, 1) := by decide +kernel
theorem dX8_drop_18 : decode cX8_drop 18 = .ok (.isub, 1) := by decide +kernel
theorem dX8_drop_19 : decode cX8_drop 19 = .ok (.putfield 107, 3) := by decide +kernel
theorem dX8_drop_22 : decode cX8_drop 22 = .ok (.iload_n 1, 1) := by decide +kernel
theorem dX8_drop_23 : decode cX8_drop 23 = .ok (.istore_n 2, 1) := by decide +kernel
theorem dX8_drop_24 : decode cX8_drop 24 = .ok (.iload_n 2, 1) := by decide +kernel
theorem dX8_drop_25 : decode cX8_drop 25 = .ok (.aload_n 0, 1) := by decide +kernel
theorem dX8_drop_26 : decode cX8_drop 26 = .ok (.getfield 107, 3) := by decide +kernel
theorem dX8_drop_29 : decode cX8_drop 29 = .ok (.if_icmp .ge 17, 3) := by decide +kernel
theorem dX8_drop_32 : decode cX8_drop 32 = .ok (.aload_n 0, 1) := by decide +kernel
theorem dX8_drop_33 : decode cX8_drop 33 = .ok (.iload_n 2, 1) := by decide +kernel
theorem dX8_drop_34 : decode cX8_drop 34 = .ok (.iconst 1, 1) := by decide +kernel
theorem dX8_drop_35 : decode cX8_drop 35 = .ok (.iadd, 1) := by decide +kernel
theorem dX8_drop_36 : decode cX8_drop 36 = .ok (.iload_n 2, 1) := by decide +kernel
theorem dX8_drop_37 : decode cX8_drop 37 = .ok (.invokevirtual 113, 3) := by decide +kernel
theorem dX8_drop_40 : decode cX8_drop 40 = .ok (.iinc 2 1, 3) := by decide +kernel
theorem dX8_drop_43 : decode cX8_drop 43 = .ok (.goto (-19), 3) := by decide +kernel
theorem dX8_drop_46 : decode cX8_drop 46 = .ok (.aload_n 0, 1) := by decide +kernel
theorem dX8_drop_47 : decode cX8_drop 47 = .ok (.dup, 1) := by decide +kernel
theorem dX8_drop_48 : decode cX8_drop 48 = .ok (.getfield 123, 3) := by decide +kernel
theorem dX8_drop_51 : decode cX8_drop 51 = .ok (.iconst 1, 1) := by decide +kernel
theorem dX8_drop_52 : decode cX8_drop 52 = .ok (.iadd, 1) := by decide +kernel
theorem dX8_drop_53 : decode cX8_drop 53 = .ok (.putfield 123, 3) := by decide +kernel
theorem dX8_drop_56 : decode cX8_drop 56 = .ok (.aload_n 0, 1) := by decide +kernel
theorem dX8_drop_57 : decode cX8_drop 57 = .ok (.getfield 107, 3) := by decide +kernel
theorem dX8_drop_60 : decode cX8_drop 60 = .ok (.ireturn, 1) := by decide +kernel
theorem dX8_ask_0 : decode cX8_ask 0 = .ok (.aload_n 0, 1) := by decide +kernel
theorem dX8_ask_1 : decode cX8_ask 1 = .ok (.invokevirtual 103, 3) := by decide +kernel
theorem dX8_ask_4 : decode cX8_ask 4 = .ok (.ifCond .ne 7, 3) := by decide +kernel
theorem dX8_ask_7 : decode cX8_ask 7 = .ok (.sipush (-1003), 3) := by decide +kernel
theorem dX8_ask_10 : decode cX8_ask 10 = .ok (.ireturn, 1) := by decide +kernel
theorem dX8_ask_11 : decode cX8_ask 11 = .ok (.aload_n 0, 1) := by decide +kernel
theorem dX8_ask_12 : decode cX8_ask 12 = .ok (.bipush 13, 2) := by decide +kernel
theorem dX8_ask_14 : decode cX8_ask 14 = .ok (.bipush 12, 2) := by decide +kernel
theorem dX8_ask_16 : decode cX8_ask 16 = .ok (.invokevirtual 113, 3) := by decide +kernel
theorem dX8_ask_19 : decode cX8_ask 19 = .ok (.aload_n 0, 1) := by decide +kernel
theorem dX8_ask_20 : decode cX8_ask 20 = .ok (.iconst 1, 1) := by decide +kernel
theorem dX8_ask_21 : decode cX8_ask 21 = .ok (.putfield 126, 3) := by decide +kernel
theorem dX8_ask_24 : decode cX8_ask 24 = .ok (.aload_n 0, 1) := by decide +kernel
theorem dX8_ask_25 : decode cX8_ask 25 = .ok (.dup, 1) := by decide +kernel
theorem dX8_ask_26 : decode cX8_ask 26 = .ok (.getfield 130, 3) := by decide +kernel
theorem dX8_ask_29 : decode cX8_ask 29 = .ok (.iconst 1, 1) := by decide +kernel
theorem dX8_ask_30 : decode cX8_ask 30 = .ok (.iadd, 1) := by decide +kernel
theorem dX8_ask_31 : decode cX8_ask 31 = .ok (.putfield 130, 3) := by decide +kernel
theorem dX8_ask_34 : decode cX8_ask 34 = .ok (.aload_n 0, 1) := by decide +kernel
theorem dX8_ask_35 : decode cX8_ask 35 = .ok (.iconst 0, 1) := by decide +kernel
theorem dX8_ask_36 : decode cX8_ask 36 = .ok (.putfield 79, 3) := by decide +kernel
theorem dX8_ask_39 : decode cX8_ask 39 = .ok (.aload_n 0, 1) := by decide +kernel
theorem dX8_ask_40 : decode cX8_ask 40 = .ok (.getfield 13, 3) := by decide +kernel
theorem dX8_ask_43 : decode cX8_ask 43 = .ok (.bipush 12, 2) := by decide +kernel
theorem dX8_ask_45 : decode cX8_ask 45 = .ok (.iaload, 1) := by decide +kernel
theorem dX8_ask_46 : decode cX8_ask 46 = .ok (.ireturn, 1) := by decide +kernel
theorem dX8_weight_0 : decode cX8_weight 0 = .ok (.iload_n 1, 1) := by decide +kernel
theorem dX8_weight_1 : decode cX8_weight 1 = .ok (.iconst 1, 1) := by decide +kernel
theorem dX8_weight_2 : decode cX8_weight 2 = .ok (.bipush 20, 2) := by decide +kernel
theorem dX8_weight_4 : decode cX8_weight 4 = .ok (.invokestatic 75, 3) := by decide +kernel
theorem dX8_weight_7 : decode cX8_weight 7 = .ok (.ifCond .ne 7, 3) := by decide +kernel
theorem dX8_weight_10 : decode cX8_weight 10 = .ok (.sipush (-1002), 3) := by decide +kernel
theorem dX8_weight_13 : decode cX8_weight 13 = .ok (.ireturn, 1) := by decide +kernel
theorem dX8_weight_14 : decode cX8_weight 14 = .ok (.aload_n 0, 1) := by decide +kernel
theorem dX8_weight_15 : decode cX8_weight 15 = .ok (.getfield 28, 3) := by decide +kernel
theorem dX8_weight_18 : decode cX8_weight 18 = .ok (.istore_n 2, 1) := by decide +kernel
theorem dX8_weight_19 : decode cX8_weight 19 = .ok (.aload_n 0, 1) := by decide +kernel
theorem dX8_weight_20 : decode cX8_weight 20 = .ok (.iload_n 1, 1) := by decide +kernel
theorem dX8_weight_21 : decode cX8_weight 21 = .ok (.putfield 28, 3) := by decide +kernel
theorem dX8_weight_24 : decode cX8_weight 24 = .ok (.iload_n 2, 1) := by decide +kernel
theorem dX8_weight_25 : decode cX8_weight 25 = .ok (.ireturn, 1) := by decide +kernel
theorem dX8_bound_0 : decode cX8_bound 0 = .ok (.iload_n 1, 1) := by decide +kernel
theorem dX8_bound_1 : decode cX8_bound 1 = .ok (.iconst 0, 1) := by decide +kernel
theorem dX8_bound_2 : decode cX8_bound 2 = .ok (.sipush 1000, 3) := by decide +kernel
theorem dX8_bound_5 : decode cX8_bound 5 = .ok (.invokestatic 75, 3) := by decide +kernel
theorem dX8_bound_8 : decode cX8_bound 8 = .ok (.ifCond .ne 7, 3) := by decide +kernel
theorem dX8_bound_11 : decode cX8_bound 11 = .ok (.sipush (-1002), 3) := by decide +kernel
theorem dX8_bound_14 : decode cX8_bound 14 = .ok (.ireturn, 1) := by decide +kernel
theorem dX8_bound_15 : decode cX8_bound 15 = .ok (.aload_n 0, 1) := by decide +kernel
theorem dX8_bound_16 : decode cX8_bound 16 = .ok (.getfield 32, 3) := by decide +kernel
theorem dX8_bound_19 : decode cX8_bound 19 = .ok (.istore_n 2, 1) := by decide +kernel
theorem dX8_bound_20 : decode cX8_bound 20 = .ok (.aload_n 0, 1) := by decide +kernel
theorem dX8_bound_21 : decode cX8_bound 21 = .ok (.iload_n 1, 1) := by decide +kernel
theorem dX8_bound_22 : decode cX8_bound 22 = .ok (.putfield 32, 3) := by decide +kernel
theorem dX8_bound_25 : decode cX8_bound 25 = .ok (.iload_n 2, 1) := by decide +kernel
theorem dX8_bound_26 : decode cX8_bound 26 = .ok (.ireturn, 1) := by decide +kernel
theorem dX8_least_0 : decode cX8_least 0 = .ok (.iload_n 0, 1) := by decide +kernel
theorem dX8_least_1 : decode cX8_least 1 = .ok (.iload_n 1, 1) := by decide +kernel
theorem dX8_least_2 : decode cX8_least 2 = .ok (.if_icmp .ge 7, 3) := by decide +kernel
theorem dX8_least_5 : decode cX8_least 5 = .ok (.iload_n 0, 1) := by decide +kernel
theorem dX8_least_6 : decode cX8_least 6 = .ok (.goto 4, 3) := by decide +kernel
theorem dX8_least_9 : decode cX8_least 9 = .ok (.iload_n 1, 1) := by decide +kernel
theorem dX8_least_10 : decode cX8_least 10 = .ok (.ireturn, 1) := by decide +kernel
theorem dX8_changes_0 : decode cX8_changes 0 = .ok (.aload_n 0, 1) := by decide +kernel
theorem dX8_changes_1 : decode cX8_changes 1 = .ok (.getfield 19, 3) := by decide +kernel
theorem dX8_changes_4 : decode cX8_changes 4 = .ok (.iload_n 1, 1) := by decide +kernel
theorem dX8_changes_5 : decode cX8_changes 5 = .ok (.iaload, 1) := by decide +kernel
theorem dX8_changes_6 : decode cX8_changes 6 = .ok (.istore_n 3, 1) := by decide +kernel
theorem dX8_changes_7 : decode cX8_changes 7 = .ok (.aload_n 0, 1) := by decide +kernel
theorem dX8_changes_8 : decode cX8_changes 8 = .ok (.getfield 19, 3) := by decide +kernel
theorem dX8_changes_11 : decode cX8_changes 11 = .ok (.iload_n 2, 1) := by decide +kernel
theorem dX8_changes_12 : decode cX8_changes 12 = .ok (.iaload, 1) := by decide +kernel
theorem dX8_changes_13 : decode cX8_changes 13 = .ok (.istore 4, 2) := by decide +kernel
theorem dX8_changes_15 : decode cX8_changes 15 = .ok (.iconst 0, 1) := by decide +kernel
theorem dX8_changes_16 : decode cX8_changes 16 = .ok (.istore 5, 2) := by decide +kernel
theorem dX8_changes_18 : decode cX8_changes 18 = .ok (.iload 5, 2) := by decide +kernel
theorem dX8_changes_20 : decode cX8_changes 20 = .ok (.iload_n 3, 1) := by decide +kernel
theorem dX8_changes_21 : decode cX8_changes 21 = .ok (.if_icmp .gt 172, 3) := by decide +kernel
theorem dX8_changes_24 : decode cX8_changes 24 = .ok (.iconst 0, 1) := by decide +kernel
theorem dX8_changes_25 : decode cX8_changes 25 = .ok (.istore 6, 2) := by decide +kernel
theorem dX8_changes_27 : decode cX8_changes 27 = .ok (.iload 6, 2) := by decide +kernel
theorem dX8_changes_29 : decode cX8_changes 29 = .ok (.iload 4, 2) := by decide +kernel
theorem dX8_changes_31 : decode cX8_changes 31 = .ok (.if_icmp .gt 156, 3) := by decide +kernel
theorem dX8_changes_34 : decode cX8_changes 34 = .ok (.iload 5, 2) := by decide +kernel
theorem dX8_changes_36 : decode cX8_changes 36 = .ok (.ifCond .ne 8, 3) := by decide +kernel
theorem dX8_changes_39 : decode cX8_changes 39 = .ok (.iload 6, 2) := by decide +kernel
theorem dX8_changes_41 : decode cX8_changes 41 = .ok (.goto 30, 3) := by decide +kernel
theorem dX8_changes_44 : decode cX8_changes 44 = .ok (.iload 6, 2) := by decide +kernel
theorem dX8_changes_46 : decode cX8_changes 46 = .ok (.ifCond .ne 8, 3) := by decide +kernel
theorem dX8_changes_49 : decode cX8_changes 49 = .ok (.iload 5, 2) := by decide +kernel
theorem dX8_changes_51 : decode cX8_changes 51 = .ok (.goto 20, 3) := by decide +kernel
theorem dX8_changes_54 : decode cX8_changes 54 = .ok (.aload_n 0, 1) := by decide +kernel
theorem dX8_changes_55 : decode cX8_changes 55 = .ok (.getfield 35, 3) := by decide +kernel
theorem dX8_changes_58 : decode cX8_changes 58 = .ok (.bipush 13, 2) := by decide +kernel
theorem dX8_changes_60 : decode cX8_changes 60 = .ok (.iload 5, 2) := by decide +kernel
theorem dX8_changes_62 : decode cX8_changes 62 = .ok (.iconst 1, 1) := by decide +kernel
theorem dX8_changes_63 : decode cX8_changes 63 = .ok (.isub, 1) := by decide +kernel
theorem dX8_changes_64 : decode cX8_changes 64 = .ok (.imul, 1) := by decide +kernel
theorem dX8_changes_65 : decode cX8_changes 65 = .ok (.iload 6, 2) := by decide +kernel
theorem dX8_changes_67 : decode cX8_changes 67 = .ok (.iadd, 1) := by decide +kernel
theorem dX8_changes_68 : decode cX8_changes 68 = .ok (.iconst 1, 1) := by decide +kernel
theorem dX8_changes_69 : decode cX8_changes 69 = .ok (.isub, 1) := by decide +kernel
theorem dX8_changes_70 : decode cX8_changes 70 = .ok (.iaload, 1) := by decide +kernel
theorem dX8_changes_71 : decode cX8_changes 71 = .ok (.istore 7, 2) := by decide +kernel
theorem dX8_changes_73 : decode cX8_changes 73 = .ok (.iload 5, 2) := by decide +kernel
theorem dX8_changes_75 : decode cX8_changes 75 = .ok (.ifCond .le 91, 3) := by decide +kernel
theorem dX8_changes_78 : decode cX8_changes 78 = .ok (.iload 6, 2) := by decide +kernel
theorem dX8_changes_80 : decode cX8_changes 80 = .ok (.ifCond .le 86, 3) := by decide +kernel
theorem dX8_changes_83 : decode cX8_changes 83 = .ok (.iload 7, 2) := by decide +kernel
theorem dX8_changes_85 : decode cX8_changes 85 = .ok (.aload_n 0, 1) := by decide +kernel
theorem dX8_changes_86 : decode cX8_changes 86 = .ok (.getfield 25, 3) := by decide +kernel
theorem dX8_changes_89 : decode cX8_changes 89 = .ok (.bipush 12, 2) := by decide +kernel
theorem dX8_changes_91 : decode cX8_changes 91 = .ok (.iload_n 1, 1) := by decide +kernel
theorem dX8_changes_92 : decode cX8_changes 92 = .ok (.imul, 1) := by decide +kernel
theorem dX8_changes_93 : decode cX8_changes 93 = .ok (.iload 5, 2) := by decide +kernel
theorem dX8_changes_95 : decode cX8_changes 95 = .ok (.iadd, 1) := by decide +kernel
theorem dX8_changes_96 : decode cX8_changes 96 = .ok (.iconst 1, 1) := by decide +kernel
theorem dX8_changes_97 : decode cX8_changes 97 = .ok (.isub, 1) := by decide +kernel
theorem dX8_changes_98 : decode cX8_changes 98 = .ok (.iaload, 1) := by decide +kernel
theorem dX8_changes_99 : decode cX8_changes 99 = .ok (.aload_n 0, 1) := by decide +kernel
theorem dX8_changes_100 : decode cX8_changes 100 = .ok (.getfield 25, 3) := by decide +kernel
theorem dX8_changes_103 : decode cX8_changes 103 = .ok (.bipush 12, 2) := by decide +kernel
theorem dX8_changes_105 : decode cX8_changes 105 = .ok (.iload_n 2, 1) := by decide +kernel
theorem dX8_changes_106 : decode cX8_changes 106 = .ok (.imul, 1) := by decide +kernel
theorem dX8_changes_107 : decode cX8_changes 107 = .ok (.iload 6, 2) := by decide +kernel
theorem dX8_changes_109 : decode cX8_changes 109 = .ok (.iadd, 1) := by decide +kernel
theorem dX8_changes_110 : decode cX8_changes 110 = .ok (.iconst 1, 1) := by decide +kernel
theorem dX8_changes_111 : decode cX8_changes 111 = .ok (.isub, 1) := by decide +kernel
theorem dX8_changes_112 : decode cX8_changes 112 = .ok (.iaload, 1) := by decide +kernel
theorem dX8_changes_113 : decode cX8_changes 113 = .ok (.if_icmp .ne 7, 3) := by decide +kernel
theorem dX8_changes_116 : decode cX8_changes 116 = .ok (.iconst 0, 1) := by decide +kernel
theorem dX8_changes_117 : decode cX8_changes 117 = .ok (.goto 4, 3) := by decide +kernel
theorem dX8_changes_120 : decode cX8_changes 120 = .ok (.iconst 1, 1) := by decide +kernel
theorem dX8_changes_121 : decode cX8_changes 121 = .ok (.iadd, 1) := by decide +kernel
theorem dX8_changes_122 : decode cX8_changes 122 = .ok (.istore 7, 2) := by decide +kernel
theorem dX8_changes_124 : decode cX8_changes 124 = .ok (.iload 7, 2) := by decide +kernel
theorem dX8_changes_126 : decode cX8_changes 126 = .ok (.iconst 1, 1) := by decide +kernel
theorem dX8_changes_127 : decode cX8_changes 127 = .ok (.aload_n 0, 1) := by decide +kernel
theorem dX8_changes_128 : decode cX8_changes 128 = .ok (.getfield 35, 3) := by decide +kernel
theorem dX8_changes_131 : decode cX8_changes 131 = .ok (.bipush 13, 2) := by decide +kernel
theorem dX8_changes_133 : decode cX8_changes 133 = .ok (.iload 5, 2) := by decide +kernel
theorem dX8_changes_135 : decode cX8_changes 135 = .ok (.iconst 1, 1) := by decide +kernel
theorem dX8_changes_136 : decode cX8_changes 136 = .ok (.isub, 1) := by decide +kernel
theorem dX8_changes_137 : decode cX8_changes 137 = .ok (.imul, 1) := by decide +kernel
theorem dX8_changes_138 : decode cX8_changes 138 = .ok (.iload 6, 2) := by decide +kernel
theorem dX8_changes_140 : decode cX8_changes 140 = .ok (.iadd, 1) := by decide +kernel
theorem dX8_changes_141 : decode cX8_changes 141 = .ok (.iaload, 1) := by decide +kernel
theorem dX8_changes_142 : decode cX8_changes 142 = .ok (.aload_n 0, 1) := by decide +kernel
theorem dX8_changes_143 : decode cX8_changes 143 = .ok (.getfield 35, 3) := by decide +kernel
theorem dX8_changes_146 : decode cX8_changes 146 = .ok (.bipush 13, 2) := by decide +kernel
theorem dX8_changes_148 : decode cX8_changes 148 = .ok (.iload 5, 2) := by decide +kernel
theorem dX8_changes_150 : decode cX8_changes 150 = .ok (.imul, 1) := by decide +kernel
theorem dX8_changes_151 : decode cX8_changes 151 = .ok (.iload 6, 2) := by decide +kernel
theorem dX8_changes_153 : decode cX8_changes 153 = .ok (.iadd, 1) := by decide +kernel
theorem dX8_changes_154 : decode cX8_changes 154 = .ok (.iconst 1, 1) := by decide +kernel
theorem dX8_changes_155 : decode cX8_changes 155 = .ok (.isub, 1) := by decide +kernel
theorem dX8_changes_156 : decode cX8_changes 156 = .ok (.iaload, 1) := by decide +kernel
theorem dX8_changes_157 : decode cX8_changes 157 = .ok (.invokestatic 133, 3) := by decide +kernel
theorem dX8_changes_160 : decode cX8_changes 160 = .ok (.iadd, 1) := by decide +kernel
theorem dX8_changes_161 : decode cX8_changes 161 = .ok (.invokestatic 133, 3) := by decide +kernel
theorem dX8_changes_164 : decode cX8_changes 164 = .ok (.istore 7, 2) := by decide +kernel
theorem dX8_changes_166 : decode cX8_changes 166 = .ok (.aload_n 0, 1) := by decide +kernel
theorem dX8_changes_167 : decode cX8_changes 167 = .ok (.getfield 35, 3) := by decide +kernel
theorem dX8_changes_170 : decode cX8_changes 170 = .ok (.bipush 13, 2) := by decide +kernel
theorem dX8_changes_172 : decode cX8_changes 172 = .ok (.iload 5, 2) := by decide +kernel
theorem dX8_changes_174 : decode cX8_changes 174 = .ok (.imul, 1) := by decide +kernel
theorem dX8_changes_175 : decode cX8_changes 175 = .ok (.iload 6, 2) := by decide +kernel
theorem dX8_changes_177 : decode cX8_changes 177 = .ok (.iadd, 1) := by decide +kernel
theorem dX8_changes_178 : decode cX8_changes 178 = .ok (.iload 7, 2) := by decide +kernel
theorem dX8_changes_180 : decode cX8_changes 180 = .ok (.iastore, 1) := by decide +kernel
theorem dX8_changes_181 : decode cX8_changes 181 = .ok (.iinc 6 1, 3) := by decide +kernel
theorem dX8_changes_184 : decode cX8_changes 184 = .ok (.goto (-157), 3) := by decide +kernel
theorem dX8_changes_187 : decode cX8_changes 187 = .ok (.iinc 5 1, 3) := by decide +kernel
theorem dX8_changes_190 : decode cX8_changes 190 = .ok (.goto (-172), 3) := by decide +kernel
theorem dX8_changes_193 : decode cX8_changes 193 = .ok (.aload_n 0, 1) := by decide +kernel
theorem dX8_changes_194 : decode cX8_changes 194 = .ok (.getfield 35, 3) := by decide +kernel
theorem dX8_changes_197 : decode cX8_changes 197 = .ok (.bipush 13, 2) := by decide +kernel
theorem dX8_changes_199 : decode cX8_changes 199 = .ok (.iload_n 3, 1) := by decide +kernel
theorem dX8_changes_200 : decode cX8_changes 200 = .ok (.imul, 1) := by decide +kernel
theorem dX8_changes_201 : decode cX8_changes 201 = .ok (.iload 4, 2) := by decide +kernel
theorem dX8_changes_203 : decode cX8_changes 203 = .ok (.iadd, 1) := by decide +kernel
theorem dX8_changes_204 : decode cX8_changes 204 = .ok (.iaload, 1) := by decide +kernel
theorem dX8_changes_205 : decode cX8_changes 205 = .ok (.ireturn, 1) := by decide +kernel
theorem dX8_alikeNow_0 : decode cX8_alikeNow 0 = .ok (.aload_n 0, 1) := by decide +kernel
theorem dX8_alikeNow_1 : decode cX8_alikeNow 1 = .ok (.getfield 19, 3) := by decide +kernel
theorem dX8_alikeNow_4 : decode cX8_alikeNow 4 = .ok (.iload_n 1, 1) := by decide +kernel
theorem dX8_alikeNow_5 : decode cX8_alikeNow 5 = .ok (.iaload, 1) := by decide +kernel
theorem dX8_alikeNow_6 : decode cX8_alikeNow 6 = .ok (.aload_n 0, 1) := by decide +kernel
theorem dX8_alikeNow_7 : decode cX8_alikeNow 7 = .ok (.getfield 19, 3) := by decide +kernel
theorem dX8_alikeNow_10 : decode cX8_alikeNow 10 = .ok (.iload_n 2, 1) := by decide +kernel
theorem dX8_alikeNow_11 : decode cX8_alikeNow 11 = .ok (.iaload, 1) := by decide +kernel
theorem dX8_alikeNow_12 : decode cX8_alikeNow 12 = .ok (.if_icmp .le 12, 3) := by decide +kernel
theorem dX8_alikeNow_15 : decode cX8_alikeNow 15 = .ok (.aload_n 0, 1) := by decide +kernel
theorem dX8_alikeNow_16 : decode cX8_alikeNow 16 = .ok (.getfield 19, 3) := by decide +kernel
theorem dX8_alikeNow_19 : decode cX8_alikeNow 19 = .ok (.iload_n 1, 1) := by decide +kernel
theorem dX8_alikeNow_20 : decode cX8_alikeNow 20 = .ok (.iaload, 1) := by decide +kernel
theorem dX8_alikeNow_21 : decode cX8_alikeNow 21 = .ok (.goto 9, 3) := by decide +kernel
theorem dX8_alikeNow_24 : decode cX8_alikeNow 24 = .ok (.aload_n 0, 1) := by decide +kernel
theorem dX8_alikeNow_25 : decode cX8_alikeNow 25 = .ok (.getfield 19, 3) := by decide +kernel
theorem dX8_alikeNow_28 : decode cX8_alikeNow 28 = .ok (.iload_n 2, 1) := by decide +kernel
theorem dX8_alikeNow_29 : decode cX8_alikeNow 29 = .ok (.iaload, 1) := by decide +kernel
theorem dX8_alikeNow_30 : decode cX8_alikeNow 30 = .ok (.istore_n 3, 1) := by decide +kernel
theorem dX8_alikeNow_31 : decode cX8_alikeNow 31 = .ok (.bipush 10, 2) := by decide +kernel
theorem dX8_alikeNow_33 : decode cX8_alikeNow 33 = .ok (.aload_n 0, 1) := by decide +kernel
theorem dX8_alikeNow_34 : decode cX8_alikeNow 34 = .ok (.iload_n 1, 1) := by decide +kernel
theorem dX8_alikeNow_35 : decode cX8_alikeNow 35 = .ok (.iload_n 2, 1) := by decide +kernel
theorem dX8_alikeNow_36 : decode cX8_alikeNow 36 = .ok (.invokevirtual 137, 3) := by decide +kernel
theorem dX8_alikeNow_39 : decode cX8_alikeNow 39 = .ok (.imul, 1) := by decide +kernel
theorem dX8_alikeNow_40 : decode cX8_alikeNow 40 = .ok (.iload_n 3, 1) := by decide +kernel
theorem dX8_alikeNow_41 : decode cX8_alikeNow 41 = .ok (.iadd, 1) := by decide +kernel
theorem dX8_alikeNow_42 : decode cX8_alikeNow 42 = .ok (.iconst 1, 1) := by decide +kernel
theorem dX8_alikeNow_43 : decode cX8_alikeNow 43 = .ok (.isub, 1) := by decide +kernel
theorem dX8_alikeNow_44 : decode cX8_alikeNow 44 = .ok (.iload_n 3, 1) := by decide +kernel
theorem dX8_alikeNow_45 : decode cX8_alikeNow 45 = .ok (.idiv, 1) := by decide +kernel
theorem dX8_alikeNow_46 : decode cX8_alikeNow 46 = .ok (.ireturn, 1) := by decide +kernel
theorem dX8_isWord_0 : decode cX8_isWord 0 = .ok (.aload_n 0, 1) := by decide +kernel
theorem dX8_isWord_1 : decode cX8_isWord 1 = .ok (.getfield 19, 3) := by decide +kernel
theorem dX8_isWord_4 : decode cX8_isWord 4 = .ok (.iload_n 1, 1) := by decide +kernel
theorem dX8_isWord_5 : decode cX8_isWord 5 = .ok (.iaload, 1) := by decide +kernel
theorem dX8_isWord_6 : decode cX8_isWord 6 = .ok (.ifCond .le 7, 3) := by decide +kernel
theorem dX8_isWord_9 : decode cX8_isWord 9 = .ok (.iconst 1, 1) := by decide +kernel
theorem dX8_isWord_10 : decode cX8_isWord 10 = .ok (.goto 4, 3) := by decide +kernel
theorem dX8_isWord_13 : decode cX8_isWord 13 = .ok (.iconst 0, 1) := by decide +kernel
theorem dX8_isWord_14 : decode cX8_isWord 14 = .ok (.ireturn, 1) := by decide +kernel
theorem dX8_costOf_0 : decode cX8_costOf 0 = .ok (.aload_n 0, 1) := by decide +kernel
theorem dX8_costOf_1 : decode cX8_costOf 1 = .ok (.iload_n 1, 1) := by decide +kernel
theorem dX8_costOf_2 : decode cX8_costOf 2 = .ok (.invokevirtual 140, 3) := by decide +kernel
theorem dX8_costOf_5 : decode cX8_costOf 5 = .ok (.ifCond .eq 8, 3) := by decide +kernel
theorem dX8_costOf_8 : decode cX8_costOf 8 = .ok (.bipush 10, 2) := by decide +kernel
theorem dX8_costOf_10 : decode cX8_costOf 10 = .ok (.goto 7, 3) := by decide +kernel
theorem dX8_costOf_13 : decode cX8_costOf 13 = .ok (.aload_n 0, 1) := by decide +kernel
theorem dX8_costOf_14 : decode cX8_costOf 14 = .ok (.getfield 28, 3) := by decide +kernel
theorem dX8_costOf_17 : decode cX8_costOf 17 = .ok (.ireturn, 1) := by decide +kernel
theorem dX8_bothCost_0 : decode cX8_bothCost 0 = .ok (.aload_n 0, 1) := by decide +kernel
theorem dX8_bothCost_1 : decode cX8_bothCost 1 = .ok (.iload_n 1, 1) := by decide +kernel
theorem dX8_bothCost_2 : decode cX8_bothCost 2 = .ok (.invokevirtual 140, 3) := by decide +kernel
theorem dX8_bothCost_5 : decode cX8_bothCost 5 = .ok (.aload_n 0, 1) := by decide +kernel
theorem dX8_bothCost_6 : decode cX8_bothCost 6 = .ok (.iload_n 2, 1) := by decide +kernel
theorem dX8_bothCost_7 : decode cX8_bothCost 7 = .ok (.invokevirtual 140, 3) := by decide +kernel
theorem dX8_bothCost_10 : decode cX8_bothCost 10 = .ok (.if_icmp .eq 6, 3) := by decide +kernel
theorem dX8_bothCost_13 : decode cX8_bothCost 13 = .ok (.ldc 143, 2) := by decide +kernel
theorem dX8_bothCost_15 : decode cX8_bothCost 15 = .ok (.ireturn, 1) := by decide +kernel
theorem dX8_bothCost_16 : decode cX8_bothCost 16 = .ok (.aload_n 0, 1) := by decide +kernel
theorem dX8_bothCost_17 : decode cX8_bothCost 17 = .ok (.iload_n 1, 1) := by decide +kernel
theorem dX8_bothCost_18 : decode cX8_bothCost 18 = .ok (.invokevirtual 140, 3) := by decide +kernel
theorem dX8_bothCost_21 : decode cX8_bothCost 21 = .ok (.ifCond .eq 12, 3) := by decide +kernel
theorem dX8_bothCost_24 : decode cX8_bothCost 24 = .ok (.aload_n 0, 1) := by decide +kernel
theorem dX8_bothCost_25 : decode cX8_bothCost 25 = .ok (.iload_n 1, 1) := by decide +kernel
theorem dX8_bothCost_26 : decode cX8_bothCost 26 = .ok (.iload_n 2, 1) := by decide +kernel
theorem dX8_bothCost_27 : decode cX8_bothCost 27 = .ok (.invokevirtual 144, 3) := by decide +kernel
theorem dX8_bothCost_30 : decode cX8_bothCost 30 = .ok (.goto 26, 3) := by decide +kernel
theorem dX8_bothCost_33 : decode cX8_bothCost 33 = .ok (.aload_n 0, 1) := by decide +kernel
theorem dX8_bothCost_34 : decode cX8_bothCost 34 = .ok (.getfield 22, 3) := by decide +kernel
theorem dX8_bothCost_37 : decode cX8_bothCost 37 = .ok (.iload_n 1, 1) := by decide +kernel
theorem dX8_bothCost_38 : decode cX8_bothCost 38 = .ok (.iaload, 1) := by decide +kernel
theorem dX8_bothCost_39 : decode cX8_bothCost 39 = .ok (.aload_n 0, 1) := by decide +kernel
theorem dX8_bothCost_40 : decode cX8_bothCost 40 = .ok (.getfield 22, 3) := by decide +kernel
theorem dX8_bothCost_43 : decode cX8_bothCost 43 = .ok (.iload_n 2, 1) := by decide +kernel
theorem dX8_bothCost_44 : decode cX8_bothCost 44 = .ok (.iaload, 1) := by decide +kernel
theorem dX8_bothCost_45 : decode cX8_bothCost 45 = .ok (.if_icmp .ne 7, 3) := by decide +kernel
theorem dX8_bothCost_48 : decode cX8_bothCost 48 = .ok (.iconst 0, 1) := by decide +kernel
theorem dX8_bothCost_49 : decode cX8_bothCost 49 = .ok (.goto 7, 3) := by decide +kernel
theorem dX8_bothCost_52 : decode cX8_bothCost 52 = .ok (.aload_n 0, 1) := by decide +kernel
theorem dX8_bothCost_53 : decode cX8_bothCost 53 = .ok (.getfield 28, 3) := by decide +kernel
theorem dX8_bothCost_56 : decode cX8_bothCost 56 = .ok (.ireturn, 1) := by decide +kernel
theorem dX8_layPay_0 : decode cX8_layPay 0 = .ok (.aload_n 0, 1) := by decide +kernel
theorem dX8_layPay_1 : decode cX8_layPay 1 = .ok (.getfield 13, 3) := by decide +kernel
theorem dX8_layPay_4 : decode cX8_layPay 4 = .ok (.iload_n 1, 1) := by decide +kernel
theorem dX8_layPay_5 : decode cX8_layPay 5 = .ok (.iaload, 1) := by decide +kernel
theorem dX8_layPay_6 : decode cX8_layPay 6 = .ok (.istore_n 3, 1) := by decide +kernel
theorem dX8_layPay_7 : decode cX8_layPay 7 = .ok (.iload_n 3, 1) := by decide +kernel
theorem dX8_layPay_8 : decode cX8_layPay 8 = .ok (.ifCond .lt 253, 3) := by decide +kernel
theorem dX8_layPay_11 : decode cX8_layPay 11 = .ok (.aload_n 0, 1) := by decide +kernel
theorem dX8_layPay_12 : decode cX8_layPay 12 = .ok (.getfield 13, 3) := by decide +kernel
theorem dX8_layPay_15 : decode cX8_layPay 15 = .ok (.iload_n 2, 1) := by decide +kernel
theorem dX8_layPay_16 : decode cX8_layPay 16 = .ok (.iaload, 1) := by decide +kernel
theorem dX8_layPay_17 : decode cX8_layPay 17 = .ok (.istore 4, 2) := by decide +kernel
theorem dX8_layPay_19 : decode cX8_layPay 19 = .ok (.iload 4, 2) := by decide +kernel
