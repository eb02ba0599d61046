theorem dX7_refreshFindings_56 : decode cX7_refreshFindings 56 = .ok (.aaload, 1) := by decide +kernel
theorem dX7_refreshFindings_57 : decode cX7_refreshFindings 57 = .ok (.aload_n 0, 1) := by decide +kernel
theorem dX7_refreshFindings_58 : decode cX7_refreshFindings 58 = .ok (.getfield 23, 3) := by decide +kernel
theorem dX7_refreshFindings_61 : decode cX7_refreshFindings 61 = .ok (.aload_n 0, 1) := by decide +kernel
theorem dX7_refreshFindings_62 : decode cX7_refreshFindings 62 = .ok (.getfield 55, 3) := by decide +kernel
theorem dX7_refreshFindings_65 : decode cX7_refreshFindings 65 = .ok (.aload_n 0, 1) := by decide +kernel
theorem dX7_refreshFindings_66 : decode cX7_refreshFindings 66 = .ok (.getfield 59, 3) := by decide +kernel
theorem dX7_refreshFindings_69 : decode cX7_refreshFindings 69 = .ok (.invokevirtual 230, 3) := by decide +kernel
theorem dX7_refreshFindings_72 : decode cX7_refreshFindings 72 = .ok (.iinc 1 1, 3) := by decide +kernel
theorem dX7_refreshFindings_75 : decode cX7_refreshFindings 75 = .ok (.goto (-65), 3) := by decide +kernel
theorem dX7_refreshFindings_78 : decode cX7_refreshFindings 78 = .ok (.aload_n 0, 1) := by decide +kernel
theorem dX7_refreshFindings_79 : decode cX7_refreshFindings 79 = .ok (.getfield 51, 3) := by decide +kernel
theorem dX7_refreshFindings_82 : decode cX7_refreshFindings 82 = .ok (.aload_n 0, 1) := by decide +kernel
theorem dX7_refreshFindings_83 : decode cX7_refreshFindings 83 = .ok (.getfield 87, 3) := by decide +kernel
theorem dX7_refreshFindings_86 : decode cX7_refreshFindings 86 = .ok (.invokevirtual 234, 3) := by decide +kernel
theorem dX7_refreshFindings_89 : decode cX7_refreshFindings 89 = .ok (.aload_n 0, 1) := by decide +kernel
theorem dX7_refreshFindings_90 : decode cX7_refreshFindings 90 = .ok (.iconst 0, 1) := by decide +kernel
theorem dX7_refreshFindings_91 : decode cX7_refreshFindings 91 = .ok (.putfield 62, 3) := by decide +kernel
theorem dX7_refreshFindings_94 : decode cX7_refreshFindings 94 = .ok (.return_, 1) := by decide +kernel
theorem dX7_isWithin_0 : decode cX7_isWithin 0 = .ok (.iload_n 0, 1) := by decide +kernel
theorem dX7_isWithin_1 : decode cX7_isWithin 1 = .ok (.ifCond .lt 12, 3) := by decide +kernel
theorem dX7_isWithin_4 : decode cX7_isWithin 4 = .ok (.iload_n 0, 1) := by decide +kernel
theorem dX7_isWithin_5 : decode cX7_isWithin 5 = .ok (.iload_n 1, 1) := by decide +kernel
theorem dX7_isWithin_6 : decode cX7_isWithin 6 = .ok (.if_icmp .ge 7, 3) := by decide +kernel
theorem dX7_isWithin_9 : decode cX7_isWithin 9 = .ok (.iconst 1, 1) := by decide +kernel
theorem dX7_isWithin_10 : decode cX7_isWithin 10 = .ok (.goto 4, 3) := by decide +kernel
theorem dX7_isWithin_13 : decode cX7_isWithin 13 = .ok (.iconst 0, 1) := by decide +kernel
theorem dX7_isWithin_14 : decode cX7_isWithin 14 = .ok (.ireturn, 1) := by decide +kernel
theorem dX7_isSmallLetter_0 : decode cX7_isSmallLetter 0 = .ok (.iload_n 0, 1) := by decide +kernel
theorem dX7_isSmallLetter_1 : decode cX7_isSmallLetter 1 = .ok (.bipush 97, 2) := by decide +kernel
theorem dX7_isSmallLetter_3 : decode cX7_isSmallLetter 3 = .ok (.if_icmp .lt 13, 3) := by decide +kernel
theorem dX7_isSmallLetter_6 : decode cX7_isSmallLetter 6 = .ok (.iload_n 0, 1) := by decide +kernel
theorem dX7_isSmallLetter_7 : decode cX7_isSmallLetter 7 = .ok (.bipush 122, 2) := by decide +kernel
theorem dX7_isSmallLetter_9 : decode cX7_isSmallLetter 9 = .ok (.if_icmp .gt 7, 3) := by decide +kernel
theorem dX7_isSmallLetter_12 : decode cX7_isSmallLetter 12 = .ok (.iconst 1, 1) := by decide +kernel
theorem dX7_isSmallLetter_13 : decode cX7_isSmallLetter 13 = .ok (.goto 4, 3) := by decide +kernel
theorem dX7_isSmallLetter_16 : decode cX7_isSmallLetter 16 = .ok (.iconst 0, 1) := by decide +kernel
theorem dX7_isSmallLetter_17 : decode cX7_isSmallLetter 17 = .ok (.ireturn, 1) := by decide +kernel
theorem dX7_letterNumber_0 : decode cX7_letterNumber 0 = .ok (.iload_n 0, 1) := by decide +kernel
theorem dX7_letterNumber_1 : decode cX7_letterNumber 1 = .ok (.bipush 97, 2) := by decide +kernel
theorem dX7_letterNumber_3 : decode cX7_letterNumber 3 = .ok (.isub, 1) := by decide +kernel
theorem dX7_letterNumber_4 : decode cX7_letterNumber 4 = .ok (.iconst 1, 1) := by decide +kernel
theorem dX7_letterNumber_5 : decode cX7_letterNumber 5 = .ok (.iadd, 1) := by decide +kernel
theorem dX7_letterNumber_6 : decode cX7_letterNumber 6 = .ok (.ireturn, 1) := by decide +kernel
theorem dX7_gramNumber_0 : decode cX7_gramNumber 0 = .ok (.iload_n 0, 1) := by decide +kernel
theorem dX7_gramNumber_1 : decode cX7_gramNumber 1 = .ok (.bipush 27, 2) := by decide +kernel
theorem dX7_gramNumber_3 : decode cX7_gramNumber 3 = .ok (.imul, 1) := by decide +kernel
theorem dX7_gramNumber_4 : decode cX7_gramNumber 4 = .ok (.iload_n 1, 1) := by decide +kernel
theorem dX7_gramNumber_5 : decode cX7_gramNumber 5 = .ok (.iadd, 1) := by decide +kernel
theorem dX7_gramNumber_6 : decode cX7_gramNumber 6 = .ok (.ireturn, 1) := by decide +kernel
