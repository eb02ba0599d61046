theorem dX6_init_0 : decode cX6_init 0 = .ok (.aload_n 0, 1) := by decide +kernel
theorem dX6_init_1 : decode cX6_init 1 = .ok (.invokespecial 3, 3) := by decide +kernel
theorem dX6_init_4 : decode cX6_init 4 = .ok (.aload_n 0, 1) := by decide +kernel
theorem dX6_init_5 : decode cX6_init 5 = .ok (.bipush 12, 2) := by decide +kernel
theorem dX6_init_7 : decode cX6_init 7 = .ok (.newarray .int, 2) := by decide +kernel
theorem dX6_init_9 : decode cX6_init 9 = .ok (.putfield 9, 3) := by decide +kernel
theorem dX6_init_12 : decode cX6_init 12 = .ok (.return_, 1) := by decide +kernel
theorem dX6_clear_0 : decode cX6_clear 0 = .ok (.aload_n 0, 1) := by decide +kernel
theorem dX6_clear_1 : decode cX6_clear 1 = .ok (.iconst 0, 1) := by decide +kernel
theorem dX6_clear_2 : decode cX6_clear 2 = .ok (.putfield 15, 3) := by decide +kernel
theorem dX6_clear_5 : decode cX6_clear 5 = .ok (.aload_n 0, 1) := by decide +kernel
theorem dX6_clear_6 : decode cX6_clear 6 = .ok (.iconst 0, 1) := by decide +kernel
theorem dX6_clear_7 : decode cX6_clear 7 = .ok (.putfield 19, 3) := by decide +kernel
theorem dX6_clear_10 : decode cX6_clear 10 = .ok (.return_, 1) := by decide +kernel
theorem dX6_take_0 : decode cX6_take 0 = .ok (.iload_n 1, 1) := by decide +kernel
theorem dX6_take_1 : decode cX6_take 1 = .ok (.bipush 49, 2) := by decide +kernel
theorem dX6_take_3 : decode cX6_take 3 = .ok (.if_icmp .lt 20, 3) := by decide +kernel
theorem dX6_take_6 : decode cX6_take 6 = .ok (.iload_n 1, 1) := by decide +kernel
theorem dX6_take_7 : decode cX6_take 7 = .ok (.bipush 57, 2) := by decide +kernel
theorem dX6_take_9 : decode cX6_take 9 = .ok (.if_icmp .gt 14, 3) := by decide +kernel
theorem dX6_take_12 : decode cX6_take 12 = .ok (.aload_n 0, 1) := by decide +kernel
theorem dX6_take_13 : decode cX6_take 13 = .ok (.iload_n 1, 1) := by decide +kernel
theorem dX6_take_14 : decode cX6_take 14 = .ok (.bipush 48, 2) := by decide +kernel
theorem dX6_take_16 : decode cX6_take 16 = .ok (.isub, 1) := by decide +kernel
theorem dX6_take_17 : decode cX6_take 17 = .ok (.putfield 19, 3) := by decide +kernel
theorem dX6_take_20 : decode cX6_take 20 = .ok (.goto 42, 3) := by decide +kernel
theorem dX6_take_23 : decode cX6_take 23 = .ok (.iload_n 1, 1) := by decide +kernel
theorem dX6_take_24 : decode cX6_take 24 = .ok (.invokestatic 22, 3) := by decide +kernel
theorem dX6_take_27 : decode cX6_take 27 = .ok (.ifCond .eq 35, 3) := by decide +kernel
theorem dX6_take_30 : decode cX6_take 30 = .ok (.aload_n 0, 1) := by decide +kernel
theorem dX6_take_31 : decode cX6_take 31 = .ok (.getfield 15, 3) := by decide +kernel
theorem dX6_take_34 : decode cX6_take 34 = .ok (.aload_n 0, 1) := by decide +kernel
theorem dX6_take_35 : decode cX6_take 35 = .ok (.getfield 9, 3) := by decide +kernel
theorem dX6_take_38 : decode cX6_take 38 = .ok (.arraylength, 1) := by decide +kernel
theorem dX6_take_39 : decode cX6_take 39 = .ok (.if_icmp .ge 23, 3) := by decide +kernel
theorem dX6_take_42 : decode cX6_take 42 = .ok (.aload_n 0, 1) := by decide +kernel
theorem dX6_take_43 : decode cX6_take 43 = .ok (.getfield 9, 3) := by decide +kernel
theorem dX6_take_46 : decode cX6_take 46 = .ok (.aload_n 0, 1) := by decide +kernel
theorem dX6_take_47 : decode cX6_take 47 = .ok (.getfield 15, 3) := by decide +kernel
theorem dX6_take_50 : decode cX6_take 50 = .ok (.iload_n 1, 1) := by decide +kernel
theorem dX6_take_51 : decode cX6_take 51 = .ok (.iastore, 1) := by decide +kernel
theorem dX6_take_52 : decode cX6_take 52 = .ok (.aload_n 0, 1) := by decide +kernel
theorem dX6_take_53 : decode cX6_take 53 = .ok (.dup, 1) := by decide +kernel
theorem dX6_take_54 : decode cX6_take 54 = .ok (.getfield 15, 3) := by decide +kernel
theorem dX6_take_57 : decode cX6_take 57 = .ok (.iconst 1, 1) := by decide +kernel
theorem dX6_take_58 : decode cX6_take 58 = .ok (.iadd, 1) := by decide +kernel
theorem dX6_take_59 : decode cX6_take 59 = .ok (.putfield 15, 3) := by decide +kernel
theorem dX6_take_62 : decode cX6_take 62 = .ok (.return_, 1) := by decide +kernel
theorem dX6_isWord_0 : decode cX6_isWord 0 = .ok (.aload_n 0, 1) := by decide +kernel
theorem dX6_isWord_1 : decode cX6_isWord 1 = .ok (.getfield 15, 3) := by decide +kernel
theorem dX6_isWord_4 : decode cX6_isWord 4 = .ok (.ifCond .le 7, 3) := by decide +kernel
theorem dX6_isWord_7 : decode cX6_isWord 7 = .ok (.iconst 1, 1) := by decide +kernel
theorem dX6_isWord_8 : decode cX6_isWord 8 = .ok (.goto 4, 3) := by decide +kernel
theorem dX6_isWord_11 : decode cX6_isWord 11 = .ok (.iconst 0, 1) := by decide +kernel
theorem dX6_isWord_12 : decode cX6_isWord 12 = .ok (.ireturn, 1) := by decide +kernel
theorem dX6_cost_0 : decode cX6_cost 0 = .ok (.aload_n 0, 1) := by decide +kernel
theorem dX6_cost_1 : decode cX6_cost 1 = .ok (.invokevirtual 26, 3) := by decide +kernel
theorem dX6_cost_4 : decode cX6_cost 4 = .ok (.ifCond .eq 8, 3) := by decide +kernel
theorem dX6_cost_7 : decode cX6_cost 7 = .ok (.bipush 10, 2) := by decide +kernel
theorem dX6_cost_9 : decode cX6_cost 9 = .ok (.goto 4, 3) := by decide +kernel
theorem dX6_cost_12 : decode cX6_cost 12 = .ok (.iload_n 1, 1) := by decide +kernel
theorem dX6_cost_13 : decode cX6_cost 13 = .ok (.ireturn, 1) := by decide +kernel
theorem dX6_isSameAs_0 : decode cX6_isSameAs 0 = .ok (.aload_n 0, 1) := by decide +kernel
theorem dX6_isSameAs_1 : decode cX6_isSameAs 1 = .ok (.getfield 15, 3) := by decide +kernel
theorem dX6_isSameAs_4 : decode cX6_isSameAs 4 = .ok (.aload_n 1, 1) := by decide +kernel
theorem dX6_isSameAs_5 : decode cX6_isSameAs 5 = .ok (.getfield 15, 3) := by decide +kernel
theorem dX6_isSameAs_8 : decode cX6_isSameAs 8 = .ok (.if_icmp .ne 14, 3) := by decide +kernel
theorem dX6_isSameAs_11 : decode cX6_isSameAs 11 = .ok (.aload_n 0, 1) := by decide +kernel
theorem dX6_isSameAs_12 : decode cX6_isSameAs 12 = .ok (.getfield 19, 3) := by decide +kernel
theorem dX6_isSameAs_15 : decode cX6_isSameAs 15 = .ok (.aload_n 1, 1) := by decide +kernel
theorem dX6_isSameAs_16 : decode cX6_isSameAs 16 = .ok (.getfield 19, 3) := by decide +kernel
theorem dX6_isSameAs_19 : decode cX6_isSameAs 19 = .ok (.if_icmp .eq 5, 3) := by decide +kernel
theorem dX6_isSameAs_22 : decode cX6_isSameAs 22 = .ok (.iconst 0, 1) := by decide +kernel
theorem dX6_isSameAs_23 : decode cX6_isSameAs 23 = .ok (.ireturn, 1) := by decide +kernel
theorem dX6_isSameAs_24 : decode cX6_isSameAs 24 = .ok (.iconst 0, 1) := by decide +kernel
theorem dX6_isSameAs_25 : decode cX6_isSameAs 25 = .ok (.istore_n 2, 1) := by decide +kernel
theorem dX6_isSameAs_26 : decode cX6_isSameAs 26 = .ok (.iload_n 2, 1) := by decide +kernel
theorem dX6_isSameAs_27 : decode cX6_isSameAs 27 = .ok (.aload_n 0, 1) := by decide +kernel
theorem dX6_isSameAs_28 : decode cX6_isSameAs 28 = .ok (.getfield 15, 3) := by decide +kernel
theorem dX6_isSameAs_31 : decode cX6_isSameAs 31 = .ok (.if_icmp .ge 26, 3) := by decide +kernel
theorem dX6_isSameAs_34 : decode cX6_isSameAs 34 = .ok (.aload_n 0, 1) := by decide +kernel
theorem dX6_isSameAs_35 : decode cX6_isSameAs 35 = .ok (.getfield 9, 3) := by decide +kernel
theorem dX6_isSameAs_38 : decode cX6_isSameAs 38 = .ok (.iload_n 2, 1) := by decide +kernel
theorem dX6_isSameAs_39 : decode cX6_isSameAs 39 = .ok (.iaload, 1) := by decide +kernel
theorem dX6_isSameAs_40 : decode cX6_isSameAs 40 = .ok (.aload_n 1, 1) := by decide +kernel
theorem dX6_isSameAs_41 : decode cX6_isSameAs 41 = .ok (.getfield 9, 3) := by decide +kernel
theorem dX6_isSameAs_44 : decode cX6_isSameAs 44 = .ok (.iload_n 2, 1) := by decide +kernel
theorem dX6_isSameAs_45 : decode cX6_isSameAs 45 = .ok (.iaload, 1) := by decide +kernel
theorem dX6_isSameAs_46 : decode cX6_isSameAs 46 = .ok (.if_icmp .eq 5, 3) := by decide +kernel
theorem dX6_isSameAs_49 : decode cX6_isSameAs 49 = .ok (.iconst 0, 1) := by decide +kernel
theorem dX6_isSameAs_50 : decode cX6_isSameAs 50 = .ok (.ireturn, 1) := by decide +kernel
theorem dX6_isSameAs_51 : decode cX6_isSameAs 51 = .ok (.iinc 2 1, 3) := by decide +kernel
theorem dX6_isSameAs_54 : decode cX6_isSameAs 54 = .ok (.goto (-28), 3) := by decide +kernel
theorem dX6_isSameAs_57 : decode cX6_isSameAs 57 = .ok (.iconst 1, 1) := by decide +kernel
theorem dX6_isSameAs_58 : decode cX6_isSameAs 58 = .ok (.ireturn, 1) := by decide +kernel
theorem dX6_tell_0 : decode cX6_tell 0 = .ok (.iload_n 1, 1) := by decide +kernel
theorem dX6_tell_1 : decode cX6_tell 1 = .ok (.ifCond .ne 8, 3) := by decide +kernel
theorem dX6_tell_4 : decode cX6_tell 4 = .ok (.aload_n 0, 1) := by decide +kernel
theorem dX6_tell_5 : decode cX6_tell 5 = .ok (.getfield 15, 3) := by decide +kernel
theorem dX6_tell_8 : decode cX6_tell 8 = .ok (.ireturn, 1) := by decide +kernel
theorem dX6_tell_9 : decode cX6_tell 9 = .ok (.iload_n 1, 1) := by decide +kernel
theorem dX6_tell_10 : decode cX6_tell 10 = .ok (.iconst 1, 1) := by decide +kernel
theorem dX6_tell_11 : decode cX6_tell 11 = .ok (.if_icmp .ne 8, 3) := by decide +kernel
theorem dX6_tell_14 : decode cX6_tell 14 = .ok (.aload_n 0, 1) := by decide +kernel
theorem dX6_tell_15 : decode cX6_tell 15 = .ok (.getfield 19, 3) := by decide +kernel
theorem dX6_tell_18 : decode cX6_tell 18 = .ok (.ireturn, 1) := by decide +kernel
theorem dX6_tell_19 : decode cX6_tell 19 = .ok (.iload_n 1, 1) := by decide +kernel
theorem dX6_tell_20 : decode cX6_tell 20 = .ok (.iconst 2, 1) := by decide +kernel
theorem dX6_tell_21 : decode cX6_tell 21 = .ok (.isub, 1) := by decide +kernel
theorem dX6_tell_22 : decode cX6_tell 22 = .ok (.aload_n 0, 1) := by decide +kernel
theorem dX6_tell_23 : decode cX6_tell 23 = .ok (.getfield 15, 3) := by decide +kernel
theorem dX6_tell_26 : decode cX6_tell 26 = .ok (.invokestatic 30, 3) := by decide +kernel
theorem dX6_tell_29 : decode cX6_tell 29 = .ok (.ifCond .eq 14, 3) := by decide +kernel
theorem dX6_tell_32 : decode cX6_tell 32 = .ok (.aload_n 0, 1) := by decide +kernel
theorem dX6_tell_33 : decode cX6_tell 33 = .ok (.getfield 9, 3) := by decide +kernel
theorem dX6_tell_36 : decode cX6_tell 36 = .ok (.iload_n 1, 1) := by decide +kernel
theorem dX6_tell_37 : decode cX6_tell 37 = .ok (.iconst 2, 1) := by decide +kernel
theorem dX6_tell_38 : decode cX6_tell 38 = .ok (.isub, 1) := by decide +kernel
theorem dX6_tell_39 : decode cX6_tell 39 = .ok (.iaload, 1) := by decide +kernel
theorem dX6_tell_40 : decode cX6_tell 40 = .ok (.goto 4, 3) := by decide +kernel
theorem dX6_tell_43 : decode cX6_tell 43 = .ok (.iconst (-1), 1) := by decide +kernel
theorem dX6_tell_44 : decode cX6_tell 44 = .ok (.ireturn, 1) := by decide +kernel
