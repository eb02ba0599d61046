theorem dX3_init_0 : decode cX3_init 0 = .ok (.aload_n 0, 1) := by decide +kernel
theorem dX3_init_1 : decode cX3_init 1 = .ok (.invokespecial 3, 3) := by decide +kernel
theorem dX3_init_4 : decode cX3_init 4 = .ok (.aload_n 0, 1) := by decide +kernel
theorem dX3_init_5 : decode cX3_init 5 = .ok (.sipush 729, 3) := by decide +kernel
theorem dX3_init_8 : decode cX3_init 8 = .ok (.newarray .int, 2) := by decide +kernel
theorem dX3_init_10 : decode cX3_init 10 = .ok (.putfield 9, 3) := by decide +kernel
theorem dX3_init_13 : decode cX3_init 13 = .ok (.return_, 1) := by decide +kernel
theorem dX3_holdersOf_0 : decode cX3_holdersOf 0 = .ok (.iload_n 1, 1) := by decide +kernel
theorem dX3_holdersOf_1 : decode cX3_holdersOf 1 = .ok (.aload_n 0, 1) := by decide +kernel
theorem dX3_holdersOf_2 : decode cX3_holdersOf 2 = .ok (.getfield 9, 3) := by decide +kernel
theorem dX3_holdersOf_5 : decode cX3_holdersOf 5 = .ok (.arraylength, 1) := by decide +kernel
theorem dX3_holdersOf_6 : decode cX3_holdersOf 6 = .ok (.invokestatic 15, 3) := by decide +kernel
theorem dX3_holdersOf_9 : decode cX3_holdersOf 9 = .ok (.ifCond .eq 12, 3) := by decide +kernel
theorem dX3_holdersOf_12 : decode cX3_holdersOf 12 = .ok (.aload_n 0, 1) := by decide +kernel
theorem dX3_holdersOf_13 : decode cX3_holdersOf 13 = .ok (.getfield 9, 3) := by decide +kernel
theorem dX3_holdersOf_16 : decode cX3_holdersOf 16 = .ok (.iload_n 1, 1) := by decide +kernel
theorem dX3_holdersOf_17 : decode cX3_holdersOf 17 = .ok (.iaload, 1) := by decide +kernel
theorem dX3_holdersOf_18 : decode cX3_holdersOf 18 = .ok (.goto 4, 3) := by decide +kernel
theorem dX3_holdersOf_21 : decode cX3_holdersOf 21 = .ok (.iconst 0, 1) := by decide +kernel
theorem dX3_holdersOf_22 : decode cX3_holdersOf 22 = .ok (.ireturn, 1) := by decide +kernel
theorem dX3_add_0 : decode cX3_add 0 = .ok (.iconst 0, 1) := by decide +kernel
theorem dX3_add_1 : decode cX3_add 1 = .ok (.istore_n 2, 1) := by decide +kernel
theorem dX3_add_2 : decode cX3_add 2 = .ok (.iload_n 2, 1) := by decide +kernel
theorem dX3_add_3 : decode cX3_add 3 = .ok (.aload_n 1, 1) := by decide +kernel
theorem dX3_add_4 : decode cX3_add 4 = .ok (.getfield 19, 3) := by decide +kernel
theorem dX3_add_7 : decode cX3_add 7 = .ok (.if_icmp .ge 65, 3) := by decide +kernel
theorem dX3_add_10 : decode cX3_add 10 = .ok (.aload_n 1, 1) := by decide +kernel
theorem dX3_add_11 : decode cX3_add 11 = .ok (.getfield 25, 3) := by decide +kernel
theorem dX3_add_14 : decode cX3_add 14 = .ok (.iload_n 2, 1) := by decide +kernel
theorem dX3_add_15 : decode cX3_add 15 = .ok (.iaload, 1) := by decide +kernel
theorem dX3_add_16 : decode cX3_add 16 = .ok (.istore_n 3, 1) := by decide +kernel
theorem dX3_add_17 : decode cX3_add 17 = .ok (.aload_n 1, 1) := by decide +kernel
theorem dX3_add_18 : decode cX3_add 18 = .ok (.iload_n 2, 1) := by decide +kernel
theorem dX3_add_19 : decode cX3_add 19 = .ok (.invokevirtual 28, 3) := by decide +kernel
theorem dX3_add_22 : decode cX3_add 22 = .ok (.ifCond .eq 44, 3) := by decide +kernel
theorem dX3_add_25 : decode cX3_add 25 = .ok (.iload_n 3, 1) := by decide +kernel
theorem dX3_add_26 : decode cX3_add 26 = .ok (.aload_n 0, 1) := by decide +kernel
theorem dX3_add_27 : decode cX3_add 27 = .ok (.getfield 9, 3) := by decide +kernel
theorem dX3_add_30 : decode cX3_add 30 = .ok (.arraylength, 1) := by decide +kernel
theorem dX3_add_31 : decode cX3_add 31 = .ok (.invokestatic 15, 3) := by decide +kernel
theorem dX3_add_34 : decode cX3_add 34 = .ok (.ifCond .eq 32, 3) := by decide +kernel
theorem dX3_add_37 : decode cX3_add 37 = .ok (.aload_n 0, 1) := by decide +kernel
theorem dX3_add_38 : decode cX3_add 38 = .ok (.getfield 9, 3) := by decide +kernel
theorem dX3_add_41 : decode cX3_add 41 = .ok (.iload_n 3, 1) := by decide +kernel
theorem dX3_add_42 : decode cX3_add 42 = .ok (.iaload, 1) := by decide +kernel
theorem dX3_add_43 : decode cX3_add 43 = .ok (.ifCond .ne 13, 3) := by decide +kernel
theorem dX3_add_46 : decode cX3_add 46 = .ok (.aload_n 0, 1) := by decide +kernel
theorem dX3_add_47 : decode cX3_add 47 = .ok (.dup, 1) := by decide +kernel
theorem dX3_add_48 : decode cX3_add 48 = .ok (.getfield 32, 3) := by decide +kernel
theorem dX3_add_51 : decode cX3_add 51 = .ok (.iconst 1, 1) := by decide +kernel
theorem dX3_add_52 : decode cX3_add 52 = .ok (.iadd, 1) := by decide +kernel
theorem dX3_add_53 : decode cX3_add 53 = .ok (.putfield 32, 3) := by decide +kernel
theorem dX3_add_56 : decode cX3_add 56 = .ok (.aload_n 0, 1) := by decide +kernel
theorem dX3_add_57 : decode cX3_add 57 = .ok (.getfield 9, 3) := by decide +kernel
theorem dX3_add_60 : decode cX3_add 60 = .ok (.iload_n 3, 1) := by decide +kernel
theorem dX3_add_61 : decode cX3_add 61 = .ok (.dup2, 1) := by decide +kernel
theorem dX3_add_62 : decode cX3_add 62 = .ok (.iaload, 1) := by decide +kernel
theorem dX3_add_63 : decode cX3_add 63 = .ok (.iconst 1, 1) := by decide +kernel
theorem dX3_add_64 : decode cX3_add 64 = .ok (.iadd, 1) := by decide +kernel
theorem dX3_add_65 : decode cX3_add 65 = .ok (.iastore, 1) := by decide +kernel
theorem dX3_add_66 : decode cX3_add 66 = .ok (.iinc 2 1, 3) := by decide +kernel
theorem dX3_add_69 : decode cX3_add 69 = .ok (.goto (-67), 3) := by decide +kernel
theorem dX3_add_72 : decode cX3_add 72 = .ok (.return_, 1) := by decide +kernel
theorem dX3_remove_0 : decode cX3_remove 0 = .ok (.iconst 0, 1) := by decide +kernel
theorem dX3_remove_1 : decode cX3_remove 1 = .ok (.istore_n 2, 1) := by decide +kernel
theorem dX3_remove_2 : decode cX3_remove 2 = .ok (.iload_n 2, 1) := by decide +kernel
theorem dX3_remove_3 : decode cX3_remove 3 = .ok (.aload_n 1, 1) := by decide +kernel
theorem dX3_remove_4 : decode cX3_remove 4 = .ok (.getfield 19, 3) := by decide +kernel
theorem dX3_remove_7 : decode cX3_remove 7 = .ok (.if_icmp .ge 65, 3) := by decide +kernel
theorem dX3_remove_10 : decode cX3_remove 10 = .ok (.aload_n 1, 1) := by decide +kernel
theorem dX3_remove_11 : decode cX3_remove 11 = .ok (.getfield 25, 3) := by decide +kernel
theorem dX3_remove_14 : decode cX3_remove 14 = .ok (.iload_n 2, 1) := by decide +kernel
theorem dX3_remove_15 : decode cX3_remove 15 = .ok (.iaload, 1) := by decide +kernel
theorem dX3_remove_16 : decode cX3_remove 16 = .ok (.istore_n 3, 1) := by decide +kernel
theorem dX3_remove_17 : decode cX3_remove 17 = .ok (.aload_n 1, 1) := by decide +kernel
theorem dX3_remove_18 : decode cX3_remove 18 = .ok (.iload_n 2, 1) := by decide +kernel
theorem dX3_remove_19 : decode cX3_remove 19 = .ok (.invokevirtual 28, 3) := by decide +kernel
theorem dX3_remove_22 : decode cX3_remove 22 = .ok (.ifCond .eq 44, 3) := by decide +kernel
theorem dX3_remove_25 : decode cX3_remove 25 = .ok (.iload_n 3, 1) := by decide +kernel
theorem dX3_remove_26 : decode cX3_remove 26 = .ok (.aload_n 0, 1) := by decide +kernel
theorem dX3_remove_27 : decode cX3_remove 27 = .ok (.getfield 9, 3) := by decide +kernel
theorem dX3_remove_30 : decode cX3_remove 30 = .ok (.arraylength, 1) := by decide +kernel
theorem dX3_remove_31 : decode cX3_remove 31 = .ok (.invokestatic 15, 3) := by decide +kernel
theorem dX3_remove_34 : decode cX3_remove 34 = .ok (.ifCond .eq 32, 3) := by decide +kernel
theorem dX3_remove_37 : decode cX3_remove 37 = .ok (.aload_n 0, 1) := by decide +kernel
theorem dX3_remove_38 : decode cX3_remove 38 = .ok (.getfield 9, 3) := by decide +kernel
theorem dX3_remove_41 : decode cX3_remove 41 = .ok (.iload_n 3, 1) := by decide +kernel
theorem dX3_remove_42 : decode cX3_remove 42 = .ok (.dup2, 1) := by decide +kernel
theorem dX3_remove_43 : decode cX3_remove 43 = .ok (.iaload, 1) := by decide +kernel
theorem dX3_remove_44 : decode cX3_remove 44 = .ok (.iconst 1, 1) := by decide +kernel
theorem dX3_remove_45 : decode cX3_remove 45 = .ok (.isub, 1) := by decide +kernel
theorem dX3_remove_46 : decode cX3_remove 46 = .ok (.iastore, 1) := by decide +kernel
theorem dX3_remove_47 : decode cX3_remove 47 = .ok (.aload_n 0, 1) := by decide +kernel
theorem dX3_remove_48 : decode cX3_remove 48 = .ok (.getfield 9, 3) := by decide +kernel
theorem dX3_remove_51 : decode cX3_remove 51 = .ok (.iload_n 3, 1) := by decide +kernel
theorem dX3_remove_52 : decode cX3_remove 52 = .ok (.iaload, 1) := by decide +kernel
theorem dX3_remove_53 : decode cX3_remove 53 = .ok (.ifCond .ne 13, 3) := by decide +kernel
theorem dX3_remove_56 : decode cX3_remove 56 = .ok (.aload_n 0, 1) := by decide +kernel
theorem dX3_remove_57 : decode cX3_remove 57 = .ok (.dup, 1) := by decide +kernel
theorem dX3_remove_58 : decode cX3_remove 58 = .ok (.getfield 32, 3) := by decide +kernel
theorem dX3_remove_61 : decode cX3_remove 61 = .ok (.iconst 1, 1) := by decide +kernel
theorem dX3_remove_62 : decode cX3_remove 62 = .ok (.isub, 1) := by decide +kernel
theorem dX3_remove_63 : decode cX3_remove 63 = .ok (.putfield 32, 3) := by decide +kernel
theorem dX3_remove_66 : decode cX3_remove 66 = .ok (.iinc 2 1, 3) := by decide +kernel
theorem dX3_remove_69 : decode cX3_remove 69 = .ok (.goto (-67), 3) := by decide +kernel
theorem dX3_remove_72 : decode cX3_remove 72 = .ok (.return_, 1) := by decide +kernel
