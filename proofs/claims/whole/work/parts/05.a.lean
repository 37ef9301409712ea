theorem dX0_init_0 : decode cX0_init 0 = .ok (.aload_n 0, 1) := by decide +kernel
theorem dX0_init_1 : decode cX0_init 1 = .ok (.invokespecial 3, 3) := by decide +kernel
theorem dX0_init_4 : decode cX0_init 4 = .ok (.aload_n 0, 1) := by decide +kernel
theorem dX0_init_5 : decode cX0_init 5 = .ok (.sipush 4000, 3) := by decide +kernel
theorem dX0_init_8 : decode cX0_init 8 = .ok (.newarray .int, 2) := by decide +kernel
theorem dX0_init_10 : decode cX0_init 10 = .ok (.putfield 11, 3) := by decide +kernel
theorem dX0_init_13 : decode cX0_init 13 = .ok (.return_, 1) := by decide +kernel
theorem dX0_clear_0 : decode cX0_clear 0 = .ok (.aload_n 0, 1) := by decide +kernel
theorem dX0_clear_1 : decode cX0_clear 1 = .ok (.iconst 0, 1) := by decide +kernel
theorem dX0_clear_2 : decode cX0_clear 2 = .ok (.putfield 15, 3) := by decide +kernel
theorem dX0_clear_5 : decode cX0_clear 5 = .ok (.aload_n 0, 1) := by decide +kernel
theorem dX0_clear_6 : decode cX0_clear 6 = .ok (.iconst 0, 1) := by decide +kernel
theorem dX0_clear_7 : decode cX0_clear 7 = .ok (.putfield 19, 3) := by decide +kernel
theorem dX0_clear_10 : decode cX0_clear 10 = .ok (.return_, 1) := by decide +kernel
theorem dX0_add_0 : decode cX0_add 0 = .ok (.aload_n 0, 1) := by decide +kernel
theorem dX0_add_1 : decode cX0_add 1 = .ok (.dup, 1) := by decide +kernel
theorem dX0_add_2 : decode cX0_add 2 = .ok (.getfield 19, 3) := by decide +kernel
theorem dX0_add_5 : decode cX0_add 5 = .ok (.iconst 1, 1) := by decide +kernel
theorem dX0_add_6 : decode cX0_add 6 = .ok (.iadd, 1) := by decide +kernel
theorem dX0_add_7 : decode cX0_add 7 = .ok (.putfield 19, 3) := by decide +kernel
theorem dX0_add_10 : decode cX0_add 10 = .ok (.aload_n 0, 1) := by decide +kernel
theorem dX0_add_11 : decode cX0_add 11 = .ok (.getfield 15, 3) := by decide +kernel
theorem dX0_add_14 : decode cX0_add 14 = .ok (.sipush 1000, 3) := by decide +kernel
theorem dX0_add_17 : decode cX0_add 17 = .ok (.if_icmp .lt 4, 3) := by decide +kernel
theorem dX0_add_20 : decode cX0_add 20 = .ok (.return_, 1) := by decide +kernel
theorem dX0_add_21 : decode cX0_add 21 = .ok (.aload_n 0, 1) := by decide +kernel
theorem dX0_add_22 : decode cX0_add 22 = .ok (.getfield 15, 3) := by decide +kernel
theorem dX0_add_25 : decode cX0_add 25 = .ok (.iconst 4, 1) := by decide +kernel
theorem dX0_add_26 : decode cX0_add 26 = .ok (.imul, 1) := by decide +kernel
theorem dX0_add_27 : decode cX0_add 27 = .ok (.istore 5, 2) := by decide +kernel
theorem dX0_add_29 : decode cX0_add 29 = .ok (.aload_n 0, 1) := by decide +kernel
theorem dX0_add_30 : decode cX0_add 30 = .ok (.getfield 11, 3) := by decide +kernel
theorem dX0_add_33 : decode cX0_add 33 = .ok (.iload 5, 2) := by decide +kernel
theorem dX0_add_35 : decode cX0_add 35 = .ok (.iload_n 1, 1) := by decide +kernel
theorem dX0_add_36 : decode cX0_add 36 = .ok (.iastore, 1) := by decide +kernel
theorem dX0_add_37 : decode cX0_add 37 = .ok (.aload_n 0, 1) := by decide +kernel
theorem dX0_add_38 : decode cX0_add 38 = .ok (.getfield 11, 3) := by decide +kernel
theorem dX0_add_41 : decode cX0_add 41 = .ok (.iload 5, 2) := by decide +kernel
theorem dX0_add_43 : decode cX0_add 43 = .ok (.iconst 1, 1) := by decide +kernel
theorem dX0_add_44 : decode cX0_add 44 = .ok (.iadd, 1) := by decide +kernel
theorem dX0_add_45 : decode cX0_add 45 = .ok (.iload_n 2, 1) := by decide +kernel
theorem dX0_add_46 : decode cX0_add 46 = .ok (.iastore, 1) := by decide +kernel
theorem dX0_add_47 : decode cX0_add 47 = .ok (.aload_n 0, 1) := by decide +kernel
theorem dX0_add_48 : decode cX0_add 48 = .ok (.getfield 11, 3) := by decide +kernel
theorem dX0_add_51 : decode cX0_add 51 = .ok (.iload 5, 2) := by decide +kernel
theorem dX0_add_53 : decode cX0_add 53 = .ok (.iconst 2, 1) := by decide +kernel
theorem dX0_add_54 : decode cX0_add 54 = .ok (.iadd, 1) := by decide +kernel
theorem dX0_add_55 : decode cX0_add 55 = .ok (.iload_n 3, 1) := by decide +kernel
theorem dX0_add_56 : decode cX0_add 56 = .ok (.iastore, 1) := by decide +kernel
theorem dX0_add_57 : decode cX0_add 57 = .ok (.aload_n 0, 1) := by decide +kernel
theorem dX0_add_58 : decode cX0_add 58 = .ok (.getfield 11, 3) := by decide +kernel
theorem dX0_add_61 : decode cX0_add 61 = .ok (.iload 5, 2) := by decide +kernel
theorem dX0_add_63 : decode cX0_add 63 = .ok (.iconst 3, 1) := by decide +kernel
theorem dX0_add_64 : decode cX0_add 64 = .ok (.iadd, 1) := by decide +kernel
theorem dX0_add_65 : decode cX0_add 65 = .ok (.iload 4, 2) := by decide +kernel
theorem dX0_add_67 : decode cX0_add 67 = .ok (.iastore, 1) := by decide +kernel
theorem dX0_add_68 : decode cX0_add 68 = .ok (.aload_n 0, 1) := by decide +kernel
theorem dX0_add_69 : decode cX0_add 69 = .ok (.dup, 1) := by decide +kernel
theorem dX0_add_70 : decode cX0_add 70 = .ok (.getfield 15, 3) := by decide +kernel
theorem dX0_add_73 : decode cX0_add 73 = .ok (.iconst 1, 1) := by decide +kernel
theorem dX0_add_74 : decode cX0_add 74 = .ok (.iadd, 1) := by decide +kernel
theorem dX0_add_75 : decode cX0_add 75 = .ok (.putfield 15, 3) := by decide +kernel
theorem dX0_add_78 : decode cX0_add 78 = .ok (.return_, 1) := by decide +kernel
theorem dX0_total_0 : decode cX0_total 0 = .ok (.aload_n 0, 1) := by decide +kernel
theorem dX0_total_1 : decode cX0_total 1 = .ok (.getfield 19, 3) := by decide +kernel
theorem dX0_total_4 : decode cX0_total 4 = .ok (.ireturn, 1) := by decide +kernel
theorem dX0_size_0 : decode cX0_size 0 = .ok (.aload_n 0, 1) := by decide +kernel
theorem dX0_size_1 : decode cX0_size 1 = .ok (.getfield 15, 3) := by decide +kernel
theorem dX0_size_4 : decode cX0_size 4 = .ok (.ireturn, 1) := by decide +kernel
theorem dX0_part_0 : decode cX0_part 0 = .ok (.iload_n 1, 1) := by decide +kernel
theorem dX0_part_1 : decode cX0_part 1 = .ok (.ifCond .lt 20, 3) := by decide +kernel
theorem dX0_part_4 : decode cX0_part 4 = .ok (.iload_n 1, 1) := by decide +kernel
theorem dX0_part_5 : decode cX0_part 5 = .ok (.aload_n 0, 1) := by decide +kernel
theorem dX0_part_6 : decode cX0_part 6 = .ok (.getfield 15, 3) := by decide +kernel
theorem dX0_part_9 : decode cX0_part 9 = .ok (.if_icmp .ge 12, 3) := by decide +kernel
theorem dX0_part_12 : decode cX0_part 12 = .ok (.iload_n 2, 1) := by decide +kernel
theorem dX0_part_13 : decode cX0_part 13 = .ok (.ifCond .lt 8, 3) := by decide +kernel
theorem dX0_part_16 : decode cX0_part 16 = .ok (.iload_n 2, 1) := by decide +kernel
theorem dX0_part_17 : decode cX0_part 17 = .ok (.iconst 4, 1) := by decide +kernel
theorem dX0_part_18 : decode cX0_part 18 = .ok (.if_icmp .lt 6, 3) := by decide +kernel
theorem dX0_part_21 : decode cX0_part 21 = .ok (.bipush (-2), 2) := by decide +kernel
theorem dX0_part_23 : decode cX0_part 23 = .ok (.ireturn, 1) := by decide +kernel
theorem dX0_part_24 : decode cX0_part 24 = .ok (.aload_n 0, 1) := by decide +kernel
theorem dX0_part_25 : decode cX0_part 25 = .ok (.getfield 11, 3) := by decide +kernel
theorem dX0_part_28 : decode cX0_part 28 = .ok (.iload_n 1, 1) := by decide +kernel
theorem dX0_part_29 : decode cX0_part 29 = .ok (.iconst 4, 1) := by decide +kernel
theorem dX0_part_30 : decode cX0_part 30 = .ok (.imul, 1) := by decide +kernel
theorem dX0_part_31 : decode cX0_part 31 = .ok (.iload_n 2, 1) := by decide +kernel
theorem dX0_part_32 : decode cX0_part 32 = .ok (.iadd, 1) := by decide +kernel
theorem dX0_part_33 : decode cX0_part 33 = .ok (.iaload, 1) := by decide +kernel
theorem dX0_part_34 : decode cX0_part 34 = .ok (.ireturn, 1) := by decide +kernel
theorem dX0_holds_0 : decode cX0_holds 0 = .ok (.iload_n 1, 1) := by decide +kernel
theorem dX0_holds_1 : decode cX0_holds 1 = .ok (.ifCond .lt 11, 3) := by decide +kernel
theorem dX0_holds_4 : decode cX0_holds 4 = .ok (.iload_n 1, 1) := by decide +kernel
theorem dX0_holds_5 : decode cX0_holds 5 = .ok (.aload_n 0, 1) := by decide +kernel
theorem dX0_holds_6 : decode cX0_holds 6 = .ok (.getfield 15, 3) := by decide +kernel
theorem dX0_holds_9 : decode cX0_holds 9 = .ok (.if_icmp .lt 5, 3) := by decide +kernel
theorem dX0_holds_12 : decode cX0_holds 12 = .ok (.iconst 0, 1) := by decide +kernel
theorem dX0_holds_13 : decode cX0_holds 13 = .ok (.ireturn, 1) := by decide +kernel
theorem dX0_holds_14 : decode cX0_holds 14 = .ok (.iload_n 1, 1) := by decide +kernel
theorem dX0_holds_15 : decode cX0_holds 15 = .ok (.iconst 4, 1) := by decide +kernel
theorem dX0_holds_16 : decode cX0_holds 16 = .ok (.imul, 1) := by decide +kernel
theorem dX0_holds_17 : decode cX0_holds 17 = .ok (.istore 5, 2) := by decide +kernel
theorem dX0_holds_19 : decode cX0_holds 19 = .ok (.aload_n 0, 1) := by decide +kernel
theorem dX0_holds_20 : decode cX0_holds 20 = .ok (.getfield 11, 3) := by decide +kernel
theorem dX0_holds_23 : decode cX0_holds 23 = .ok (.iload 5, 2) := by decide +kernel
theorem dX0_holds_25 : decode cX0_holds 25 = .ok (.iaload, 1) := by decide +kernel
theorem dX0_holds_26 : decode cX0_holds 26 = .ok (.iload_n 2, 1) := by decide +kernel
theorem dX0_holds_27 : decode cX0_holds 27 = .ok (.if_icmp .ne 34, 3) := by decide +kernel
theorem dX0_holds_30 : decode cX0_holds 30 = .ok (.aload_n 0, 1) := by decide +kernel
theorem dX0_holds_31 : decode cX0_holds 31 = .ok (.getfield 11, 3) := by decide +kernel
theorem dX0_holds_34 : decode cX0_holds 34 = .ok (.iload 5, 2) := by decide +kernel
theorem dX0_holds_36 : decode cX0_holds 36 = .ok (.iconst 1, 1) := by decide +kernel
theorem dX0_holds_37 : decode cX0_holds 37 = .ok (.iadd, 1) := by decide +kernel
theorem dX0_holds_38 : decode cX0_holds 38 = .ok (.iaload, 1) := by decide +kernel
theorem dX0_holds_39 : decode cX0_holds 39 = .ok (.iload_n 3, 1) := by decide +kernel
theorem dX0_holds_40 : decode cX0_holds 40 = .ok (.if_icmp .ne 21, 3) := by decide +kernel
theorem dX0_holds_43 : decode cX0_holds 43 = .ok (.aload_n 0, 1) := by decide +kernel
theorem dX0_holds_44 : decode cX0_holds 44 = .ok (.getfield 11, 3) := by decide +kernel
theorem dX0_holds_47 : decode cX0_holds 47 = .ok (.iload 5, 2) := by decide +kernel
theorem dX0_holds_49 : decode cX0_holds 49 = .ok (.iconst 2, 1) := by decide +kernel
theorem dX0_holds_50 : decode cX0_holds 50 = .ok (.iadd, 1) := by decide +kernel
theorem dX0_holds_51 : decode cX0_holds 51 = .ok (.iaload, 1) := by decide +kernel
theorem dX0_holds_52 : decode cX0_holds 52 = .ok (.iload 4, 2) := by decide +kernel
theorem dX0_holds_54 : decode cX0_holds 54 = .ok (.if_icmp .ne 7, 3) := by decide +kernel
theorem dX0_holds_57 : decode cX0_holds 57 = .ok (.iconst 1, 1) := by decide +kernel
theorem dX0_holds_58 : decode cX0_holds 58 = .ok (.goto 4, 3) := by decide +kernel
theorem dX0_holds_61 : decode cX0_holds 61 = .ok (.iconst 0, 1) := by decide +kernel
theorem dX0_holds_62 : decode cX0_holds 62 = .ok (.ireturn, 1) := by decide +kernel
theorem dX1_init_0 : decode cX1_init 0 = .ok (.aload_n 0, 1) := by decide +kernel
theorem dX1_init_1 : decode cX1_init 1 = .ok (.invokespecial 3, 3) := by decide +kernel
theorem dX1_init_4 : decode cX1_init 4 = .ok (.aload_n 0, 1) := by decide +kernel
theorem dX1_init_5 : decode cX1_init 5 = .ok (.bipush 8, 2) := by decide +kernel
theorem dX1_init_7 : decode cX1_init 7 = .ok (.newarray .int, 2) := by decide +kernel
theorem dX1_init_9 : decode cX1_init 9 = .ok (.putfield 9, 3) := by decide +kernel
theorem dX1_init_12 : decode cX1_init 12 = .ok (.aload_n 0, 1) := by decide +kernel
theorem dX1_init_13 : decode cX1_init 13 = .ok (.bipush 64, 2) := by decide +kernel
theorem dX1_init_15 : decode cX1_init 15 = .ok (.newarray .int, 2) := by decide +kernel
theorem dX1_init_17 : decode cX1_init 17 = .ok (.putfield 15, 3) := by decide +kernel
theorem dX1_init_20 : decode cX1_init 20 = .ok (.return_, 1) := by decide +kernel
theorem dX1_reset_0 : decode cX1_reset 0 = .ok (.aload_n 0, 1) := by decide +kernel
theorem dX1_reset_1 : decode cX1_reset 1 = .ok (.getfield 9, 3) := by decide +kernel
theorem dX1_reset_4 : decode cX1_reset 4 = .ok (.iconst 0, 1) := by decide +kernel
theorem dX1_reset_5 : decode cX1_reset 5 = .ok (.invokestatic 18, 3) := by decide +kernel
theorem dX1_reset_8 : decode cX1_reset 8 = .ok (.aload_n 1, 1) := by decide +kernel
theorem dX1_reset_9 : decode cX1_reset 9 = .ok (.aload_n 0, 1) := by decide +kernel
theorem dX1_reset_10 : decode cX1_reset 10 = .ok (.getfield 15, 3) := by decide +kernel
theorem dX1_reset_13 : decode cX1_reset 13 = .ok (.invokevirtual 24, 3) := by decide +kernel
theorem dX1_reset_16 : decode cX1_reset 16 = .ok (.return_, 1) := by decide +kernel
theorem dX1_inRegister_0 : decode cX1_inRegister 0 = .ok (.iload_n 1, 1) := by decide +kernel
theorem dX1_inRegister_1 : decode cX1_inRegister 1 = .ok (.invokestatic 29, 3) := by decide +kernel
theorem dX1_inRegister_4 : decode cX1_inRegister 4 = .ok (.ifCond .eq 12, 3) := by decide +kernel
theorem dX1_inRegister_7 : decode cX1_inRegister 7 = .ok (.aload_n 0, 1) := by decide +kernel
theorem dX1_inRegister_8 : decode cX1_inRegister 8 = .ok (.getfield 9, 3) := by decide +kernel
theorem dX1_inRegister_11 : decode cX1_inRegister 11 = .ok (.iload_n 1, 1) := by decide +kernel
theorem dX1_inRegister_12 : decode cX1_inRegister 12 = .ok (.iaload, 1) := by decide +kernel
theorem dX1_inRegister_13 : decode cX1_inRegister 13 = .ok (.goto 4, 3) := by decide +kernel
theorem dX1_inRegister_16 : decode cX1_inRegister 16 = .ok (.iconst (-1), 1) := by decide +kernel
theorem dX1_inRegister_17 : decode cX1_inRegister 17 = .ok (.ireturn, 1) := by decide +kernel
theorem dX1_atPlace_0 : decode cX1_atPlace 0 = .ok (.iload_n 1, 1) := by decide +kernel
theorem dX1_atPlace_1 : decode cX1_atPlace 1 = .ok (.invokestatic 33, 3) := by decide +kernel
theorem dX1_atPlace_4 : decode cX1_atPlace 4 = .ok (.ifCond .eq 12, 3) := by decide +kernel
theorem dX1_atPlace_7 : decode cX1_atPlace 7 = .ok (.aload_n 0, 1) := by decide +kernel
theorem dX1_atPlace_8 : decode cX1_atPlace 8 = .ok (.getfield 15, 3) := by decide +kernel
theorem dX1_atPlace_11 : decode cX1_atPlace 11 = .ok (.iload_n 1, 1) := by decide +kernel
theorem dX1_atPlace_12 : decode cX1_atPlace 12 = .ok (.iaload, 1) := by decide +kernel
theorem dX1_atPlace_13 : decode cX1_atPlace 13 = .ok (.goto 4, 3) := by decide +kernel
theorem dX1_atPlace_16 : decode cX1_atPlace 16 = .ok (.iconst (-1), 1) := by decide +kernel
theorem dX1_atPlace_17 : decode cX1_atPlace 17 = .ok (.ireturn, 1) := by decide +kernel
theorem dX1_take_0 : decode cX1_take 0 = .ok (.aload_n 1, 1) := by decide +kernel
theorem dX1_take_1 : decode cX1_take 1 = .ok (.invokevirtual 36, 3) := by decide +kernel
theorem dX1_take_4 : decode cX1_take 4 = .ok (.ifCond .eq 17, 3) := by decide +kernel
theorem dX1_take_7 : decode cX1_take 7 = .ok (.iload_n 2, 1) := by decide +kernel
theorem dX1_take_8 : decode cX1_take 8 = .ok (.invokestatic 29, 3) := by decide +kernel
theorem dX1_take_11 : decode cX1_take 11 = .ok (.ifCond .eq 10, 3) := by decide +kernel
theorem dX1_take_14 : decode cX1_take 14 = .ok (.aload_n 0, 1) := by decide +kernel
theorem dX1_take_15 : decode cX1_take 15 = .ok (.getfield 9, 3) := by decide +kernel
theorem dX1_take_18 : decode cX1_take 18 = .ok (.iload_n 2, 1) := by decide +kernel
theorem dX1_take_19 : decode cX1_take 19 = .ok (.iload_n 3, 1) := by decide +kernel
theorem dX1_take_20 : decode cX1_take 20 = .ok (.iastore, 1) := by decide +kernel
theorem dX1_take_21 : decode cX1_take 21 = .ok (.aload_n 1, 1) := by decide +kernel
theorem dX1_take_22 : decode cX1_take 22 = .ok (.invokevirtual 42, 3) := by decide +kernel
theorem dX1_take_25 : decode cX1_take 25 = .ok (.bipush 6, 2) := by decide +kernel
theorem dX1_take_27 : decode cX1_take 27 = .ok (.if_icmp .ne 17, 3) := by decide +kernel
theorem dX1_take_30 : decode cX1_take 30 = .ok (.iload_n 2, 1) := by decide +kernel
theorem dX1_take_31 : decode cX1_take 31 = .ok (.invokestatic 33, 3) := by decide +kernel
theorem dX1_take_34 : decode cX1_take 34 = .ok (.ifCond .eq 10, 3) := by decide +kernel
theorem dX1_take_37 : decode cX1_take 37 = .ok (.aload_n 0, 1) := by decide +kernel
theorem dX1_take_38 : decode cX1_take 38 = .ok (.getfield 15, 3) := by decide +kernel
theorem dX1_take_41 : decode cX1_take 41 = .ok (.iload_n 2, 1) := by decide +kernel
theorem dX1_take_42 : decode cX1_take 42 = .ok (.iload_n 3, 1) := by decide +kernel
theorem dX1_take_43 : decode cX1_take 43 = .ok (.iastore, 1) := by decide +kernel
theorem dX1_take_44 : decode cX1_take 44 = .ok (.return_, 1) := by decide +kernel
theorem dX2_init_0 : decode cX2_init 0 = .ok (.aload_n 0, 1) := by decide +kernel
theorem dX2_init_1 : decode cX2_init 1 = .ok (.invokespecial 3, 3) := by decide +kernel
theorem dX2_init_4 : decode cX2_init 4 = .ok (.aload_n 0, 1) := by decide +kernel
theorem dX2_init_5 : decode cX2_init 5 = .ok (.iload_n 1, 1) := by decide +kernel
theorem dX2_init_6 : decode cX2_init 6 = .ok (.putfield 9, 3) := by decide +kernel
theorem dX2_init_9 : decode cX2_init 9 = .ok (.aload_n 0, 1) := by decide +kernel
theorem dX2_init_10 : decode cX2_init 10 = .ok (.iload_n 1, 1) := by decide +kernel
theorem dX2_init_11 : decode cX2_init 11 = .ok (.iconst 1, 1) := by decide +kernel
theorem dX2_init_12 : decode cX2_init 12 = .ok (.if_icmp .lt 12, 3) := by decide +kernel
theorem dX2_init_15 : decode cX2_init 15 = .ok (.iload_n 1, 1) := by decide +kernel
theorem dX2_init_16 : decode cX2_init 16 = .ok (.iconst 5, 1) := by decide +kernel
theorem dX2_init_17 : decode cX2_init 17 = .ok (.if_icmp .gt 7, 3) := by decide +kernel
theorem dX2_init_20 : decode cX2_init 20 = .ok (.iload_n 2, 1) := by decide +kernel
theorem dX2_init_21 : decode cX2_init 21 = .ok (.goto 4, 3) := by decide +kernel
theorem dX2_init_24 : decode cX2_init 24 = .ok (.iconst (-1), 1) := by decide +kernel
theorem dX2_init_25 : decode cX2_init 25 = .ok (.putfield 15, 3) := by decide +kernel
theorem dX2_init_28 : decode cX2_init 28 = .ok (.aload_n 0, 1) := by decide +kernel
theorem dX2_init_29 : decode cX2_init 29 = .ok (.iload_n 3, 1) := by decide +kernel
theorem dX2_init_30 : decode cX2_init 30 = .ok (.putfield 18, 3) := by decide +kernel
theorem dX2_init_33 : decode cX2_init 33 = .ok (.aload_n 0, 1) := by decide +kernel
theorem dX2_init_34 : decode cX2_init 34 = .ok (.iload 4, 2) := by decide +kernel
theorem dX2_init_36 : decode cX2_init 36 = .ok (.putfield 21, 3) := by decide +kernel
theorem dX2_init_39 : decode cX2_init 39 = .ok (.aload_n 0, 1) := by decide +kernel
theorem dX2_init_40 : decode cX2_init 40 = .ok (.iload 5, 2) := by decide +kernel
theorem dX2_init_42 : decode cX2_init 42 = .ok (.putfield 24, 3) := by decide +kernel
theorem dX2_init_45 : decode cX2_init 45 = .ok (.return_, 1) := by decide +kernel
theorem dX2_kind_0 : decode cX2_kind 0 = .ok (.aload_n 0, 1) := by decide +kernel
theorem dX2_kind_1 : decode cX2_kind 1 = .ok (.getfield 9, 3) := by decide +kernel
theorem dX2_kind_4 : decode cX2_kind 4 = .ok (.ireturn, 1) := by decide +kernel
theorem dX2_left_0 : decode cX2_left 0 = .ok (.aload_n 0, 1) := by decide +kernel
theorem dX2_left_1 : decode cX2_left 1 = .ok (.getfield 18, 3) := by decide +kernel
theorem dX2_left_4 : decode cX2_left 4 = .ok (.ireturn, 1) := by decide +kernel
theorem dX2_right_0 : decode cX2_right 0 = .ok (.aload_n 0, 1) := by decide +kernel
theorem dX2_right_1 : decode cX2_right 1 = .ok (.getfield 21, 3) := by decide +kernel
theorem dX2_right_4 : decode cX2_right 4 = .ok (.ireturn, 1) := by decide +kernel
theorem dX2_goal_0 : decode cX2_goal 0 = .ok (.aload_n 0, 1) := by decide +kernel
theorem dX2_goal_1 : decode cX2_goal 1 = .ok (.getfield 24, 3) := by decide +kernel
theorem dX2_goal_4 : decode cX2_goal 4 = .ok (.ireturn, 1) := by decide +kernel
theorem dX2_readsLeft_0 : decode cX2_readsLeft 0 = .ok (.aload_n 0, 1) := by decide +kernel
theorem dX2_readsLeft_1 : decode cX2_readsLeft 1 = .ok (.getfield 9, 3) := by decide +kernel
theorem dX2_readsLeft_4 : decode cX2_readsLeft 4 = .ok (.iconst 2, 1) := by decide +kernel
theorem dX2_readsLeft_5 : decode cX2_readsLeft 5 = .ok (.if_icmp .lt 16, 3) := by decide +kernel
theorem dX2_readsLeft_8 : decode cX2_readsLeft 8 = .ok (.aload_n 0, 1) := by decide +kernel
theorem dX2_readsLeft_9 : decode cX2_readsLeft 9 = .ok (.getfield 9, 3) := by decide +kernel
theorem dX2_readsLeft_12 : decode cX2_readsLeft 12 = .ok (.bipush 8, 2) := by decide +kernel
theorem dX2_readsLeft_14 : decode cX2_readsLeft 14 = .ok (.if_icmp .gt 7, 3) := by decide +kernel
theorem dX2_readsLeft_17 : decode cX2_readsLeft 17 = .ok (.iconst 1, 1) := by decide +kernel
theorem dX2_readsLeft_18 : decode cX2_readsLeft 18 = .ok (.goto 4, 3) := by decide +kernel
theorem dX2_readsLeft_21 : decode cX2_readsLeft 21 = .ok (.iconst 0, 1) := by decide +kernel
theorem dX2_readsLeft_22 : decode cX2_readsLeft 22 = .ok (.ireturn, 1) := by decide +kernel
theorem dX2_readsRight_0 : decode cX2_readsRight 0 = .ok (.aload_n 0, 1) := by decide +kernel
theorem dX2_readsRight_1 : decode cX2_readsRight 1 = .ok (.invokevirtual 27, 3) := by decide +kernel
theorem dX2_readsRight_4 : decode cX2_readsRight 4 = .ok (.ifCond .eq 24, 3) := by decide +kernel
theorem dX2_readsRight_7 : decode cX2_readsRight 7 = .ok (.aload_n 0, 1) := by decide +kernel
theorem dX2_readsRight_8 : decode cX2_readsRight 8 = .ok (.getfield 9, 3) := by decide +kernel
theorem dX2_readsRight_11 : decode cX2_readsRight 11 = .ok (.iconst 5, 1) := by decide +kernel
theorem dX2_readsRight_12 : decode cX2_readsRight 12 = .ok (.if_icmp .eq 16, 3) := by decide +kernel
theorem dX2_readsRight_15 : decode cX2_readsRight 15 = .ok (.aload_n 0, 1) := by decide +kernel
theorem dX2_readsRight_16 : decode cX2_readsRight 16 = .ok (.getfield 9, 3) := by decide +kernel
theorem dX2_readsRight_19 : decode cX2_readsRight 19 = .ok (.bipush 8, 2) := by decide +kernel
theorem dX2_readsRight_21 : decode cX2_readsRight 21 = .ok (.if_icmp .eq 7, 3) := by decide +kernel
theorem dX2_readsRight_24 : decode cX2_readsRight 24 = .ok (.iconst 1, 1) := by decide +kernel
theorem dX2_readsRight_25 : decode cX2_readsRight 25 = .ok (.goto 4, 3) := by decide +kernel
theorem dX2_readsRight_28 : decode cX2_readsRight 28 = .ok (.iconst 0, 1) := by decide +kernel
theorem dX2_readsRight_29 : decode cX2_readsRight 29 = .ok (.ireturn, 1) := by decide +kernel
theorem dX2_commitsRegister_0 : decode cX2_commitsRegister 0 = .ok (.aload_n 0, 1) := by decide +kernel
theorem dX2_commitsRegister_1 : decode cX2_commitsRegister 1 = .ok (.getfield 15, 3) := by decide +kernel
theorem dX2_commitsRegister_4 : decode cX2_commitsRegister 4 = .ok (.iconst (-1), 1) := by decide +kernel
theorem dX2_commitsRegister_5 : decode cX2_commitsRegister 5 = .ok (.if_icmp .eq 7, 3) := by decide +kernel
theorem dX2_commitsRegister_8 : decode cX2_commitsRegister 8 = .ok (.iconst 1, 1) := by decide +kernel
theorem dX2_commitsRegister_9 : decode cX2_commitsRegister 9 = .ok (.goto 4, 3) := by decide +kernel
theorem dX2_commitsRegister_12 : decode cX2_commitsRegister 12 = .ok (.iconst 0, 1) := by decide +kernel
theorem dX2_commitsRegister_13 : decode cX2_commitsRegister 13 = .ok (.ireturn, 1) := by decide +kernel
theorem dX2_commitsTo_0 : decode cX2_commitsTo 0 = .ok (.aload_n 0, 1) := by decide +kernel
theorem dX2_commitsTo_1 : decode cX2_commitsTo 1 = .ok (.getfield 15, 3) := by decide +kernel
theorem dX2_commitsTo_4 : decode cX2_commitsTo 4 = .ok (.iload_n 1, 1) := by decide +kernel
theorem dX2_commitsTo_5 : decode cX2_commitsTo 5 = .ok (.if_icmp .ne 7, 3) := by decide +kernel
theorem dX2_commitsTo_8 : decode cX2_commitsTo 8 = .ok (.iconst 1, 1) := by decide +kernel
theorem dX2_commitsTo_9 : decode cX2_commitsTo 9 = .ok (.goto 4, 3) := by decide +kernel
theorem dX2_commitsTo_12 : decode cX2_commitsTo 12 = .ok (.iconst 0, 1) := by decide +kernel
theorem dX2_commitsTo_13 : decode cX2_commitsTo 13 = .ok (.ireturn, 1) := by decide +kernel
theorem dX2_commitsAnything_0 : decode cX2_commitsAnything 0 = .ok (.aload_n 0, 1) := by decide +kernel
theorem dX2_commitsAnything_1 : decode cX2_commitsAnything 1 = .ok (.invokevirtual 31, 3) := by decide +kernel
theorem dX2_commitsAnything_4 : decode cX2_commitsAnything 4 = .ok (.ifCond .ne 21, 3) := by decide +kernel
theorem dX2_commitsAnything_7 : decode cX2_commitsAnything 7 = .ok (.aload_n 0, 1) := by decide +kernel
theorem dX2_commitsAnything_8 : decode cX2_commitsAnything 8 = .ok (.getfield 9, 3) := by decide +kernel
theorem dX2_commitsAnything_11 : decode cX2_commitsAnything 11 = .ok (.bipush 6, 2) := by decide +kernel
theorem dX2_commitsAnything_13 : decode cX2_commitsAnything 13 = .ok (.if_icmp .eq 12, 3) := by decide +kernel
theorem dX2_commitsAnything_16 : decode cX2_commitsAnything 16 = .ok (.aload_n 0, 1) := by decide +kernel
theorem dX2_commitsAnything_17 : decode cX2_commitsAnything 17 = .ok (.getfield 9, 3) := by decide +kernel
theorem dX2_commitsAnything_20 : decode cX2_commitsAnything 20 = .ok (.bipush 8, 2) := by decide +kernel
theorem dX2_commitsAnything_22 : decode cX2_commitsAnything 22 = .ok (.if_icmp .ne 7, 3) := by decide +kernel
theorem dX2_commitsAnything_25 : decode cX2_commitsAnything 25 = .ok (.iconst 1, 1) := by decide +kernel
theorem dX2_commitsAnything_26 : decode cX2_commitsAnything 26 = .ok (.goto 4, 3) := by decide +kernel
theorem dX2_commitsAnything_29 : decode cX2_commitsAnything 29 = .ok (.iconst 0, 1) := by decide +kernel
theorem dX2_commitsAnything_30 : decode cX2_commitsAnything 30 = .ok (.ireturn, 1) := by decide +kernel
theorem dX2_commitKind_0 : decode cX2_commitKind 0 = .ok (.aload_n 0, 1) := by decide +kernel
theorem dX2_commitKind_1 : decode cX2_commitKind 1 = .ok (.getfield 9, 3) := by decide +kernel
theorem dX2_commitKind_4 : decode cX2_commitKind 4 = .ok (.bipush 6, 2) := by decide +kernel
theorem dX2_commitKind_6 : decode cX2_commitKind 6 = .ok (.if_icmp .ne 5, 3) := by decide +kernel
theorem dX2_commitKind_9 : decode cX2_commitKind 9 = .ok (.iconst 1, 1) := by decide +kernel
theorem dX2_commitKind_10 : decode cX2_commitKind 10 = .ok (.ireturn, 1) := by decide +kernel
theorem dX2_commitKind_11 : decode cX2_commitKind 11 = .ok (.aload_n 0, 1) := by decide +kernel
theorem dX2_commitKind_12 : decode cX2_commitKind 12 = .ok (.getfield 9, 3) := by decide +kernel
theorem dX2_commitKind_15 : decode cX2_commitKind 15 = .ok (.bipush 8, 2) := by decide +kernel
theorem dX2_commitKind_17 : decode cX2_commitKind 17 = .ok (.if_icmp .ne 7, 3) := by decide +kernel
theorem dX2_commitKind_20 : decode cX2_commitKind 20 = .ok (.iconst 2, 1) := by decide +kernel
theorem dX2_commitKind_21 : decode cX2_commitKind 21 = .ok (.goto 4, 3) := by decide +kernel
theorem dX2_commitKind_24 : decode cX2_commitKind 24 = .ok (.iconst 0, 1) := by decide +kernel
theorem dX2_commitKind_25 : decode cX2_commitKind 25 = .ok (.ireturn, 1) := by decide +kernel
theorem dX2_commitsWhere_0 : decode cX2_commitsWhere 0 = .ok (.aload_n 0, 1) := by decide +kernel
theorem dX2_commitsWhere_1 : decode cX2_commitsWhere 1 = .ok (.getfield 9, 3) := by decide +kernel
theorem dX2_commitsWhere_4 : decode cX2_commitsWhere 4 = .ok (.bipush 6, 2) := by decide +kernel
theorem dX2_commitsWhere_6 : decode cX2_commitsWhere 6 = .ok (.if_icmp .ne 9, 3) := by decide +kernel
theorem dX2_commitsWhere_9 : decode cX2_commitsWhere 9 = .ok (.aload_n 0, 1) := by decide +kernel
theorem dX2_commitsWhere_10 : decode cX2_commitsWhere 10 = .ok (.iload_n 1, 1) := by decide +kernel
theorem dX2_commitsWhere_11 : decode cX2_commitsWhere 11 = .ok (.invokevirtual 34, 3) := by decide +kernel
theorem dX2_commitsWhere_14 : decode cX2_commitsWhere 14 = .ok (.ireturn, 1) := by decide +kernel
theorem dX2_commitsWhere_15 : decode cX2_commitsWhere 15 = .ok (.aload_n 0, 1) := by decide +kernel
theorem dX2_commitsWhere_16 : decode cX2_commitsWhere 16 = .ok (.getfield 9, 3) := by decide +kernel
theorem dX2_commitsWhere_19 : decode cX2_commitsWhere 19 = .ok (.bipush 8, 2) := by decide +kernel
theorem dX2_commitsWhere_21 : decode cX2_commitsWhere 21 = .ok (.if_icmp .ne 7, 3) := by decide +kernel
theorem dX2_commitsWhere_24 : decode cX2_commitsWhere 24 = .ok (.iconst 0, 1) := by decide +kernel
theorem dX2_commitsWhere_25 : decode cX2_commitsWhere 25 = .ok (.goto 7, 3) := by decide +kernel
theorem dX2_commitsWhere_28 : decode cX2_commitsWhere 28 = .ok (.aload_n 0, 1) := by decide +kernel
theorem dX2_commitsWhere_29 : decode cX2_commitsWhere 29 = .ok (.getfield 15, 3) := by decide +kernel
theorem dX2_commitsWhere_32 : decode cX2_commitsWhere 32 = .ok (.ireturn, 1) := by decide +kernel
theorem dX2_placeFrom_0 : decode cX2_placeFrom 0 = .ok (.iload_n 1, 1) := by decide +kernel
theorem dX2_placeFrom_1 : decode cX2_placeFrom 1 = .ok (.aload_n 0, 1) := by decide +kernel
theorem dX2_placeFrom_2 : decode cX2_placeFrom 2 = .ok (.getfield 24, 3) := by decide +kernel
theorem dX2_placeFrom_5 : decode cX2_placeFrom 5 = .ok (.iadd, 1) := by decide +kernel
theorem dX2_placeFrom_6 : decode cX2_placeFrom 6 = .ok (.bipush 64, 2) := by decide +kernel
theorem dX2_placeFrom_8 : decode cX2_placeFrom 8 = .ok (.invokestatic 38, 3) := by decide +kernel
theorem dX2_placeFrom_11 : decode cX2_placeFrom 11 = .ok (.ireturn, 1) := by decide +kernel
theorem dX2_workedOut_0 : decode cX2_workedOut 0 = .ok (.aload_n 0, 1) := by decide +kernel
theorem dX2_workedOut_1 : decode cX2_workedOut 1 = .ok (.getfield 9, 3) := by decide +kernel
theorem dX2_workedOut_4 : decode cX2_workedOut 4 = .ok (.tableswitch 69 1 8 #[48, 53, 57, 61, 69, 65, 69, 67], 48) := by decide +kernel
theorem dX2_workedOut_52 : decode cX2_workedOut 52 = .ok (.aload_n 0, 1) := by decide +kernel
theorem dX2_workedOut_53 : decode cX2_workedOut 53 = .ok (.getfield 24, 3) := by decide +kernel
theorem dX2_workedOut_56 : decode cX2_workedOut 56 = .ok (.ireturn, 1) := by decide +kernel
theorem dX2_workedOut_57 : decode cX2_workedOut 57 = .ok (.iload_n 1, 1) := by decide +kernel
theorem dX2_workedOut_58 : decode cX2_workedOut 58 = .ok (.iload_n 2, 1) := by decide +kernel
theorem dX2_workedOut_59 : decode cX2_workedOut 59 = .ok (.iadd, 1) := by decide +kernel
theorem dX2_workedOut_60 : decode cX2_workedOut 60 = .ok (.ireturn, 1) := by decide +kernel
theorem dX2_workedOut_61 : decode cX2_workedOut 61 = .ok (.iload_n 1, 1) := by decide +kernel
theorem dX2_workedOut_62 : decode cX2_workedOut 62 = .ok (.iload_n 2, 1) := by decide +kernel
theorem dX2_workedOut_63 : decode cX2_workedOut 63 = .ok (.isub, 1) := by decide +kernel
theorem dX2_workedOut_64 : decode cX2_workedOut 64 = .ok (.ireturn, 1) := by decide +kernel
theorem dX2_workedOut_65 : decode cX2_workedOut 65 = .ok (.iload_n 1, 1) := by decide +kernel
theorem dX2_workedOut_66 : decode cX2_workedOut 66 = .ok (.iload_n 2, 1) := by decide +kernel
theorem dX2_workedOut_67 : decode cX2_workedOut 67 = .ok (.imul, 1) := by decide +kernel
theorem dX2_workedOut_68 : decode cX2_workedOut 68 = .ok (.ireturn, 1) := by decide +kernel
theorem dX2_workedOut_69 : decode cX2_workedOut 69 = .ok (.iload_n 2, 1) := by decide +kernel
theorem dX2_workedOut_70 : decode cX2_workedOut 70 = .ok (.ireturn, 1) := by decide +kernel
theorem dX2_workedOut_71 : decode cX2_workedOut 71 = .ok (.iload_n 1, 1) := by decide +kernel
theorem dX2_workedOut_72 : decode cX2_workedOut 72 = .ok (.ireturn, 1) := by decide +kernel
theorem dX2_workedOut_73 : decode cX2_workedOut 73 = .ok (.iconst 0, 1) := by decide +kernel
theorem dX2_workedOut_74 : decode cX2_workedOut 74 = .ok (.ireturn, 1) := by decide +kernel
theorem dX2_goesOn_0 : decode cX2_goesOn 0 = .ok (.aload_n 0, 1) := by decide +kernel
theorem dX2_goesOn_1 : decode cX2_goesOn 1 = .ok (.getfield 9, 3) := by decide +kernel
theorem dX2_goesOn_4 : decode cX2_goesOn 4 = .ok (.bipush 9, 2) := by decide +kernel
theorem dX2_goesOn_6 : decode cX2_goesOn 6 = .ok (.if_icmp .eq 17, 3) := by decide +kernel
theorem dX2_goesOn_9 : decode cX2_goesOn 9 = .ok (.aload_n 0, 1) := by decide +kernel
theorem dX2_goesOn_10 : decode cX2_goesOn 10 = .ok (.getfield 9, 3) := by decide +kernel
theorem dX2_goesOn_13 : decode cX2_goesOn 13 = .ok (.bipush 7, 2) := by decide +kernel
theorem dX2_goesOn_15 : decode cX2_goesOn 15 = .ok (.if_icmp .ne 12, 3) := by decide +kernel
theorem dX2_goesOn_18 : decode cX2_goesOn 18 = .ok (.iload_n 1, 1) := by decide +kernel
theorem dX2_goesOn_19 : decode cX2_goesOn 19 = .ok (.iload_n 2, 1) := by decide +kernel
theorem dX2_goesOn_20 : decode cX2_goesOn 20 = .ok (.if_icmp .ne 7, 3) := by decide +kernel
theorem dX2_goesOn_23 : decode cX2_goesOn 23 = .ok (.iconst 1, 1) := by decide +kernel
theorem dX2_goesOn_24 : decode cX2_goesOn 24 = .ok (.goto 4, 3) := by decide +kernel
theorem dX2_goesOn_27 : decode cX2_goesOn 27 = .ok (.iconst 0, 1) := by decide +kernel
theorem dX2_goesOn_28 : decode cX2_goesOn 28 = .ok (.ireturn, 1) := by decide +kernel
theorem dX3_init_0 : decode cX3_init 0 = .ok (.aload_n 0, 1) := by decide +kernel
theorem dX3_init_1 : decode cX3_init 1 = .ok (.invokespecial 3, 3) := by decide +kernel
theorem dX3_init_4 : decode cX3_init 4 = .ok (.aload_n 0, 1) := by decide +kernel
theorem dX3_init_5 : decode cX3_init 5 = .ok (.bipush 8, 2) := by decide +kernel
theorem dX3_init_7 : decode cX3_init 7 = .ok (.newarray .int, 2) := by decide +kernel
theorem dX3_init_9 : decode cX3_init 9 = .ok (.dup, 1) := by decide +kernel
theorem dX3_init_10 : decode cX3_init 10 = .ok (.iconst 0, 1) := by decide +kernel
theorem dX3_init_11 : decode cX3_init 11 = .ok (.iconst 0, 1) := by decide +kernel
theorem dX3_init_12 : decode cX3_init 12 = .ok (.iastore, 1) := by decide +kernel
theorem dX3_init_13 : decode cX3_init 13 = .ok (.dup, 1) := by decide +kernel
theorem dX3_init_14 : decode cX3_init 14 = .ok (.iconst 1, 1) := by decide +kernel
theorem dX3_init_15 : decode cX3_init 15 = .ok (.iconst 0, 1) := by decide +kernel
theorem dX3_init_16 : decode cX3_init 16 = .ok (.iastore, 1) := by decide +kernel
theorem dX3_init_17 : decode cX3_init 17 = .ok (.dup, 1) := by decide +kernel
theorem dX3_init_18 : decode cX3_init 18 = .ok (.iconst 2, 1) := by decide +kernel
theorem dX3_init_19 : decode cX3_init 19 = .ok (.iconst 1, 1) := by decide +kernel
theorem dX3_init_20 : decode cX3_init 20 = .ok (.iastore, 1) := by decide +kernel
theorem dX3_init_21 : decode cX3_init 21 = .ok (.dup, 1) := by decide +kernel
theorem dX3_init_22 : decode cX3_init 22 = .ok (.iconst 3, 1) := by decide +kernel
theorem dX3_init_23 : decode cX3_init 23 = .ok (.iconst 1, 1) := by decide +kernel
theorem dX3_init_24 : decode cX3_init 24 = .ok (.iastore, 1) := by decide +kernel
theorem dX3_init_25 : decode cX3_init 25 = .ok (.dup, 1) := by decide +kernel
theorem dX3_init_26 : decode cX3_init 26 = .ok (.iconst 4, 1) := by decide +kernel
theorem dX3_init_27 : decode cX3_init 27 = .ok (.iconst 1, 1) := by decide +kernel
theorem dX3_init_28 : decode cX3_init 28 = .ok (.iastore, 1) := by decide +kernel
theorem dX3_init_29 : decode cX3_init 29 = .ok (.dup, 1) := by decide +kernel
theorem dX3_init_30 : decode cX3_init 30 = .ok (.iconst 5, 1) := by decide +kernel
theorem dX3_init_31 : decode cX3_init 31 = .ok (.iconst 2, 1) := by decide +kernel
theorem dX3_init_32 : decode cX3_init 32 = .ok (.iastore, 1) := by decide +kernel
theorem dX3_init_33 : decode cX3_init 33 = .ok (.dup, 1) := by decide +kernel
theorem dX3_init_34 : decode cX3_init 34 = .ok (.bipush 6, 2) := by decide +kernel
theorem dX3_init_36 : decode cX3_init 36 = .ok (.iconst 3, 1) := by decide +kernel
theorem dX3_init_37 : decode cX3_init 37 = .ok (.iastore, 1) := by decide +kernel
theorem dX3_init_38 : decode cX3_init 38 = .ok (.dup, 1) := by decide +kernel
theorem dX3_init_39 : decode cX3_init 39 = .ok (.bipush 7, 2) := by decide +kernel
theorem dX3_init_41 : decode cX3_init 41 = .ok (.iconst (-1), 1) := by decide +kernel
theorem dX3_init_42 : decode cX3_init 42 = .ok (.iastore, 1) := by decide +kernel
theorem dX3_init_43 : decode cX3_init 43 = .ok (.putfield 9, 3) := by decide +kernel
theorem dX3_init_46 : decode cX3_init 46 = .ok (.aload_n 0, 1) := by decide +kernel
theorem dX3_init_47 : decode cX3_init 47 = .ok (.iconst 4, 1) := by decide +kernel
theorem dX3_init_48 : decode cX3_init 48 = .ok (.putfield 15, 3) := by decide +kernel
theorem dX3_init_51 : decode cX3_init 51 = .ok (.return_, 1) := by decide +kernel
theorem dX3_become_0 : decode cX3_become 0 = .ok (.aload_n 1, 1) := by decide +kernel
theorem dX3_become_1 : decode cX3_become 1 = .ok (.iconst 0, 1) := by decide +kernel
theorem dX3_become_2 : decode cX3_become 2 = .ok (.aload_n 0, 1) := by decide +kernel
theorem dX3_become_3 : decode cX3_become 3 = .ok (.getfield 9, 3) := by decide +kernel
theorem dX3_become_6 : decode cX3_become 6 = .ok (.iconst 0, 1) := by decide +kernel
theorem dX3_become_7 : decode cX3_become 7 = .ok (.bipush 8, 2) := by decide +kernel
theorem dX3_become_9 : decode cX3_become 9 = .ok (.invokestatic 19, 3) := by decide +kernel
theorem dX3_become_12 : decode cX3_become 12 = .ok (.aload_n 0, 1) := by decide +kernel
theorem dX3_become_13 : decode cX3_become 13 = .ok (.iload_n 2, 1) := by decide +kernel
theorem dX3_become_14 : decode cX3_become 14 = .ok (.putfield 15, 3) := by decide +kernel
theorem dX3_become_17 : decode cX3_become 17 = .ok (.return_, 1) := by decide +kernel
theorem dX3_stageCount_0 : decode cX3_stageCount 0 = .ok (.aload_n 0, 1) := by decide +kernel
theorem dX3_stageCount_1 : decode cX3_stageCount 1 = .ok (.getfield 15, 3) := by decide +kernel
theorem dX3_stageCount_4 : decode cX3_stageCount 4 = .ok (.ireturn, 1) := by decide +kernel
theorem dX3_stageOf_0 : decode cX3_stageOf 0 = .ok (.iload_n 1, 1) := by decide +kernel
theorem dX3_stageOf_1 : decode cX3_stageOf 1 = .ok (.ifCond .lt 9, 3) := by decide +kernel
theorem dX3_stageOf_4 : decode cX3_stageOf 4 = .ok (.iload_n 1, 1) := by decide +kernel
theorem dX3_stageOf_5 : decode cX3_stageOf 5 = .ok (.bipush 8, 2) := by decide +kernel
theorem dX3_stageOf_7 : decode cX3_stageOf 7 = .ok (.if_icmp .lt 7, 3) := by decide +kernel
theorem dX3_stageOf_10 : decode cX3_stageOf 10 = .ok (.iconst (-1), 1) := by decide +kernel
theorem dX3_stageOf_11 : decode cX3_stageOf 11 = .ok (.goto 9, 3) := by decide +kernel
theorem dX3_stageOf_14 : decode cX3_stageOf 14 = .ok (.aload_n 0, 1) := by decide +kernel
theorem dX3_stageOf_15 : decode cX3_stageOf 15 = .ok (.getfield 9, 3) := by decide +kernel
theorem dX3_stageOf_18 : decode cX3_stageOf 18 = .ok (.iload_n 1, 1) := by decide +kernel
theorem dX3_stageOf_19 : decode cX3_stageOf 19 = .ok (.iaload, 1) := by decide +kernel
theorem dX3_stageOf_20 : decode cX3_stageOf 20 = .ok (.ireturn, 1) := by decide +kernel
theorem dX3_has_0 : decode cX3_has 0 = .ok (.aload_n 0, 1) := by decide +kernel
theorem dX3_has_1 : decode cX3_has 1 = .ok (.iload_n 1, 1) := by decide +kernel
theorem dX3_has_2 : decode cX3_has 2 = .ok (.invokevirtual 25, 3) := by decide +kernel
theorem dX3_has_5 : decode cX3_has 5 = .ok (.iload_n 2, 1) := by decide +kernel
theorem dX3_has_6 : decode cX3_has 6 = .ok (.if_icmp .ne 7, 3) := by decide +kernel
theorem dX3_has_9 : decode cX3_has 9 = .ok (.iconst 1, 1) := by decide +kernel
theorem dX3_has_10 : decode cX3_has 10 = .ok (.goto 4, 3) := by decide +kernel
theorem dX3_has_13 : decode cX3_has 13 = .ok (.iconst 0, 1) := by decide +kernel
theorem dX3_has_14 : decode cX3_has 14 = .ok (.ireturn, 1) := by decide +kernel
theorem dX3_givingStage_0 : decode cX3_givingStage 0 = .ok (.aload_n 0, 1) := by decide +kernel
theorem dX3_givingStage_1 : decode cX3_givingStage 1 = .ok (.getfield 9, 3) := by decide +kernel
theorem dX3_givingStage_4 : decode cX3_givingStage 4 = .ok (.bipush 7, 2) := by decide +kernel
theorem dX3_givingStage_6 : decode cX3_givingStage 6 = .ok (.iaload, 1) := by decide +kernel
theorem dX3_givingStage_7 : decode cX3_givingStage 7 = .ok (.istore_n 2, 1) := by decide +kernel
theorem dX3_givingStage_8 : decode cX3_givingStage 8 = .ok (.iload_n 2, 1) := by decide +kernel
theorem dX3_givingStage_9 : decode cX3_givingStage 9 = .ok (.iconst (-1), 1) := by decide +kernel
theorem dX3_givingStage_10 : decode cX3_givingStage 10 = .ok (.if_icmp .eq 8, 3) := by decide +kernel
theorem dX3_givingStage_13 : decode cX3_givingStage 13 = .ok (.iload_n 1, 1) := by decide +kernel
theorem dX3_givingStage_14 : decode cX3_givingStage 14 = .ok (.iconst 5, 1) := by decide +kernel
theorem dX3_givingStage_15 : decode cX3_givingStage 15 = .ok (.if_icmp .eq 5, 3) := by decide +kernel
theorem dX3_givingStage_18 : decode cX3_givingStage 18 = .ok (.iload_n 2, 1) := by decide +kernel
theorem dX3_givingStage_19 : decode cX3_givingStage 19 = .ok (.ireturn, 1) := by decide +kernel
theorem dX3_givingStage_20 : decode cX3_givingStage 20 = .ok (.iload_n 2, 1) := by decide +kernel
theorem dX3_givingStage_21 : decode cX3_givingStage 21 = .ok (.aload_n 0, 1) := by decide +kernel
theorem dX3_givingStage_22 : decode cX3_givingStage 22 = .ok (.getfield 9, 3) := by decide +kernel
theorem dX3_givingStage_25 : decode cX3_givingStage 25 = .ok (.iconst 5, 1) := by decide +kernel
theorem dX3_givingStage_26 : decode cX3_givingStage 26 = .ok (.iaload, 1) := by decide +kernel
theorem dX3_givingStage_27 : decode cX3_givingStage 27 = .ok (.invokestatic 29, 3) := by decide +kernel
theorem dX3_givingStage_30 : decode cX3_givingStage 30 = .ok (.ireturn, 1) := by decide +kernel
theorem dX4_init_0 : decode cX4_init 0 = .ok (.aload_n 0, 1) := by decide +kernel
theorem dX4_init_1 : decode cX4_init 1 = .ok (.invokespecial 3, 3) := by decide +kernel
theorem dX4_init_4 : decode cX4_init 4 = .ok (.aload_n 0, 1) := by decide +kernel
theorem dX4_init_5 : decode cX4_init 5 = .ok (.bipush 8, 2) := by decide +kernel
theorem dX4_init_7 : decode cX4_init 7 = .ok (.newarray .int, 2) := by decide +kernel
theorem dX4_init_9 : decode cX4_init 9 = .ok (.putfield 9, 3) := by decide +kernel
theorem dX4_init_12 : decode cX4_init 12 = .ok (.return_, 1) := by decide +kernel
theorem dX4_firstWrong_0 : decode cX4_firstWrong 0 = .ok (.aload_n 0, 1) := by decide +kernel
theorem dX4_firstWrong_1 : decode cX4_firstWrong 1 = .ok (.getfield 9, 3) := by decide +kernel
theorem dX4_firstWrong_4 : decode cX4_firstWrong 4 = .ok (.iconst (-1), 1) := by decide +kernel
theorem dX4_firstWrong_5 : decode cX4_firstWrong 5 = .ok (.invokestatic 15, 3) := by decide +kernel
theorem dX4_firstWrong_8 : decode cX4_firstWrong 8 = .ok (.aload_n 0, 1) := by decide +kernel
theorem dX4_firstWrong_9 : decode cX4_firstWrong 9 = .ok (.iconst 0, 1) := by decide +kernel
theorem dX4_firstWrong_10 : decode cX4_firstWrong 10 = .ok (.putfield 21, 3) := by decide +kernel
theorem dX4_firstWrong_13 : decode cX4_firstWrong 13 = .ok (.aload_n 0, 1) := by decide +kernel
theorem dX4_firstWrong_14 : decode cX4_firstWrong 14 = .ok (.iconst 0, 1) := by decide +kernel
theorem dX4_firstWrong_15 : decode cX4_firstWrong 15 = .ok (.putfield 25, 3) := by decide +kernel
theorem dX4_firstWrong_18 : decode cX4_firstWrong 18 = .ok (.aload_n 0, 1) := by decide +kernel
theorem dX4_firstWrong_19 : decode cX4_firstWrong 19 = .ok (.iconst 0, 1) := by decide +kernel
theorem dX4_firstWrong_20 : decode cX4_firstWrong 20 = .ok (.putfield 28, 3) := by decide +kernel
theorem dX4_firstWrong_23 : decode cX4_firstWrong 23 = .ok (.iconst 0, 1) := by decide +kernel
theorem dX4_firstWrong_24 : decode cX4_firstWrong 24 = .ok (.istore_n 3, 1) := by decide +kernel
theorem dX4_firstWrong_25 : decode cX4_firstWrong 25 = .ok (.iload_n 3, 1) := by decide +kernel
theorem dX4_firstWrong_26 : decode cX4_firstWrong 26 = .ok (.iload_n 2, 1) := by decide +kernel
theorem dX4_firstWrong_27 : decode cX4_firstWrong 27 = .ok (.if_icmp .ge 27, 3) := by decide +kernel
theorem dX4_firstWrong_30 : decode cX4_firstWrong 30 = .ok (.iload_n 3, 1) := by decide +kernel
theorem dX4_firstWrong_31 : decode cX4_firstWrong 31 = .ok (.aload_n 1, 1) := by decide +kernel
theorem dX4_firstWrong_32 : decode cX4_firstWrong 32 = .ok (.arraylength, 1) := by decide +kernel
theorem dX4_firstWrong_33 : decode cX4_firstWrong 33 = .ok (.if_icmp .ge 21, 3) := by decide +kernel
theorem dX4_firstWrong_36 : decode cX4_firstWrong 36 = .ok (.aload_n 0, 1) := by decide +kernel
theorem dX4_firstWrong_37 : decode cX4_firstWrong 37 = .ok (.aload_n 1, 1) := by decide +kernel
theorem dX4_firstWrong_38 : decode cX4_firstWrong 38 = .ok (.iload_n 3, 1) := by decide +kernel
theorem dX4_firstWrong_39 : decode cX4_firstWrong 39 = .ok (.iaload, 1) := by decide +kernel
theorem dX4_firstWrong_40 : decode cX4_firstWrong 40 = .ok (.invokevirtual 32, 3) := by decide +kernel
theorem dX4_firstWrong_43 : decode cX4_firstWrong 43 = .ok (.ifCond .ne 5, 3) := by decide +kernel
theorem dX4_firstWrong_46 : decode cX4_firstWrong 46 = .ok (.iload_n 3, 1) := by decide +kernel
theorem dX4_firstWrong_47 : decode cX4_firstWrong 47 = .ok (.ireturn, 1) := by decide +kernel
theorem dX4_firstWrong_48 : decode cX4_firstWrong 48 = .ok (.iinc 3 1, 3) := by decide +kernel
theorem dX4_firstWrong_51 : decode cX4_firstWrong 51 = .ok (.goto (-26), 3) := by decide +kernel
theorem dX4_firstWrong_54 : decode cX4_firstWrong 54 = .ok (.aload_n 0, 1) := by decide +kernel
theorem dX4_firstWrong_55 : decode cX4_firstWrong 55 = .ok (.getfield 21, 3) := by decide +kernel
theorem dX4_firstWrong_58 : decode cX4_firstWrong 58 = .ok (.ldc 36, 2) := by decide +kernel
theorem dX4_firstWrong_60 : decode cX4_firstWrong 60 = .ok (.invokevirtual 38, 3) := by decide +kernel
theorem dX4_firstWrong_63 : decode cX4_firstWrong 63 = .ok (.if_icmp .ne 14, 3) := by decide +kernel
theorem dX4_firstWrong_66 : decode cX4_firstWrong 66 = .ok (.aload_n 0, 1) := by decide +kernel
theorem dX4_firstWrong_67 : decode cX4_firstWrong 67 = .ok (.getfield 28, 3) := by decide +kernel
theorem dX4_firstWrong_70 : decode cX4_firstWrong 70 = .ok (.ifCond .eq 7, 3) := by decide +kernel
theorem dX4_firstWrong_73 : decode cX4_firstWrong 73 = .ok (.iconst (-1), 1) := by decide +kernel
theorem dX4_firstWrong_74 : decode cX4_firstWrong 74 = .ok (.goto 4, 3) := by decide +kernel
theorem dX4_firstWrong_77 : decode cX4_firstWrong 77 = .ok (.iload_n 2, 1) := by decide +kernel
theorem dX4_firstWrong_78 : decode cX4_firstWrong 78 = .ok (.ireturn, 1) := by decide +kernel
theorem dX4_writeTo_0 : decode cX4_writeTo 0 = .ok (.aload_n 1, 1) := by decide +kernel
theorem dX4_writeTo_1 : decode cX4_writeTo 1 = .ok (.aload_n 0, 1) := by decide +kernel
theorem dX4_writeTo_2 : decode cX4_writeTo 2 = .ok (.getfield 9, 3) := by decide +kernel
theorem dX4_writeTo_5 : decode cX4_writeTo 5 = .ok (.aload_n 0, 1) := by decide +kernel
theorem dX4_writeTo_6 : decode cX4_writeTo 6 = .ok (.getfield 25, 3) := by decide +kernel
theorem dX4_writeTo_9 : decode cX4_writeTo 9 = .ok (.iconst 1, 1) := by decide +kernel
theorem dX4_writeTo_10 : decode cX4_writeTo 10 = .ok (.iadd, 1) := by decide +kernel
theorem dX4_writeTo_11 : decode cX4_writeTo 11 = .ok (.invokevirtual 44, 3) := by decide +kernel
theorem dX4_writeTo_14 : decode cX4_writeTo 14 = .ok (.return_, 1) := by decide +kernel
theorem dX4_takes_0 : decode cX4_takes 0 = .ok (.iload_n 1, 1) := by decide +kernel
theorem dX4_takes_1 : decode cX4_takes 1 = .ok (.bipush 47, 2) := by decide +kernel
theorem dX4_takes_3 : decode cX4_takes 3 = .ok (.if_icmp .ne 8, 3) := by decide +kernel
theorem dX4_takes_6 : decode cX4_takes 6 = .ok (.aload_n 0, 1) := by decide +kernel
theorem dX4_takes_7 : decode cX4_takes 7 = .ok (.invokevirtual 49, 3) := by decide +kernel
theorem dX4_takes_10 : decode cX4_takes 10 = .ok (.ireturn, 1) := by decide +kernel
theorem dX4_takes_11 : decode cX4_takes 11 = .ok (.iload_n 1, 1) := by decide +kernel
theorem dX4_takes_12 : decode cX4_takes 12 = .ok (.bipush 121, 2) := by decide +kernel
theorem dX4_takes_14 : decode cX4_takes 14 = .ok (.if_icmp .ne 46, 3) := by decide +kernel
theorem dX4_takes_17 : decode cX4_takes 17 = .ok (.aload_n 0, 1) := by decide +kernel
theorem dX4_takes_18 : decode cX4_takes 18 = .ok (.getfield 21, 3) := by decide +kernel
theorem dX4_takes_21 : decode cX4_takes 21 = .ok (.iconst 2, 1) := by decide +kernel
theorem dX4_takes_22 : decode cX4_takes 22 = .ok (.if_icmp .le 36, 3) := by decide +kernel
theorem dX4_takes_25 : decode cX4_takes 25 = .ok (.aload_n 0, 1) := by decide +kernel
theorem dX4_takes_26 : decode cX4_takes 26 = .ok (.getfield 21, 3) := by decide +kernel
theorem dX4_takes_29 : decode cX4_takes 29 = .ok (.bipush 6, 2) := by decide +kernel
theorem dX4_takes_31 : decode cX4_takes 31 = .ok (.if_icmp .gt 27, 3) := by decide +kernel
theorem dX4_takes_34 : decode cX4_takes 34 = .ok (.aload_n 0, 1) := by decide +kernel
theorem dX4_takes_35 : decode cX4_takes 35 = .ok (.getfield 9, 3) := by decide +kernel
theorem dX4_takes_38 : decode cX4_takes 38 = .ok (.bipush 7, 2) := by decide +kernel
theorem dX4_takes_40 : decode cX4_takes 40 = .ok (.iaload, 1) := by decide +kernel
theorem dX4_takes_41 : decode cX4_takes 41 = .ok (.iconst (-1), 1) := by decide +kernel
theorem dX4_takes_42 : decode cX4_takes 42 = .ok (.if_icmp .ne 16, 3) := by decide +kernel
theorem dX4_takes_45 : decode cX4_takes 45 = .ok (.aload_n 0, 1) := by decide +kernel
theorem dX4_takes_46 : decode cX4_takes 46 = .ok (.bipush 7, 2) := by decide +kernel
theorem dX4_takes_48 : decode cX4_takes 48 = .ok (.invokevirtual 53, 3) := by decide +kernel
theorem dX4_takes_51 : decode cX4_takes 51 = .ok (.ifCond .eq 7, 3) := by decide +kernel
theorem dX4_takes_54 : decode cX4_takes 54 = .ok (.iconst 1, 1) := by decide +kernel
theorem dX4_takes_55 : decode cX4_takes 55 = .ok (.goto 4, 3) := by decide +kernel
theorem dX4_takes_58 : decode cX4_takes 58 = .ok (.iconst 0, 1) := by decide +kernel
theorem dX4_takes_59 : decode cX4_takes 59 = .ok (.ireturn, 1) := by decide +kernel
theorem dX4_takes_60 : decode cX4_takes 60 = .ok (.aload_n 0, 1) := by decide +kernel
theorem dX4_takes_61 : decode cX4_takes 61 = .ok (.getfield 21, 3) := by decide +kernel
theorem dX4_takes_64 : decode cX4_takes 64 = .ok (.ldc 36, 2) := by decide +kernel
theorem dX4_takes_66 : decode cX4_takes 66 = .ok (.invokevirtual 38, 3) := by decide +kernel
theorem dX4_takes_69 : decode cX4_takes 69 = .ok (.if_icmp .ge 16, 3) := by decide +kernel
theorem dX4_takes_72 : decode cX4_takes 72 = .ok (.iload_n 1, 1) := by decide +kernel
theorem dX4_takes_73 : decode cX4_takes 73 = .ok (.ldc 36, 2) := by decide +kernel
theorem dX4_takes_75 : decode cX4_takes 75 = .ok (.aload_n 0, 1) := by decide +kernel
theorem dX4_takes_76 : decode cX4_takes 76 = .ok (.getfield 21, 3) := by decide +kernel
theorem dX4_takes_79 : decode cX4_takes 79 = .ok (.invokevirtual 56, 3) := by decide +kernel
theorem dX4_takes_82 : decode cX4_takes 82 = .ok (.if_icmp .eq 5, 3) := by decide +kernel
theorem dX4_takes_85 : decode cX4_takes 85 = .ok (.iconst 0, 1) := by decide +kernel
theorem dX4_takes_86 : decode cX4_takes 86 = .ok (.ireturn, 1) := by decide +kernel
theorem dX4_takes_87 : decode cX4_takes 87 = .ok (.aload_n 0, 1) := by decide +kernel
theorem dX4_takes_88 : decode cX4_takes 88 = .ok (.getfield 21, 3) := by decide +kernel
theorem dX4_takes_91 : decode cX4_takes 91 = .ok (.iconst 5, 1) := by decide +kernel
theorem dX4_takes_92 : decode cX4_takes 92 = .ok (.if_icmp .ne 18, 3) := by decide +kernel
theorem dX4_takes_95 : decode cX4_takes 95 = .ok (.aload_n 0, 1) := by decide +kernel
theorem dX4_takes_96 : decode cX4_takes 96 = .ok (.getfield 9, 3) := by decide +kernel
theorem dX4_takes_99 : decode cX4_takes 99 = .ok (.iconst 4, 1) := by decide +kernel
theorem dX4_takes_100 : decode cX4_takes 100 = .ok (.iaload, 1) := by decide +kernel
theorem dX4_takes_101 : decode cX4_takes 101 = .ok (.aload_n 0, 1) := by decide +kernel
theorem dX4_takes_102 : decode cX4_takes 102 = .ok (.getfield 25, 3) := by decide +kernel
theorem dX4_takes_105 : decode cX4_takes 105 = .ok (.if_icmp .ne 5, 3) := by decide +kernel
theorem dX4_takes_108 : decode cX4_takes 108 = .ok (.iconst 0, 1) := by decide +kernel
theorem dX4_takes_109 : decode cX4_takes 109 = .ok (.ireturn, 1) := by decide +kernel
theorem dX4_takes_110 : decode cX4_takes 110 = .ok (.aload_n 0, 1) := by decide +kernel
theorem dX4_takes_111 : decode cX4_takes 111 = .ok (.dup, 1) := by decide +kernel
theorem dX4_takes_112 : decode cX4_takes 112 = .ok (.getfield 21, 3) := by decide +kernel
theorem dX4_takes_115 : decode cX4_takes 115 = .ok (.iconst 1, 1) := by decide +kernel
theorem dX4_takes_116 : decode cX4_takes 116 = .ok (.iadd, 1) := by decide +kernel
theorem dX4_takes_117 : decode cX4_takes 117 = .ok (.putfield 21, 3) := by decide +kernel
theorem dX4_takes_120 : decode cX4_takes 120 = .ok (.aload_n 0, 1) := by decide +kernel
theorem dX4_takes_121 : decode cX4_takes 121 = .ok (.aload_n 0, 1) := by decide +kernel
theorem dX4_takes_122 : decode cX4_takes 122 = .ok (.getfield 21, 3) := by decide +kernel
theorem dX4_takes_125 : decode cX4_takes 125 = .ok (.iconst 1, 1) := by decide +kernel
theorem dX4_takes_126 : decode cX4_takes 126 = .ok (.isub, 1) := by decide +kernel
theorem dX4_takes_127 : decode cX4_takes 127 = .ok (.invokevirtual 53, 3) := by decide +kernel
theorem dX4_takes_130 : decode cX4_takes 130 = .ok (.ireturn, 1) := by decide +kernel
theorem dX4_puts_0 : decode cX4_puts 0 = .ok (.aload_n 0, 1) := by decide +kernel
theorem dX4_puts_1 : decode cX4_puts 1 = .ok (.getfield 9, 3) := by decide +kernel
theorem dX4_puts_4 : decode cX4_puts 4 = .ok (.iload_n 1, 1) := by decide +kernel
theorem dX4_puts_5 : decode cX4_puts 5 = .ok (.aload_n 0, 1) := by decide +kernel
theorem dX4_puts_6 : decode cX4_puts 6 = .ok (.getfield 25, 3) := by decide +kernel
theorem dX4_puts_9 : decode cX4_puts 9 = .ok (.iastore, 1) := by decide +kernel
theorem dX4_puts_10 : decode cX4_puts 10 = .ok (.aload_n 0, 1) := by decide +kernel
theorem dX4_puts_11 : decode cX4_puts 11 = .ok (.iconst 1, 1) := by decide +kernel
theorem dX4_puts_12 : decode cX4_puts 12 = .ok (.putfield 28, 3) := by decide +kernel
theorem dX4_puts_15 : decode cX4_puts 15 = .ok (.iconst 1, 1) := by decide +kernel
theorem dX4_puts_16 : decode cX4_puts 16 = .ok (.ireturn, 1) := by decide +kernel
theorem dX4_takesBreak_0 : decode cX4_takesBreak 0 = .ok (.aload_n 0, 1) := by decide +kernel
theorem dX4_takesBreak_1 : decode cX4_takesBreak 1 = .ok (.getfield 28, 3) := by decide +kernel
theorem dX4_takesBreak_4 : decode cX4_takesBreak 4 = .ok (.ifCond .eq 14, 3) := by decide +kernel
theorem dX4_takesBreak_7 : decode cX4_takesBreak 7 = .ok (.aload_n 0, 1) := by decide +kernel
theorem dX4_takesBreak_8 : decode cX4_takesBreak 8 = .ok (.getfield 25, 3) := by decide +kernel
theorem dX4_takesBreak_11 : decode cX4_takesBreak 11 = .ok (.iconst 1, 1) := by decide +kernel
theorem dX4_takesBreak_12 : decode cX4_takesBreak 12 = .ok (.iadd, 1) := by decide +kernel
theorem dX4_takesBreak_13 : decode cX4_takesBreak 13 = .ok (.bipush 8, 2) := by decide +kernel
theorem dX4_takesBreak_15 : decode cX4_takesBreak 15 = .ok (.if_icmp .lt 5, 3) := by decide +kernel
theorem dX4_takesBreak_18 : decode cX4_takesBreak 18 = .ok (.iconst 0, 1) := by decide +kernel
theorem dX4_takesBreak_19 : decode cX4_takesBreak 19 = .ok (.ireturn, 1) := by decide +kernel
theorem dX4_takesBreak_20 : decode cX4_takesBreak 20 = .ok (.aload_n 0, 1) := by decide +kernel
theorem dX4_takesBreak_21 : decode cX4_takesBreak 21 = .ok (.dup, 1) := by decide +kernel
theorem dX4_takesBreak_22 : decode cX4_takesBreak 22 = .ok (.getfield 25, 3) := by decide +kernel
theorem dX4_takesBreak_25 : decode cX4_takesBreak 25 = .ok (.iconst 1, 1) := by decide +kernel
theorem dX4_takesBreak_26 : decode cX4_takesBreak 26 = .ok (.iadd, 1) := by decide +kernel
theorem dX4_takesBreak_27 : decode cX4_takesBreak 27 = .ok (.putfield 25, 3) := by decide +kernel
theorem dX4_takesBreak_30 : decode cX4_takesBreak 30 = .ok (.aload_n 0, 1) := by decide +kernel
theorem dX4_takesBreak_31 : decode cX4_takesBreak 31 = .ok (.iconst 0, 1) := by decide +kernel
theorem dX4_takesBreak_32 : decode cX4_takesBreak 32 = .ok (.putfield 28, 3) := by decide +kernel
theorem dX4_takesBreak_35 : decode cX4_takesBreak 35 = .ok (.iconst 1, 1) := by decide +kernel
theorem dX4_takesBreak_36 : decode cX4_takesBreak 36 = .ok (.ireturn, 1) := by decide +kernel
theorem dX5_init_0 : decode cX5_init 0 = .ok (.aload_n 0, 1) := by decide +kernel
theorem dX5_init_1 : decode cX5_init 1 = .ok (.invokespecial 1, 3) := by decide +kernel
theorem dX5_init_4 : decode cX5_init 4 = .ok (.aload_n 0, 1) := by decide +kernel
theorem dX5_init_5 : decode cX5_init 5 = .ok (.aload_n 1, 1) := by decide +kernel
theorem dX5_init_6 : decode cX5_init 6 = .ok (.putfield 7, 3) := by decide +kernel
theorem dX5_init_9 : decode cX5_init 9 = .ok (.return_, 1) := by decide +kernel
theorem dX5_come_0 : decode cX5_come 0 = .ok (.aload_n 0, 1) := by decide +kernel
theorem dX5_come_1 : decode cX5_come 1 = .ok (.iconst 1, 1) := by decide +kernel
theorem dX5_come_2 : decode cX5_come 2 = .ok (.putfield 13, 3) := by decide +kernel
theorem dX5_come_5 : decode cX5_come 5 = .ok (.aload_n 0, 1) := by decide +kernel
theorem dX5_come_6 : decode cX5_come 6 = .ok (.aload_n 1, 1) := by decide +kernel
theorem dX5_come_7 : decode cX5_come 7 = .ok (.putfield 7, 3) := by decide +kernel
theorem dX5_come_10 : decode cX5_come 10 = .ok (.aload_n 0, 1) := by decide +kernel
theorem dX5_come_11 : decode cX5_come 11 = .ok (.iconst 0, 1) := by decide +kernel
theorem dX5_come_12 : decode cX5_come 12 = .ok (.putfield 17, 3) := by decide +kernel
theorem dX5_come_15 : decode cX5_come 15 = .ok (.aload_n 0, 1) := by decide +kernel
theorem dX5_come_16 : decode cX5_come 16 = .ok (.iconst 0, 1) := by decide +kernel
theorem dX5_come_17 : decode cX5_come 17 = .ok (.putfield 21, 3) := by decide +kernel
theorem dX5_come_20 : decode cX5_come 20 = .ok (.aload_n 0, 1) := by decide +kernel
theorem dX5_come_21 : decode cX5_come 21 = .ok (.iconst 0, 1) := by decide +kernel
theorem dX5_come_22 : decode cX5_come 22 = .ok (.putfield 24, 3) := by decide +kernel
theorem dX5_come_25 : decode cX5_come 25 = .ok (.aload_n 0, 1) := by decide +kernel
theorem dX5_come_26 : decode cX5_come 26 = .ok (.iconst 0, 1) := by decide +kernel
theorem dX5_come_27 : decode cX5_come 27 = .ok (.putfield 27, 3) := by decide +kernel
theorem dX5_come_30 : decode cX5_come 30 = .ok (.aload_n 0, 1) := by decide +kernel
theorem dX5_come_31 : decode cX5_come 31 = .ok (.iconst 0, 1) := by decide +kernel
theorem dX5_come_32 : decode cX5_come 32 = .ok (.putfield 30, 3) := by decide +kernel
theorem dX5_come_35 : decode cX5_come 35 = .ok (.return_, 1) := by decide +kernel
theorem dX5_leave_0 : decode cX5_leave 0 = .ok (.aload_n 0, 1) := by decide +kernel
theorem dX5_leave_1 : decode cX5_leave 1 = .ok (.iconst 0, 1) := by decide +kernel
theorem dX5_leave_2 : decode cX5_leave 2 = .ok (.putfield 13, 3) := by decide +kernel
theorem dX5_leave_5 : decode cX5_leave 5 = .ok (.return_, 1) := by decide +kernel
theorem dX5_isPresent_0 : decode cX5_isPresent 0 = .ok (.aload_n 0, 1) := by decide +kernel
theorem dX5_isPresent_1 : decode cX5_isPresent 1 = .ok (.getfield 13, 3) := by decide +kernel
theorem dX5_isPresent_4 : decode cX5_isPresent 4 = .ok (.ireturn, 1) := by decide +kernel
theorem dX5_instruction_0 : decode cX5_instruction 0 = .ok (.aload_n 0, 1) := by decide +kernel
theorem dX5_instruction_1 : decode cX5_instruction 1 = .ok (.getfield 7, 3) := by decide +kernel
theorem dX5_instruction_4 : decode cX5_instruction 4 = .ok (.areturn, 1) := by decide +kernel
theorem dX5_readLeft_0 : decode cX5_readLeft 0 = .ok (.aload_n 0, 1) := by decide +kernel
theorem dX5_readLeft_1 : decode cX5_readLeft 1 = .ok (.iload_n 1, 1) := by decide +kernel
theorem dX5_readLeft_2 : decode cX5_readLeft 2 = .ok (.putfield 17, 3) := by decide +kernel
theorem dX5_readLeft_5 : decode cX5_readLeft 5 = .ok (.return_, 1) := by decide +kernel
theorem dX5_readRight_0 : decode cX5_readRight 0 = .ok (.aload_n 0, 1) := by decide +kernel
theorem dX5_readRight_1 : decode cX5_readRight 1 = .ok (.iload_n 1, 1) := by decide +kernel
theorem dX5_readRight_2 : decode cX5_readRight 2 = .ok (.putfield 21, 3) := by decide +kernel
theorem dX5_readRight_5 : decode cX5_readRight 5 = .ok (.return_, 1) := by decide +kernel
theorem dX5_workOut_0 : decode cX5_workOut 0 = .ok (.aload_n 0, 1) := by decide +kernel
theorem dX5_workOut_1 : decode cX5_workOut 1 = .ok (.aload_n 0, 1) := by decide +kernel
theorem dX5_workOut_2 : decode cX5_workOut 2 = .ok (.getfield 7, 3) := by decide +kernel
theorem dX5_workOut_5 : decode cX5_workOut 5 = .ok (.aload_n 0, 1) := by decide +kernel
theorem dX5_workOut_6 : decode cX5_workOut 6 = .ok (.getfield 17, 3) := by decide +kernel
theorem dX5_workOut_9 : decode cX5_workOut 9 = .ok (.aload_n 0, 1) := by decide +kernel
theorem dX5_workOut_10 : decode cX5_workOut 10 = .ok (.getfield 21, 3) := by decide +kernel
theorem dX5_workOut_13 : decode cX5_workOut 13 = .ok (.invokevirtual 33, 3) := by decide +kernel
theorem dX5_workOut_16 : decode cX5_workOut 16 = .ok (.putfield 24, 3) := by decide +kernel
theorem dX5_workOut_19 : decode cX5_workOut 19 = .ok (.return_, 1) := by decide +kernel
theorem dX5_goesOn_0 : decode cX5_goesOn 0 = .ok (.aload_n 0, 1) := by decide +kernel
theorem dX5_goesOn_1 : decode cX5_goesOn 1 = .ok (.getfield 7, 3) := by decide +kernel
theorem dX5_goesOn_4 : decode cX5_goesOn 4 = .ok (.aload_n 0, 1) := by decide +kernel
theorem dX5_goesOn_5 : decode cX5_goesOn 5 = .ok (.getfield 17, 3) := by decide +kernel
theorem dX5_goesOn_8 : decode cX5_goesOn 8 = .ok (.aload_n 0, 1) := by decide +kernel
theorem dX5_goesOn_9 : decode cX5_goesOn 9 = .ok (.getfield 21, 3) := by decide +kernel
theorem dX5_goesOn_12 : decode cX5_goesOn 12 = .ok (.invokevirtual 39, 3) := by decide +kernel
theorem dX5_goesOn_15 : decode cX5_goesOn 15 = .ok (.ireturn, 1) := by decide +kernel
theorem dX5_asksPlace_0 : decode cX5_asksPlace 0 = .ok (.aload_n 0, 1) := by decide +kernel
theorem dX5_asksPlace_1 : decode cX5_asksPlace 1 = .ok (.getfield 7, 3) := by decide +kernel
theorem dX5_asksPlace_4 : decode cX5_asksPlace 4 = .ok (.aload_n 0, 1) := by decide +kernel
theorem dX5_asksPlace_5 : decode cX5_asksPlace 5 = .ok (.getfield 17, 3) := by decide +kernel
theorem dX5_asksPlace_8 : decode cX5_asksPlace 8 = .ok (.invokevirtual 43, 3) := by decide +kernel
theorem dX5_asksPlace_11 : decode cX5_asksPlace 11 = .ok (.ireturn, 1) := by decide +kernel
theorem dX5_ask_0 : decode cX5_ask 0 = .ok (.aload_n 0, 1) := by decide +kernel
theorem dX5_ask_1 : decode cX5_ask 1 = .ok (.iload_n 1, 1) := by decide +kernel
theorem dX5_ask_2 : decode cX5_ask 2 = .ok (.putfield 24, 3) := by decide +kernel
theorem dX5_ask_5 : decode cX5_ask 5 = .ok (.aload_n 0, 1) := by decide +kernel
theorem dX5_ask_6 : decode cX5_ask 6 = .ok (.iload_n 2, 1) := by decide +kernel
theorem dX5_ask_7 : decode cX5_ask 7 = .ok (.putfield 27, 3) := by decide +kernel
theorem dX5_ask_10 : decode cX5_ask 10 = .ok (.return_, 1) := by decide +kernel
theorem dX5_isAnswered_0 : decode cX5_isAnswered 0 = .ok (.iload_n 1, 1) := by decide +kernel
theorem dX5_isAnswered_1 : decode cX5_isAnswered 1 = .ok (.aload_n 0, 1) := by decide +kernel
theorem dX5_isAnswered_2 : decode cX5_isAnswered 2 = .ok (.getfield 27, 3) := by decide +kernel
theorem dX5_isAnswered_5 : decode cX5_isAnswered 5 = .ok (.isub, 1) := by decide +kernel
theorem dX5_isAnswered_6 : decode cX5_isAnswered 6 = .ok (.iload_n 2, 1) := by decide +kernel
theorem dX5_isAnswered_7 : decode cX5_isAnswered 7 = .ok (.if_icmp .lt 7, 3) := by decide +kernel
theorem dX5_isAnswered_10 : decode cX5_isAnswered 10 = .ok (.iconst 1, 1) := by decide +kernel
theorem dX5_isAnswered_11 : decode cX5_isAnswered 11 = .ok (.goto 4, 3) := by decide +kernel
theorem dX5_isAnswered_14 : decode cX5_isAnswered 14 = .ok (.iconst 0, 1) := by decide +kernel
theorem dX5_isAnswered_15 : decode cX5_isAnswered 15 = .ok (.ireturn, 1) := by decide +kernel
theorem dX5_give_0 : decode cX5_give 0 = .ok (.aload_n 0, 1) := by decide +kernel
theorem dX5_give_1 : decode cX5_give 1 = .ok (.iload_n 1, 1) := by decide +kernel
theorem dX5_give_2 : decode cX5_give 2 = .ok (.putfield 30, 3) := by decide +kernel
theorem dX5_give_5 : decode cX5_give 5 = .ok (.return_, 1) := by decide +kernel
theorem dX5_gaveBefore_0 : decode cX5_gaveBefore 0 = .ok (.aload_n 0, 1) := by decide +kernel
theorem dX5_gaveBefore_1 : decode cX5_gaveBefore 1 = .ok (.getfield 30, 3) := by decide +kernel
theorem dX5_gaveBefore_4 : decode cX5_gaveBefore 4 = .ok (.ifCond .eq 15, 3) := by decide +kernel
theorem dX5_gaveBefore_7 : decode cX5_gaveBefore 7 = .ok (.aload_n 0, 1) := by decide +kernel
theorem dX5_gaveBefore_8 : decode cX5_gaveBefore 8 = .ok (.getfield 30, 3) := by decide +kernel
theorem dX5_gaveBefore_11 : decode cX5_gaveBefore 11 = .ok (.iload_n 1, 1) := by decide +kernel
theorem dX5_gaveBefore_12 : decode cX5_gaveBefore 12 = .ok (.if_icmp .ge 7, 3) := by decide +kernel
theorem dX5_gaveBefore_15 : decode cX5_gaveBefore 15 = .ok (.iconst 1, 1) := by decide +kernel
theorem dX5_gaveBefore_16 : decode cX5_gaveBefore 16 = .ok (.goto 4, 3) := by decide +kernel
theorem dX5_gaveBefore_19 : decode cX5_gaveBefore 19 = .ok (.iconst 0, 1) := by decide +kernel
theorem dX5_gaveBefore_20 : decode cX5_gaveBefore 20 = .ok (.ireturn, 1) := by decide +kernel
theorem dX5_worth_0 : decode cX5_worth 0 = .ok (.aload_n 0, 1) := by decide +kernel
theorem dX5_worth_1 : decode cX5_worth 1 = .ok (.getfield 24, 3) := by decide +kernel
theorem dX5_worth_4 : decode cX5_worth 4 = .ok (.ireturn, 1) := by decide +kernel
theorem dX5_commitsWhere_0 : decode cX5_commitsWhere 0 = .ok (.aload_n 0, 1) := by decide +kernel
theorem dX5_commitsWhere_1 : decode cX5_commitsWhere 1 = .ok (.getfield 7, 3) := by decide +kernel
theorem dX5_commitsWhere_4 : decode cX5_commitsWhere 4 = .ok (.aload_n 0, 1) := by decide +kernel
theorem dX5_commitsWhere_5 : decode cX5_commitsWhere 5 = .ok (.getfield 17, 3) := by decide +kernel
theorem dX5_commitsWhere_8 : decode cX5_commitsWhere 8 = .ok (.invokevirtual 47, 3) := by decide +kernel
theorem dX5_commitsWhere_11 : decode cX5_commitsWhere 11 = .ok (.ireturn, 1) := by decide +kernel
theorem dX6_init_0 : decode cX6_init 0 = .ok (.aload_n 0, 1) := by decide +kernel
theorem dX6_init_1 : decode cX6_init 1 = .ok (.invokespecial 3, 3) := by decide +kernel
theorem dX6_init_4 : decode cX6_init 4 = .ok (.aload_n 0, 1) := by decide +kernel
theorem dX6_init_5 : decode cX6_init 5 = .ok (.new 9, 3) := by decide +kernel
theorem dX6_init_8 : decode cX6_init 8 = .ok (.dup, 1) := by decide +kernel
theorem dX6_init_9 : decode cX6_init 9 = .ok (.invokespecial 11, 3) := by decide +kernel
theorem dX6_init_12 : decode cX6_init 12 = .ok (.putfield 12, 3) := by decide +kernel
theorem dX6_init_15 : decode cX6_init 15 = .ok (.aload_n 0, 1) := by decide +kernel
theorem dX6_init_16 : decode cX6_init 16 = .ok (.aload_n 1, 1) := by decide +kernel
theorem dX6_init_17 : decode cX6_init 17 = .ok (.putfield 18, 3) := by decide +kernel
theorem dX6_init_20 : decode cX6_init 20 = .ok (.aload_n 0, 1) := by decide +kernel
theorem dX6_init_21 : decode cX6_init 21 = .ok (.aload_n 2, 1) := by decide +kernel
theorem dX6_init_22 : decode cX6_init 22 = .ok (.putfield 22, 3) := by decide +kernel
theorem dX6_init_25 : decode cX6_init 25 = .ok (.return_, 1) := by decide +kernel
theorem dX6_agreesWith_0 : decode cX6_agreesWith 0 = .ok (.aload_n 0, 1) := by decide +kernel
theorem dX6_agreesWith_1 : decode cX6_agreesWith 1 = .ok (.getfield 12, 3) := by decide +kernel
theorem dX6_agreesWith_4 : decode cX6_agreesWith 4 = .ok (.aload_n 0, 1) := by decide +kernel
theorem dX6_agreesWith_5 : decode cX6_agreesWith 5 = .ok (.getfield 22, 3) := by decide +kernel
theorem dX6_agreesWith_8 : decode cX6_agreesWith 8 = .ok (.invokevirtual 26, 3) := by decide +kernel
theorem dX6_agreesWith_11 : decode cX6_agreesWith 11 = .ok (.iconst 0, 1) := by decide +kernel
theorem dX6_agreesWith_12 : decode cX6_agreesWith 12 = .ok (.istore_n 2, 1) := by decide +kernel
theorem dX6_agreesWith_13 : decode cX6_agreesWith 13 = .ok (.iconst 0, 1) := by decide +kernel
theorem dX6_agreesWith_14 : decode cX6_agreesWith 14 = .ok (.istore_n 3, 1) := by decide +kernel
theorem dX6_agreesWith_15 : decode cX6_agreesWith 15 = .ok (.iconst 0, 1) := by decide +kernel
theorem dX6_agreesWith_16 : decode cX6_agreesWith 16 = .ok (.istore 4, 2) := by decide +kernel
theorem dX6_agreesWith_18 : decode cX6_agreesWith 18 = .ok (.iload 4, 2) := by decide +kernel
theorem dX6_agreesWith_20 : decode cX6_agreesWith 20 = .ok (.ldc 30, 2) := by decide +kernel
theorem dX6_agreesWith_22 : decode cX6_agreesWith 22 = .ok (.if_icmp .ge 117, 3) := by decide +kernel
theorem dX6_agreesWith_25 : decode cX6_agreesWith 25 = .ok (.iload_n 3, 1) := by decide +kernel
theorem dX6_agreesWith_26 : decode cX6_agreesWith 26 = .ok (.aload_n 1, 1) := by decide +kernel
theorem dX6_agreesWith_27 : decode cX6_agreesWith 27 = .ok (.invokevirtual 31, 3) := by decide +kernel
theorem dX6_agreesWith_30 : decode cX6_agreesWith 30 = .ok (.if_icmp .ge 109, 3) := by decide +kernel
theorem dX6_agreesWith_33 : decode cX6_agreesWith 33 = .ok (.aload_n 0, 1) := by decide +kernel
theorem dX6_agreesWith_34 : decode cX6_agreesWith 34 = .ok (.getfield 18, 3) := by decide +kernel
theorem dX6_agreesWith_37 : decode cX6_agreesWith 37 = .ok (.iload_n 2, 1) := by decide +kernel
theorem dX6_agreesWith_38 : decode cX6_agreesWith 38 = .ok (.invokevirtual 37, 3) := by decide +kernel
theorem dX6_agreesWith_41 : decode cX6_agreesWith 41 = .ok (.astore 5, 2) := by decide +kernel
theorem dX6_agreesWith_43 : decode cX6_agreesWith 43 = .ok (.aload 5, 2) := by decide +kernel
theorem dX6_agreesWith_45 : decode cX6_agreesWith 45 = .ok (.invokevirtual 43, 3) := by decide +kernel
theorem dX6_agreesWith_48 : decode cX6_agreesWith 48 = .ok (.ifCond .ne 5, 3) := by decide +kernel
theorem dX6_agreesWith_51 : decode cX6_agreesWith 51 = .ok (.iconst 0, 1) := by decide +kernel
theorem dX6_agreesWith_52 : decode cX6_agreesWith 52 = .ok (.ireturn, 1) := by decide +kernel
theorem dX6_agreesWith_53 : decode cX6_agreesWith 53 = .ok (.aload_n 0, 1) := by decide +kernel
theorem dX6_agreesWith_54 : decode cX6_agreesWith 54 = .ok (.getfield 12, 3) := by decide +kernel
theorem dX6_agreesWith_57 : decode cX6_agreesWith 57 = .ok (.aload 5, 2) := by decide +kernel
theorem dX6_agreesWith_59 : decode cX6_agreesWith 59 = .ok (.invokevirtual 48, 3) := by decide +kernel
theorem dX6_agreesWith_62 : decode cX6_agreesWith 62 = .ok (.invokevirtual 51, 3) := by decide +kernel
theorem dX6_agreesWith_65 : decode cX6_agreesWith 65 = .ok (.istore 6, 2) := by decide +kernel
theorem dX6_agreesWith_67 : decode cX6_agreesWith 67 = .ok (.aload_n 0, 1) := by decide +kernel
theorem dX6_agreesWith_68 : decode cX6_agreesWith 68 = .ok (.getfield 12, 3) := by decide +kernel
theorem dX6_agreesWith_71 : decode cX6_agreesWith 71 = .ok (.aload 5, 2) := by decide +kernel
theorem dX6_agreesWith_73 : decode cX6_agreesWith 73 = .ok (.invokevirtual 55, 3) := by decide +kernel
theorem dX6_agreesWith_76 : decode cX6_agreesWith 76 = .ok (.invokevirtual 51, 3) := by decide +kernel
theorem dX6_agreesWith_79 : decode cX6_agreesWith 79 = .ok (.istore 7, 2) := by decide +kernel
theorem dX6_agreesWith_81 : decode cX6_agreesWith 81 = .ok (.aload 5, 2) := by decide +kernel
theorem dX6_agreesWith_83 : decode cX6_agreesWith 83 = .ok (.invokevirtual 58, 3) := by decide +kernel
theorem dX6_agreesWith_86 : decode cX6_agreesWith 86 = .ok (.ifCond .eq 23, 3) := by decide +kernel
theorem dX6_agreesWith_89 : decode cX6_agreesWith 89 = .ok (.aload_n 0, 1) := by decide +kernel
theorem dX6_agreesWith_90 : decode cX6_agreesWith 90 = .ok (.aload_n 1, 1) := by decide +kernel
theorem dX6_agreesWith_91 : decode cX6_agreesWith 91 = .ok (.iload_n 3, 1) := by decide +kernel
theorem dX6_agreesWith_92 : decode cX6_agreesWith 92 = .ok (.aload 5, 2) := by decide +kernel
theorem dX6_agreesWith_94 : decode cX6_agreesWith 94 = .ok (.iload 6, 2) := by decide +kernel
theorem dX6_agreesWith_96 : decode cX6_agreesWith 96 = .ok (.iload 7, 2) := by decide +kernel
theorem dX6_agreesWith_98 : decode cX6_agreesWith 98 = .ok (.invokevirtual 62, 3) := by decide +kernel
theorem dX6_agreesWith_101 : decode cX6_agreesWith 101 = .ok (.ifCond .ne 5, 3) := by decide +kernel
theorem dX6_agreesWith_104 : decode cX6_agreesWith 104 = .ok (.iconst 0, 1) := by decide +kernel
theorem dX6_agreesWith_105 : decode cX6_agreesWith 105 = .ok (.ireturn, 1) := by decide +kernel
theorem dX6_agreesWith_106 : decode cX6_agreesWith 106 = .ok (.iinc 3 1, 3) := by decide +kernel
theorem dX6_agreesWith_109 : decode cX6_agreesWith 109 = .ok (.aload 5, 2) := by decide +kernel
theorem dX6_agreesWith_111 : decode cX6_agreesWith 111 = .ok (.iload 6, 2) := by decide +kernel
theorem dX6_agreesWith_113 : decode cX6_agreesWith 113 = .ok (.iload 7, 2) := by decide +kernel
theorem dX6_agreesWith_115 : decode cX6_agreesWith 115 = .ok (.invokevirtual 66, 3) := by decide +kernel
theorem dX6_agreesWith_118 : decode cX6_agreesWith 118 = .ok (.ifCond .eq 11, 3) := by decide +kernel
theorem dX6_agreesWith_121 : decode cX6_agreesWith 121 = .ok (.aload 5, 2) := by decide +kernel
theorem dX6_agreesWith_123 : decode cX6_agreesWith 123 = .ok (.invokevirtual 70, 3) := by decide +kernel
theorem dX6_agreesWith_126 : decode cX6_agreesWith 126 = .ok (.goto 6, 3) := by decide +kernel
theorem dX6_agreesWith_129 : decode cX6_agreesWith 129 = .ok (.iload_n 2, 1) := by decide +kernel
theorem dX6_agreesWith_130 : decode cX6_agreesWith 130 = .ok (.iconst 1, 1) := by decide +kernel
theorem dX6_agreesWith_131 : decode cX6_agreesWith 131 = .ok (.iadd, 1) := by decide +kernel
theorem dX6_agreesWith_132 : decode cX6_agreesWith 132 = .ok (.istore_n 2, 1) := by decide +kernel
theorem dX6_agreesWith_133 : decode cX6_agreesWith 133 = .ok (.iinc 4 1, 3) := by decide +kernel
theorem dX6_agreesWith_136 : decode cX6_agreesWith 136 = .ok (.goto (-118), 3) := by decide +kernel
theorem dX6_agreesWith_139 : decode cX6_agreesWith 139 = .ok (.iload_n 3, 1) := by decide +kernel
theorem dX6_agreesWith_140 : decode cX6_agreesWith 140 = .ok (.aload_n 1, 1) := by decide +kernel
theorem dX6_agreesWith_141 : decode cX6_agreesWith 141 = .ok (.invokevirtual 31, 3) := by decide +kernel
theorem dX6_agreesWith_144 : decode cX6_agreesWith 144 = .ok (.if_icmp .ne 7, 3) := by decide +kernel
theorem dX6_agreesWith_147 : decode cX6_agreesWith 147 = .ok (.iconst 1, 1) := by decide +kernel
theorem dX6_agreesWith_148 : decode cX6_agreesWith 148 = .ok (.goto 4, 3) := by decide +kernel
theorem dX6_agreesWith_151 : decode cX6_agreesWith 151 = .ok (.iconst 0, 1) := by decide +kernel
theorem dX6_agreesWith_152 : decode cX6_agreesWith 152 = .ok (.ireturn, 1) := by decide +kernel
theorem dX6_commitsAs_0 : decode cX6_commitsAs 0 = .ok (.aload_n 3, 1) := by decide +kernel
theorem dX6_commitsAs_1 : decode cX6_commitsAs 1 = .ok (.iload 4, 2) := by decide +kernel
theorem dX6_commitsAs_3 : decode cX6_commitsAs 3 = .ok (.invokevirtual 73, 3) := by decide +kernel
theorem dX6_commitsAs_6 : decode cX6_commitsAs 6 = .ok (.istore 6, 2) := by decide +kernel
theorem dX6_commitsAs_8 : decode cX6_commitsAs 8 = .ok (.aload_n 3, 1) := by decide +kernel
theorem dX6_commitsAs_9 : decode cX6_commitsAs 9 = .ok (.invokevirtual 43, 3) := by decide +kernel
theorem dX6_commitsAs_12 : decode cX6_commitsAs 12 = .ok (.iconst 5, 1) := by decide +kernel
theorem dX6_commitsAs_13 : decode cX6_commitsAs 13 = .ok (.if_icmp .ne 19, 3) := by decide +kernel
theorem dX6_commitsAs_16 : decode cX6_commitsAs 16 = .ok (.aload_n 0, 1) := by decide +kernel
theorem dX6_commitsAs_17 : decode cX6_commitsAs 17 = .ok (.getfield 12, 3) := by decide +kernel
theorem dX6_commitsAs_20 : decode cX6_commitsAs 20 = .ok (.aload_n 3, 1) := by decide +kernel
theorem dX6_commitsAs_21 : decode cX6_commitsAs 21 = .ok (.iload 4, 2) := by decide +kernel
theorem dX6_commitsAs_23 : decode cX6_commitsAs 23 = .ok (.invokevirtual 76, 3) := by decide +kernel
theorem dX6_commitsAs_26 : decode cX6_commitsAs 26 = .ok (.invokevirtual 79, 3) := by decide +kernel
theorem dX6_commitsAs_29 : decode cX6_commitsAs 29 = .ok (.goto 11, 3) := by decide +kernel
theorem dX6_commitsAs_32 : decode cX6_commitsAs 32 = .ok (.aload_n 3, 1) := by decide +kernel
theorem dX6_commitsAs_33 : decode cX6_commitsAs 33 = .ok (.iload 4, 2) := by decide +kernel
theorem dX6_commitsAs_35 : decode cX6_commitsAs 35 = .ok (.iload 5, 2) := by decide +kernel
theorem dX6_commitsAs_37 : decode cX6_commitsAs 37 = .ok (.invokevirtual 82, 3) := by decide +kernel
theorem dX6_commitsAs_40 : decode cX6_commitsAs 40 = .ok (.istore 7, 2) := by decide +kernel
theorem dX6_commitsAs_42 : decode cX6_commitsAs 42 = .ok (.aload_n 0, 1) := by decide +kernel
theorem dX6_commitsAs_43 : decode cX6_commitsAs 43 = .ok (.getfield 12, 3) := by decide +kernel
theorem dX6_commitsAs_46 : decode cX6_commitsAs 46 = .ok (.aload_n 3, 1) := by decide +kernel
theorem dX6_commitsAs_47 : decode cX6_commitsAs 47 = .ok (.iload 6, 2) := by decide +kernel
theorem dX6_commitsAs_49 : decode cX6_commitsAs 49 = .ok (.iload 7, 2) := by decide +kernel
theorem dX6_commitsAs_51 : decode cX6_commitsAs 51 = .ok (.invokevirtual 86, 3) := by decide +kernel
theorem dX6_commitsAs_54 : decode cX6_commitsAs 54 = .ok (.aload_n 1, 1) := by decide +kernel
theorem dX6_commitsAs_55 : decode cX6_commitsAs 55 = .ok (.iload_n 2, 1) := by decide +kernel
theorem dX6_commitsAs_56 : decode cX6_commitsAs 56 = .ok (.aload_n 3, 1) := by decide +kernel
theorem dX6_commitsAs_57 : decode cX6_commitsAs 57 = .ok (.invokevirtual 90, 3) := by decide +kernel
theorem dX6_commitsAs_60 : decode cX6_commitsAs 60 = .ok (.iload 6, 2) := by decide +kernel
theorem dX6_commitsAs_62 : decode cX6_commitsAs 62 = .ok (.iload 7, 2) := by decide +kernel
theorem dX6_commitsAs_64 : decode cX6_commitsAs 64 = .ok (.invokevirtual 93, 3) := by decide +kernel
theorem dX6_commitsAs_67 : decode cX6_commitsAs 67 = .ok (.ireturn, 1) := by decide +kernel
theorem dX7_init_0 : decode cX7_init 0 = .ok (.aload_n 0, 1) := by decide +kernel
theorem dX7_init_1 : decode cX7_init 1 = .ok (.invokespecial 3, 3) := by decide +kernel
theorem dX7_init_4 : decode cX7_init 4 = .ok (.aload_n 0, 1) := by decide +kernel
theorem dX7_init_5 : decode cX7_init 5 = .ok (.new 9, 3) := by decide +kernel
theorem dX7_init_8 : decode cX7_init 8 = .ok (.dup, 1) := by decide +kernel
theorem dX7_init_9 : decode cX7_init 9 = .ok (.invokespecial 11, 3) := by decide +kernel
theorem dX7_init_12 : decode cX7_init 12 = .ok (.putfield 12, 3) := by decide +kernel
theorem dX7_init_15 : decode cX7_init 15 = .ok (.aload_n 0, 1) := by decide +kernel
theorem dX7_init_16 : decode cX7_init 16 = .ok (.bipush 8, 2) := by decide +kernel
theorem dX7_init_18 : decode cX7_init 18 = .ok (.anewarray 18, 3) := by decide +kernel
theorem dX7_init_21 : decode cX7_init 21 = .ok (.putfield 20, 3) := by decide +kernel
theorem dX7_init_24 : decode cX7_init 24 = .ok (.aload_n 0, 1) := by decide +kernel
theorem dX7_init_25 : decode cX7_init 25 = .ok (.bipush 8, 2) := by decide +kernel
theorem dX7_init_27 : decode cX7_init 27 = .ok (.newarray .int, 2) := by decide +kernel
theorem dX7_init_29 : decode cX7_init 29 = .ok (.putfield 24, 3) := by decide +kernel
theorem dX7_init_32 : decode cX7_init 32 = .ok (.aload_n 0, 1) := by decide +kernel
theorem dX7_init_33 : decode cX7_init 33 = .ok (.aload_n 1, 1) := by decide +kernel
theorem dX7_init_34 : decode cX7_init 34 = .ok (.putfield 28, 3) := by decide +kernel
theorem dX7_init_37 : decode cX7_init 37 = .ok (.aload_n 0, 1) := by decide +kernel
theorem dX7_init_38 : decode cX7_init 38 = .ok (.aload_n 2, 1) := by decide +kernel
theorem dX7_init_39 : decode cX7_init 39 = .ok (.putfield 32, 3) := by decide +kernel
theorem dX7_init_42 : decode cX7_init 42 = .ok (.aload_n 0, 1) := by decide +kernel
theorem dX7_init_43 : decode cX7_init 43 = .ok (.aload_n 3, 1) := by decide +kernel
theorem dX7_init_44 : decode cX7_init 44 = .ok (.putfield 36, 3) := by decide +kernel
theorem dX7_init_47 : decode cX7_init 47 = .ok (.aload_n 0, 1) := by decide +kernel
theorem dX7_init_48 : decode cX7_init 48 = .ok (.aload 4, 2) := by decide +kernel
theorem dX7_init_50 : decode cX7_init 50 = .ok (.putfield 40, 3) := by decide +kernel
theorem dX7_init_53 : decode cX7_init 53 = .ok (.iconst 0, 1) := by decide +kernel
theorem dX7_init_54 : decode cX7_init 54 = .ok (.istore 5, 2) := by decide +kernel
theorem dX7_init_56 : decode cX7_init 56 = .ok (.iload 5, 2) := by decide +kernel
theorem dX7_init_58 : decode cX7_init 58 = .ok (.bipush 8, 2) := by decide +kernel
theorem dX7_init_60 : decode cX7_init 60 = .ok (.if_icmp .ge 28, 3) := by decide +kernel
theorem dX7_init_63 : decode cX7_init 63 = .ok (.aload_n 0, 1) := by decide +kernel
theorem dX7_init_64 : decode cX7_init 64 = .ok (.getfield 20, 3) := by decide +kernel
theorem dX7_init_67 : decode cX7_init 67 = .ok (.iload 5, 2) := by decide +kernel
theorem dX7_init_69 : decode cX7_init 69 = .ok (.new 18, 3) := by decide +kernel
theorem dX7_init_72 : decode cX7_init 72 = .ok (.dup, 1) := by decide +kernel
theorem dX7_init_73 : decode cX7_init 73 = .ok (.aload_n 2, 1) := by decide +kernel
theorem dX7_init_74 : decode cX7_init 74 = .ok (.iconst (-1), 1) := by decide +kernel
theorem dX7_init_75 : decode cX7_init 75 = .ok (.invokevirtual 44, 3) := by decide +kernel
theorem dX7_init_78 : decode cX7_init 78 = .ok (.invokespecial 50, 3) := by decide +kernel
theorem dX7_init_81 : decode cX7_init 81 = .ok (.aastore, 1) := by decide +kernel
theorem dX7_init_82 : decode cX7_init 82 = .ok (.iinc 5 1, 3) := by decide +kernel
theorem dX7_init_85 : decode cX7_init 85 = .ok (.goto (-29), 3) := by decide +kernel
theorem dX7_init_88 : decode cX7_init 88 = .ok (.return_, 1) := by decide +kernel
theorem dX7_beginAnew_0 : decode cX7_beginAnew 0 = .ok (.aload_n 0, 1) := by decide +kernel
theorem dX7_beginAnew_1 : decode cX7_beginAnew 1 = .ok (.bipush 8, 2) := by decide +kernel
theorem dX7_beginAnew_3 : decode cX7_beginAnew 3 = .ok (.invokevirtual 53, 3) := by decide +kernel
theorem dX7_beginAnew_6 : decode cX7_beginAnew 6 = .ok (.aload_n 0, 1) := by decide +kernel
theorem dX7_beginAnew_7 : decode cX7_beginAnew 7 = .ok (.getfield 12, 3) := by decide +kernel
theorem dX7_beginAnew_10 : decode cX7_beginAnew 10 = .ok (.aload_n 0, 1) := by decide +kernel
theorem dX7_beginAnew_11 : decode cX7_beginAnew 11 = .ok (.getfield 36, 3) := by decide +kernel
theorem dX7_beginAnew_14 : decode cX7_beginAnew 14 = .ok (.invokevirtual 57, 3) := by decide +kernel
theorem dX7_beginAnew_17 : decode cX7_beginAnew 17 = .ok (.aload_n 0, 1) := by decide +kernel
theorem dX7_beginAnew_18 : decode cX7_beginAnew 18 = .ok (.getfield 40, 3) := by decide +kernel
theorem dX7_beginAnew_21 : decode cX7_beginAnew 21 = .ok (.invokevirtual 61, 3) := by decide +kernel
theorem dX7_beginAnew_24 : decode cX7_beginAnew 24 = .ok (.aload_n 0, 1) := by decide +kernel
theorem dX7_beginAnew_25 : decode cX7_beginAnew 25 = .ok (.getfield 24, 3) := by decide +kernel
theorem dX7_beginAnew_28 : decode cX7_beginAnew 28 = .ok (.iconst 0, 1) := by decide +kernel
theorem dX7_beginAnew_29 : decode cX7_beginAnew 29 = .ok (.invokestatic 66, 3) := by decide +kernel
theorem dX7_beginAnew_32 : decode cX7_beginAnew 32 = .ok (.aload_n 0, 1) := by decide +kernel
theorem dX7_beginAnew_33 : decode cX7_beginAnew 33 = .ok (.iconst 0, 1) := by decide +kernel
theorem dX7_beginAnew_34 : decode cX7_beginAnew 34 = .ok (.putfield 72, 3) := by decide +kernel
theorem dX7_beginAnew_37 : decode cX7_beginAnew 37 = .ok (.aload_n 0, 1) := by decide +kernel
theorem dX7_beginAnew_38 : decode cX7_beginAnew 38 = .ok (.iconst 0, 1) := by decide +kernel
theorem dX7_beginAnew_39 : decode cX7_beginAnew 39 = .ok (.putfield 76, 3) := by decide +kernel
theorem dX7_beginAnew_42 : decode cX7_beginAnew 42 = .ok (.aload_n 0, 1) := by decide +kernel
theorem dX7_beginAnew_43 : decode cX7_beginAnew 43 = .ok (.iconst 0, 1) := by decide +kernel
theorem dX7_beginAnew_44 : decode cX7_beginAnew 44 = .ok (.putfield 79, 3) := by decide +kernel
theorem dX7_beginAnew_47 : decode cX7_beginAnew 47 = .ok (.aload_n 0, 1) := by decide +kernel
theorem dX7_beginAnew_48 : decode cX7_beginAnew 48 = .ok (.iconst 0, 1) := by decide +kernel
theorem dX7_beginAnew_49 : decode cX7_beginAnew 49 = .ok (.putfield 82, 3) := by decide +kernel
theorem dX7_beginAnew_52 : decode cX7_beginAnew 52 = .ok (.aload_n 0, 1) := by decide +kernel
theorem dX7_beginAnew_53 : decode cX7_beginAnew 53 = .ok (.iconst 0, 1) := by decide +kernel
theorem dX7_beginAnew_54 : decode cX7_beginAnew 54 = .ok (.putfield 85, 3) := by decide +kernel
theorem dX7_beginAnew_57 : decode cX7_beginAnew 57 = .ok (.return_, 1) := by decide +kernel
theorem dX7_advance_0 : decode cX7_advance 0 = .ok (.iconst 0, 1) := by decide +kernel
theorem dX7_advance_1 : decode cX7_advance 1 = .ok (.istore_n 2, 1) := by decide +kernel
theorem dX7_advance_2 : decode cX7_advance 2 = .ok (.iload_n 2, 1) := by decide +kernel
theorem dX7_advance_3 : decode cX7_advance 3 = .ok (.iload_n 1, 1) := by decide +kernel
theorem dX7_advance_4 : decode cX7_advance 4 = .ok (.if_icmp .ge 20, 3) := by decide +kernel
theorem dX7_advance_7 : decode cX7_advance 7 = .ok (.aload_n 0, 1) := by decide +kernel
theorem dX7_advance_8 : decode cX7_advance 8 = .ok (.getfield 85, 3) := by decide +kernel
theorem dX7_advance_11 : decode cX7_advance 11 = .ok (.ifCond .ne 13, 3) := by decide +kernel
theorem dX7_advance_14 : decode cX7_advance 14 = .ok (.aload_n 0, 1) := by decide +kernel
theorem dX7_advance_15 : decode cX7_advance 15 = .ok (.invokevirtual 89, 3) := by decide +kernel
theorem dX7_advance_18 : decode cX7_advance 18 = .ok (.iinc 2 1, 3) := by decide +kernel
theorem dX7_advance_21 : decode cX7_advance 21 = .ok (.goto (-19), 3) := by decide +kernel
theorem dX7_advance_24 : decode cX7_advance 24 = .ok (.return_, 1) := by decide +kernel
theorem dX7_reached_0 : decode cX7_reached 0 = .ok (.aload_n 0, 1) := by decide +kernel
theorem dX7_reached_1 : decode cX7_reached 1 = .ok (.getfield 79, 3) := by decide +kernel
theorem dX7_reached_4 : decode cX7_reached 4 = .ok (.ireturn, 1) := by decide +kernel
theorem dX7_isEnded_0 : decode cX7_isEnded 0 = .ok (.aload_n 0, 1) := by decide +kernel
theorem dX7_isEnded_1 : decode cX7_isEnded 1 = .ok (.getfield 85, 3) := by decide +kernel
theorem dX7_isEnded_4 : decode cX7_isEnded 4 = .ok (.ireturn, 1) := by decide +kernel
theorem dX7_gone_0 : decode cX7_gone 0 = .ok (.aload_n 0, 1) := by decide +kernel
theorem dX7_gone_1 : decode cX7_gone 1 = .ok (.getfield 82, 3) := by decide +kernel
theorem dX7_gone_4 : decode cX7_gone 4 = .ok (.ireturn, 1) := by decide +kernel
theorem dX7_holdings_0 : decode cX7_holdings 0 = .ok (.aload_n 0, 1) := by decide +kernel
theorem dX7_holdings_1 : decode cX7_holdings 1 = .ok (.getfield 12, 3) := by decide +kernel
theorem dX7_holdings_4 : decode cX7_holdings 4 = .ok (.areturn, 1) := by decide +kernel
theorem dX7_step_0 : decode cX7_step 0 = .ok (.aload_n 0, 1) := by decide +kernel
theorem dX7_step_1 : decode cX7_step 1 = .ok (.dup, 1) := by decide +kernel
theorem dX7_step_2 : decode cX7_step 2 = .ok (.getfield 79, 3) := by decide +kernel
theorem dX7_step_5 : decode cX7_step 5 = .ok (.iconst 1, 1) := by decide +kernel
theorem dX7_step_6 : decode cX7_step 6 = .ok (.iadd, 1) := by decide +kernel
theorem dX7_step_7 : decode cX7_step 7 = .ok (.putfield 79, 3) := by decide +kernel
theorem dX7_step_10 : decode cX7_step 10 = .ok (.aload_n 0, 1) := by decide +kernel
theorem dX7_step_11 : decode cX7_step 11 = .ok (.getfield 20, 3) := by decide +kernel
theorem dX7_step_14 : decode cX7_step 14 = .ok (.iconst 0, 1) := by decide +kernel
theorem dX7_step_15 : decode cX7_step 15 = .ok (.aaload, 1) := by decide +kernel
theorem dX7_step_16 : decode cX7_step 16 = .ok (.invokevirtual 92, 3) := by decide +kernel
theorem dX7_step_19 : decode cX7_step 19 = .ok (.ifCond .ne 33, 3) := by decide +kernel
theorem dX7_step_22 : decode cX7_step 22 = .ok (.aload_n 0, 1) := by decide +kernel
theorem dX7_step_23 : decode cX7_step 23 = .ok (.getfield 20, 3) := by decide +kernel
theorem dX7_step_26 : decode cX7_step 26 = .ok (.iconst 0, 1) := by decide +kernel
theorem dX7_step_27 : decode cX7_step 27 = .ok (.aaload, 1) := by decide +kernel
theorem dX7_step_28 : decode cX7_step 28 = .ok (.aload_n 0, 1) := by decide +kernel
theorem dX7_step_29 : decode cX7_step 29 = .ok (.getfield 32, 3) := by decide +kernel
theorem dX7_step_32 : decode cX7_step 32 = .ok (.aload_n 0, 1) := by decide +kernel
theorem dX7_step_33 : decode cX7_step 33 = .ok (.getfield 76, 3) := by decide +kernel
theorem dX7_step_36 : decode cX7_step 36 = .ok (.invokevirtual 44, 3) := by decide +kernel
theorem dX7_step_39 : decode cX7_step 39 = .ok (.invokevirtual 96, 3) := by decide +kernel
theorem dX7_step_42 : decode cX7_step 42 = .ok (.aload_n 0, 1) := by decide +kernel
theorem dX7_step_43 : decode cX7_step 43 = .ok (.dup, 1) := by decide +kernel
theorem dX7_step_44 : decode cX7_step 44 = .ok (.getfield 76, 3) := by decide +kernel
theorem dX7_step_47 : decode cX7_step 47 = .ok (.iconst 1, 1) := by decide +kernel
theorem dX7_step_48 : decode cX7_step 48 = .ok (.iadd, 1) := by decide +kernel
theorem dX7_step_49 : decode cX7_step 49 = .ok (.putfield 76, 3) := by decide +kernel
theorem dX7_step_52 : decode cX7_step 52 = .ok (.aload_n 0, 1) := by decide +kernel
theorem dX7_step_53 : decode cX7_step 53 = .ok (.getfield 28, 3) := by decide +kernel
theorem dX7_step_56 : decode cX7_step 56 = .ok (.invokevirtual 99, 3) := by decide +kernel
theorem dX7_step_59 : decode cX7_step 59 = .ok (.iconst 1, 1) := by decide +kernel
theorem dX7_step_60 : decode cX7_step 60 = .ok (.isub, 1) := by decide +kernel
theorem dX7_step_61 : decode cX7_step 61 = .ok (.istore_n 1, 1) := by decide +kernel
theorem dX7_step_62 : decode cX7_step 62 = .ok (.iload_n 1, 1) := by decide +kernel
theorem dX7_step_63 : decode cX7_step 63 = .ok (.ifCond .lt 34, 3) := by decide +kernel
theorem dX7_step_66 : decode cX7_step 66 = .ok (.aload_n 0, 1) := by decide +kernel
theorem dX7_step_67 : decode cX7_step 67 = .ok (.getfield 20, 3) := by decide +kernel
theorem dX7_step_70 : decode cX7_step 70 = .ok (.iload_n 1, 1) := by decide +kernel
theorem dX7_step_71 : decode cX7_step 71 = .ok (.aaload, 1) := by decide +kernel
theorem dX7_step_72 : decode cX7_step 72 = .ok (.invokevirtual 92, 3) := by decide +kernel
theorem dX7_step_75 : decode cX7_step 75 = .ok (.ifCond .eq 16, 3) := by decide +kernel
theorem dX7_step_78 : decode cX7_step 78 = .ok (.aload_n 0, 1) := by decide +kernel
theorem dX7_step_79 : decode cX7_step 79 = .ok (.iload_n 1, 1) := by decide +kernel
theorem dX7_step_80 : decode cX7_step 80 = .ok (.invokevirtual 105, 3) := by decide +kernel
theorem dX7_step_83 : decode cX7_step 83 = .ok (.ifCond .eq 8, 3) := by decide +kernel
theorem dX7_step_86 : decode cX7_step 86 = .ok (.aload_n 0, 1) := by decide +kernel
theorem dX7_step_87 : decode cX7_step 87 = .ok (.iload_n 1, 1) := by decide +kernel
theorem dX7_step_88 : decode cX7_step 88 = .ok (.invokevirtual 109, 3) := by decide +kernel
theorem dX7_step_91 : decode cX7_step 91 = .ok (.iinc 1 (-1), 3) := by decide +kernel
theorem dX7_step_94 : decode cX7_step 94 = .ok (.goto (-32), 3) := by decide +kernel
theorem dX7_step_97 : decode cX7_step 97 = .ok (.return_, 1) := by decide +kernel
theorem dX7_isLast_0 : decode cX7_isLast 0 = .ok (.iload_n 1, 1) := by decide +kernel
theorem dX7_isLast_1 : decode cX7_isLast 1 = .ok (.iconst 1, 1) := by decide +kernel
theorem dX7_isLast_2 : decode cX7_isLast 2 = .ok (.iadd, 1) := by decide +kernel
theorem dX7_isLast_3 : decode cX7_isLast 3 = .ok (.aload_n 0, 1) := by decide +kernel
theorem dX7_isLast_4 : decode cX7_isLast 4 = .ok (.getfield 28, 3) := by decide +kernel
theorem dX7_isLast_7 : decode cX7_isLast 7 = .ok (.invokevirtual 99, 3) := by decide +kernel
theorem dX7_isLast_10 : decode cX7_isLast 10 = .ok (.if_icmp .lt 7, 3) := by decide +kernel
theorem dX7_isLast_13 : decode cX7_isLast 13 = .ok (.iconst 1, 1) := by decide +kernel
theorem dX7_isLast_14 : decode cX7_isLast 14 = .ok (.goto 4, 3) := by decide +kernel
theorem dX7_isLast_17 : decode cX7_isLast 17 = .ok (.iconst 0, 1) := by decide +kernel
theorem dX7_isLast_18 : decode cX7_isLast 18 = .ok (.ireturn, 1) := by decide +kernel
theorem dX7_mayFire_0 : decode cX7_mayFire 0 = .ok (.aload_n 0, 1) := by decide +kernel
theorem dX7_mayFire_1 : decode cX7_mayFire 1 = .ok (.iload_n 1, 1) := by decide +kernel
theorem dX7_mayFire_2 : decode cX7_mayFire 2 = .ok (.invokevirtual 112, 3) := by decide +kernel
theorem dX7_mayFire_5 : decode cX7_mayFire 5 = .ok (.ifCond .ne 19, 3) := by decide +kernel
theorem dX7_mayFire_8 : decode cX7_mayFire 8 = .ok (.aload_n 0, 1) := by decide +kernel
theorem dX7_mayFire_9 : decode cX7_mayFire 9 = .ok (.getfield 20, 3) := by decide +kernel
theorem dX7_mayFire_12 : decode cX7_mayFire 12 = .ok (.iload_n 1, 1) := by decide +kernel
theorem dX7_mayFire_13 : decode cX7_mayFire 13 = .ok (.iconst 1, 1) := by decide +kernel
theorem dX7_mayFire_14 : decode cX7_mayFire 14 = .ok (.iadd, 1) := by decide +kernel
theorem dX7_mayFire_15 : decode cX7_mayFire 15 = .ok (.aaload, 1) := by decide +kernel
theorem dX7_mayFire_16 : decode cX7_mayFire 16 = .ok (.invokevirtual 92, 3) := by decide +kernel
theorem dX7_mayFire_19 : decode cX7_mayFire 19 = .ok (.ifCond .eq 5, 3) := by decide +kernel
theorem dX7_mayFire_22 : decode cX7_mayFire 22 = .ok (.iconst 0, 1) := by decide +kernel
theorem dX7_mayFire_23 : decode cX7_mayFire 23 = .ok (.ireturn, 1) := by decide +kernel
theorem dX7_mayFire_24 : decode cX7_mayFire 24 = .ok (.aload_n 0, 1) := by decide +kernel
theorem dX7_mayFire_25 : decode cX7_mayFire 25 = .ok (.getfield 20, 3) := by decide +kernel
theorem dX7_mayFire_28 : decode cX7_mayFire 28 = .ok (.iload_n 1, 1) := by decide +kernel
theorem dX7_mayFire_29 : decode cX7_mayFire 29 = .ok (.aaload, 1) := by decide +kernel
theorem dX7_mayFire_30 : decode cX7_mayFire 30 = .ok (.astore_n 2, 1) := by decide +kernel
theorem dX7_mayFire_31 : decode cX7_mayFire 31 = .ok (.aload_n 0, 1) := by decide +kernel
theorem dX7_mayFire_32 : decode cX7_mayFire 32 = .ok (.getfield 28, 3) := by decide +kernel
theorem dX7_mayFire_35 : decode cX7_mayFire 35 = .ok (.iconst 1, 1) := by decide +kernel
theorem dX7_mayFire_36 : decode cX7_mayFire 36 = .ok (.iload_n 1, 1) := by decide +kernel
theorem dX7_mayFire_37 : decode cX7_mayFire 37 = .ok (.invokevirtual 115, 3) := by decide +kernel
theorem dX7_mayFire_40 : decode cX7_mayFire 40 = .ok (.ifCond .eq 17, 3) := by decide +kernel
theorem dX7_mayFire_43 : decode cX7_mayFire 43 = .ok (.aload_n 0, 1) := by decide +kernel
theorem dX7_mayFire_44 : decode cX7_mayFire 44 = .ok (.iload_n 1, 1) := by decide +kernel
theorem dX7_mayFire_45 : decode cX7_mayFire 45 = .ok (.aload_n 2, 1) := by decide +kernel
theorem dX7_mayFire_46 : decode cX7_mayFire 46 = .ok (.invokevirtual 119, 3) := by decide +kernel
theorem dX7_mayFire_49 : decode cX7_mayFire 49 = .ok (.invokevirtual 123, 3) := by decide +kernel
theorem dX7_mayFire_52 : decode cX7_mayFire 52 = .ok (.ifCond .ne 5, 3) := by decide +kernel
theorem dX7_mayFire_55 : decode cX7_mayFire 55 = .ok (.iconst 0, 1) := by decide +kernel
theorem dX7_mayFire_56 : decode cX7_mayFire 56 = .ok (.ireturn, 1) := by decide +kernel
theorem dX7_mayFire_57 : decode cX7_mayFire 57 = .ok (.aload_n 2, 1) := by decide +kernel
theorem dX7_mayFire_58 : decode cX7_mayFire 58 = .ok (.invokevirtual 119, 3) := by decide +kernel
theorem dX7_mayFire_61 : decode cX7_mayFire 61 = .ok (.invokevirtual 127, 3) := by decide +kernel
theorem dX7_mayFire_64 : decode cX7_mayFire 64 = .ok (.iconst 5, 1) := by decide +kernel
theorem dX7_mayFire_65 : decode cX7_mayFire 65 = .ok (.if_icmp .eq 5, 3) := by decide +kernel
theorem dX7_mayFire_68 : decode cX7_mayFire 68 = .ok (.iconst 1, 1) := by decide +kernel
theorem dX7_mayFire_69 : decode cX7_mayFire 69 = .ok (.ireturn, 1) := by decide +kernel
theorem dX7_mayFire_70 : decode cX7_mayFire 70 = .ok (.aload_n 0, 1) := by decide +kernel
theorem dX7_mayFire_71 : decode cX7_mayFire 71 = .ok (.getfield 28, 3) := by decide +kernel
theorem dX7_mayFire_74 : decode cX7_mayFire 74 = .ok (.iconst 4, 1) := by decide +kernel
theorem dX7_mayFire_75 : decode cX7_mayFire 75 = .ok (.iload_n 1, 1) := by decide +kernel
theorem dX7_mayFire_76 : decode cX7_mayFire 76 = .ok (.invokevirtual 115, 3) := by decide +kernel
theorem dX7_mayFire_79 : decode cX7_mayFire 79 = .ok (.ifCond .eq 13, 3) := by decide +kernel
theorem dX7_mayFire_82 : decode cX7_mayFire 82 = .ok (.aload_n 0, 1) := by decide +kernel
theorem dX7_mayFire_83 : decode cX7_mayFire 83 = .ok (.iload_n 1, 1) := by decide +kernel
theorem dX7_mayFire_84 : decode cX7_mayFire 84 = .ok (.invokevirtual 132, 3) := by decide +kernel
theorem dX7_mayFire_87 : decode cX7_mayFire 87 = .ok (.ifCond .eq 5, 3) := by decide +kernel
theorem dX7_mayFire_90 : decode cX7_mayFire 90 = .ok (.iconst 0, 1) := by decide +kernel
theorem dX7_mayFire_91 : decode cX7_mayFire 91 = .ok (.ireturn, 1) := by decide +kernel
theorem dX7_mayFire_92 : decode cX7_mayFire 92 = .ok (.aload_n 0, 1) := by decide +kernel
theorem dX7_mayFire_93 : decode cX7_mayFire 93 = .ok (.getfield 28, 3) := by decide +kernel
theorem dX7_mayFire_96 : decode cX7_mayFire 96 = .ok (.iconst 5, 1) := by decide +kernel
theorem dX7_mayFire_97 : decode cX7_mayFire 97 = .ok (.iload_n 1, 1) := by decide +kernel
theorem dX7_mayFire_98 : decode cX7_mayFire 98 = .ok (.invokevirtual 115, 3) := by decide +kernel
theorem dX7_mayFire_101 : decode cX7_mayFire 101 = .ok (.ifCond .eq 25, 3) := by decide +kernel
theorem dX7_mayFire_104 : decode cX7_mayFire 104 = .ok (.aload_n 2, 1) := by decide +kernel
theorem dX7_mayFire_105 : decode cX7_mayFire 105 = .ok (.aload_n 0, 1) := by decide +kernel
theorem dX7_mayFire_106 : decode cX7_mayFire 106 = .ok (.getfield 79, 3) := by decide +kernel
theorem dX7_mayFire_109 : decode cX7_mayFire 109 = .ok (.aload_n 0, 1) := by decide +kernel
theorem dX7_mayFire_110 : decode cX7_mayFire 110 = .ok (.getfield 36, 3) := by decide +kernel
theorem dX7_mayFire_113 : decode cX7_mayFire 113 = .ok (.aload_n 2, 1) := by decide +kernel
theorem dX7_mayFire_114 : decode cX7_mayFire 114 = .ok (.invokevirtual 135, 3) := by decide +kernel
theorem dX7_mayFire_117 : decode cX7_mayFire 117 = .ok (.invokevirtual 138, 3) := by decide +kernel
theorem dX7_mayFire_120 : decode cX7_mayFire 120 = .ok (.invokevirtual 144, 3) := by decide +kernel
theorem dX7_mayFire_123 : decode cX7_mayFire 123 = .ok (.ifCond .eq 7, 3) := by decide +kernel
theorem dX7_mayFire_126 : decode cX7_mayFire 126 = .ok (.iconst 1, 1) := by decide +kernel
theorem dX7_mayFire_127 : decode cX7_mayFire 127 = .ok (.goto 4, 3) := by decide +kernel
theorem dX7_mayFire_130 : decode cX7_mayFire 130 = .ok (.iconst 0, 1) := by decide +kernel
theorem dX7_mayFire_131 : decode cX7_mayFire 131 = .ok (.ireturn, 1) := by decide +kernel
theorem dX7_mayRead_0 : decode cX7_mayRead 0 = .ok (.aload_n 2, 1) := by decide +kernel
theorem dX7_mayRead_1 : decode cX7_mayRead 1 = .ok (.invokevirtual 147, 3) := by decide +kernel
theorem dX7_mayRead_4 : decode cX7_mayRead 4 = .ok (.ifCond .eq 17, 3) := by decide +kernel
theorem dX7_mayRead_7 : decode cX7_mayRead 7 = .ok (.aload_n 0, 1) := by decide +kernel
theorem dX7_mayRead_8 : decode cX7_mayRead 8 = .ok (.iload_n 1, 1) := by decide +kernel
theorem dX7_mayRead_9 : decode cX7_mayRead 9 = .ok (.aload_n 2, 1) := by decide +kernel
theorem dX7_mayRead_10 : decode cX7_mayRead 10 = .ok (.invokevirtual 150, 3) := by decide +kernel
theorem dX7_mayRead_13 : decode cX7_mayRead 13 = .ok (.invokevirtual 153, 3) := by decide +kernel
theorem dX7_mayRead_16 : decode cX7_mayRead 16 = .ok (.ifCond .ne 5, 3) := by decide +kernel
theorem dX7_mayRead_19 : decode cX7_mayRead 19 = .ok (.iconst 0, 1) := by decide +kernel
theorem dX7_mayRead_20 : decode cX7_mayRead 20 = .ok (.ireturn, 1) := by decide +kernel
theorem dX7_mayRead_21 : decode cX7_mayRead 21 = .ok (.aload_n 2, 1) := by decide +kernel
theorem dX7_mayRead_22 : decode cX7_mayRead 22 = .ok (.invokevirtual 156, 3) := by decide +kernel
theorem dX7_mayRead_25 : decode cX7_mayRead 25 = .ok (.ifCond .eq 15, 3) := by decide +kernel
theorem dX7_mayRead_28 : decode cX7_mayRead 28 = .ok (.aload_n 0, 1) := by decide +kernel
theorem dX7_mayRead_29 : decode cX7_mayRead 29 = .ok (.iload_n 1, 1) := by decide +kernel
theorem dX7_mayRead_30 : decode cX7_mayRead 30 = .ok (.aload_n 2, 1) := by decide +kernel
theorem dX7_mayRead_31 : decode cX7_mayRead 31 = .ok (.invokevirtual 159, 3) := by decide +kernel
theorem dX7_mayRead_34 : decode cX7_mayRead 34 = .ok (.invokevirtual 153, 3) := by decide +kernel
theorem dX7_mayRead_37 : decode cX7_mayRead 37 = .ok (.ifCond .eq 7, 3) := by decide +kernel
theorem dX7_mayRead_40 : decode cX7_mayRead 40 = .ok (.iconst 1, 1) := by decide +kernel
theorem dX7_mayRead_41 : decode cX7_mayRead 41 = .ok (.goto 4, 3) := by decide +kernel
theorem dX7_mayRead_44 : decode cX7_mayRead 44 = .ok (.iconst 0, 1) := by decide +kernel
theorem dX7_mayRead_45 : decode cX7_mayRead 45 = .ok (.ireturn, 1) := by decide +kernel
theorem dX7_isReady_0 : decode cX7_isReady 0 = .ok (.aload_n 0, 1) := by decide +kernel
theorem dX7_isReady_1 : decode cX7_isReady 1 = .ok (.iload_n 1, 1) := by decide +kernel
theorem dX7_isReady_2 : decode cX7_isReady 2 = .ok (.iload_n 2, 1) := by decide +kernel
theorem dX7_isReady_3 : decode cX7_isReady 3 = .ok (.invokevirtual 162, 3) := by decide +kernel
theorem dX7_isReady_6 : decode cX7_isReady 6 = .ok (.istore_n 3, 1) := by decide +kernel
theorem dX7_isReady_7 : decode cX7_isReady 7 = .ok (.iload_n 3, 1) := by decide +kernel
theorem dX7_isReady_8 : decode cX7_isReady 8 = .ok (.iconst (-1), 1) := by decide +kernel
theorem dX7_isReady_9 : decode cX7_isReady 9 = .ok (.if_icmp .eq 17, 3) := by decide +kernel
theorem dX7_isReady_12 : decode cX7_isReady 12 = .ok (.aload_n 0, 1) := by decide +kernel
theorem dX7_isReady_13 : decode cX7_isReady 13 = .ok (.getfield 20, 3) := by decide +kernel
theorem dX7_isReady_16 : decode cX7_isReady 16 = .ok (.iload_n 3, 1) := by decide +kernel
theorem dX7_isReady_17 : decode cX7_isReady 17 = .ok (.aaload, 1) := by decide +kernel
theorem dX7_isReady_18 : decode cX7_isReady 18 = .ok (.aload_n 0, 1) := by decide +kernel
theorem dX7_isReady_19 : decode cX7_isReady 19 = .ok (.getfield 79, 3) := by decide +kernel
theorem dX7_isReady_22 : decode cX7_isReady 22 = .ok (.invokevirtual 166, 3) := by decide +kernel
theorem dX7_isReady_25 : decode cX7_isReady 25 = .ok (.ireturn, 1) := by decide +kernel
theorem dX7_isReady_26 : decode cX7_isReady 26 = .ok (.iload_n 2, 1) := by decide +kernel
theorem dX7_isReady_27 : decode cX7_isReady 27 = .ok (.invokestatic 169, 3) := by decide +kernel
theorem dX7_isReady_30 : decode cX7_isReady 30 = .ok (.ifCond .eq 16, 3) := by decide +kernel
theorem dX7_isReady_33 : decode cX7_isReady 33 = .ok (.aload_n 0, 1) := by decide +kernel
theorem dX7_isReady_34 : decode cX7_isReady 34 = .ok (.getfield 24, 3) := by decide +kernel
theorem dX7_isReady_37 : decode cX7_isReady 37 = .ok (.iload_n 2, 1) := by decide +kernel
theorem dX7_isReady_38 : decode cX7_isReady 38 = .ok (.iaload, 1) := by decide +kernel
theorem dX7_isReady_39 : decode cX7_isReady 39 = .ok (.aload_n 0, 1) := by decide +kernel
theorem dX7_isReady_40 : decode cX7_isReady 40 = .ok (.getfield 79, 3) := by decide +kernel
theorem dX7_isReady_43 : decode cX7_isReady 43 = .ok (.if_icmp .eq 7, 3) := by decide +kernel
theorem dX7_isReady_46 : decode cX7_isReady 46 = .ok (.iconst 1, 1) := by decide +kernel
theorem dX7_isReady_47 : decode cX7_isReady 47 = .ok (.goto 4, 3) := by decide +kernel
theorem dX7_isReady_50 : decode cX7_isReady 50 = .ok (.iconst 0, 1) := by decide +kernel
theorem dX7_isReady_51 : decode cX7_isReady 51 = .ok (.ireturn, 1) := by decide +kernel
theorem dX7_writerAhead_0 : decode cX7_writerAhead 0 = .ok (.iload_n 1, 1) := by decide +kernel
theorem dX7_writerAhead_1 : decode cX7_writerAhead 1 = .ok (.iconst 1, 1) := by decide +kernel
theorem dX7_writerAhead_2 : decode cX7_writerAhead 2 = .ok (.iadd, 1) := by decide +kernel
theorem dX7_writerAhead_3 : decode cX7_writerAhead 3 = .ok (.istore_n 3, 1) := by decide +kernel
theorem dX7_writerAhead_4 : decode cX7_writerAhead 4 = .ok (.iload_n 3, 1) := by decide +kernel
theorem dX7_writerAhead_5 : decode cX7_writerAhead 5 = .ok (.aload_n 0, 1) := by decide +kernel
theorem dX7_writerAhead_6 : decode cX7_writerAhead 6 = .ok (.getfield 28, 3) := by decide +kernel
theorem dX7_writerAhead_9 : decode cX7_writerAhead 9 = .ok (.invokevirtual 99, 3) := by decide +kernel
theorem dX7_writerAhead_12 : decode cX7_writerAhead 12 = .ok (.if_icmp .ge 39, 3) := by decide +kernel
theorem dX7_writerAhead_15 : decode cX7_writerAhead 15 = .ok (.aload_n 0, 1) := by decide +kernel
theorem dX7_writerAhead_16 : decode cX7_writerAhead 16 = .ok (.getfield 20, 3) := by decide +kernel
theorem dX7_writerAhead_19 : decode cX7_writerAhead 19 = .ok (.iload_n 3, 1) := by decide +kernel
theorem dX7_writerAhead_20 : decode cX7_writerAhead 20 = .ok (.aaload, 1) := by decide +kernel
theorem dX7_writerAhead_21 : decode cX7_writerAhead 21 = .ok (.invokevirtual 92, 3) := by decide +kernel
theorem dX7_writerAhead_24 : decode cX7_writerAhead 24 = .ok (.ifCond .eq 21, 3) := by decide +kernel
theorem dX7_writerAhead_27 : decode cX7_writerAhead 27 = .ok (.aload_n 0, 1) := by decide +kernel
theorem dX7_writerAhead_28 : decode cX7_writerAhead 28 = .ok (.getfield 20, 3) := by decide +kernel
theorem dX7_writerAhead_31 : decode cX7_writerAhead 31 = .ok (.iload_n 3, 1) := by decide +kernel
theorem dX7_writerAhead_32 : decode cX7_writerAhead 32 = .ok (.aaload, 1) := by decide +kernel
theorem dX7_writerAhead_33 : decode cX7_writerAhead 33 = .ok (.invokevirtual 119, 3) := by decide +kernel
theorem dX7_writerAhead_36 : decode cX7_writerAhead 36 = .ok (.iload_n 2, 1) := by decide +kernel
theorem dX7_writerAhead_37 : decode cX7_writerAhead 37 = .ok (.invokevirtual 172, 3) := by decide +kernel
theorem dX7_writerAhead_40 : decode cX7_writerAhead 40 = .ok (.ifCond .eq 5, 3) := by decide +kernel
theorem dX7_writerAhead_43 : decode cX7_writerAhead 43 = .ok (.iload_n 3, 1) := by decide +kernel
theorem dX7_writerAhead_44 : decode cX7_writerAhead 44 = .ok (.ireturn, 1) := by decide +kernel
theorem dX7_writerAhead_45 : decode cX7_writerAhead 45 = .ok (.iinc 3 1, 3) := by decide +kernel
theorem dX7_writerAhead_48 : decode cX7_writerAhead 48 = .ok (.goto (-44), 3) := by decide +kernel
theorem dX7_writerAhead_51 : decode cX7_writerAhead 51 = .ok (.iconst (-1), 1) := by decide +kernel
theorem dX7_writerAhead_52 : decode cX7_writerAhead 52 = .ok (.ireturn, 1) := by decide +kernel
theorem dX7_isStoreAhead_0 : decode cX7_isStoreAhead 0 = .ok (.iload_n 1, 1) := by decide +kernel
theorem dX7_isStoreAhead_1 : decode cX7_isStoreAhead 1 = .ok (.iconst 1, 1) := by decide +kernel
theorem dX7_isStoreAhead_2 : decode cX7_isStoreAhead 2 = .ok (.iadd, 1) := by decide +kernel
theorem dX7_isStoreAhead_3 : decode cX7_isStoreAhead 3 = .ok (.istore_n 2, 1) := by decide +kernel
theorem dX7_isStoreAhead_4 : decode cX7_isStoreAhead 4 = .ok (.iload_n 2, 1) := by decide +kernel
theorem dX7_isStoreAhead_5 : decode cX7_isStoreAhead 5 = .ok (.aload_n 0, 1) := by decide +kernel
theorem dX7_isStoreAhead_6 : decode cX7_isStoreAhead 6 = .ok (.getfield 28, 3) := by decide +kernel
theorem dX7_isStoreAhead_9 : decode cX7_isStoreAhead 9 = .ok (.invokevirtual 99, 3) := by decide +kernel
theorem dX7_isStoreAhead_12 : decode cX7_isStoreAhead 12 = .ok (.if_icmp .ge 40, 3) := by decide +kernel
theorem dX7_isStoreAhead_15 : decode cX7_isStoreAhead 15 = .ok (.aload_n 0, 1) := by decide +kernel
theorem dX7_isStoreAhead_16 : decode cX7_isStoreAhead 16 = .ok (.getfield 20, 3) := by decide +kernel
theorem dX7_isStoreAhead_19 : decode cX7_isStoreAhead 19 = .ok (.iload_n 2, 1) := by decide +kernel
theorem dX7_isStoreAhead_20 : decode cX7_isStoreAhead 20 = .ok (.aaload, 1) := by decide +kernel
theorem dX7_isStoreAhead_21 : decode cX7_isStoreAhead 21 = .ok (.invokevirtual 92, 3) := by decide +kernel
theorem dX7_isStoreAhead_24 : decode cX7_isStoreAhead 24 = .ok (.ifCond .eq 22, 3) := by decide +kernel
theorem dX7_isStoreAhead_27 : decode cX7_isStoreAhead 27 = .ok (.aload_n 0, 1) := by decide +kernel
theorem dX7_isStoreAhead_28 : decode cX7_isStoreAhead 28 = .ok (.getfield 20, 3) := by decide +kernel
theorem dX7_isStoreAhead_31 : decode cX7_isStoreAhead 31 = .ok (.iload_n 2, 1) := by decide +kernel
theorem dX7_isStoreAhead_32 : decode cX7_isStoreAhead 32 = .ok (.aaload, 1) := by decide +kernel
theorem dX7_isStoreAhead_33 : decode cX7_isStoreAhead 33 = .ok (.invokevirtual 119, 3) := by decide +kernel
theorem dX7_isStoreAhead_36 : decode cX7_isStoreAhead 36 = .ok (.invokevirtual 127, 3) := by decide +kernel
theorem dX7_isStoreAhead_39 : decode cX7_isStoreAhead 39 = .ok (.bipush 6, 2) := by decide +kernel
theorem dX7_isStoreAhead_41 : decode cX7_isStoreAhead 41 = .ok (.if_icmp .ne 5, 3) := by decide +kernel
theorem dX7_isStoreAhead_44 : decode cX7_isStoreAhead 44 = .ok (.iconst 1, 1) := by decide +kernel
theorem dX7_isStoreAhead_45 : decode cX7_isStoreAhead 45 = .ok (.ireturn, 1) := by decide +kernel
theorem dX7_isStoreAhead_46 : decode cX7_isStoreAhead 46 = .ok (.iinc 2 1, 3) := by decide +kernel
theorem dX7_isStoreAhead_49 : decode cX7_isStoreAhead 49 = .ok (.goto (-45), 3) := by decide +kernel
theorem dX7_isStoreAhead_52 : decode cX7_isStoreAhead 52 = .ok (.aload_n 0, 1) := by decide +kernel
theorem dX7_isStoreAhead_53 : decode cX7_isStoreAhead 53 = .ok (.getfield 72, 3) := by decide +kernel
theorem dX7_isStoreAhead_56 : decode cX7_isStoreAhead 56 = .ok (.aload_n 0, 1) := by decide +kernel
theorem dX7_isStoreAhead_57 : decode cX7_isStoreAhead 57 = .ok (.getfield 79, 3) := by decide +kernel
theorem dX7_isStoreAhead_60 : decode cX7_isStoreAhead 60 = .ok (.if_icmp .ne 7, 3) := by decide +kernel
theorem dX7_isStoreAhead_63 : decode cX7_isStoreAhead 63 = .ok (.iconst 1, 1) := by decide +kernel
theorem dX7_isStoreAhead_64 : decode cX7_isStoreAhead 64 = .ok (.goto 4, 3) := by decide +kernel
theorem dX7_isStoreAhead_67 : decode cX7_isStoreAhead 67 = .ok (.iconst 0, 1) := by decide +kernel
theorem dX7_isStoreAhead_68 : decode cX7_isStoreAhead 68 = .ok (.ireturn, 1) := by decide +kernel
theorem dX7_fire_0 : decode cX7_fire 0 = .ok (.aload_n 0, 1) := by decide +kernel
theorem dX7_fire_1 : decode cX7_fire 1 = .ok (.getfield 20, 3) := by decide +kernel
theorem dX7_fire_4 : decode cX7_fire 4 = .ok (.iload_n 1, 1) := by decide +kernel
theorem dX7_fire_5 : decode cX7_fire 5 = .ok (.aaload, 1) := by decide +kernel
theorem dX7_fire_6 : decode cX7_fire 6 = .ok (.astore_n 2, 1) := by decide +kernel
theorem dX7_fire_7 : decode cX7_fire 7 = .ok (.aload_n 2, 1) := by decide +kernel
theorem dX7_fire_8 : decode cX7_fire 8 = .ok (.invokevirtual 119, 3) := by decide +kernel
theorem dX7_fire_11 : decode cX7_fire 11 = .ok (.astore_n 3, 1) := by decide +kernel
theorem dX7_fire_12 : decode cX7_fire 12 = .ok (.aload_n 0, 1) := by decide +kernel
theorem dX7_fire_13 : decode cX7_fire 13 = .ok (.getfield 28, 3) := by decide +kernel
theorem dX7_fire_16 : decode cX7_fire 16 = .ok (.iconst 1, 1) := by decide +kernel
theorem dX7_fire_17 : decode cX7_fire 17 = .ok (.iload_n 1, 1) := by decide +kernel
theorem dX7_fire_18 : decode cX7_fire 18 = .ok (.invokevirtual 115, 3) := by decide +kernel
theorem dX7_fire_21 : decode cX7_fire 21 = .ok (.ifCond .eq 9, 3) := by decide +kernel
theorem dX7_fire_24 : decode cX7_fire 24 = .ok (.aload_n 0, 1) := by decide +kernel
theorem dX7_fire_25 : decode cX7_fire 25 = .ok (.iload_n 1, 1) := by decide +kernel
theorem dX7_fire_26 : decode cX7_fire 26 = .ok (.aload_n 2, 1) := by decide +kernel
theorem dX7_fire_27 : decode cX7_fire 27 = .ok (.invokevirtual 175, 3) := by decide +kernel
theorem dX7_fire_30 : decode cX7_fire 30 = .ok (.aload_n 0, 1) := by decide +kernel
theorem dX7_fire_31 : decode cX7_fire 31 = .ok (.getfield 28, 3) := by decide +kernel
theorem dX7_fire_34 : decode cX7_fire 34 = .ok (.iconst 2, 1) := by decide +kernel
theorem dX7_fire_35 : decode cX7_fire 35 = .ok (.iload_n 1, 1) := by decide +kernel
theorem dX7_fire_36 : decode cX7_fire 36 = .ok (.invokevirtual 115, 3) := by decide +kernel
theorem dX7_fire_39 : decode cX7_fire 39 = .ok (.ifCond .eq 7, 3) := by decide +kernel
theorem dX7_fire_42 : decode cX7_fire 42 = .ok (.aload_n 2, 1) := by decide +kernel
theorem dX7_fire_43 : decode cX7_fire 43 = .ok (.invokevirtual 179, 3) := by decide +kernel
theorem dX7_fire_46 : decode cX7_fire 46 = .ok (.aload_n 0, 1) := by decide +kernel
theorem dX7_fire_47 : decode cX7_fire 47 = .ok (.getfield 28, 3) := by decide +kernel
theorem dX7_fire_50 : decode cX7_fire 50 = .ok (.iconst 3, 1) := by decide +kernel
theorem dX7_fire_51 : decode cX7_fire 51 = .ok (.iload_n 1, 1) := by decide +kernel
theorem dX7_fire_52 : decode cX7_fire 52 = .ok (.invokevirtual 115, 3) := by decide +kernel
theorem dX7_fire_55 : decode cX7_fire 55 = .ok (.ifCond .eq 23, 3) := by decide +kernel
theorem dX7_fire_58 : decode cX7_fire 58 = .ok (.aload_n 2, 1) := by decide +kernel
theorem dX7_fire_59 : decode cX7_fire 59 = .ok (.invokevirtual 182, 3) := by decide +kernel
theorem dX7_fire_62 : decode cX7_fire 62 = .ok (.ifCond .eq 16, 3) := by decide +kernel
theorem dX7_fire_65 : decode cX7_fire 65 = .ok (.aload_n 0, 1) := by decide +kernel
theorem dX7_fire_66 : decode cX7_fire 66 = .ok (.iload_n 1, 1) := by decide +kernel
theorem dX7_fire_67 : decode cX7_fire 67 = .ok (.invokevirtual 53, 3) := by decide +kernel
theorem dX7_fire_70 : decode cX7_fire 70 = .ok (.aload_n 0, 1) := by decide +kernel
theorem dX7_fire_71 : decode cX7_fire 71 = .ok (.aload_n 3, 1) := by decide +kernel
theorem dX7_fire_72 : decode cX7_fire 72 = .ok (.invokevirtual 185, 3) := by decide +kernel
theorem dX7_fire_75 : decode cX7_fire 75 = .ok (.putfield 76, 3) := by decide +kernel
theorem dX7_fire_78 : decode cX7_fire 78 = .ok (.aload_n 0, 1) := by decide +kernel
theorem dX7_fire_79 : decode cX7_fire 79 = .ok (.getfield 28, 3) := by decide +kernel
theorem dX7_fire_82 : decode cX7_fire 82 = .ok (.iconst 4, 1) := by decide +kernel
theorem dX7_fire_83 : decode cX7_fire 83 = .ok (.iload_n 1, 1) := by decide +kernel
theorem dX7_fire_84 : decode cX7_fire 84 = .ok (.invokevirtual 115, 3) := by decide +kernel
theorem dX7_fire_87 : decode cX7_fire 87 = .ok (.ifCond .eq 30, 3) := by decide +kernel
theorem dX7_fire_90 : decode cX7_fire 90 = .ok (.aload_n 3, 1) := by decide +kernel
theorem dX7_fire_91 : decode cX7_fire 91 = .ok (.invokevirtual 127, 3) := by decide +kernel
theorem dX7_fire_94 : decode cX7_fire 94 = .ok (.iconst 5, 1) := by decide +kernel
theorem dX7_fire_95 : decode cX7_fire 95 = .ok (.if_icmp .ne 22, 3) := by decide +kernel
theorem dX7_fire_98 : decode cX7_fire 98 = .ok (.aload_n 2, 1) := by decide +kernel
theorem dX7_fire_99 : decode cX7_fire 99 = .ok (.aload_n 0, 1) := by decide +kernel
theorem dX7_fire_100 : decode cX7_fire 100 = .ok (.getfield 12, 3) := by decide +kernel
theorem dX7_fire_103 : decode cX7_fire 103 = .ok (.aload_n 2, 1) := by decide +kernel
theorem dX7_fire_104 : decode cX7_fire 104 = .ok (.invokevirtual 135, 3) := by decide +kernel
theorem dX7_fire_107 : decode cX7_fire 107 = .ok (.invokevirtual 188, 3) := by decide +kernel
theorem dX7_fire_110 : decode cX7_fire 110 = .ok (.aload_n 0, 1) := by decide +kernel
theorem dX7_fire_111 : decode cX7_fire 111 = .ok (.getfield 79, 3) := by decide +kernel
theorem dX7_fire_114 : decode cX7_fire 114 = .ok (.invokevirtual 191, 3) := by decide +kernel
theorem dX7_fire_117 : decode cX7_fire 117 = .ok (.aload_n 0, 1) := by decide +kernel
theorem dX7_fire_118 : decode cX7_fire 118 = .ok (.getfield 28, 3) := by decide +kernel
theorem dX7_fire_121 : decode cX7_fire 121 = .ok (.aload_n 3, 1) := by decide +kernel
theorem dX7_fire_122 : decode cX7_fire 122 = .ok (.invokevirtual 127, 3) := by decide +kernel
theorem dX7_fire_125 : decode cX7_fire 125 = .ok (.invokevirtual 195, 3) := by decide +kernel
theorem dX7_fire_128 : decode cX7_fire 128 = .ok (.iload_n 1, 1) := by decide +kernel
theorem dX7_fire_129 : decode cX7_fire 129 = .ok (.if_icmp .ne 11, 3) := by decide +kernel
theorem dX7_fire_132 : decode cX7_fire 132 = .ok (.aload_n 2, 1) := by decide +kernel
theorem dX7_fire_133 : decode cX7_fire 133 = .ok (.aload_n 0, 1) := by decide +kernel
theorem dX7_fire_134 : decode cX7_fire 134 = .ok (.getfield 79, 3) := by decide +kernel
theorem dX7_fire_137 : decode cX7_fire 137 = .ok (.invokevirtual 198, 3) := by decide +kernel
theorem dX7_fire_140 : decode cX7_fire 140 = .ok (.aload_n 0, 1) := by decide +kernel
theorem dX7_fire_141 : decode cX7_fire 141 = .ok (.getfield 28, 3) := by decide +kernel
theorem dX7_fire_144 : decode cX7_fire 144 = .ok (.bipush 6, 2) := by decide +kernel
theorem dX7_fire_146 : decode cX7_fire 146 = .ok (.iload_n 1, 1) := by decide +kernel
theorem dX7_fire_147 : decode cX7_fire 147 = .ok (.invokevirtual 115, 3) := by decide +kernel
theorem dX7_fire_150 : decode cX7_fire 150 = .ok (.ifCond .eq 8, 3) := by decide +kernel
theorem dX7_fire_153 : decode cX7_fire 153 = .ok (.aload_n 0, 1) := by decide +kernel
theorem dX7_fire_154 : decode cX7_fire 154 = .ok (.aload_n 2, 1) := by decide +kernel
theorem dX7_fire_155 : decode cX7_fire 155 = .ok (.invokevirtual 201, 3) := by decide +kernel
theorem dX7_fire_158 : decode cX7_fire 158 = .ok (.aload_n 0, 1) := by decide +kernel
theorem dX7_fire_159 : decode cX7_fire 159 = .ok (.iload_n 1, 1) := by decide +kernel
theorem dX7_fire_160 : decode cX7_fire 160 = .ok (.invokevirtual 205, 3) := by decide +kernel
theorem dX7_fire_163 : decode cX7_fire 163 = .ok (.return_, 1) := by decide +kernel
theorem dX7_read_0 : decode cX7_read 0 = .ok (.aload_n 2, 1) := by decide +kernel
theorem dX7_read_1 : decode cX7_read 1 = .ok (.invokevirtual 119, 3) := by decide +kernel
theorem dX7_read_4 : decode cX7_read 4 = .ok (.astore_n 3, 1) := by decide +kernel
theorem dX7_read_5 : decode cX7_read 5 = .ok (.aload_n 3, 1) := by decide +kernel
theorem dX7_read_6 : decode cX7_read 6 = .ok (.invokevirtual 147, 3) := by decide +kernel
theorem dX7_read_9 : decode cX7_read 9 = .ok (.ifCond .eq 16, 3) := by decide +kernel
theorem dX7_read_12 : decode cX7_read 12 = .ok (.aload_n 2, 1) := by decide +kernel
theorem dX7_read_13 : decode cX7_read 13 = .ok (.aload_n 0, 1) := by decide +kernel
theorem dX7_read_14 : decode cX7_read 14 = .ok (.iload_n 1, 1) := by decide +kernel
theorem dX7_read_15 : decode cX7_read 15 = .ok (.aload_n 3, 1) := by decide +kernel
theorem dX7_read_16 : decode cX7_read 16 = .ok (.invokevirtual 150, 3) := by decide +kernel
theorem dX7_read_19 : decode cX7_read 19 = .ok (.invokevirtual 208, 3) := by decide +kernel
theorem dX7_read_22 : decode cX7_read 22 = .ok (.invokevirtual 211, 3) := by decide +kernel
theorem dX7_read_25 : decode cX7_read 25 = .ok (.aload_n 3, 1) := by decide +kernel
theorem dX7_read_26 : decode cX7_read 26 = .ok (.invokevirtual 156, 3) := by decide +kernel
theorem dX7_read_29 : decode cX7_read 29 = .ok (.ifCond .eq 16, 3) := by decide +kernel
theorem dX7_read_32 : decode cX7_read 32 = .ok (.aload_n 2, 1) := by decide +kernel
theorem dX7_read_33 : decode cX7_read 33 = .ok (.aload_n 0, 1) := by decide +kernel
theorem dX7_read_34 : decode cX7_read 34 = .ok (.iload_n 1, 1) := by decide +kernel
theorem dX7_read_35 : decode cX7_read 35 = .ok (.aload_n 3, 1) := by decide +kernel
theorem dX7_read_36 : decode cX7_read 36 = .ok (.invokevirtual 159, 3) := by decide +kernel
theorem dX7_read_39 : decode cX7_read 39 = .ok (.invokevirtual 208, 3) := by decide +kernel
theorem dX7_read_42 : decode cX7_read 42 = .ok (.invokevirtual 214, 3) := by decide +kernel
theorem dX7_read_45 : decode cX7_read 45 = .ok (.return_, 1) := by decide +kernel
theorem dX7_valueFor_0 : decode cX7_valueFor 0 = .ok (.aload_n 0, 1) := by decide +kernel
theorem dX7_valueFor_1 : decode cX7_valueFor 1 = .ok (.iload_n 1, 1) := by decide +kernel
theorem dX7_valueFor_2 : decode cX7_valueFor 2 = .ok (.iload_n 2, 1) := by decide +kernel
theorem dX7_valueFor_3 : decode cX7_valueFor 3 = .ok (.invokevirtual 162, 3) := by decide +kernel
theorem dX7_valueFor_6 : decode cX7_valueFor 6 = .ok (.istore_n 3, 1) := by decide +kernel
theorem dX7_valueFor_7 : decode cX7_valueFor 7 = .ok (.iload_n 3, 1) := by decide +kernel
theorem dX7_valueFor_8 : decode cX7_valueFor 8 = .ok (.iconst (-1), 1) := by decide +kernel
theorem dX7_valueFor_9 : decode cX7_valueFor 9 = .ok (.if_icmp .ne 14, 3) := by decide +kernel
theorem dX7_valueFor_12 : decode cX7_valueFor 12 = .ok (.aload_n 0, 1) := by decide +kernel
theorem dX7_valueFor_13 : decode cX7_valueFor 13 = .ok (.getfield 12, 3) := by decide +kernel
theorem dX7_valueFor_16 : decode cX7_valueFor 16 = .ok (.iload_n 2, 1) := by decide +kernel
theorem dX7_valueFor_17 : decode cX7_valueFor 17 = .ok (.invokevirtual 217, 3) := by decide +kernel
theorem dX7_valueFor_20 : decode cX7_valueFor 20 = .ok (.goto 12, 3) := by decide +kernel
theorem dX7_valueFor_23 : decode cX7_valueFor 23 = .ok (.aload_n 0, 1) := by decide +kernel
theorem dX7_valueFor_24 : decode cX7_valueFor 24 = .ok (.getfield 20, 3) := by decide +kernel
theorem dX7_valueFor_27 : decode cX7_valueFor 27 = .ok (.iload_n 3, 1) := by decide +kernel
theorem dX7_valueFor_28 : decode cX7_valueFor 28 = .ok (.aaload, 1) := by decide +kernel
theorem dX7_valueFor_29 : decode cX7_valueFor 29 = .ok (.invokevirtual 220, 3) := by decide +kernel
theorem dX7_valueFor_32 : decode cX7_valueFor 32 = .ok (.ireturn, 1) := by decide +kernel
theorem dX7_throwOutBehind_0 : decode cX7_throwOutBehind 0 = .ok (.iconst 0, 1) := by decide +kernel
theorem dX7_throwOutBehind_1 : decode cX7_throwOutBehind 1 = .ok (.istore_n 2, 1) := by decide +kernel
theorem dX7_throwOutBehind_2 : decode cX7_throwOutBehind 2 = .ok (.iload_n 2, 1) := by decide +kernel
theorem dX7_throwOutBehind_3 : decode cX7_throwOutBehind 3 = .ok (.iload_n 1, 1) := by decide +kernel
theorem dX7_throwOutBehind_4 : decode cX7_throwOutBehind 4 = .ok (.if_icmp .ge 24, 3) := by decide +kernel
theorem dX7_throwOutBehind_7 : decode cX7_throwOutBehind 7 = .ok (.iload_n 2, 1) := by decide +kernel
theorem dX7_throwOutBehind_8 : decode cX7_throwOutBehind 8 = .ok (.bipush 8, 2) := by decide +kernel
theorem dX7_throwOutBehind_10 : decode cX7_throwOutBehind 10 = .ok (.if_icmp .ge 18, 3) := by decide +kernel
theorem dX7_throwOutBehind_13 : decode cX7_throwOutBehind 13 = .ok (.aload_n 0, 1) := by decide +kernel
theorem dX7_throwOutBehind_14 : decode cX7_throwOutBehind 14 = .ok (.getfield 20, 3) := by decide +kernel
theorem dX7_throwOutBehind_17 : decode cX7_throwOutBehind 17 = .ok (.iload_n 2, 1) := by decide +kernel
theorem dX7_throwOutBehind_18 : decode cX7_throwOutBehind 18 = .ok (.aaload, 1) := by decide +kernel
theorem dX7_throwOutBehind_19 : decode cX7_throwOutBehind 19 = .ok (.invokevirtual 223, 3) := by decide +kernel
theorem dX7_throwOutBehind_22 : decode cX7_throwOutBehind 22 = .ok (.iinc 2 1, 3) := by decide +kernel
theorem dX7_throwOutBehind_25 : decode cX7_throwOutBehind 25 = .ok (.goto (-23), 3) := by decide +kernel
theorem dX7_throwOutBehind_28 : decode cX7_throwOutBehind 28 = .ok (.return_, 1) := by decide +kernel
theorem dX7_finish_0 : decode cX7_finish 0 = .ok (.aload_n 1, 1) := by decide +kernel
theorem dX7_finish_1 : decode cX7_finish 1 = .ok (.invokevirtual 119, 3) := by decide +kernel
theorem dX7_finish_4 : decode cX7_finish 4 = .ok (.astore_n 2, 1) := by decide +kernel
theorem dX7_finish_5 : decode cX7_finish 5 = .ok (.aload_n 2, 1) := by decide +kernel
theorem dX7_finish_6 : decode cX7_finish 6 = .ok (.invokevirtual 127, 3) := by decide +kernel
theorem dX7_finish_9 : decode cX7_finish 9 = .ok (.ifCond .ne 8, 3) := by decide +kernel
theorem dX7_finish_12 : decode cX7_finish 12 = .ok (.aload_n 0, 1) := by decide +kernel
theorem dX7_finish_13 : decode cX7_finish 13 = .ok (.iconst 1, 1) := by decide +kernel
theorem dX7_finish_14 : decode cX7_finish 14 = .ok (.putfield 85, 3) := by decide +kernel
theorem dX7_finish_17 : decode cX7_finish 17 = .ok (.aload_n 2, 1) := by decide +kernel
theorem dX7_finish_18 : decode cX7_finish 18 = .ok (.invokevirtual 226, 3) := by decide +kernel
theorem dX7_finish_21 : decode cX7_finish 21 = .ok (.ifCond .ne 4, 3) := by decide +kernel
theorem dX7_finish_24 : decode cX7_finish 24 = .ok (.return_, 1) := by decide +kernel
theorem dX7_finish_25 : decode cX7_finish 25 = .ok (.aload_n 1, 1) := by decide +kernel
theorem dX7_finish_26 : decode cX7_finish 26 = .ok (.invokevirtual 229, 3) := by decide +kernel
theorem dX7_finish_29 : decode cX7_finish 29 = .ok (.istore_n 3, 1) := by decide +kernel
theorem dX7_finish_30 : decode cX7_finish 30 = .ok (.aload_n 0, 1) := by decide +kernel
theorem dX7_finish_31 : decode cX7_finish 31 = .ok (.getfield 12, 3) := by decide +kernel
theorem dX7_finish_34 : decode cX7_finish 34 = .ok (.aload_n 2, 1) := by decide +kernel
theorem dX7_finish_35 : decode cX7_finish 35 = .ok (.iload_n 3, 1) := by decide +kernel
theorem dX7_finish_36 : decode cX7_finish 36 = .ok (.aload_n 1, 1) := by decide +kernel
theorem dX7_finish_37 : decode cX7_finish 37 = .ok (.invokevirtual 220, 3) := by decide +kernel
theorem dX7_finish_40 : decode cX7_finish 40 = .ok (.invokevirtual 232, 3) := by decide +kernel
theorem dX7_finish_43 : decode cX7_finish 43 = .ok (.aload_n 0, 1) := by decide +kernel
theorem dX7_finish_44 : decode cX7_finish 44 = .ok (.getfield 40, 3) := by decide +kernel
theorem dX7_finish_47 : decode cX7_finish 47 = .ok (.aload_n 2, 1) := by decide +kernel
theorem dX7_finish_48 : decode cX7_finish 48 = .ok (.invokevirtual 236, 3) := by decide +kernel
theorem dX7_finish_51 : decode cX7_finish 51 = .ok (.iload_n 3, 1) := by decide +kernel
theorem dX7_finish_52 : decode cX7_finish 52 = .ok (.aload_n 1, 1) := by decide +kernel
theorem dX7_finish_53 : decode cX7_finish 53 = .ok (.invokevirtual 220, 3) := by decide +kernel
theorem dX7_finish_56 : decode cX7_finish 56 = .ok (.aload_n 0, 1) := by decide +kernel
theorem dX7_finish_57 : decode cX7_finish 57 = .ok (.getfield 79, 3) := by decide +kernel
theorem dX7_finish_60 : decode cX7_finish 60 = .ok (.invokevirtual 239, 3) := by decide +kernel
theorem dX7_finish_63 : decode cX7_finish 63 = .ok (.aload_n 2, 1) := by decide +kernel
theorem dX7_finish_64 : decode cX7_finish 64 = .ok (.invokevirtual 127, 3) := by decide +kernel
theorem dX7_finish_67 : decode cX7_finish 67 = .ok (.bipush 6, 2) := by decide +kernel
theorem dX7_finish_69 : decode cX7_finish 69 = .ok (.if_icmp .ne 11, 3) := by decide +kernel
theorem dX7_finish_72 : decode cX7_finish 72 = .ok (.aload_n 0, 1) := by decide +kernel
theorem dX7_finish_73 : decode cX7_finish 73 = .ok (.aload_n 0, 1) := by decide +kernel
theorem dX7_finish_74 : decode cX7_finish 74 = .ok (.getfield 79, 3) := by decide +kernel
theorem dX7_finish_77 : decode cX7_finish 77 = .ok (.putfield 72, 3) := by decide +kernel
theorem dX7_finish_80 : decode cX7_finish 80 = .ok (.aload_n 2, 1) := by decide +kernel
theorem dX7_finish_81 : decode cX7_finish 81 = .ok (.invokevirtual 243, 3) := by decide +kernel
theorem dX7_finish_84 : decode cX7_finish 84 = .ok (.ifCond .eq 20, 3) := by decide +kernel
theorem dX7_finish_87 : decode cX7_finish 87 = .ok (.iload_n 3, 1) := by decide +kernel
theorem dX7_finish_88 : decode cX7_finish 88 = .ok (.invokestatic 169, 3) := by decide +kernel
theorem dX7_finish_91 : decode cX7_finish 91 = .ok (.ifCond .eq 13, 3) := by decide +kernel
theorem dX7_finish_94 : decode cX7_finish 94 = .ok (.aload_n 0, 1) := by decide +kernel
theorem dX7_finish_95 : decode cX7_finish 95 = .ok (.getfield 24, 3) := by decide +kernel
theorem dX7_finish_98 : decode cX7_finish 98 = .ok (.iload_n 3, 1) := by decide +kernel
theorem dX7_finish_99 : decode cX7_finish 99 = .ok (.aload_n 0, 1) := by decide +kernel
theorem dX7_finish_100 : decode cX7_finish 100 = .ok (.getfield 79, 3) := by decide +kernel
theorem dX7_finish_103 : decode cX7_finish 103 = .ok (.iastore, 1) := by decide +kernel
theorem dX7_finish_104 : decode cX7_finish 104 = .ok (.return_, 1) := by decide +kernel
theorem dX7_moveOn_0 : decode cX7_moveOn 0 = .ok (.aload_n 0, 1) := by decide +kernel
theorem dX7_moveOn_1 : decode cX7_moveOn 1 = .ok (.getfield 20, 3) := by decide +kernel
theorem dX7_moveOn_4 : decode cX7_moveOn 4 = .ok (.iload_n 1, 1) := by decide +kernel
theorem dX7_moveOn_5 : decode cX7_moveOn 5 = .ok (.aaload, 1) := by decide +kernel
theorem dX7_moveOn_6 : decode cX7_moveOn 6 = .ok (.astore_n 2, 1) := by decide +kernel
theorem dX7_moveOn_7 : decode cX7_moveOn 7 = .ok (.aload_n 0, 1) := by decide +kernel
theorem dX7_moveOn_8 : decode cX7_moveOn 8 = .ok (.iload_n 1, 1) := by decide +kernel
theorem dX7_moveOn_9 : decode cX7_moveOn 9 = .ok (.invokevirtual 112, 3) := by decide +kernel
theorem dX7_moveOn_12 : decode cX7_moveOn 12 = .ok (.ifCond .eq 18, 3) := by decide +kernel
theorem dX7_moveOn_15 : decode cX7_moveOn 15 = .ok (.aload_n 2, 1) := by decide +kernel
theorem dX7_moveOn_16 : decode cX7_moveOn 16 = .ok (.invokevirtual 223, 3) := by decide +kernel
theorem dX7_moveOn_19 : decode cX7_moveOn 19 = .ok (.aload_n 0, 1) := by decide +kernel
theorem dX7_moveOn_20 : decode cX7_moveOn 20 = .ok (.dup, 1) := by decide +kernel
theorem dX7_moveOn_21 : decode cX7_moveOn 21 = .ok (.getfield 82, 3) := by decide +kernel
theorem dX7_moveOn_24 : decode cX7_moveOn 24 = .ok (.iconst 1, 1) := by decide +kernel
theorem dX7_moveOn_25 : decode cX7_moveOn 25 = .ok (.iadd, 1) := by decide +kernel
theorem dX7_moveOn_26 : decode cX7_moveOn 26 = .ok (.putfield 82, 3) := by decide +kernel
theorem dX7_moveOn_29 : decode cX7_moveOn 29 = .ok (.return_, 1) := by decide +kernel
theorem dX7_moveOn_30 : decode cX7_moveOn 30 = .ok (.aload_n 0, 1) := by decide +kernel
theorem dX7_moveOn_31 : decode cX7_moveOn 31 = .ok (.getfield 20, 3) := by decide +kernel
theorem dX7_moveOn_34 : decode cX7_moveOn 34 = .ok (.iload_n 1, 1) := by decide +kernel
theorem dX7_moveOn_35 : decode cX7_moveOn 35 = .ok (.aload_n 0, 1) := by decide +kernel
theorem dX7_moveOn_36 : decode cX7_moveOn 36 = .ok (.getfield 20, 3) := by decide +kernel
theorem dX7_moveOn_39 : decode cX7_moveOn 39 = .ok (.iload_n 1, 1) := by decide +kernel
theorem dX7_moveOn_40 : decode cX7_moveOn 40 = .ok (.iconst 1, 1) := by decide +kernel
theorem dX7_moveOn_41 : decode cX7_moveOn 41 = .ok (.iadd, 1) := by decide +kernel
theorem dX7_moveOn_42 : decode cX7_moveOn 42 = .ok (.aaload, 1) := by decide +kernel
theorem dX7_moveOn_43 : decode cX7_moveOn 43 = .ok (.aastore, 1) := by decide +kernel
theorem dX7_moveOn_44 : decode cX7_moveOn 44 = .ok (.aload_n 0, 1) := by decide +kernel
theorem dX7_moveOn_45 : decode cX7_moveOn 45 = .ok (.getfield 20, 3) := by decide +kernel
theorem dX7_moveOn_48 : decode cX7_moveOn 48 = .ok (.iload_n 1, 1) := by decide +kernel
theorem dX7_moveOn_49 : decode cX7_moveOn 49 = .ok (.iconst 1, 1) := by decide +kernel
theorem dX7_moveOn_50 : decode cX7_moveOn 50 = .ok (.iadd, 1) := by decide +kernel
theorem dX7_moveOn_51 : decode cX7_moveOn 51 = .ok (.aload_n 2, 1) := by decide +kernel
theorem dX7_moveOn_52 : decode cX7_moveOn 52 = .ok (.aastore, 1) := by decide +kernel
theorem dX7_moveOn_53 : decode cX7_moveOn 53 = .ok (.return_, 1) := by decide +kernel
theorem dX8_init_0 : decode cX8_init 0 = .ok (.aload_n 0, 1) := by decide +kernel
theorem dX8_init_1 : decode cX8_init 1 = .ok (.invokespecial 3, 3) := by decide +kernel
theorem dX8_init_4 : decode cX8_init 4 = .ok (.aload_n 0, 1) := by decide +kernel
theorem dX8_init_5 : decode cX8_init 5 = .ok (.bipush 40, 2) := by decide +kernel
theorem dX8_init_7 : decode cX8_init 7 = .ok (.anewarray 9, 3) := by decide +kernel
theorem dX8_init_10 : decode cX8_init 10 = .ok (.putfield 11, 3) := by decide +kernel
theorem dX8_init_13 : decode cX8_init 13 = .ok (.aload_n 0, 1) := by decide +kernel
theorem dX8_init_14 : decode cX8_init 14 = .ok (.new 9, 3) := by decide +kernel
theorem dX8_init_17 : decode cX8_init 17 = .ok (.dup, 1) := by decide +kernel
theorem dX8_init_18 : decode cX8_init 18 = .ok (.iconst 0, 1) := by decide +kernel
theorem dX8_init_19 : decode cX8_init 19 = .ok (.iconst 0, 1) := by decide +kernel
theorem dX8_init_20 : decode cX8_init 20 = .ok (.iconst 0, 1) := by decide +kernel
theorem dX8_init_21 : decode cX8_init 21 = .ok (.iconst 0, 1) := by decide +kernel
theorem dX8_init_22 : decode cX8_init 22 = .ok (.iconst 0, 1) := by decide +kernel
theorem dX8_init_23 : decode cX8_init 23 = .ok (.invokespecial 17, 3) := by decide +kernel
theorem dX8_init_26 : decode cX8_init 26 = .ok (.putfield 20, 3) := by decide +kernel
theorem dX8_init_29 : decode cX8_init 29 = .ok (.iconst 0, 1) := by decide +kernel
theorem dX8_init_30 : decode cX8_init 30 = .ok (.istore_n 1, 1) := by decide +kernel
theorem dX8_init_31 : decode cX8_init 31 = .ok (.iload_n 1, 1) := by decide +kernel
theorem dX8_init_32 : decode cX8_init 32 = .ok (.bipush 40, 2) := by decide +kernel
theorem dX8_init_34 : decode cX8_init 34 = .ok (.if_icmp .ge 19, 3) := by decide +kernel
theorem dX8_init_37 : decode cX8_init 37 = .ok (.aload_n 0, 1) := by decide +kernel
theorem dX8_init_38 : decode cX8_init 38 = .ok (.getfield 11, 3) := by decide +kernel
theorem dX8_init_41 : decode cX8_init 41 = .ok (.iload_n 1, 1) := by decide +kernel
theorem dX8_init_42 : decode cX8_init 42 = .ok (.aload_n 0, 1) := by decide +kernel
theorem dX8_init_43 : decode cX8_init 43 = .ok (.getfield 20, 3) := by decide +kernel
theorem dX8_init_46 : decode cX8_init 46 = .ok (.aastore, 1) := by decide +kernel
theorem dX8_init_47 : decode cX8_init 47 = .ok (.iinc 1 1, 3) := by decide +kernel
theorem dX8_init_50 : decode cX8_init 50 = .ok (.goto (-19), 3) := by decide +kernel
theorem dX8_init_53 : decode cX8_init 53 = .ok (.return_, 1) := by decide +kernel
theorem dX8_isFull_0 : decode cX8_isFull 0 = .ok (.aload_n 0, 1) := by decide +kernel
theorem dX8_isFull_1 : decode cX8_isFull 1 = .ok (.getfield 24, 3) := by decide +kernel
theorem dX8_isFull_4 : decode cX8_isFull 4 = .ok (.bipush 40, 2) := by decide +kernel
theorem dX8_isFull_6 : decode cX8_isFull 6 = .ok (.if_icmp .lt 7, 3) := by decide +kernel
theorem dX8_isFull_9 : decode cX8_isFull 9 = .ok (.iconst 1, 1) := by decide +kernel
theorem dX8_isFull_10 : decode cX8_isFull 10 = .ok (.goto 4, 3) := by decide +kernel
theorem dX8_isFull_13 : decode cX8_isFull 13 = .ok (.iconst 0, 1) := by decide +kernel
theorem dX8_isFull_14 : decode cX8_isFull 14 = .ok (.ireturn, 1) := by decide +kernel
theorem dX8_add_0 : decode cX8_add 0 = .ok (.aload_n 0, 1) := by decide +kernel
theorem dX8_add_1 : decode cX8_add 1 = .ok (.invokevirtual 28, 3) := by decide +kernel
theorem dX8_add_4 : decode cX8_add 4 = .ok (.ifCond .eq 5, 3) := by decide +kernel
theorem dX8_add_7 : decode cX8_add 7 = .ok (.iconst (-1), 1) := by decide +kernel
theorem dX8_add_8 : decode cX8_add 8 = .ok (.ireturn, 1) := by decide +kernel
theorem dX8_add_9 : decode cX8_add 9 = .ok (.aload_n 0, 1) := by decide +kernel
theorem dX8_add_10 : decode cX8_add 10 = .ok (.getfield 11, 3) := by decide +kernel
theorem dX8_add_13 : decode cX8_add 13 = .ok (.aload_n 0, 1) := by decide +kernel
theorem dX8_add_14 : decode cX8_add 14 = .ok (.getfield 24, 3) := by decide +kernel
theorem dX8_add_17 : decode cX8_add 17 = .ok (.aload_n 1, 1) := by decide +kernel
theorem dX8_add_18 : decode cX8_add 18 = .ok (.aastore, 1) := by decide +kernel
theorem dX8_add_19 : decode cX8_add 19 = .ok (.aload_n 0, 1) := by decide +kernel
theorem dX8_add_20 : decode cX8_add 20 = .ok (.dup, 1) := by decide +kernel
theorem dX8_add_21 : decode cX8_add 21 = .ok (.getfield 24, 3) := by decide +kernel
theorem dX8_add_24 : decode cX8_add 24 = .ok (.iconst 1, 1) := by decide +kernel
theorem dX8_add_25 : decode cX8_add 25 = .ok (.iadd, 1) := by decide +kernel
theorem dX8_add_26 : decode cX8_add 26 = .ok (.putfield 24, 3) := by decide +kernel
theorem dX8_add_29 : decode cX8_add 29 = .ok (.aload_n 0, 1) := by decide +kernel
theorem dX8_add_30 : decode cX8_add 30 = .ok (.getfield 24, 3) := by decide +kernel
theorem dX8_add_33 : decode cX8_add 33 = .ok (.iconst 1, 1) := by decide +kernel
theorem dX8_add_34 : decode cX8_add 34 = .ok (.isub, 1) := by decide +kernel
theorem dX8_add_35 : decode cX8_add 35 = .ok (.ireturn, 1) := by decide +kernel
theorem dX8_size_0 : decode cX8_size 0 = .ok (.aload_n 0, 1) := by decide +kernel
theorem dX8_size_1 : decode cX8_size 1 = .ok (.getfield 24, 3) := by decide +kernel
theorem dX8_size_4 : decode cX8_size 4 = .ok (.ireturn, 1) := by decide +kernel
theorem dX8_at_0 : decode cX8_at 0 = .ok (.iload_n 1, 1) := by decide +kernel
theorem dX8_at_1 : decode cX8_at 1 = .ok (.ifCond .lt 11, 3) := by decide +kernel
theorem dX8_at_4 : decode cX8_at 4 = .ok (.iload_n 1, 1) := by decide +kernel
theorem dX8_at_5 : decode cX8_at 5 = .ok (.aload_n 0, 1) := by decide +kernel
theorem dX8_at_6 : decode cX8_at 6 = .ok (.getfield 24, 3) := by decide +kernel
theorem dX8_at_9 : decode cX8_at 9 = .ok (.if_icmp .lt 10, 3) := by decide +kernel
theorem dX8_at_12 : decode cX8_at 12 = .ok (.aload_n 0, 1) := by decide +kernel
theorem dX8_at_13 : decode cX8_at 13 = .ok (.getfield 20, 3) := by decide +kernel
theorem dX8_at_16 : decode cX8_at 16 = .ok (.goto 9, 3) := by decide +kernel
theorem dX8_at_19 : decode cX8_at 19 = .ok (.aload_n 0, 1) := by decide +kernel
theorem dX8_at_20 : decode cX8_at 20 = .ok (.getfield 11, 3) := by decide +kernel
theorem dX8_at_23 : decode cX8_at 23 = .ok (.iload_n 1, 1) := by decide +kernel
theorem dX8_at_24 : decode cX8_at 24 = .ok (.aaload, 1) := by decide +kernel
theorem dX8_at_25 : decode cX8_at 25 = .ok (.areturn, 1) := by decide +kernel
theorem dX9_init_0 : decode cX9_init 0 = .ok (.aload_n 0, 1) := by decide +kernel
theorem dX9_init_1 : decode cX9_init 1 = .ok (.invokespecial 3, 3) := by decide +kernel
theorem dX9_init_4 : decode cX9_init 4 = .ok (.aload_n 0, 1) := by decide +kernel
theorem dX9_init_5 : decode cX9_init 5 = .ok (.bipush 64, 2) := by decide +kernel
theorem dX9_init_7 : decode cX9_init 7 = .ok (.newarray .int, 2) := by decide +kernel
theorem dX9_init_9 : decode cX9_init 9 = .ok (.putfield 9, 3) := by decide +kernel
theorem dX9_init_12 : decode cX9_init 12 = .ok (.aload_n 0, 1) := by decide +kernel
theorem dX9_init_13 : decode cX9_init 13 = .ok (.bipush 8, 2) := by decide +kernel
theorem dX9_init_15 : decode cX9_init 15 = .ok (.newarray .int, 2) := by decide +kernel
theorem dX9_init_17 : decode cX9_init 17 = .ok (.dup, 1) := by decide +kernel
theorem dX9_init_18 : decode cX9_init 18 = .ok (.iconst 0, 1) := by decide +kernel
theorem dX9_init_19 : decode cX9_init 19 = .ok (.iconst 1, 1) := by decide +kernel
theorem dX9_init_20 : decode cX9_init 20 = .ok (.iastore, 1) := by decide +kernel
theorem dX9_init_21 : decode cX9_init 21 = .ok (.dup, 1) := by decide +kernel
theorem dX9_init_22 : decode cX9_init 22 = .ok (.iconst 1, 1) := by decide +kernel
theorem dX9_init_23 : decode cX9_init 23 = .ok (.iconst 1, 1) := by decide +kernel
theorem dX9_init_24 : decode cX9_init 24 = .ok (.iastore, 1) := by decide +kernel
theorem dX9_init_25 : decode cX9_init 25 = .ok (.dup, 1) := by decide +kernel
theorem dX9_init_26 : decode cX9_init 26 = .ok (.iconst 2, 1) := by decide +kernel
theorem dX9_init_27 : decode cX9_init 27 = .ok (.iconst 1, 1) := by decide +kernel
theorem dX9_init_28 : decode cX9_init 28 = .ok (.iastore, 1) := by decide +kernel
theorem dX9_init_29 : decode cX9_init 29 = .ok (.dup, 1) := by decide +kernel
theorem dX9_init_30 : decode cX9_init 30 = .ok (.iconst 3, 1) := by decide +kernel
theorem dX9_init_31 : decode cX9_init 31 = .ok (.iconst 1, 1) := by decide +kernel
theorem dX9_init_32 : decode cX9_init 32 = .ok (.iastore, 1) := by decide +kernel
theorem dX9_init_33 : decode cX9_init 33 = .ok (.dup, 1) := by decide +kernel
theorem dX9_init_34 : decode cX9_init 34 = .ok (.iconst 4, 1) := by decide +kernel
theorem dX9_init_35 : decode cX9_init 35 = .ok (.iconst 1, 1) := by decide +kernel
theorem dX9_init_36 : decode cX9_init 36 = .ok (.iastore, 1) := by decide +kernel
theorem dX9_init_37 : decode cX9_init 37 = .ok (.dup, 1) := by decide +kernel
theorem dX9_init_38 : decode cX9_init 38 = .ok (.iconst 5, 1) := by decide +kernel
theorem dX9_init_39 : decode cX9_init 39 = .ok (.iconst 1, 1) := by decide +kernel
theorem dX9_init_40 : decode cX9_init 40 = .ok (.iastore, 1) := by decide +kernel
theorem dX9_init_41 : decode cX9_init 41 = .ok (.dup, 1) := by decide +kernel
theorem dX9_init_42 : decode cX9_init 42 = .ok (.bipush 6, 2) := by decide +kernel
theorem dX9_init_44 : decode cX9_init 44 = .ok (.iconst 1, 1) := by decide +kernel
theorem dX9_init_45 : decode cX9_init 45 = .ok (.iastore, 1) := by decide +kernel
theorem dX9_init_46 : decode cX9_init 46 = .ok (.dup, 1) := by decide +kernel
theorem dX9_init_47 : decode cX9_init 47 = .ok (.bipush 7, 2) := by decide +kernel
theorem dX9_init_49 : decode cX9_init 49 = .ok (.iconst 1, 1) := by decide +kernel
theorem dX9_init_50 : decode cX9_init 50 = .ok (.iastore, 1) := by decide +kernel
theorem dX9_init_51 : decode cX9_init 51 = .ok (.putfield 15, 3) := by decide +kernel
theorem dX9_init_54 : decode cX9_init 54 = .ok (.return_, 1) := by decide +kernel
theorem dX9_tell_0 : decode cX9_tell 0 = .ok (.iload_n 1, 1) := by decide +kernel
theorem dX9_tell_1 : decode cX9_tell 1 = .ok (.invokestatic 18, 3) := by decide +kernel
theorem dX9_tell_4 : decode cX9_tell 4 = .ok (.ifCond .eq 10, 3) := by decide +kernel
theorem dX9_tell_7 : decode cX9_tell 7 = .ok (.aload_n 0, 1) := by decide +kernel
theorem dX9_tell_8 : decode cX9_tell 8 = .ok (.getfield 9, 3) := by decide +kernel
theorem dX9_tell_11 : decode cX9_tell 11 = .ok (.iload_n 1, 1) := by decide +kernel
theorem dX9_tell_12 : decode cX9_tell 12 = .ok (.iload_n 2, 1) := by decide +kernel
theorem dX9_tell_13 : decode cX9_tell 13 = .ok (.iastore, 1) := by decide +kernel
theorem dX9_tell_14 : decode cX9_tell 14 = .ok (.return_, 1) := by decide +kernel
theorem dX9_delay_0 : decode cX9_delay 0 = .ok (.iload_n 1, 1) := by decide +kernel
theorem dX9_delay_1 : decode cX9_delay 1 = .ok (.ifCond .lt 16, 3) := by decide +kernel
theorem dX9_delay_4 : decode cX9_delay 4 = .ok (.iload_n 1, 1) := by decide +kernel
theorem dX9_delay_5 : decode cX9_delay 5 = .ok (.bipush 8, 2) := by decide +kernel
theorem dX9_delay_7 : decode cX9_delay 7 = .ok (.if_icmp .ge 10, 3) := by decide +kernel
theorem dX9_delay_10 : decode cX9_delay 10 = .ok (.aload_n 0, 1) := by decide +kernel
theorem dX9_delay_11 : decode cX9_delay 11 = .ok (.getfield 15, 3) := by decide +kernel
theorem dX9_delay_14 : decode cX9_delay 14 = .ok (.iload_n 1, 1) := by decide +kernel
theorem dX9_delay_15 : decode cX9_delay 15 = .ok (.iload_n 2, 1) := by decide +kernel
theorem dX9_delay_16 : decode cX9_delay 16 = .ok (.iastore, 1) := by decide +kernel
theorem dX9_delay_17 : decode cX9_delay 17 = .ok (.return_, 1) := by decide +kernel
theorem dX9_delayOf_0 : decode cX9_delayOf 0 = .ok (.aload_n 0, 1) := by decide +kernel
theorem dX9_delayOf_1 : decode cX9_delayOf 1 = .ok (.getfield 15, 3) := by decide +kernel
theorem dX9_delayOf_4 : decode cX9_delayOf 4 = .ok (.iload_n 1, 1) := by decide +kernel
theorem dX9_delayOf_5 : decode cX9_delayOf 5 = .ok (.bipush 8, 2) := by decide +kernel
theorem dX9_delayOf_7 : decode cX9_delayOf 7 = .ok (.invokestatic 22, 3) := by decide +kernel
theorem dX9_delayOf_10 : decode cX9_delayOf 10 = .ok (.iaload, 1) := by decide +kernel
theorem dX9_delayOf_11 : decode cX9_delayOf 11 = .ok (.ireturn, 1) := by decide +kernel
theorem dX9_fill_0 : decode cX9_fill 0 = .ok (.aload_n 0, 1) := by decide +kernel
theorem dX9_fill_1 : decode cX9_fill 1 = .ok (.getfield 9, 3) := by decide +kernel
theorem dX9_fill_4 : decode cX9_fill 4 = .ok (.iconst 0, 1) := by decide +kernel
theorem dX9_fill_5 : decode cX9_fill 5 = .ok (.aload_n 1, 1) := by decide +kernel
theorem dX9_fill_6 : decode cX9_fill 6 = .ok (.iconst 0, 1) := by decide +kernel
theorem dX9_fill_7 : decode cX9_fill 7 = .ok (.bipush 64, 2) := by decide +kernel
theorem dX9_fill_9 : decode cX9_fill 9 = .ok (.invokestatic 28, 3) := by decide +kernel
theorem dX9_fill_12 : decode cX9_fill 12 = .ok (.return_, 1) := by decide +kernel
theorem dX10_init_0 : decode cX10_init 0 = .ok (.aload_n 0, 1) := by decide +kernel
theorem dX10_init_1 : decode cX10_init 1 = .ok (.invokespecial 1, 3) := by decide +kernel
theorem dX10_init_4 : decode cX10_init 4 = .ok (.aload_n 0, 1) := by decide +kernel
theorem dX10_init_5 : decode cX10_init 5 = .ok (.bipush 30, 2) := by decide +kernel
theorem dX10_init_7 : decode cX10_init 7 = .ok (.newarray .int, 2) := by decide +kernel
theorem dX10_init_9 : decode cX10_init 9 = .ok (.putfield 9, 3) := by decide +kernel
theorem dX10_init_12 : decode cX10_init 12 = .ok (.aload_n 0, 1) := by decide +kernel
theorem dX10_init_13 : decode cX10_init 13 = .ok (.new 13, 3) := by decide +kernel
theorem dX10_init_16 : decode cX10_init 16 = .ok (.dup, 1) := by decide +kernel
theorem dX10_init_17 : decode cX10_init 17 = .ok (.invokespecial 15, 3) := by decide +kernel
theorem dX10_init_20 : decode cX10_init 20 = .ok (.putfield 16, 3) := by decide +kernel
theorem dX10_init_23 : decode cX10_init 23 = .ok (.aload_n 0, 1) := by decide +kernel
theorem dX10_init_24 : decode cX10_init 24 = .ok (.new 20, 3) := by decide +kernel
theorem dX10_init_27 : decode cX10_init 27 = .ok (.dup, 1) := by decide +kernel
theorem dX10_init_28 : decode cX10_init 28 = .ok (.invokespecial 22, 3) := by decide +kernel
theorem dX10_init_31 : decode cX10_init 31 = .ok (.putfield 23, 3) := by decide +kernel
theorem dX10_init_34 : decode cX10_init 34 = .ok (.aload_n 0, 1) := by decide +kernel
theorem dX10_init_35 : decode cX10_init 35 = .ok (.new 27, 3) := by decide +kernel
theorem dX10_init_38 : decode cX10_init 38 = .ok (.dup, 1) := by decide +kernel
theorem dX10_init_39 : decode cX10_init 39 = .ok (.invokespecial 29, 3) := by decide +kernel
theorem dX10_init_42 : decode cX10_init 42 = .ok (.putfield 30, 3) := by decide +kernel
theorem dX10_init_45 : decode cX10_init 45 = .ok (.aload_n 0, 1) := by decide +kernel
theorem dX10_init_46 : decode cX10_init 46 = .ok (.new 34, 3) := by decide +kernel
theorem dX10_init_49 : decode cX10_init 49 = .ok (.dup, 1) := by decide +kernel
theorem dX10_init_50 : decode cX10_init 50 = .ok (.invokespecial 36, 3) := by decide +kernel
theorem dX10_init_53 : decode cX10_init 53 = .ok (.putfield 37, 3) := by decide +kernel
theorem dX10_init_56 : decode cX10_init 56 = .ok (.aload_n 0, 1) := by decide +kernel
theorem dX10_init_57 : decode cX10_init 57 = .ok (.new 41, 3) := by decide +kernel
theorem dX10_init_60 : decode cX10_init 60 = .ok (.dup, 1) := by decide +kernel
theorem dX10_init_61 : decode cX10_init 61 = .ok (.invokespecial 43, 3) := by decide +kernel
theorem dX10_init_64 : decode cX10_init 64 = .ok (.putfield 44, 3) := by decide +kernel
theorem dX10_init_67 : decode cX10_init 67 = .ok (.aload_n 0, 1) := by decide +kernel
theorem dX10_init_68 : decode cX10_init 68 = .ok (.new 48, 3) := by decide +kernel
theorem dX10_init_71 : decode cX10_init 71 = .ok (.dup, 1) := by decide +kernel
theorem dX10_init_72 : decode cX10_init 72 = .ok (.aload_n 0, 1) := by decide +kernel
theorem dX10_init_73 : decode cX10_init 73 = .ok (.getfield 23, 3) := by decide +kernel
theorem dX10_init_76 : decode cX10_init 76 = .ok (.aload_n 0, 1) := by decide +kernel
theorem dX10_init_77 : decode cX10_init 77 = .ok (.getfield 30, 3) := by decide +kernel
theorem dX10_init_80 : decode cX10_init 80 = .ok (.aload_n 0, 1) := by decide +kernel
theorem dX10_init_81 : decode cX10_init 81 = .ok (.getfield 37, 3) := by decide +kernel
theorem dX10_init_84 : decode cX10_init 84 = .ok (.aload_n 0, 1) := by decide +kernel
theorem dX10_init_85 : decode cX10_init 85 = .ok (.getfield 44, 3) := by decide +kernel
theorem dX10_init_88 : decode cX10_init 88 = .ok (.invokespecial 50, 3) := by decide +kernel
theorem dX10_init_91 : decode cX10_init 91 = .ok (.putfield 53, 3) := by decide +kernel
theorem dX10_init_94 : decode cX10_init 94 = .ok (.aload_n 0, 1) := by decide +kernel
theorem dX10_init_95 : decode cX10_init 95 = .ok (.new 57, 3) := by decide +kernel
theorem dX10_init_98 : decode cX10_init 98 = .ok (.dup, 1) := by decide +kernel
theorem dX10_init_99 : decode cX10_init 99 = .ok (.aload_n 0, 1) := by decide +kernel
theorem dX10_init_100 : decode cX10_init 100 = .ok (.getfield 30, 3) := by decide +kernel
theorem dX10_init_103 : decode cX10_init 103 = .ok (.aload_n 0, 1) := by decide +kernel
theorem dX10_init_104 : decode cX10_init 104 = .ok (.getfield 37, 3) := by decide +kernel
theorem dX10_init_107 : decode cX10_init 107 = .ok (.invokespecial 59, 3) := by decide +kernel
theorem dX10_init_110 : decode cX10_init 110 = .ok (.putfield 62, 3) := by decide +kernel
theorem dX10_init_113 : decode cX10_init 113 = .ok (.return_, 1) := by decide +kernel
theorem dX10_unit_0 : decode cX10_unit 0 = .ok (.iload_n 1, 1) := by decide +kernel
theorem dX10_unit_1 : decode cX10_unit 1 = .ok (.bipush 32, 2) := by decide +kernel
theorem dX10_unit_3 : decode cX10_unit 3 = .ok (.if_icmp .lt 18, 3) := by decide +kernel
theorem dX10_unit_6 : decode cX10_unit 6 = .ok (.iload_n 1, 1) := by decide +kernel
theorem dX10_unit_7 : decode cX10_unit 7 = .ok (.bipush 126, 2) := by decide +kernel
theorem dX10_unit_9 : decode cX10_unit 9 = .ok (.if_icmp .gt 12, 3) := by decide +kernel
theorem dX10_unit_12 : decode cX10_unit 12 = .ok (.aload_n 0, 1) := by decide +kernel
theorem dX10_unit_13 : decode cX10_unit 13 = .ok (.getfield 66, 3) := by decide +kernel
theorem dX10_unit_16 : decode cX10_unit 16 = .ok (.bipush 30, 2) := by decide +kernel
theorem dX10_unit_18 : decode cX10_unit 18 = .ok (.if_icmp .lt 5, 3) := by decide +kernel
theorem dX10_unit_21 : decode cX10_unit 21 = .ok (.iconst 0, 1) := by decide +kernel
theorem dX10_unit_22 : decode cX10_unit 22 = .ok (.ireturn, 1) := by decide +kernel
theorem dX10_unit_23 : decode cX10_unit 23 = .ok (.aload_n 0, 1) := by decide +kernel
theorem dX10_unit_24 : decode cX10_unit 24 = .ok (.getfield 9, 3) := by decide +kernel
theorem dX10_unit_27 : decode cX10_unit 27 = .ok (.aload_n 0, 1) := by decide +kernel
theorem dX10_unit_28 : decode cX10_unit 28 = .ok (.getfield 66, 3) := by decide +kernel
theorem dX10_unit_31 : decode cX10_unit 31 = .ok (.iload_n 1, 1) := by decide +kernel
theorem dX10_unit_32 : decode cX10_unit 32 = .ok (.iastore, 1) := by decide +kernel
theorem dX10_unit_33 : decode cX10_unit 33 = .ok (.aload_n 0, 1) := by decide +kernel
theorem dX10_unit_34 : decode cX10_unit 34 = .ok (.dup, 1) := by decide +kernel
theorem dX10_unit_35 : decode cX10_unit 35 = .ok (.getfield 66, 3) := by decide +kernel
theorem dX10_unit_38 : decode cX10_unit 38 = .ok (.iconst 1, 1) := by decide +kernel
theorem dX10_unit_39 : decode cX10_unit 39 = .ok (.iadd, 1) := by decide +kernel
theorem dX10_unit_40 : decode cX10_unit 40 = .ok (.putfield 66, 3) := by decide +kernel
theorem dX10_unit_43 : decode cX10_unit 43 = .ok (.iconst 1, 1) := by decide +kernel
theorem dX10_unit_44 : decode cX10_unit 44 = .ok (.ireturn, 1) := by decide +kernel
theorem dX10_line_0 : decode cX10_line 0 = .ok (.aload_n 0, 1) := by decide +kernel
theorem dX10_line_1 : decode cX10_line 1 = .ok (.getfield 16, 3) := by decide +kernel
theorem dX10_line_4 : decode cX10_line 4 = .ok (.aload_n 0, 1) := by decide +kernel
theorem dX10_line_5 : decode cX10_line 5 = .ok (.getfield 9, 3) := by decide +kernel
theorem dX10_line_8 : decode cX10_line 8 = .ok (.aload_n 0, 1) := by decide +kernel
theorem dX10_line_9 : decode cX10_line 9 = .ok (.getfield 66, 3) := by decide +kernel
theorem dX10_line_12 : decode cX10_line 12 = .ok (.invokevirtual 70, 3) := by decide +kernel
theorem dX10_line_15 : decode cX10_line 15 = .ok (.istore_n 1, 1) := by decide +kernel
theorem dX10_line_16 : decode cX10_line 16 = .ok (.aload_n 0, 1) := by decide +kernel
theorem dX10_line_17 : decode cX10_line 17 = .ok (.iconst 0, 1) := by decide +kernel
theorem dX10_line_18 : decode cX10_line 18 = .ok (.putfield 66, 3) := by decide +kernel
theorem dX10_line_21 : decode cX10_line 21 = .ok (.iload_n 1, 1) := by decide +kernel
theorem dX10_line_22 : decode cX10_line 22 = .ok (.iconst (-1), 1) := by decide +kernel
theorem dX10_line_23 : decode cX10_line 23 = .ok (.if_icmp .eq 7, 3) := by decide +kernel
theorem dX10_line_26 : decode cX10_line 26 = .ok (.iconst (-1), 1) := by decide +kernel
theorem dX10_line_27 : decode cX10_line 27 = .ok (.iload_n 1, 1) := by decide +kernel
theorem dX10_line_28 : decode cX10_line 28 = .ok (.isub, 1) := by decide +kernel
theorem dX10_line_29 : decode cX10_line 29 = .ok (.ireturn, 1) := by decide +kernel
theorem dX10_line_30 : decode cX10_line 30 = .ok (.aload_n 0, 1) := by decide +kernel
theorem dX10_line_31 : decode cX10_line 31 = .ok (.getfield 16, 3) := by decide +kernel
theorem dX10_line_34 : decode cX10_line 34 = .ok (.aload_n 0, 1) := by decide +kernel
theorem dX10_line_35 : decode cX10_line 35 = .ok (.getfield 23, 3) := by decide +kernel
theorem dX10_line_38 : decode cX10_line 38 = .ok (.invokevirtual 74, 3) := by decide +kernel
theorem dX10_line_41 : decode cX10_line 41 = .ok (.aload_n 0, 1) := by decide +kernel
theorem dX10_line_42 : decode cX10_line 42 = .ok (.getfield 53, 3) := by decide +kernel
theorem dX10_line_45 : decode cX10_line 45 = .ok (.invokevirtual 78, 3) := by decide +kernel
theorem dX10_line_48 : decode cX10_line 48 = .ok (.aload_n 0, 1) := by decide +kernel
theorem dX10_line_49 : decode cX10_line 49 = .ok (.getfield 23, 3) := by decide +kernel
theorem dX10_line_52 : decode cX10_line 52 = .ok (.invokevirtual 81, 3) := by decide +kernel
theorem dX10_line_55 : decode cX10_line 55 = .ok (.ireturn, 1) := by decide +kernel
theorem dX10_code_0 : decode cX10_code 0 = .ok (.iload_n 1, 1) := by decide +kernel
theorem dX10_code_1 : decode cX10_code 1 = .ok (.ifCond .lt 19, 3) := by decide +kernel
theorem dX10_code_4 : decode cX10_code 4 = .ok (.iload_n 1, 1) := by decide +kernel
theorem dX10_code_5 : decode cX10_code 5 = .ok (.bipush 9, 2) := by decide +kernel
theorem dX10_code_7 : decode cX10_code 7 = .ok (.if_icmp .gt 13, 3) := by decide +kernel
theorem dX10_code_10 : decode cX10_code 10 = .ok (.aload_n 0, 1) := by decide +kernel
theorem dX10_code_11 : decode cX10_code 11 = .ok (.getfield 30, 3) := by decide +kernel
theorem dX10_code_14 : decode cX10_code 14 = .ok (.invokevirtual 85, 3) := by decide +kernel
theorem dX10_code_17 : decode cX10_code 17 = .ok (.ifCond .eq 5, 3) := by decide +kernel
theorem dX10_code_20 : decode cX10_code 20 = .ok (.iconst (-1), 1) := by decide +kernel
theorem dX10_code_21 : decode cX10_code 21 = .ok (.ireturn, 1) := by decide +kernel
theorem dX10_code_22 : decode cX10_code 22 = .ok (.iload_n 2, 1) := by decide +kernel
theorem dX10_code_23 : decode cX10_code 23 = .ok (.invokestatic 89, 3) := by decide +kernel
theorem dX10_code_26 : decode cX10_code 26 = .ok (.ifCond .eq 18, 3) := by decide +kernel
theorem dX10_code_29 : decode cX10_code 29 = .ok (.iload_n 3, 1) := by decide +kernel
theorem dX10_code_30 : decode cX10_code 30 = .ok (.invokestatic 89, 3) := by decide +kernel
theorem dX10_code_33 : decode cX10_code 33 = .ok (.ifCond .eq 11, 3) := by decide +kernel
theorem dX10_code_36 : decode cX10_code 36 = .ok (.iload 4, 2) := by decide +kernel
theorem dX10_code_38 : decode cX10_code 38 = .ok (.invokestatic 89, 3) := by decide +kernel
theorem dX10_code_41 : decode cX10_code 41 = .ok (.ifCond .ne 5, 3) := by decide +kernel
theorem dX10_code_44 : decode cX10_code 44 = .ok (.iconst (-1), 1) := by decide +kernel
theorem dX10_code_45 : decode cX10_code 45 = .ok (.ireturn, 1) := by decide +kernel
theorem dX10_code_46 : decode cX10_code 46 = .ok (.aload_n 0, 1) := by decide +kernel
theorem dX10_code_47 : decode cX10_code 47 = .ok (.getfield 30, 3) := by decide +kernel
theorem dX10_code_50 : decode cX10_code 50 = .ok (.new 93, 3) := by decide +kernel
theorem dX10_code_53 : decode cX10_code 53 = .ok (.dup, 1) := by decide +kernel
theorem dX10_code_54 : decode cX10_code 54 = .ok (.iload_n 1, 1) := by decide +kernel
theorem dX10_code_55 : decode cX10_code 55 = .ok (.iload_n 2, 1) := by decide +kernel
theorem dX10_code_56 : decode cX10_code 56 = .ok (.iload_n 3, 1) := by decide +kernel
theorem dX10_code_57 : decode cX10_code 57 = .ok (.iload 4, 2) := by decide +kernel
theorem dX10_code_59 : decode cX10_code 59 = .ok (.iload 5, 2) := by decide +kernel
theorem dX10_code_61 : decode cX10_code 61 = .ok (.invokespecial 95, 3) := by decide +kernel
theorem dX10_code_64 : decode cX10_code 64 = .ok (.invokevirtual 98, 3) := by decide +kernel
theorem dX10_code_67 : decode cX10_code 67 = .ok (.istore 6, 2) := by decide +kernel
theorem dX10_code_69 : decode cX10_code 69 = .ok (.aload_n 0, 1) := by decide +kernel
theorem dX10_code_70 : decode cX10_code 70 = .ok (.getfield 53, 3) := by decide +kernel
theorem dX10_code_73 : decode cX10_code 73 = .ok (.invokevirtual 78, 3) := by decide +kernel
theorem dX10_code_76 : decode cX10_code 76 = .ok (.iload 6, 2) := by decide +kernel
theorem dX10_code_78 : decode cX10_code 78 = .ok (.ireturn, 1) := by decide +kernel
theorem dX10_memory_0 : decode cX10_memory 0 = .ok (.iload_n 1, 1) := by decide +kernel
theorem dX10_memory_1 : decode cX10_memory 1 = .ok (.invokestatic 102, 3) := by decide +kernel
theorem dX10_memory_4 : decode cX10_memory 4 = .ok (.ifCond .ne 5, 3) := by decide +kernel
theorem dX10_memory_7 : decode cX10_memory 7 = .ok (.iconst 0, 1) := by decide +kernel
theorem dX10_memory_8 : decode cX10_memory 8 = .ok (.ireturn, 1) := by decide +kernel
theorem dX10_memory_9 : decode cX10_memory 9 = .ok (.aload_n 0, 1) := by decide +kernel
theorem dX10_memory_10 : decode cX10_memory 10 = .ok (.getfield 37, 3) := by decide +kernel
theorem dX10_memory_13 : decode cX10_memory 13 = .ok (.iload_n 1, 1) := by decide +kernel
theorem dX10_memory_14 : decode cX10_memory 14 = .ok (.iload_n 2, 1) := by decide +kernel
theorem dX10_memory_15 : decode cX10_memory 15 = .ok (.invokevirtual 105, 3) := by decide +kernel
theorem dX10_memory_18 : decode cX10_memory 18 = .ok (.aload_n 0, 1) := by decide +kernel
theorem dX10_memory_19 : decode cX10_memory 19 = .ok (.getfield 53, 3) := by decide +kernel
theorem dX10_memory_22 : decode cX10_memory 22 = .ok (.invokevirtual 78, 3) := by decide +kernel
theorem dX10_memory_25 : decode cX10_memory 25 = .ok (.iconst 1, 1) := by decide +kernel
theorem dX10_memory_26 : decode cX10_memory 26 = .ok (.ireturn, 1) := by decide +kernel
theorem dX10_latency_0 : decode cX10_latency 0 = .ok (.iload_n 1, 1) := by decide +kernel
theorem dX10_latency_1 : decode cX10_latency 1 = .ok (.ifCond .lt 20, 3) := by decide +kernel
theorem dX10_latency_4 : decode cX10_latency 4 = .ok (.iload_n 1, 1) := by decide +kernel
theorem dX10_latency_5 : decode cX10_latency 5 = .ok (.bipush 8, 2) := by decide +kernel
theorem dX10_latency_7 : decode cX10_latency 7 = .ok (.if_icmp .ge 14, 3) := by decide +kernel
theorem dX10_latency_10 : decode cX10_latency 10 = .ok (.iload_n 2, 1) := by decide +kernel
theorem dX10_latency_11 : decode cX10_latency 11 = .ok (.iconst 1, 1) := by decide +kernel
theorem dX10_latency_12 : decode cX10_latency 12 = .ok (.if_icmp .lt 9, 3) := by decide +kernel
theorem dX10_latency_15 : decode cX10_latency 15 = .ok (.iload_n 2, 1) := by decide +kernel
theorem dX10_latency_16 : decode cX10_latency 16 = .ok (.bipush 16, 2) := by decide +kernel
theorem dX10_latency_18 : decode cX10_latency 18 = .ok (.if_icmp .le 5, 3) := by decide +kernel
theorem dX10_latency_21 : decode cX10_latency 21 = .ok (.iconst 0, 1) := by decide +kernel
theorem dX10_latency_22 : decode cX10_latency 22 = .ok (.ireturn, 1) := by decide +kernel
theorem dX10_latency_23 : decode cX10_latency 23 = .ok (.aload_n 0, 1) := by decide +kernel
theorem dX10_latency_24 : decode cX10_latency 24 = .ok (.getfield 37, 3) := by decide +kernel
theorem dX10_latency_27 : decode cX10_latency 27 = .ok (.iload_n 1, 1) := by decide +kernel
theorem dX10_latency_28 : decode cX10_latency 28 = .ok (.iload_n 2, 1) := by decide +kernel
theorem dX10_latency_29 : decode cX10_latency 29 = .ok (.invokevirtual 109, 3) := by decide +kernel
theorem dX10_latency_32 : decode cX10_latency 32 = .ok (.aload_n 0, 1) := by decide +kernel
theorem dX10_latency_33 : decode cX10_latency 33 = .ok (.getfield 53, 3) := by decide +kernel
theorem dX10_latency_36 : decode cX10_latency 36 = .ok (.invokevirtual 78, 3) := by decide +kernel
theorem dX10_latency_39 : decode cX10_latency 39 = .ok (.iconst 1, 1) := by decide +kernel
theorem dX10_latency_40 : decode cX10_latency 40 = .ok (.ireturn, 1) := by decide +kernel
theorem dX10_run_0 : decode cX10_run 0 = .ok (.iload_n 1, 1) := by decide +kernel
theorem dX10_run_1 : decode cX10_run 1 = .ok (.iconst 1, 1) := by decide +kernel
theorem dX10_run_2 : decode cX10_run 2 = .ok (.if_icmp .lt 10, 3) := by decide +kernel
theorem dX10_run_5 : decode cX10_run 5 = .ok (.iload_n 1, 1) := by decide +kernel
theorem dX10_run_6 : decode cX10_run 6 = .ok (.sipush 3000, 3) := by decide +kernel
theorem dX10_run_9 : decode cX10_run 9 = .ok (.if_icmp .le 5, 3) := by decide +kernel
theorem dX10_run_12 : decode cX10_run 12 = .ok (.iconst (-1), 1) := by decide +kernel
theorem dX10_run_13 : decode cX10_run 13 = .ok (.ireturn, 1) := by decide +kernel
theorem dX10_run_14 : decode cX10_run 14 = .ok (.aload_n 0, 1) := by decide +kernel
theorem dX10_run_15 : decode cX10_run 15 = .ok (.getfield 53, 3) := by decide +kernel
theorem dX10_run_18 : decode cX10_run 18 = .ok (.iload_n 1, 1) := by decide +kernel
theorem dX10_run_19 : decode cX10_run 19 = .ok (.invokevirtual 112, 3) := by decide +kernel
theorem dX10_run_22 : decode cX10_run 22 = .ok (.aload_n 0, 1) := by decide +kernel
theorem dX10_run_23 : decode cX10_run 23 = .ok (.getfield 53, 3) := by decide +kernel
theorem dX10_run_26 : decode cX10_run 26 = .ok (.invokevirtual 116, 3) := by decide +kernel
theorem dX10_run_29 : decode cX10_run 29 = .ok (.ireturn, 1) := by decide +kernel
theorem dX10_cycle_0 : decode cX10_cycle 0 = .ok (.aload_n 0, 1) := by decide +kernel
theorem dX10_cycle_1 : decode cX10_cycle 1 = .ok (.getfield 53, 3) := by decide +kernel
theorem dX10_cycle_4 : decode cX10_cycle 4 = .ok (.invokevirtual 116, 3) := by decide +kernel
theorem dX10_cycle_7 : decode cX10_cycle 7 = .ok (.ireturn, 1) := by decide +kernel
theorem dX10_ended_0 : decode cX10_ended 0 = .ok (.aload_n 0, 1) := by decide +kernel
theorem dX10_ended_1 : decode cX10_ended 1 = .ok (.getfield 53, 3) := by decide +kernel
theorem dX10_ended_4 : decode cX10_ended 4 = .ok (.invokevirtual 119, 3) := by decide +kernel
theorem dX10_ended_7 : decode cX10_ended 7 = .ok (.ireturn, 1) := by decide +kernel
theorem dX10_commits_0 : decode cX10_commits 0 = .ok (.aload_n 0, 1) := by decide +kernel
theorem dX10_commits_1 : decode cX10_commits 1 = .ok (.getfield 44, 3) := by decide +kernel
theorem dX10_commits_4 : decode cX10_commits 4 = .ok (.invokevirtual 122, 3) := by decide +kernel
theorem dX10_commits_7 : decode cX10_commits 7 = .ok (.ireturn, 1) := by decide +kernel
theorem dX10_commit_0 : decode cX10_commit 0 = .ok (.aload_n 0, 1) := by decide +kernel
theorem dX10_commit_1 : decode cX10_commit 1 = .ok (.getfield 44, 3) := by decide +kernel
theorem dX10_commit_4 : decode cX10_commit 4 = .ok (.iload_n 1, 1) := by decide +kernel
theorem dX10_commit_5 : decode cX10_commit 5 = .ok (.iload_n 2, 1) := by decide +kernel
theorem dX10_commit_6 : decode cX10_commit 6 = .ok (.invokevirtual 125, 3) := by decide +kernel
theorem dX10_commit_9 : decode cX10_commit 9 = .ok (.ireturn, 1) := by decide +kernel
theorem dX10_register_0 : decode cX10_register 0 = .ok (.iload_n 1, 1) := by decide +kernel
theorem dX10_register_1 : decode cX10_register 1 = .ok (.invokestatic 89, 3) := by decide +kernel
theorem dX10_register_4 : decode cX10_register 4 = .ok (.ifCond .eq 17, 3) := by decide +kernel
theorem dX10_register_7 : decode cX10_register 7 = .ok (.aload_n 0, 1) := by decide +kernel
theorem dX10_register_8 : decode cX10_register 8 = .ok (.getfield 53, 3) := by decide +kernel
theorem dX10_register_11 : decode cX10_register 11 = .ok (.invokevirtual 129, 3) := by decide +kernel
theorem dX10_register_14 : decode cX10_register 14 = .ok (.iload_n 1, 1) := by decide +kernel
theorem dX10_register_15 : decode cX10_register 15 = .ok (.invokevirtual 133, 3) := by decide +kernel
theorem dX10_register_18 : decode cX10_register 18 = .ok (.goto 4, 3) := by decide +kernel
theorem dX10_register_21 : decode cX10_register 21 = .ok (.iconst (-1), 1) := by decide +kernel
theorem dX10_register_22 : decode cX10_register 22 = .ok (.ireturn, 1) := by decide +kernel
theorem dX10_place_0 : decode cX10_place 0 = .ok (.iload_n 1, 1) := by decide +kernel
theorem dX10_place_1 : decode cX10_place 1 = .ok (.invokestatic 102, 3) := by decide +kernel
theorem dX10_place_4 : decode cX10_place 4 = .ok (.ifCond .eq 17, 3) := by decide +kernel
theorem dX10_place_7 : decode cX10_place 7 = .ok (.aload_n 0, 1) := by decide +kernel
theorem dX10_place_8 : decode cX10_place 8 = .ok (.getfield 53, 3) := by decide +kernel
theorem dX10_place_11 : decode cX10_place 11 = .ok (.invokevirtual 129, 3) := by decide +kernel
theorem dX10_place_14 : decode cX10_place 14 = .ok (.iload_n 1, 1) := by decide +kernel
theorem dX10_place_15 : decode cX10_place 15 = .ok (.invokevirtual 139, 3) := by decide +kernel
theorem dX10_place_18 : decode cX10_place 18 = .ok (.goto 4, 3) := by decide +kernel
theorem dX10_place_21 : decode cX10_place 21 = .ok (.iconst (-1), 1) := by decide +kernel
theorem dX10_place_22 : decode cX10_place 22 = .ok (.ireturn, 1) := by decide +kernel
theorem dX10_retired_0 : decode cX10_retired 0 = .ok (.aload_n 0, 1) := by decide +kernel
theorem dX10_retired_1 : decode cX10_retired 1 = .ok (.getfield 53, 3) := by decide +kernel
theorem dX10_retired_4 : decode cX10_retired 4 = .ok (.invokevirtual 142, 3) := by decide +kernel
theorem dX10_retired_7 : decode cX10_retired 7 = .ok (.ireturn, 1) := by decide +kernel
theorem dX10_faithful_0 : decode cX10_faithful 0 = .ok (.aload_n 0, 1) := by decide +kernel
theorem dX10_faithful_1 : decode cX10_faithful 1 = .ok (.getfield 62, 3) := by decide +kernel
theorem dX10_faithful_4 : decode cX10_faithful 4 = .ok (.aload_n 0, 1) := by decide +kernel
theorem dX10_faithful_5 : decode cX10_faithful 5 = .ok (.getfield 44, 3) := by decide +kernel
theorem dX10_faithful_8 : decode cX10_faithful 8 = .ok (.invokevirtual 145, 3) := by decide +kernel
theorem dX10_faithful_11 : decode cX10_faithful 11 = .ok (.ireturn, 1) := by decide +kernel
theorem dX10_told_0 : decode cX10_told 0 = .ok (.iload_n 1, 1) := by decide +kernel
theorem dX10_told_1 : decode cX10_told 1 = .ok (.tableswitch 48 0 2 #[27, 35, 43], 27) := by decide +kernel
theorem dX10_told_28 : decode cX10_told 28 = .ok (.aload_n 0, 1) := by decide +kernel
theorem dX10_told_29 : decode cX10_told 29 = .ok (.getfield 23, 3) := by decide +kernel
theorem dX10_told_32 : decode cX10_told 32 = .ok (.invokevirtual 81, 3) := by decide +kernel
theorem dX10_told_35 : decode cX10_told 35 = .ok (.ireturn, 1) := by decide +kernel
theorem dX10_told_36 : decode cX10_told 36 = .ok (.aload_n 0, 1) := by decide +kernel
theorem dX10_told_37 : decode cX10_told 37 = .ok (.getfield 30, 3) := by decide +kernel
theorem dX10_told_40 : decode cX10_told 40 = .ok (.invokevirtual 149, 3) := by decide +kernel
theorem dX10_told_43 : decode cX10_told 43 = .ok (.ireturn, 1) := by decide +kernel
theorem dX10_told_44 : decode cX10_told 44 = .ok (.aload_n 0, 1) := by decide +kernel
theorem dX10_told_45 : decode cX10_told 45 = .ok (.getfield 66, 3) := by decide +kernel
theorem dX10_told_48 : decode cX10_told 48 = .ok (.ireturn, 1) := by decide +kernel
theorem dX10_told_49 : decode cX10_told 49 = .ok (.iload_n 1, 1) := by decide +kernel
theorem dX10_told_50 : decode cX10_told 50 = .ok (.iconst 3, 1) := by decide +kernel
theorem dX10_told_51 : decode cX10_told 51 = .ok (.if_icmp .lt 9, 3) := by decide +kernel
theorem dX10_told_54 : decode cX10_told 54 = .ok (.iload_n 1, 1) := by decide +kernel
theorem dX10_told_55 : decode cX10_told 55 = .ok (.bipush 11, 2) := by decide +kernel
theorem dX10_told_57 : decode cX10_told 57 = .ok (.if_icmp .lt 7, 3) := by decide +kernel
theorem dX10_told_60 : decode cX10_told 60 = .ok (.iconst (-1), 1) := by decide +kernel
theorem dX10_told_61 : decode cX10_told 61 = .ok (.goto 13, 3) := by decide +kernel
theorem dX10_told_64 : decode cX10_told 64 = .ok (.aload_n 0, 1) := by decide +kernel
theorem dX10_told_65 : decode cX10_told 65 = .ok (.getfield 23, 3) := by decide +kernel
theorem dX10_told_68 : decode cX10_told 68 = .ok (.iload_n 1, 1) := by decide +kernel
theorem dX10_told_69 : decode cX10_told 69 = .ok (.iconst 3, 1) := by decide +kernel
theorem dX10_told_70 : decode cX10_told 70 = .ok (.isub, 1) := by decide +kernel
theorem dX10_told_71 : decode cX10_told 71 = .ok (.invokevirtual 152, 3) := by decide +kernel
theorem dX10_told_74 : decode cX10_told 74 = .ok (.ireturn, 1) := by decide +kernel
theorem dX10_isRegister_0 : decode cX10_isRegister 0 = .ok (.iload_n 0, 1) := by decide +kernel
theorem dX10_isRegister_1 : decode cX10_isRegister 1 = .ok (.ifCond .lt 13, 3) := by decide +kernel
theorem dX10_isRegister_4 : decode cX10_isRegister 4 = .ok (.iload_n 0, 1) := by decide +kernel
theorem dX10_isRegister_5 : decode cX10_isRegister 5 = .ok (.bipush 8, 2) := by decide +kernel
theorem dX10_isRegister_7 : decode cX10_isRegister 7 = .ok (.if_icmp .ge 7, 3) := by decide +kernel
theorem dX10_isRegister_10 : decode cX10_isRegister 10 = .ok (.iconst 1, 1) := by decide +kernel
theorem dX10_isRegister_11 : decode cX10_isRegister 11 = .ok (.goto 4, 3) := by decide +kernel
theorem dX10_isRegister_14 : decode cX10_isRegister 14 = .ok (.iconst 0, 1) := by decide +kernel
theorem dX10_isRegister_15 : decode cX10_isRegister 15 = .ok (.ireturn, 1) := by decide +kernel
theorem dX10_isPlace_0 : decode cX10_isPlace 0 = .ok (.iload_n 0, 1) := by decide +kernel
theorem dX10_isPlace_1 : decode cX10_isPlace 1 = .ok (.ifCond .lt 13, 3) := by decide +kernel
theorem dX10_isPlace_4 : decode cX10_isPlace 4 = .ok (.iload_n 0, 1) := by decide +kernel
theorem dX10_isPlace_5 : decode cX10_isPlace 5 = .ok (.bipush 64, 2) := by decide +kernel
theorem dX10_isPlace_7 : decode cX10_isPlace 7 = .ok (.if_icmp .ge 7, 3) := by decide +kernel
theorem dX10_isPlace_10 : decode cX10_isPlace 10 = .ok (.iconst 1, 1) := by decide +kernel
theorem dX10_isPlace_11 : decode cX10_isPlace 11 = .ok (.goto 4, 3) := by decide +kernel
theorem dX10_isPlace_14 : decode cX10_isPlace 14 = .ok (.iconst 0, 1) := by decide +kernel
theorem dX10_isPlace_15 : decode cX10_isPlace 15 = .ok (.ireturn, 1) := by decide +kernel
theorem dJ9_floorMod_7cf53_0 : decode cJ9_floorMod_7cf53 0 = .ok (.iload_n 0, 1) := by decide +kernel
theorem dJ9_floorMod_7cf53_1 : decode cJ9_floorMod_7cf53 1 = .ok (.iload_n 1, 1) := by decide +kernel
theorem dJ9_floorMod_7cf53_2 : decode cJ9_floorMod_7cf53 2 = .ok (.irem, 1) := by decide +kernel
theorem dJ9_floorMod_7cf53_3 : decode cJ9_floorMod_7cf53 3 = .ok (.istore_n 2, 1) := by decide +kernel
theorem dJ9_floorMod_7cf53_4 : decode cJ9_floorMod_7cf53 4 = .ok (.iload_n 0, 1) := by decide +kernel
theorem dJ9_floorMod_7cf53_5 : decode cJ9_floorMod_7cf53 5 = .ok (.iload_n 1, 1) := by decide +kernel
theorem dJ9_floorMod_7cf53_6 : decode cJ9_floorMod_7cf53 6 = .ok (.ixor, 1) := by decide +kernel
theorem dJ9_floorMod_7cf53_7 : decode cJ9_floorMod_7cf53 7 = .ok (.ifCond .ge 11, 3) := by decide +kernel
theorem dJ9_floorMod_7cf53_10 : decode cJ9_floorMod_7cf53 10 = .ok (.iload_n 2, 1) := by decide +kernel
theorem dJ9_floorMod_7cf53_11 : decode cJ9_floorMod_7cf53 11 = .ok (.ifCond .eq 7, 3) := by decide +kernel
theorem dJ9_floorMod_7cf53_14 : decode cJ9_floorMod_7cf53 14 = .ok (.iload_n 2, 1) := by decide +kernel
theorem dJ9_floorMod_7cf53_15 : decode cJ9_floorMod_7cf53 15 = .ok (.iload_n 1, 1) := by decide +kernel
theorem dJ9_floorMod_7cf53_16 : decode cJ9_floorMod_7cf53 16 = .ok (.iadd, 1) := by decide +kernel
theorem dJ9_floorMod_7cf53_17 : decode cJ9_floorMod_7cf53 17 = .ok (.ireturn, 1) := by decide +kernel
theorem dJ9_floorMod_7cf53_18 : decode cJ9_floorMod_7cf53 18 = .ok (.iload_n 2, 1) := by decide +kernel
theorem dJ9_floorMod_7cf53_19 : decode cJ9_floorMod_7cf53 19 = .ok (.ireturn, 1) := by decide +kernel
theorem dJ9_max_7cf53_0 : decode cJ9_max_7cf53 0 = .ok (.iload_n 0, 1) := by decide +kernel
theorem dJ9_max_7cf53_1 : decode cJ9_max_7cf53 1 = .ok (.iload_n 1, 1) := by decide +kernel
theorem dJ9_max_7cf53_2 : decode cJ9_max_7cf53 2 = .ok (.if_icmp .lt 7, 3) := by decide +kernel
theorem dJ9_max_7cf53_5 : decode cJ9_max_7cf53 5 = .ok (.iload_n 0, 1) := by decide +kernel
theorem dJ9_max_7cf53_6 : decode cJ9_max_7cf53 6 = .ok (.goto 4, 3) := by decide +kernel
theorem dJ9_max_7cf53_9 : decode cJ9_max_7cf53 9 = .ok (.iload_n 1, 1) := by decide +kernel
theorem dJ9_max_7cf53_10 : decode cJ9_max_7cf53 10 = .ok (.ireturn, 1) := by decide +kernel
theorem dJ0_length_8abf5_0 : decode cJ0_length_8abf5 0 = .ok (.aload_n 0, 1) := by decide +kernel
theorem dJ0_length_8abf5_1 : decode cJ0_length_8abf5 1 = .ok (.getfield 9, 3) := by decide +kernel
theorem dJ0_length_8abf5_4 : decode cJ0_length_8abf5 4 = .ok (.arraylength, 1) := by decide +kernel
theorem dJ0_length_8abf5_5 : decode cJ0_length_8abf5 5 = .ok (.aload_n 0, 1) := by decide +kernel
theorem dJ0_length_8abf5_6 : decode cJ0_length_8abf5 6 = .ok (.invokevirtual 335, 3) := by decide +kernel
theorem dJ0_length_8abf5_9 : decode cJ0_length_8abf5 9 = .ok (.ishr, 1) := by decide +kernel
theorem dJ0_length_8abf5_10 : decode cJ0_length_8abf5 10 = .ok (.ireturn, 1) := by decide +kernel
theorem dJ0_charAt_5068e_0 : decode cJ0_charAt_5068e 0 = .ok (.aload_n 0, 1) := by decide +kernel
theorem dJ0_charAt_5068e_1 : decode cJ0_charAt_5068e 1 = .ok (.invokevirtual 492, 3) := by decide +kernel
theorem dJ0_charAt_5068e_4 : decode cJ0_charAt_5068e 4 = .ok (.ifCond .eq 12, 3) := by decide +kernel
theorem dJ0_charAt_5068e_7 : decode cJ0_charAt_5068e 7 = .ok (.aload_n 0, 1) := by decide +kernel
theorem dJ0_charAt_5068e_8 : decode cJ0_charAt_5068e 8 = .ok (.getfield 9, 3) := by decide +kernel
theorem dJ0_charAt_5068e_11 : decode cJ0_charAt_5068e 11 = .ok (.iload_n 1, 1) := by decide +kernel
theorem dJ0_charAt_5068e_12 : decode cJ0_charAt_5068e 12 = .ok (.invokestatic 495, 3) := by decide +kernel
theorem dJ0_charAt_5068e_15 : decode cJ0_charAt_5068e 15 = .ok (.ireturn, 1) := by decide +kernel
theorem dJ0_charAt_5068e_16 : decode cJ0_charAt_5068e 16 = .ok (.aload_n 0, 1) := by decide +kernel
theorem dJ0_charAt_5068e_17 : decode cJ0_charAt_5068e 17 = .ok (.getfield 9, 3) := by decide +kernel
theorem dJ0_charAt_5068e_20 : decode cJ0_charAt_5068e 20 = .ok (.iload_n 1, 1) := by decide +kernel
theorem dJ0_charAt_5068e_21 : decode cJ0_charAt_5068e 21 = .ok (.invokestatic 498, 3) := by decide +kernel
theorem dJ0_charAt_5068e_24 : decode cJ0_charAt_5068e 24 = .ok (.ireturn, 1) := by decide +kernel
theorem dJ0_coder_7d493_0 : decode cJ0_coder_7d493 0 = .ok (.getstatic 38, 3) := by decide +kernel
theorem dJ0_coder_7d493_3 : decode cJ0_coder_7d493 3 = .ok (.ifCond .eq 10, 3) := by decide +kernel
theorem dJ0_coder_7d493_6 : decode cJ0_coder_7d493 6 = .ok (.aload_n 0, 1) := by decide +kernel
theorem dJ0_coder_7d493_7 : decode cJ0_coder_7d493 7 = .ok (.getfield 15, 3) := by decide +kernel
theorem dJ0_coder_7d493_10 : decode cJ0_coder_7d493 10 = .ok (.goto 4, 3) := by decide +kernel
theorem dJ0_coder_7d493_13 : decode cJ0_coder_7d493 13 = .ok (.iconst 1, 1) := by decide +kernel
theorem dJ0_coder_7d493_14 : decode cJ0_coder_7d493 14 = .ok (.ireturn, 1) := by decide +kernel
theorem dJ0_isLatin1_aae02_0 : decode cJ0_isLatin1_aae02 0 = .ok (.getstatic 38, 3) := by decide +kernel
theorem dJ0_isLatin1_aae02_3 : decode cJ0_isLatin1_aae02 3 = .ok (.ifCond .eq 14, 3) := by decide +kernel
theorem dJ0_isLatin1_aae02_6 : decode cJ0_isLatin1_aae02 6 = .ok (.aload_n 0, 1) := by decide +kernel
theorem dJ0_isLatin1_aae02_7 : decode cJ0_isLatin1_aae02 7 = .ok (.getfield 15, 3) := by decide +kernel
theorem dJ0_isLatin1_aae02_10 : decode cJ0_isLatin1_aae02 10 = .ok (.ifCond .ne 7, 3) := by decide +kernel
theorem dJ0_isLatin1_aae02_13 : decode cJ0_isLatin1_aae02 13 = .ok (.iconst 1, 1) := by decide +kernel
theorem dJ0_isLatin1_aae02_14 : decode cJ0_isLatin1_aae02 14 = .ok (.goto 4, 3) := by decide +kernel
theorem dJ0_isLatin1_aae02_17 : decode cJ0_isLatin1_aae02 17 = .ok (.iconst 0, 1) := by decide +kernel
theorem dJ0_isLatin1_aae02_18 : decode cJ0_isLatin1_aae02 18 = .ok (.ireturn, 1) := by decide +kernel
theorem dJ0_checkIndex_df160_0 : decode cJ0_checkIndex_df160 0 = .ok (.iload_n 0, 1) := by decide +kernel
theorem dJ0_checkIndex_df160_1 : decode cJ0_checkIndex_df160 1 = .ok (.iload_n 1, 1) := by decide +kernel
theorem dJ0_checkIndex_df160_2 : decode cJ0_checkIndex_df160 2 = .ok (.getstatic 1053, 3) := by decide +kernel
theorem dJ0_checkIndex_df160_5 : decode cJ0_checkIndex_df160 5 = .ok (.invokestatic 1059, 3) := by decide +kernel
theorem dJ0_checkIndex_df160_8 : decode cJ0_checkIndex_df160 8 = .ok (.pop, 1) := by decide +kernel
theorem dJ0_checkIndex_df160_9 : decode cJ0_checkIndex_df160 9 = .ok (.return_, 1) := by decide +kernel
theorem dJ1_charAt_3b067_0 : decode cJ1_charAt_3b067 0 = .ok (.iload_n 1, 1) := by decide +kernel
theorem dJ1_charAt_3b067_1 : decode cJ1_charAt_3b067 1 = .ok (.aload_n 0, 1) := by decide +kernel
theorem dJ1_charAt_3b067_2 : decode cJ1_charAt_3b067 2 = .ok (.arraylength, 1) := by decide +kernel
theorem dJ1_charAt_3b067_3 : decode cJ1_charAt_3b067 3 = .ok (.invokestatic 9, 3) := by decide +kernel
theorem dJ1_charAt_3b067_6 : decode cJ1_charAt_3b067 6 = .ok (.aload_n 0, 1) := by decide +kernel
theorem dJ1_charAt_3b067_7 : decode cJ1_charAt_3b067 7 = .ok (.iload_n 1, 1) := by decide +kernel
theorem dJ1_charAt_3b067_8 : decode cJ1_charAt_3b067 8 = .ok (.baload, 1) := by decide +kernel
theorem dJ1_charAt_3b067_9 : decode cJ1_charAt_3b067 9 = .ok (.sipush 255, 3) := by decide +kernel
theorem dJ1_charAt_3b067_12 : decode cJ1_charAt_3b067 12 = .ok (.iand, 1) := by decide +kernel
theorem dJ1_charAt_3b067_13 : decode cJ1_charAt_3b067 13 = .ok (.i2c, 1) := by decide +kernel
theorem dJ1_charAt_3b067_14 : decode cJ1_charAt_3b067 14 = .ok (.ireturn, 1) := by decide +kernel
theorem dJ2_getChar_3b067_0 : decode cJ2_getChar_3b067 0 = .ok (.getstatic 44, 3) := by decide +kernel
theorem dJ2_getChar_3b067_3 : decode cJ2_getChar_3b067 3 = .ok (.ifCond .ne 25, 3) := by decide +kernel
theorem dJ2_getChar_3b067_6 : decode cJ2_getChar_3b067 6 = .ok (.iload_n 1, 1) := by decide +kernel
theorem dJ2_getChar_3b067_7 : decode cJ2_getChar_3b067 7 = .ok (.ifCond .lt 11, 3) := by decide +kernel
theorem dJ2_getChar_3b067_10 : decode cJ2_getChar_3b067 10 = .ok (.iload_n 1, 1) := by decide +kernel
theorem dJ2_getChar_3b067_11 : decode cJ2_getChar_3b067 11 = .ok (.aload_n 0, 1) := by decide +kernel
theorem dJ2_getChar_3b067_12 : decode cJ2_getChar_3b067 12 = .ok (.invokestatic 48, 3) := by decide +kernel
theorem dJ2_getChar_3b067_15 : decode cJ2_getChar_3b067 15 = .ok (.if_icmp .lt 13, 3) := by decide +kernel
theorem dJ2_getChar_3b067_18 : decode cJ2_getChar_3b067 18 = .ok (.new 52, 3) := by decide +kernel
theorem dJ2_getChar_3b067_21 : decode cJ2_getChar_3b067 21 = .ok (.dup, 1) := by decide +kernel
theorem dJ2_getChar_3b067_22 : decode cJ2_getChar_3b067 22 = .ok (.ldc 54, 2) := by decide +kernel
theorem dJ2_getChar_3b067_24 : decode cJ2_getChar_3b067 24 = .ok (.invokespecial 56, 3) := by decide +kernel
theorem dJ2_getChar_3b067_27 : decode cJ2_getChar_3b067 27 = .ok (.athrow, 1) := by decide +kernel
theorem dJ2_getChar_3b067_28 : decode cJ2_getChar_3b067 28 = .ok (.iload_n 1, 1) := by decide +kernel
theorem dJ2_getChar_3b067_29 : decode cJ2_getChar_3b067 29 = .ok (.iconst 1, 1) := by decide +kernel
theorem dJ2_getChar_3b067_30 : decode cJ2_getChar_3b067 30 = .ok (.ishl, 1) := by decide +kernel
theorem dJ2_getChar_3b067_31 : decode cJ2_getChar_3b067 31 = .ok (.istore_n 1, 1) := by decide +kernel
theorem dJ2_getChar_3b067_32 : decode cJ2_getChar_3b067 32 = .ok (.aload_n 0, 1) := by decide +kernel
theorem dJ2_getChar_3b067_33 : decode cJ2_getChar_3b067 33 = .ok (.iload_n 1, 1) := by decide +kernel
theorem dJ2_getChar_3b067_34 : decode cJ2_getChar_3b067 34 = .ok (.iinc 1 1, 3) := by decide +kernel
theorem dJ2_getChar_3b067_37 : decode cJ2_getChar_3b067 37 = .ok (.baload, 1) := by decide +kernel
theorem dJ2_getChar_3b067_38 : decode cJ2_getChar_3b067 38 = .ok (.sipush 255, 3) := by decide +kernel
theorem dJ2_getChar_3b067_41 : decode cJ2_getChar_3b067 41 = .ok (.iand, 1) := by decide +kernel
theorem dJ2_getChar_3b067_42 : decode cJ2_getChar_3b067 42 = .ok (.getstatic 59, 3) := by decide +kernel
theorem dJ2_getChar_3b067_45 : decode cJ2_getChar_3b067 45 = .ok (.ishl, 1) := by decide +kernel
theorem dJ2_getChar_3b067_46 : decode cJ2_getChar_3b067 46 = .ok (.aload_n 0, 1) := by decide +kernel
theorem dJ2_getChar_3b067_47 : decode cJ2_getChar_3b067 47 = .ok (.iload_n 1, 1) := by decide +kernel
theorem dJ2_getChar_3b067_48 : decode cJ2_getChar_3b067 48 = .ok (.baload, 1) := by decide +kernel
theorem dJ2_getChar_3b067_49 : decode cJ2_getChar_3b067 49 = .ok (.sipush 255, 3) := by decide +kernel
theorem dJ2_getChar_3b067_52 : decode cJ2_getChar_3b067 52 = .ok (.iand, 1) := by decide +kernel
theorem dJ2_getChar_3b067_53 : decode cJ2_getChar_3b067 53 = .ok (.getstatic 63, 3) := by decide +kernel
theorem dJ2_getChar_3b067_56 : decode cJ2_getChar_3b067 56 = .ok (.ishl, 1) := by decide +kernel
theorem dJ2_getChar_3b067_57 : decode cJ2_getChar_3b067 57 = .ok (.ior, 1) := by decide +kernel
theorem dJ2_getChar_3b067_58 : decode cJ2_getChar_3b067 58 = .ok (.i2c, 1) := by decide +kernel
theorem dJ2_getChar_3b067_59 : decode cJ2_getChar_3b067 59 = .ok (.ireturn, 1) := by decide +kernel
theorem dJ2_length_9d52b_0 : decode cJ2_length_9d52b 0 = .ok (.aload_n 0, 1) := by decide +kernel
theorem dJ2_length_9d52b_1 : decode cJ2_length_9d52b 1 = .ok (.arraylength, 1) := by decide +kernel
theorem dJ2_length_9d52b_2 : decode cJ2_length_9d52b 2 = .ok (.iconst 1, 1) := by decide +kernel
theorem dJ2_length_9d52b_3 : decode cJ2_length_9d52b 3 = .ok (.ishr, 1) := by decide +kernel
theorem dJ2_length_9d52b_4 : decode cJ2_length_9d52b 4 = .ok (.ireturn, 1) := by decide +kernel
theorem dJ2_charAt_3b067_0 : decode cJ2_charAt_3b067 0 = .ok (.iload_n 1, 1) := by decide +kernel
theorem dJ2_charAt_3b067_1 : decode cJ2_charAt_3b067 1 = .ok (.aload_n 0, 1) := by decide +kernel
theorem dJ2_charAt_3b067_2 : decode cJ2_charAt_3b067 2 = .ok (.invokestatic 67, 3) := by decide +kernel
theorem dJ2_charAt_3b067_5 : decode cJ2_charAt_3b067 5 = .ok (.aload_n 0, 1) := by decide +kernel
theorem dJ2_charAt_3b067_6 : decode cJ2_charAt_3b067 6 = .ok (.iload_n 1, 1) := by decide +kernel
theorem dJ2_charAt_3b067_7 : decode cJ2_charAt_3b067 7 = .ok (.invokestatic 71, 3) := by decide +kernel
theorem dJ2_charAt_3b067_10 : decode cJ2_charAt_3b067 10 = .ok (.ireturn, 1) := by decide +kernel
theorem dJ2_checkIndex_2214a_0 : decode cJ2_checkIndex_2214a 0 = .ok (.iload_n 0, 1) := by decide +kernel
theorem dJ2_checkIndex_2214a_1 : decode cJ2_checkIndex_2214a 1 = .ok (.aload_n 1, 1) := by decide +kernel
theorem dJ2_checkIndex_2214a_2 : decode cJ2_checkIndex_2214a 2 = .ok (.invokestatic 48, 3) := by decide +kernel
theorem dJ2_checkIndex_2214a_5 : decode cJ2_checkIndex_2214a 5 = .ok (.invokestatic 414, 3) := by decide +kernel
theorem dJ2_checkIndex_2214a_8 : decode cJ2_checkIndex_2214a 8 = .ok (.return_, 1) := by decide +kernel
theorem dJ7_fill_53178_0 : decode cJ7_fill_53178 0 = .ok (.iconst 0, 1) := by decide +kernel
theorem dJ7_fill_53178_1 : decode cJ7_fill_53178 1 = .ok (.istore_n 2, 1) := by decide +kernel
theorem dJ7_fill_53178_2 : decode cJ7_fill_53178 2 = .ok (.aload_n 0, 1) := by decide +kernel
theorem dJ7_fill_53178_3 : decode cJ7_fill_53178 3 = .ok (.arraylength, 1) := by decide +kernel
theorem dJ7_fill_53178_4 : decode cJ7_fill_53178 4 = .ok (.istore_n 3, 1) := by decide +kernel
theorem dJ7_fill_53178_5 : decode cJ7_fill_53178 5 = .ok (.iload_n 2, 1) := by decide +kernel
theorem dJ7_fill_53178_6 : decode cJ7_fill_53178 6 = .ok (.iload_n 3, 1) := by decide +kernel
theorem dJ7_fill_53178_7 : decode cJ7_fill_53178 7 = .ok (.if_icmp .ge 13, 3) := by decide +kernel
theorem dJ7_fill_53178_10 : decode cJ7_fill_53178 10 = .ok (.aload_n 0, 1) := by decide +kernel
theorem dJ7_fill_53178_11 : decode cJ7_fill_53178 11 = .ok (.iload_n 2, 1) := by decide +kernel
theorem dJ7_fill_53178_12 : decode cJ7_fill_53178 12 = .ok (.iload_n 1, 1) := by decide +kernel
theorem dJ7_fill_53178_13 : decode cJ7_fill_53178 13 = .ok (.iastore, 1) := by decide +kernel
theorem dJ7_fill_53178_14 : decode cJ7_fill_53178 14 = .ok (.iinc 2 1, 3) := by decide +kernel
theorem dJ7_fill_53178_17 : decode cJ7_fill_53178 17 = .ok (.goto (-12), 3) := by decide +kernel
theorem dJ7_fill_53178_20 : decode cJ7_fill_53178 20 = .ok (.return_, 1) := by decide +kernel
theorem dJ3_checkIndex_8e157_0 : decode cJ3_checkIndex_8e157 0 = .ok (.iload_n 0, 1) := by decide +kernel
theorem dJ3_checkIndex_8e157_1 : decode cJ3_checkIndex_8e157 1 = .ok (.ifCond .lt 8, 3) := by decide +kernel
theorem dJ3_checkIndex_8e157_4 : decode cJ3_checkIndex_8e157 4 = .ok (.iload_n 0, 1) := by decide +kernel
theorem dJ3_checkIndex_8e157_5 : decode cJ3_checkIndex_8e157 5 = .ok (.iload_n 1, 1) := by decide +kernel
theorem dJ3_checkIndex_8e157_6 : decode cJ3_checkIndex_8e157 6 = .ok (.if_icmp .lt 10, 3) := by decide +kernel
theorem dJ3_checkIndex_8e157_9 : decode cJ3_checkIndex_8e157 9 = .ok (.aload_n 2, 1) := by decide +kernel
theorem dJ3_checkIndex_8e157_10 : decode cJ3_checkIndex_8e157 10 = .ok (.iload_n 0, 1) := by decide +kernel
theorem dJ3_checkIndex_8e157_11 : decode cJ3_checkIndex_8e157 11 = .ok (.iload_n 1, 1) := by decide +kernel
theorem dJ3_checkIndex_8e157_12 : decode cJ3_checkIndex_8e157 12 = .ok (.invokestatic 95, 3) := by decide +kernel
theorem dJ3_checkIndex_8e157_15 : decode cJ3_checkIndex_8e157 15 = .ok (.athrow, 1) := by decide +kernel
theorem dJ3_checkIndex_8e157_16 : decode cJ3_checkIndex_8e157 16 = .ok (.iload_n 0, 1) := by decide +kernel
theorem dJ3_checkIndex_8e157_17 : decode cJ3_checkIndex_8e157 17 = .ok (.ireturn, 1) := by decide +kernel
