theorem d_T_init_0 : decode b_T_init 0 = .ok (.aload_n 0, 1) := by decide +kernel
theorem d_T_init_1 : decode b_T_init 1 = .ok (.invokespecial 1, 3) := by decide +kernel
theorem d_T_init_4 : decode b_T_init 4 = .ok (.aload_n 0, 1) := by decide +kernel
theorem d_T_init_5 : decode b_T_init 5 = .ok (.iconst 2, 1) := by decide +kernel
theorem d_T_init_6 : decode b_T_init 6 = .ok (.newarray .int, 2) := by decide +kernel
theorem d_T_init_8 : decode b_T_init 8 = .ok (.putfield 7, 3) := by decide +kernel
theorem d_T_init_11 : decode b_T_init 11 = .ok (.aload_n 0, 1) := by decide +kernel
theorem d_T_init_12 : decode b_T_init 12 = .ok (.new 13, 3) := by decide +kernel
theorem d_T_init_15 : decode b_T_init 15 = .ok (.dup, 1) := by decide +kernel
theorem d_T_init_16 : decode b_T_init 16 = .ok (.invokespecial 15, 3) := by decide +kernel
theorem d_T_init_19 : decode b_T_init 19 = .ok (.putfield 16, 3) := by decide +kernel
theorem d_T_init_22 : decode b_T_init 22 = .ok (.aload_n 0, 1) := by decide +kernel
theorem d_T_init_23 : decode b_T_init 23 = .ok (.new 20, 3) := by decide +kernel
theorem d_T_init_26 : decode b_T_init 26 = .ok (.dup, 1) := by decide +kernel
theorem d_T_init_27 : decode b_T_init 27 = .ok (.aload_n 0, 1) := by decide +kernel
theorem d_T_init_28 : decode b_T_init 28 = .ok (.getfield 16, 3) := by decide +kernel
theorem d_T_init_31 : decode b_T_init 31 = .ok (.invokespecial 22, 3) := by decide +kernel
theorem d_T_init_34 : decode b_T_init 34 = .ok (.putfield 25, 3) := by decide +kernel
theorem d_T_init_37 : decode b_T_init 37 = .ok (.aload_n 0, 1) := by decide +kernel
theorem d_T_init_38 : decode b_T_init 38 = .ok (.new 29, 3) := by decide +kernel
theorem d_T_init_41 : decode b_T_init 41 = .ok (.dup, 1) := by decide +kernel
theorem d_T_init_42 : decode b_T_init 42 = .ok (.invokespecial 31, 3) := by decide +kernel
theorem d_T_init_45 : decode b_T_init 45 = .ok (.putfield 32, 3) := by decide +kernel
theorem d_T_init_48 : decode b_T_init 48 = .ok (.aload_n 0, 1) := by decide +kernel
theorem d_T_init_49 : decode b_T_init 49 = .ok (.iconst 1, 1) := by decide +kernel
theorem d_T_init_50 : decode b_T_init 50 = .ok (.bipush 25, 2) := by decide +kernel
theorem d_T_init_52 : decode b_T_init 52 = .ok (.iload_n 1, 1) := by decide +kernel
theorem d_T_init_53 : decode b_T_init 53 = .ok (.invokestatic 36, 3) := by decide +kernel
theorem d_T_init_56 : decode b_T_init 56 = .ok (.invokestatic 42, 3) := by decide +kernel
theorem d_T_init_59 : decode b_T_init 59 = .ok (.putfield 45, 3) := by decide +kernel
theorem d_T_init_62 : decode b_T_init 62 = .ok (.aload_n 0, 1) := by decide +kernel
theorem d_T_init_63 : decode b_T_init 63 = .ok (.invokevirtual 49, 3) := by decide +kernel
theorem d_T_init_66 : decode b_T_init 66 = .ok (.return_, 1) := by decide +kernel
theorem d_T_place_0 : decode b_T_place 0 = .ok (.aload_n 0, 1) := by decide +kernel
theorem d_T_place_1 : decode b_T_place 1 = .ok (.getfield 52, 3) := by decide +kernel
theorem d_T_place_4 : decode b_T_place 4 = .ok (.ifCond .ne 21, 3) := by decide +kernel
theorem d_T_place_7 : decode b_T_place 7 = .ok (.iload_n 1, 1) := by decide +kernel
theorem d_T_place_8 : decode b_T_place 8 = .ok (.invokestatic 55, 3) := by decide +kernel
theorem d_T_place_11 : decode b_T_place 11 = .ok (.ifCond .eq 14, 3) := by decide +kernel
theorem d_T_place_14 : decode b_T_place 14 = .ok (.iload_n 2, 1) := by decide +kernel
theorem d_T_place_15 : decode b_T_place 15 = .ok (.iconst 1, 1) := by decide +kernel
theorem d_T_place_16 : decode b_T_place 16 = .ok (.if_icmp .lt 9, 3) := by decide +kernel
theorem d_T_place_19 : decode b_T_place 19 = .ok (.iload_n 2, 1) := by decide +kernel
theorem d_T_place_20 : decode b_T_place 20 = .ok (.bipush 24, 2) := by decide +kernel
theorem d_T_place_22 : decode b_T_place 22 = .ok (.if_icmp .le 5, 3) := by decide +kernel
theorem d_T_place_25 : decode b_T_place 25 = .ok (.iconst 0, 1) := by decide +kernel
theorem d_T_place_26 : decode b_T_place 26 = .ok (.ireturn, 1) := by decide +kernel
theorem d_T_place_27 : decode b_T_place 27 = .ok (.iload_n 3, 1) := by decide +kernel
theorem d_T_place_28 : decode b_T_place 28 = .ok (.ifCond .lt 9, 3) := by decide +kernel
theorem d_T_place_31 : decode b_T_place 31 = .ok (.iload_n 3, 1) := by decide +kernel
theorem d_T_place_32 : decode b_T_place 32 = .ok (.bipush 15, 2) := by decide +kernel
theorem d_T_place_34 : decode b_T_place 34 = .ok (.if_icmp .le 5, 3) := by decide +kernel
theorem d_T_place_37 : decode b_T_place 37 = .ok (.iconst 0, 1) := by decide +kernel
theorem d_T_place_38 : decode b_T_place 38 = .ok (.ireturn, 1) := by decide +kernel
theorem d_T_place_39 : decode b_T_place 39 = .ok (.aload_n 0, 1) := by decide +kernel
theorem d_T_place_40 : decode b_T_place 40 = .ok (.getfield 16, 3) := by decide +kernel
theorem d_T_place_43 : decode b_T_place 43 = .ok (.iload_n 1, 1) := by decide +kernel
theorem d_T_place_44 : decode b_T_place 44 = .ok (.iload_n 2, 1) := by decide +kernel
theorem d_T_place_45 : decode b_T_place 45 = .ok (.iload_n 3, 1) := by decide +kernel
theorem d_T_place_46 : decode b_T_place 46 = .ok (.invokevirtual 59, 3) := by decide +kernel
theorem d_T_place_49 : decode b_T_place 49 = .ok (.ireturn, 1) := by decide +kernel
theorem d_T_roll_0 : decode b_T_roll 0 = .ok (.aload_n 0, 1) := by decide +kernel
theorem d_T_roll_1 : decode b_T_roll 1 = .ok (.getfield 52, 3) := by decide +kernel
theorem d_T_roll_4 : decode b_T_roll 4 = .ok (.ifCond .eq 13, 3) := by decide +kernel
theorem d_T_roll_7 : decode b_T_roll 7 = .ok (.aload_n 0, 1) := by decide +kernel
theorem d_T_roll_8 : decode b_T_roll 8 = .ok (.getfield 52, 3) := by decide +kernel
theorem d_T_roll_11 : decode b_T_roll 11 = .ok (.iconst 1, 1) := by decide +kernel
theorem d_T_roll_12 : decode b_T_roll 12 = .ok (.if_icmp .eq 5, 3) := by decide +kernel
theorem d_T_roll_15 : decode b_T_roll 15 = .ok (.iconst (-1), 1) := by decide +kernel
theorem d_T_roll_16 : decode b_T_roll 16 = .ok (.ireturn, 1) := by decide +kernel
theorem d_T_roll_17 : decode b_T_roll 17 = .ok (.iload_n 1, 1) := by decide +kernel
theorem d_T_roll_18 : decode b_T_roll 18 = .ok (.invokestatic 63, 3) := by decide +kernel
theorem d_T_roll_21 : decode b_T_roll 21 = .ok (.ifCond .eq 10, 3) := by decide +kernel
theorem d_T_roll_24 : decode b_T_roll 24 = .ok (.iload_n 2, 1) := by decide +kernel
theorem d_T_roll_25 : decode b_T_roll 25 = .ok (.invokestatic 63, 3) := by decide +kernel
theorem d_T_roll_28 : decode b_T_roll 28 = .ok (.ifCond .ne 5, 3) := by decide +kernel
theorem d_T_roll_31 : decode b_T_roll 31 = .ok (.iconst (-1), 1) := by decide +kernel
theorem d_T_roll_32 : decode b_T_roll 32 = .ok (.ireturn, 1) := by decide +kernel
theorem d_T_roll_33 : decode b_T_roll 33 = .ok (.aload_n 0, 1) := by decide +kernel
theorem d_T_roll_34 : decode b_T_roll 34 = .ok (.getfield 52, 3) := by decide +kernel
theorem d_T_roll_37 : decode b_T_roll 37 = .ok (.ifCond .ne 24, 3) := by decide +kernel
theorem d_T_roll_40 : decode b_T_roll 40 = .ok (.iload_n 1, 1) := by decide +kernel
theorem d_T_roll_41 : decode b_T_roll 41 = .ok (.iload_n 2, 1) := by decide +kernel
theorem d_T_roll_42 : decode b_T_roll 42 = .ok (.if_icmp .ne 5, 3) := by decide +kernel
theorem d_T_roll_45 : decode b_T_roll 45 = .ok (.iconst 0, 1) := by decide +kernel
theorem d_T_roll_46 : decode b_T_roll 46 = .ok (.ireturn, 1) := by decide +kernel
theorem d_T_roll_47 : decode b_T_roll 47 = .ok (.aload_n 0, 1) := by decide +kernel
theorem d_T_roll_48 : decode b_T_roll 48 = .ok (.iload_n 1, 1) := by decide +kernel
theorem d_T_roll_49 : decode b_T_roll 49 = .ok (.iload_n 2, 1) := by decide +kernel
theorem d_T_roll_50 : decode b_T_roll 50 = .ok (.if_icmp .le 7, 3) := by decide +kernel
theorem d_T_roll_53 : decode b_T_roll 53 = .ok (.iconst 0, 1) := by decide +kernel
theorem d_T_roll_54 : decode b_T_roll 54 = .ok (.goto 4, 3) := by decide +kernel
theorem d_T_roll_57 : decode b_T_roll 57 = .ok (.iconst 1, 1) := by decide +kernel
theorem d_T_roll_58 : decode b_T_roll 58 = .ok (.putfield 66, 3) := by decide +kernel
theorem d_T_roll_61 : decode b_T_roll 61 = .ok (.aload_n 0, 1) := by decide +kernel
theorem d_T_roll_62 : decode b_T_roll 62 = .ok (.iconst 2, 1) := by decide +kernel
theorem d_T_roll_63 : decode b_T_roll 63 = .ok (.putfield 52, 3) := by decide +kernel
theorem d_T_roll_66 : decode b_T_roll 66 = .ok (.aload_n 0, 1) := by decide +kernel
theorem d_T_roll_67 : decode b_T_roll 67 = .ok (.getfield 25, 3) := by decide +kernel
theorem d_T_roll_70 : decode b_T_roll 70 = .ok (.aload_n 0, 1) := by decide +kernel
theorem d_T_roll_71 : decode b_T_roll 71 = .ok (.getfield 66, 3) := by decide +kernel
theorem d_T_roll_74 : decode b_T_roll 74 = .ok (.iload_n 1, 1) := by decide +kernel
theorem d_T_roll_75 : decode b_T_roll 75 = .ok (.iload_n 2, 1) := by decide +kernel
theorem d_T_roll_76 : decode b_T_roll 76 = .ok (.invokevirtual 69, 3) := by decide +kernel
theorem d_T_roll_79 : decode b_T_roll 79 = .ok (.aload_n 0, 1) := by decide +kernel
theorem d_T_roll_80 : decode b_T_roll 80 = .ok (.invokevirtual 73, 3) := by decide +kernel
theorem d_T_roll_83 : decode b_T_roll 83 = .ok (.ireturn, 1) := by decide +kernel
theorem d_T_move_0 : decode b_T_move 0 = .ok (.aload_n 0, 1) := by decide +kernel
theorem d_T_move_1 : decode b_T_move 1 = .ok (.getfield 52, 3) := by decide +kernel
theorem d_T_move_4 : decode b_T_move 4 = .ok (.iconst 2, 1) := by decide +kernel
theorem d_T_move_5 : decode b_T_move 5 = .ok (.if_icmp .eq 5, 3) := by decide +kernel
theorem d_T_move_8 : decode b_T_move 8 = .ok (.iconst (-1), 1) := by decide +kernel
theorem d_T_move_9 : decode b_T_move 9 = .ok (.ireturn, 1) := by decide +kernel
theorem d_T_move_10 : decode b_T_move 10 = .ok (.aload_n 0, 1) := by decide +kernel
theorem d_T_move_11 : decode b_T_move 11 = .ok (.getfield 25, 3) := by decide +kernel
theorem d_T_move_14 : decode b_T_move 14 = .ok (.iload_n 1, 1) := by decide +kernel
theorem d_T_move_15 : decode b_T_move 15 = .ok (.iload_n 2, 1) := by decide +kernel
theorem d_T_move_16 : decode b_T_move 16 = .ok (.invokevirtual 77, 3) := by decide +kernel
theorem d_T_move_19 : decode b_T_move 19 = .ok (.ifCond .eq 12, 3) := by decide +kernel
theorem d_T_move_22 : decode b_T_move 22 = .ok (.aload_n 0, 1) := by decide +kernel
theorem d_T_move_23 : decode b_T_move 23 = .ok (.iload_n 1, 1) := by decide +kernel
theorem d_T_move_24 : decode b_T_move 24 = .ok (.iload_n 2, 1) := by decide +kernel
theorem d_T_move_25 : decode b_T_move 25 = .ok (.invokevirtual 81, 3) := by decide +kernel
theorem d_T_move_28 : decode b_T_move 28 = .ok (.goto 5, 3) := by decide +kernel
theorem d_T_move_31 : decode b_T_move 31 = .ok (.bipush (-2), 2) := by decide +kernel
theorem d_T_move_33 : decode b_T_move 33 = .ok (.ireturn, 1) := by decide +kernel
theorem d_T_step_0 : decode b_T_step 0 = .ok (.aload_n 0, 1) := by decide +kernel
theorem d_T_step_1 : decode b_T_step 1 = .ok (.getfield 52, 3) := by decide +kernel
theorem d_T_step_4 : decode b_T_step 4 = .ok (.iconst 2, 1) := by decide +kernel
theorem d_T_step_5 : decode b_T_step 5 = .ok (.if_icmp .eq 5, 3) := by decide +kernel
theorem d_T_step_8 : decode b_T_step 8 = .ok (.iconst (-1), 1) := by decide +kernel
theorem d_T_step_9 : decode b_T_step 9 = .ok (.ireturn, 1) := by decide +kernel
theorem d_T_step_10 : decode b_T_step 10 = .ok (.iconst 0, 1) := by decide +kernel
theorem d_T_step_11 : decode b_T_step 11 = .ok (.istore_n 2, 1) := by decide +kernel
theorem d_T_step_12 : decode b_T_step 12 = .ok (.bipush 25, 2) := by decide +kernel
theorem d_T_step_14 : decode b_T_step 14 = .ok (.istore_n 3, 1) := by decide +kernel
theorem d_T_step_15 : decode b_T_step 15 = .ok (.iload_n 3, 1) := by decide +kernel
theorem d_T_step_16 : decode b_T_step 16 = .ok (.iconst 1, 1) := by decide +kernel
theorem d_T_step_17 : decode b_T_step 17 = .ok (.if_icmp .lt 54, 3) := by decide +kernel
theorem d_T_step_20 : decode b_T_step 20 = .ok (.bipush 6, 2) := by decide +kernel
theorem d_T_step_22 : decode b_T_step 22 = .ok (.istore 4, 2) := by decide +kernel
theorem d_T_step_24 : decode b_T_step 24 = .ok (.iload 4, 2) := by decide +kernel
theorem d_T_step_26 : decode b_T_step 26 = .ok (.iconst 1, 1) := by decide +kernel
theorem d_T_step_27 : decode b_T_step 27 = .ok (.if_icmp .lt 38, 3) := by decide +kernel
theorem d_T_step_30 : decode b_T_step 30 = .ok (.aload_n 0, 1) := by decide +kernel
theorem d_T_step_31 : decode b_T_step 31 = .ok (.getfield 25, 3) := by decide +kernel
theorem d_T_step_34 : decode b_T_step 34 = .ok (.iload_n 3, 1) := by decide +kernel
theorem d_T_step_35 : decode b_T_step 35 = .ok (.iload 4, 2) := by decide +kernel
theorem d_T_step_37 : decode b_T_step 37 = .ok (.invokevirtual 77, 3) := by decide +kernel
theorem d_T_step_40 : decode b_T_step 40 = .ok (.ifCond .eq 19, 3) := by decide +kernel
theorem d_T_step_43 : decode b_T_step 43 = .ok (.iload_n 2, 1) := by decide +kernel
theorem d_T_step_44 : decode b_T_step 44 = .ok (.iload_n 1, 1) := by decide +kernel
theorem d_T_step_45 : decode b_T_step 45 = .ok (.if_icmp .ne 11, 3) := by decide +kernel
theorem d_T_step_48 : decode b_T_step 48 = .ok (.aload_n 0, 1) := by decide +kernel
theorem d_T_step_49 : decode b_T_step 49 = .ok (.iload_n 3, 1) := by decide +kernel
theorem d_T_step_50 : decode b_T_step 50 = .ok (.iload 4, 2) := by decide +kernel
theorem d_T_step_52 : decode b_T_step 52 = .ok (.invokevirtual 81, 3) := by decide +kernel
theorem d_T_step_55 : decode b_T_step 55 = .ok (.ireturn, 1) := by decide +kernel
theorem d_T_step_56 : decode b_T_step 56 = .ok (.iinc 2 1, 3) := by decide +kernel
theorem d_T_step_59 : decode b_T_step 59 = .ok (.iinc 4 (-1), 3) := by decide +kernel
theorem d_T_step_62 : decode b_T_step 62 = .ok (.goto (-38), 3) := by decide +kernel
theorem d_T_step_65 : decode b_T_step 65 = .ok (.iinc 3 (-1), 3) := by decide +kernel
theorem d_T_step_68 : decode b_T_step 68 = .ok (.goto (-53), 3) := by decide +kernel
theorem d_T_step_71 : decode b_T_step 71 = .ok (.bipush (-2), 2) := by decide +kernel
theorem d_T_step_73 : decode b_T_step 73 = .ok (.ireturn, 1) := by decide +kernel
theorem d_T_ways_0 : decode b_T_ways 0 = .ok (.aload_n 0, 1) := by decide +kernel
theorem d_T_ways_1 : decode b_T_ways 1 = .ok (.getfield 52, 3) := by decide +kernel
theorem d_T_ways_4 : decode b_T_ways 4 = .ok (.iconst 2, 1) := by decide +kernel
theorem d_T_ways_5 : decode b_T_ways 5 = .ok (.if_icmp .ne 13, 3) := by decide +kernel
theorem d_T_ways_8 : decode b_T_ways 8 = .ok (.aload_n 0, 1) := by decide +kernel
theorem d_T_ways_9 : decode b_T_ways 9 = .ok (.getfield 25, 3) := by decide +kernel
theorem d_T_ways_12 : decode b_T_ways 12 = .ok (.invokevirtual 84, 3) := by decide +kernel
theorem d_T_ways_15 : decode b_T_ways 15 = .ok (.goto 4, 3) := by decide +kernel
theorem d_T_ways_18 : decode b_T_ways 18 = .ok (.iconst 0, 1) := by decide +kernel
theorem d_T_ways_19 : decode b_T_ways 19 = .ok (.ireturn, 1) := by decide +kernel
theorem d_T_due_0 : decode b_T_due 0 = .ok (.aload_n 0, 1) := by decide +kernel
theorem d_T_due_1 : decode b_T_due 1 = .ok (.getfield 52, 3) := by decide +kernel
theorem d_T_due_4 : decode b_T_due 4 = .ok (.iconst 2, 1) := by decide +kernel
theorem d_T_due_5 : decode b_T_due 5 = .ok (.if_icmp .ne 13, 3) := by decide +kernel
theorem d_T_due_8 : decode b_T_due 8 = .ok (.aload_n 0, 1) := by decide +kernel
theorem d_T_due_9 : decode b_T_due 9 = .ok (.getfield 25, 3) := by decide +kernel
theorem d_T_due_12 : decode b_T_due 12 = .ok (.getfield 87, 3) := by decide +kernel
theorem d_T_due_15 : decode b_T_due 15 = .ok (.goto 4, 3) := by decide +kernel
theorem d_T_due_18 : decode b_T_due 18 = .ok (.iconst 0, 1) := by decide +kernel
theorem d_T_due_19 : decode b_T_due 19 = .ok (.ireturn, 1) := by decide +kernel
theorem d_T_left_0 : decode b_T_left 0 = .ok (.aload_n 0, 1) := by decide +kernel
theorem d_T_left_1 : decode b_T_left 1 = .ok (.getfield 52, 3) := by decide +kernel
theorem d_T_left_4 : decode b_T_left 4 = .ok (.iconst 2, 1) := by decide +kernel
theorem d_T_left_5 : decode b_T_left 5 = .ok (.if_icmp .ne 22, 3) := by decide +kernel
theorem d_T_left_8 : decode b_T_left 8 = .ok (.iload_n 1, 1) := by decide +kernel
theorem d_T_left_9 : decode b_T_left 9 = .ok (.invokestatic 63, 3) := by decide +kernel
theorem d_T_left_12 : decode b_T_left 12 = .ok (.ifCond .eq 15, 3) := by decide +kernel
theorem d_T_left_15 : decode b_T_left 15 = .ok (.aload_n 0, 1) := by decide +kernel
theorem d_T_left_16 : decode b_T_left 16 = .ok (.getfield 25, 3) := by decide +kernel
theorem d_T_left_19 : decode b_T_left 19 = .ok (.getfield 90, 3) := by decide +kernel
theorem d_T_left_22 : decode b_T_left 22 = .ok (.iload_n 1, 1) := by decide +kernel
theorem d_T_left_23 : decode b_T_left 23 = .ok (.iaload, 1) := by decide +kernel
theorem d_T_left_24 : decode b_T_left 24 = .ok (.goto 4, 3) := by decide +kernel
theorem d_T_left_27 : decode b_T_left 27 = .ok (.iconst 0, 1) := by decide +kernel
theorem d_T_left_28 : decode b_T_left 28 = .ok (.ireturn, 1) := by decide +kernel
theorem d_T_offer_0 : decode b_T_offer 0 = .ok (.aload_n 0, 1) := by decide +kernel
theorem d_T_offer_1 : decode b_T_offer 1 = .ok (.getfield 52, 3) := by decide +kernel
theorem d_T_offer_4 : decode b_T_offer 4 = .ok (.iconst 1, 1) := by decide +kernel
theorem d_T_offer_5 : decode b_T_offer 5 = .ok (.if_icmp .ne 32, 3) := by decide +kernel
theorem d_T_offer_8 : decode b_T_offer 8 = .ok (.aload_n 0, 1) := by decide +kernel
theorem d_T_offer_9 : decode b_T_offer 9 = .ok (.getfield 93, 3) := by decide +kernel
theorem d_T_offer_12 : decode b_T_offer 12 = .ok (.ifCond .ne 25, 3) := by decide +kernel
theorem d_T_offer_15 : decode b_T_offer 15 = .ok (.aload_n 0, 1) := by decide +kernel
theorem d_T_offer_16 : decode b_T_offer 16 = .ok (.getfield 97, 3) := by decide +kernel
theorem d_T_offer_19 : decode b_T_offer 19 = .ok (.bipush 64, 2) := by decide +kernel
theorem d_T_offer_21 : decode b_T_offer 21 = .ok (.if_icmp .ge 16, 3) := by decide +kernel
theorem d_T_offer_24 : decode b_T_offer 24 = .ok (.aload_n 0, 1) := by decide +kernel
theorem d_T_offer_25 : decode b_T_offer 25 = .ok (.getfield 100, 3) := by decide +kernel
theorem d_T_offer_28 : decode b_T_offer 28 = .ok (.iconst 1, 1) := by decide +kernel
theorem d_T_offer_29 : decode b_T_offer 29 = .ok (.aload_n 0, 1) := by decide +kernel
theorem d_T_offer_30 : decode b_T_offer 30 = .ok (.getfield 66, 3) := by decide +kernel
theorem d_T_offer_33 : decode b_T_offer 33 = .ok (.isub, 1) := by decide +kernel
theorem d_T_offer_34 : decode b_T_offer 34 = .ok (.if_icmp .ne 5, 3) := by decide +kernel
theorem d_T_offer_37 : decode b_T_offer 37 = .ok (.iconst 0, 1) := by decide +kernel
theorem d_T_offer_38 : decode b_T_offer 38 = .ok (.ireturn, 1) := by decide +kernel
theorem d_T_offer_39 : decode b_T_offer 39 = .ok (.aload_n 0, 1) := by decide +kernel
theorem d_T_offer_40 : decode b_T_offer 40 = .ok (.iconst 3, 1) := by decide +kernel
theorem d_T_offer_41 : decode b_T_offer 41 = .ok (.putfield 52, 3) := by decide +kernel
theorem d_T_offer_44 : decode b_T_offer 44 = .ok (.iconst 1, 1) := by decide +kernel
theorem d_T_offer_45 : decode b_T_offer 45 = .ok (.ireturn, 1) := by decide +kernel
theorem d_T_answer_0 : decode b_T_answer 0 = .ok (.aload_n 0, 1) := by decide +kernel
theorem d_T_answer_1 : decode b_T_answer 1 = .ok (.getfield 52, 3) := by decide +kernel
theorem d_T_answer_4 : decode b_T_answer 4 = .ok (.iconst 3, 1) := by decide +kernel
theorem d_T_answer_5 : decode b_T_answer 5 = .ok (.if_icmp .eq 5, 3) := by decide +kernel
theorem d_T_answer_8 : decode b_T_answer 8 = .ok (.iconst (-1), 1) := by decide +kernel
theorem d_T_answer_9 : decode b_T_answer 9 = .ok (.ireturn, 1) := by decide +kernel
theorem d_T_answer_10 : decode b_T_answer 10 = .ok (.iload_n 1, 1) := by decide +kernel
theorem d_T_answer_11 : decode b_T_answer 11 = .ok (.ifCond .ne 12, 3) := by decide +kernel
theorem d_T_answer_14 : decode b_T_answer 14 = .ok (.aload_n 0, 1) := by decide +kernel
theorem d_T_answer_15 : decode b_T_answer 15 = .ok (.aload_n 0, 1) := by decide +kernel
theorem d_T_answer_16 : decode b_T_answer 16 = .ok (.getfield 97, 3) := by decide +kernel
theorem d_T_answer_19 : decode b_T_answer 19 = .ok (.invokevirtual 103, 3) := by decide +kernel
theorem d_T_answer_22 : decode b_T_answer 22 = .ok (.ireturn, 1) := by decide +kernel
theorem d_T_answer_23 : decode b_T_answer 23 = .ok (.aload_n 0, 1) := by decide +kernel
theorem d_T_answer_24 : decode b_T_answer 24 = .ok (.dup, 1) := by decide +kernel
theorem d_T_answer_25 : decode b_T_answer 25 = .ok (.getfield 97, 3) := by decide +kernel
theorem d_T_answer_28 : decode b_T_answer 28 = .ok (.iconst 2, 1) := by decide +kernel
theorem d_T_answer_29 : decode b_T_answer 29 = .ok (.imul, 1) := by decide +kernel
theorem d_T_answer_30 : decode b_T_answer 30 = .ok (.putfield 97, 3) := by decide +kernel
theorem d_T_answer_33 : decode b_T_answer 33 = .ok (.aload_n 0, 1) := by decide +kernel
theorem d_T_answer_34 : decode b_T_answer 34 = .ok (.iconst 1, 1) := by decide +kernel
theorem d_T_answer_35 : decode b_T_answer 35 = .ok (.aload_n 0, 1) := by decide +kernel
theorem d_T_answer_36 : decode b_T_answer 36 = .ok (.getfield 66, 3) := by decide +kernel
theorem d_T_answer_39 : decode b_T_answer 39 = .ok (.isub, 1) := by decide +kernel
theorem d_T_answer_40 : decode b_T_answer 40 = .ok (.putfield 100, 3) := by decide +kernel
theorem d_T_answer_43 : decode b_T_answer 43 = .ok (.aload_n 0, 1) := by decide +kernel
theorem d_T_answer_44 : decode b_T_answer 44 = .ok (.iconst 1, 1) := by decide +kernel
theorem d_T_answer_45 : decode b_T_answer 45 = .ok (.putfield 52, 3) := by decide +kernel
theorem d_T_answer_48 : decode b_T_answer 48 = .ok (.iconst 0, 1) := by decide +kernel
theorem d_T_answer_49 : decode b_T_answer 49 = .ok (.ireturn, 1) := by decide +kernel
theorem d_T_phase_0 : decode b_T_phase 0 = .ok (.aload_n 0, 1) := by decide +kernel
theorem d_T_phase_1 : decode b_T_phase 1 = .ok (.getfield 52, 3) := by decide +kernel
theorem d_T_phase_4 : decode b_T_phase 4 = .ok (.ireturn, 1) := by decide +kernel
theorem d_T_turn_0 : decode b_T_turn 0 = .ok (.aload_n 0, 1) := by decide +kernel
theorem d_T_turn_1 : decode b_T_turn 1 = .ok (.getfield 52, 3) := by decide +kernel
theorem d_T_turn_4 : decode b_T_turn 4 = .ok (.ifCond .ne 5, 3) := by decide +kernel
theorem d_T_turn_7 : decode b_T_turn 7 = .ok (.iconst (-1), 1) := by decide +kernel
theorem d_T_turn_8 : decode b_T_turn 8 = .ok (.ireturn, 1) := by decide +kernel
theorem d_T_turn_9 : decode b_T_turn 9 = .ok (.aload_n 0, 1) := by decide +kernel
theorem d_T_turn_10 : decode b_T_turn 10 = .ok (.getfield 52, 3) := by decide +kernel
theorem d_T_turn_13 : decode b_T_turn 13 = .ok (.iconst 3, 1) := by decide +kernel
theorem d_T_turn_14 : decode b_T_turn 14 = .ok (.if_icmp .ne 12, 3) := by decide +kernel
theorem d_T_turn_17 : decode b_T_turn 17 = .ok (.iconst 1, 1) := by decide +kernel
theorem d_T_turn_18 : decode b_T_turn 18 = .ok (.aload_n 0, 1) := by decide +kernel
theorem d_T_turn_19 : decode b_T_turn 19 = .ok (.getfield 66, 3) := by decide +kernel
theorem d_T_turn_22 : decode b_T_turn 22 = .ok (.isub, 1) := by decide +kernel
theorem d_T_turn_23 : decode b_T_turn 23 = .ok (.goto 7, 3) := by decide +kernel
theorem d_T_turn_26 : decode b_T_turn 26 = .ok (.aload_n 0, 1) := by decide +kernel
theorem d_T_turn_27 : decode b_T_turn 27 = .ok (.getfield 66, 3) := by decide +kernel
theorem d_T_turn_30 : decode b_T_turn 30 = .ok (.ireturn, 1) := by decide +kernel
theorem d_T_men_0 : decode b_T_men 0 = .ok (.iload_n 1, 1) := by decide +kernel
theorem d_T_men_1 : decode b_T_men 1 = .ok (.invokestatic 55, 3) := by decide +kernel
theorem d_T_men_4 : decode b_T_men 4 = .ok (.ifCond .eq 13, 3) := by decide +kernel
theorem d_T_men_7 : decode b_T_men 7 = .ok (.iload_n 2, 1) := by decide +kernel
theorem d_T_men_8 : decode b_T_men 8 = .ok (.ifCond .lt 9, 3) := by decide +kernel
theorem d_T_men_11 : decode b_T_men 11 = .ok (.iload_n 2, 1) := by decide +kernel
theorem d_T_men_12 : decode b_T_men 12 = .ok (.bipush 25, 2) := by decide +kernel
theorem d_T_men_14 : decode b_T_men 14 = .ok (.if_icmp .le 5, 3) := by decide +kernel
theorem d_T_men_17 : decode b_T_men 17 = .ok (.iconst (-1), 1) := by decide +kernel
theorem d_T_men_18 : decode b_T_men 18 = .ok (.ireturn, 1) := by decide +kernel
theorem d_T_men_19 : decode b_T_men 19 = .ok (.aload_n 0, 1) := by decide +kernel
theorem d_T_men_20 : decode b_T_men 20 = .ok (.getfield 16, 3) := by decide +kernel
theorem d_T_men_23 : decode b_T_men 23 = .ok (.getfield 107, 3) := by decide +kernel
theorem d_T_men_26 : decode b_T_men 26 = .ok (.iload_n 1, 1) := by decide +kernel
theorem d_T_men_27 : decode b_T_men 27 = .ok (.aaload, 1) := by decide +kernel
theorem d_T_men_28 : decode b_T_men 28 = .ok (.iload_n 2, 1) := by decide +kernel
theorem d_T_men_29 : decode b_T_men 29 = .ok (.iaload, 1) := by decide +kernel
theorem d_T_men_30 : decode b_T_men 30 = .ok (.ireturn, 1) := by decide +kernel
theorem d_T_pips_0 : decode b_T_pips 0 = .ok (.iload_n 1, 1) := by decide +kernel
theorem d_T_pips_1 : decode b_T_pips 1 = .ok (.invokestatic 55, 3) := by decide +kernel
theorem d_T_pips_4 : decode b_T_pips 4 = .ok (.ifCond .eq 14, 3) := by decide +kernel
theorem d_T_pips_7 : decode b_T_pips 7 = .ok (.aload_n 0, 1) := by decide +kernel
theorem d_T_pips_8 : decode b_T_pips 8 = .ok (.getfield 16, 3) := by decide +kernel
theorem d_T_pips_11 : decode b_T_pips 11 = .ok (.iload_n 1, 1) := by decide +kernel
theorem d_T_pips_12 : decode b_T_pips 12 = .ok (.invokevirtual 111, 3) := by decide +kernel
theorem d_T_pips_15 : decode b_T_pips 15 = .ok (.goto 4, 3) := by decide +kernel
theorem d_T_pips_18 : decode b_T_pips 18 = .ok (.iconst (-1), 1) := by decide +kernel
theorem d_T_pips_19 : decode b_T_pips 19 = .ok (.ireturn, 1) := by decide +kernel
theorem d_T_cube_0 : decode b_T_cube 0 = .ok (.aload_n 0, 1) := by decide +kernel
theorem d_T_cube_1 : decode b_T_cube 1 = .ok (.getfield 97, 3) := by decide +kernel
theorem d_T_cube_4 : decode b_T_cube 4 = .ok (.ireturn, 1) := by decide +kernel
theorem d_T_owner_0 : decode b_T_owner 0 = .ok (.aload_n 0, 1) := by decide +kernel
theorem d_T_owner_1 : decode b_T_owner 1 = .ok (.getfield 100, 3) := by decide +kernel
theorem d_T_owner_4 : decode b_T_owner 4 = .ok (.ireturn, 1) := by decide +kernel
theorem d_T_points_0 : decode b_T_points 0 = .ok (.iload_n 1, 1) := by decide +kernel
theorem d_T_points_1 : decode b_T_points 1 = .ok (.invokestatic 55, 3) := by decide +kernel
theorem d_T_points_4 : decode b_T_points 4 = .ok (.ifCond .eq 12, 3) := by decide +kernel
theorem d_T_points_7 : decode b_T_points 7 = .ok (.aload_n 0, 1) := by decide +kernel
theorem d_T_points_8 : decode b_T_points 8 = .ok (.getfield 7, 3) := by decide +kernel
theorem d_T_points_11 : decode b_T_points 11 = .ok (.iload_n 1, 1) := by decide +kernel
theorem d_T_points_12 : decode b_T_points 12 = .ok (.iaload, 1) := by decide +kernel
theorem d_T_points_13 : decode b_T_points 13 = .ok (.goto 4, 3) := by decide +kernel
theorem d_T_points_16 : decode b_T_points 16 = .ok (.iconst (-1), 1) := by decide +kernel
theorem d_T_points_17 : decode b_T_points 17 = .ok (.ireturn, 1) := by decide +kernel
theorem d_T_crawford_0 : decode b_T_crawford 0 = .ok (.aload_n 0, 1) := by decide +kernel
theorem d_T_crawford_1 : decode b_T_crawford 1 = .ok (.getfield 93, 3) := by decide +kernel
theorem d_T_crawford_4 : decode b_T_crawford 4 = .ok (.ireturn, 1) := by decide +kernel
theorem d_T_chance_0 : decode b_T_chance 0 = .ok (.iload_n 1, 1) := by decide +kernel
theorem d_T_chance_1 : decode b_T_chance 1 = .ok (.invokestatic 114, 3) := by decide +kernel
theorem d_T_chance_4 : decode b_T_chance 4 = .ok (.ifCond .eq 25, 3) := by decide +kernel
theorem d_T_chance_7 : decode b_T_chance 7 = .ok (.iload_n 2, 1) := by decide +kernel
theorem d_T_chance_8 : decode b_T_chance 8 = .ok (.invokestatic 114, 3) := by decide +kernel
theorem d_T_chance_11 : decode b_T_chance 11 = .ok (.ifCond .eq 18, 3) := by decide +kernel
theorem d_T_chance_14 : decode b_T_chance 14 = .ok (.iload_n 3, 1) := by decide +kernel
theorem d_T_chance_15 : decode b_T_chance 15 = .ok (.invokestatic 114, 3) := by decide +kernel
theorem d_T_chance_18 : decode b_T_chance 18 = .ok (.ifCond .eq 11, 3) := by decide +kernel
theorem d_T_chance_21 : decode b_T_chance 21 = .ok (.iload 4, 2) := by decide +kernel
theorem d_T_chance_23 : decode b_T_chance 23 = .ok (.invokestatic 114, 3) := by decide +kernel
theorem d_T_chance_26 : decode b_T_chance 26 = .ok (.ifCond .ne 7, 3) := by decide +kernel
theorem d_T_chance_29 : decode b_T_chance 29 = .ok (.ldc2_w 117, 3) := by decide +kernel
theorem d_T_chance_32 : decode b_T_chance 32 = .ok (.lreturn, 1) := by decide +kernel
theorem d_T_chance_33 : decode b_T_chance 33 = .ok (.aload_n 0, 1) := by decide +kernel
theorem d_T_chance_34 : decode b_T_chance 34 = .ok (.getfield 32, 3) := by decide +kernel
theorem d_T_chance_37 : decode b_T_chance 37 = .ok (.iload_n 1, 1) := by decide +kernel
theorem d_T_chance_38 : decode b_T_chance 38 = .ok (.iload_n 2, 1) := by decide +kernel
theorem d_T_chance_39 : decode b_T_chance 39 = .ok (.iload_n 3, 1) := by decide +kernel
theorem d_T_chance_40 : decode b_T_chance 40 = .ok (.iload 4, 2) := by decide +kernel
theorem d_T_chance_42 : decode b_T_chance 42 = .ok (.invokevirtual 119, 3) := by decide +kernel
theorem d_T_chance_45 : decode b_T_chance 45 = .ok (.lreturn, 1) := by decide +kernel
theorem d_T_isPlayer_0 : decode b_T_isPlayer 0 = .ok (.iload_n 0, 1) := by decide +kernel
theorem d_T_isPlayer_1 : decode b_T_isPlayer 1 = .ok (.ifCond .eq 8, 3) := by decide +kernel
theorem d_T_isPlayer_4 : decode b_T_isPlayer 4 = .ok (.iload_n 0, 1) := by decide +kernel
theorem d_T_isPlayer_5 : decode b_T_isPlayer 5 = .ok (.iconst 1, 1) := by decide +kernel
theorem d_T_isPlayer_6 : decode b_T_isPlayer 6 = .ok (.if_icmp .ne 7, 3) := by decide +kernel
theorem d_T_isPlayer_9 : decode b_T_isPlayer 9 = .ok (.iconst 1, 1) := by decide +kernel
theorem d_T_isPlayer_10 : decode b_T_isPlayer 10 = .ok (.goto 4, 3) := by decide +kernel
theorem d_T_isPlayer_13 : decode b_T_isPlayer 13 = .ok (.iconst 0, 1) := by decide +kernel
theorem d_T_isPlayer_14 : decode b_T_isPlayer 14 = .ok (.ireturn, 1) := by decide +kernel
theorem d_T_isNumber_0 : decode b_T_isNumber 0 = .ok (.iload_n 0, 1) := by decide +kernel
theorem d_T_isNumber_1 : decode b_T_isNumber 1 = .ok (.iconst 1, 1) := by decide +kernel
theorem d_T_isNumber_2 : decode b_T_isNumber 2 = .ok (.if_icmp .lt 13, 3) := by decide +kernel
theorem d_T_isNumber_5 : decode b_T_isNumber 5 = .ok (.iload_n 0, 1) := by decide +kernel
theorem d_T_isNumber_6 : decode b_T_isNumber 6 = .ok (.bipush 6, 2) := by decide +kernel
theorem d_T_isNumber_8 : decode b_T_isNumber 8 = .ok (.if_icmp .gt 7, 3) := by decide +kernel
theorem d_T_isNumber_11 : decode b_T_isNumber 11 = .ok (.iconst 1, 1) := by decide +kernel
theorem d_T_isNumber_12 : decode b_T_isNumber 12 = .ok (.goto 4, 3) := by decide +kernel
theorem d_T_isNumber_15 : decode b_T_isNumber 15 = .ok (.iconst 0, 1) := by decide +kernel
theorem d_T_isNumber_16 : decode b_T_isNumber 16 = .ok (.ireturn, 1) := by decide +kernel
theorem d_T_isRacePoint_0 : decode b_T_isRacePoint 0 = .ok (.iload_n 0, 1) := by decide +kernel
theorem d_T_isRacePoint_1 : decode b_T_isRacePoint 1 = .ok (.ifCond .lt 12, 3) := by decide +kernel
theorem d_T_isRacePoint_4 : decode b_T_isRacePoint 4 = .ok (.iload_n 0, 1) := by decide +kernel
theorem d_T_isRacePoint_5 : decode b_T_isRacePoint 5 = .ok (.iconst 4, 1) := by decide +kernel
theorem d_T_isRacePoint_6 : decode b_T_isRacePoint 6 = .ok (.if_icmp .gt 7, 3) := by decide +kernel
theorem d_T_isRacePoint_9 : decode b_T_isRacePoint 9 = .ok (.iconst 1, 1) := by decide +kernel
theorem d_T_isRacePoint_10 : decode b_T_isRacePoint 10 = .ok (.goto 4, 3) := by decide +kernel
theorem d_T_isRacePoint_13 : decode b_T_isRacePoint 13 = .ok (.iconst 0, 1) := by decide +kernel
theorem d_T_isRacePoint_14 : decode b_T_isRacePoint 14 = .ok (.ireturn, 1) := by decide +kernel
theorem d_T_beginGame_0 : decode b_T_beginGame 0 = .ok (.aload_n 0, 1) := by decide +kernel
theorem d_T_beginGame_1 : decode b_T_beginGame 1 = .ok (.getfield 16, 3) := by decide +kernel
theorem d_T_beginGame_4 : decode b_T_beginGame 4 = .ok (.invokevirtual 123, 3) := by decide +kernel
theorem d_T_beginGame_7 : decode b_T_beginGame 7 = .ok (.aload_n 0, 1) := by decide +kernel
theorem d_T_beginGame_8 : decode b_T_beginGame 8 = .ok (.iconst 1, 1) := by decide +kernel
theorem d_T_beginGame_9 : decode b_T_beginGame 9 = .ok (.putfield 97, 3) := by decide +kernel
theorem d_T_beginGame_12 : decode b_T_beginGame 12 = .ok (.aload_n 0, 1) := by decide +kernel
theorem d_T_beginGame_13 : decode b_T_beginGame 13 = .ok (.iconst (-1), 1) := by decide +kernel
theorem d_T_beginGame_14 : decode b_T_beginGame 14 = .ok (.putfield 100, 3) := by decide +kernel
theorem d_T_beginGame_17 : decode b_T_beginGame 17 = .ok (.aload_n 0, 1) := by decide +kernel
theorem d_T_beginGame_18 : decode b_T_beginGame 18 = .ok (.iconst 0, 1) := by decide +kernel
theorem d_T_beginGame_19 : decode b_T_beginGame 19 = .ok (.putfield 52, 3) := by decide +kernel
theorem d_T_beginGame_22 : decode b_T_beginGame 22 = .ok (.return_, 1) := by decide +kernel
theorem d_T_play_0 : decode b_T_play 0 = .ok (.aload_n 0, 1) := by decide +kernel
theorem d_T_play_1 : decode b_T_play 1 = .ok (.getfield 25, 3) := by decide +kernel
theorem d_T_play_4 : decode b_T_play 4 = .ok (.iload_n 1, 1) := by decide +kernel
theorem d_T_play_5 : decode b_T_play 5 = .ok (.iload_n 2, 1) := by decide +kernel
theorem d_T_play_6 : decode b_T_play 6 = .ok (.invokevirtual 126, 3) := by decide +kernel
theorem d_T_play_9 : decode b_T_play 9 = .ok (.aload_n 0, 1) := by decide +kernel
theorem d_T_play_10 : decode b_T_play 10 = .ok (.getfield 16, 3) := by decide +kernel
theorem d_T_play_13 : decode b_T_play 13 = .ok (.getfield 107, 3) := by decide +kernel
theorem d_T_play_16 : decode b_T_play 16 = .ok (.aload_n 0, 1) := by decide +kernel
theorem d_T_play_17 : decode b_T_play 17 = .ok (.getfield 66, 3) := by decide +kernel
theorem d_T_play_20 : decode b_T_play 20 = .ok (.aaload, 1) := by decide +kernel
theorem d_T_play_21 : decode b_T_play 21 = .ok (.iconst 0, 1) := by decide +kernel
theorem d_T_play_22 : decode b_T_play 22 = .ok (.iaload, 1) := by decide +kernel
theorem d_T_play_23 : decode b_T_play 23 = .ok (.bipush 15, 2) := by decide +kernel
theorem d_T_play_25 : decode b_T_play 25 = .ok (.if_icmp .ne 24, 3) := by decide +kernel
theorem d_T_play_28 : decode b_T_play 28 = .ok (.aload_n 0, 1) := by decide +kernel
theorem d_T_play_29 : decode b_T_play 29 = .ok (.aload_n 0, 1) := by decide +kernel
theorem d_T_play_30 : decode b_T_play 30 = .ok (.getfield 97, 3) := by decide +kernel
theorem d_T_play_33 : decode b_T_play 33 = .ok (.aload_n 0, 1) := by decide +kernel
theorem d_T_play_34 : decode b_T_play 34 = .ok (.getfield 16, 3) := by decide +kernel
theorem d_T_play_37 : decode b_T_play 37 = .ok (.aload_n 0, 1) := by decide +kernel
theorem d_T_play_38 : decode b_T_play 38 = .ok (.getfield 66, 3) := by decide +kernel
theorem d_T_play_41 : decode b_T_play 41 = .ok (.invokevirtual 130, 3) := by decide +kernel
theorem d_T_play_44 : decode b_T_play 44 = .ok (.imul, 1) := by decide +kernel
theorem d_T_play_45 : decode b_T_play 45 = .ok (.invokevirtual 103, 3) := by decide +kernel
theorem d_T_play_48 : decode b_T_play 48 = .ok (.ireturn, 1) := by decide +kernel
theorem d_T_play_49 : decode b_T_play 49 = .ok (.aload_n 0, 1) := by decide +kernel
theorem d_T_play_50 : decode b_T_play 50 = .ok (.invokevirtual 73, 3) := by decide +kernel
theorem d_T_play_53 : decode b_T_play 53 = .ok (.ireturn, 1) := by decide +kernel
theorem d_T_endTurnIfDone_0 : decode b_T_endTurnIfDone 0 = .ok (.aload_n 0, 1) := by decide +kernel
theorem d_T_endTurnIfDone_1 : decode b_T_endTurnIfDone 1 = .ok (.getfield 25, 3) := by decide +kernel
theorem d_T_endTurnIfDone_4 : decode b_T_endTurnIfDone 4 = .ok (.getfield 87, 3) := by decide +kernel
theorem d_T_endTurnIfDone_7 : decode b_T_endTurnIfDone 7 = .ok (.ifCond .ne 18, 3) := by decide +kernel
theorem d_T_endTurnIfDone_10 : decode b_T_endTurnIfDone 10 = .ok (.aload_n 0, 1) := by decide +kernel
theorem d_T_endTurnIfDone_11 : decode b_T_endTurnIfDone 11 = .ok (.iconst 1, 1) := by decide +kernel
theorem d_T_endTurnIfDone_12 : decode b_T_endTurnIfDone 12 = .ok (.aload_n 0, 1) := by decide +kernel
theorem d_T_endTurnIfDone_13 : decode b_T_endTurnIfDone 13 = .ok (.getfield 66, 3) := by decide +kernel
theorem d_T_endTurnIfDone_16 : decode b_T_endTurnIfDone 16 = .ok (.isub, 1) := by decide +kernel
theorem d_T_endTurnIfDone_17 : decode b_T_endTurnIfDone 17 = .ok (.putfield 66, 3) := by decide +kernel
theorem d_T_endTurnIfDone_20 : decode b_T_endTurnIfDone 20 = .ok (.aload_n 0, 1) := by decide +kernel
theorem d_T_endTurnIfDone_21 : decode b_T_endTurnIfDone 21 = .ok (.iconst 1, 1) := by decide +kernel
theorem d_T_endTurnIfDone_22 : decode b_T_endTurnIfDone 22 = .ok (.putfield 52, 3) := by decide +kernel
theorem d_T_endTurnIfDone_25 : decode b_T_endTurnIfDone 25 = .ok (.aload_n 0, 1) := by decide +kernel
theorem d_T_endTurnIfDone_26 : decode b_T_endTurnIfDone 26 = .ok (.getfield 25, 3) := by decide +kernel
theorem d_T_endTurnIfDone_29 : decode b_T_endTurnIfDone 29 = .ok (.getfield 87, 3) := by decide +kernel
theorem d_T_endTurnIfDone_32 : decode b_T_endTurnIfDone 32 = .ok (.ireturn, 1) := by decide +kernel
theorem d_T_winGame_0 : decode b_T_winGame 0 = .ok (.aload_n 0, 1) := by decide +kernel
theorem d_T_winGame_1 : decode b_T_winGame 1 = .ok (.getfield 7, 3) := by decide +kernel
theorem d_T_winGame_4 : decode b_T_winGame 4 = .ok (.aload_n 0, 1) := by decide +kernel
theorem d_T_winGame_5 : decode b_T_winGame 5 = .ok (.getfield 66, 3) := by decide +kernel
theorem d_T_winGame_8 : decode b_T_winGame 8 = .ok (.dup2, 1) := by decide +kernel
theorem d_T_winGame_9 : decode b_T_winGame 9 = .ok (.iaload, 1) := by decide +kernel
theorem d_T_winGame_10 : decode b_T_winGame 10 = .ok (.iload_n 1, 1) := by decide +kernel
theorem d_T_winGame_11 : decode b_T_winGame 11 = .ok (.iadd, 1) := by decide +kernel
theorem d_T_winGame_12 : decode b_T_winGame 12 = .ok (.iastore, 1) := by decide +kernel
theorem d_T_winGame_13 : decode b_T_winGame 13 = .ok (.aload_n 0, 1) := by decide +kernel
theorem d_T_winGame_14 : decode b_T_winGame 14 = .ok (.aload_n 0, 1) := by decide +kernel
theorem d_T_winGame_15 : decode b_T_winGame 15 = .ok (.getfield 133, 3) := by decide +kernel
theorem d_T_winGame_18 : decode b_T_winGame 18 = .ok (.ifCond .ne 25, 3) := by decide +kernel
theorem d_T_winGame_21 : decode b_T_winGame 21 = .ok (.aload_n 0, 1) := by decide +kernel
theorem d_T_winGame_22 : decode b_T_winGame 22 = .ok (.getfield 7, 3) := by decide +kernel
theorem d_T_winGame_25 : decode b_T_winGame 25 = .ok (.aload_n 0, 1) := by decide +kernel
theorem d_T_winGame_26 : decode b_T_winGame 26 = .ok (.getfield 66, 3) := by decide +kernel
theorem d_T_winGame_29 : decode b_T_winGame 29 = .ok (.iaload, 1) := by decide +kernel
theorem d_T_winGame_30 : decode b_T_winGame 30 = .ok (.aload_n 0, 1) := by decide +kernel
theorem d_T_winGame_31 : decode b_T_winGame 31 = .ok (.getfield 45, 3) := by decide +kernel
theorem d_T_winGame_34 : decode b_T_winGame 34 = .ok (.iconst 1, 1) := by decide +kernel
theorem d_T_winGame_35 : decode b_T_winGame 35 = .ok (.isub, 1) := by decide +kernel
theorem d_T_winGame_36 : decode b_T_winGame 36 = .ok (.if_icmp .ne 7, 3) := by decide +kernel
theorem d_T_winGame_39 : decode b_T_winGame 39 = .ok (.iconst 1, 1) := by decide +kernel
theorem d_T_winGame_40 : decode b_T_winGame 40 = .ok (.goto 4, 3) := by decide +kernel
theorem d_T_winGame_43 : decode b_T_winGame 43 = .ok (.iconst 0, 1) := by decide +kernel
theorem d_T_winGame_44 : decode b_T_winGame 44 = .ok (.putfield 93, 3) := by decide +kernel
theorem d_T_winGame_47 : decode b_T_winGame 47 = .ok (.aload_n 0, 1) := by decide +kernel
theorem d_T_winGame_48 : decode b_T_winGame 48 = .ok (.aload_n 0, 1) := by decide +kernel
theorem d_T_winGame_49 : decode b_T_winGame 49 = .ok (.getfield 133, 3) := by decide +kernel
theorem d_T_winGame_52 : decode b_T_winGame 52 = .ok (.ifCond .ne 10, 3) := by decide +kernel
theorem d_T_winGame_55 : decode b_T_winGame 55 = .ok (.aload_n 0, 1) := by decide +kernel
theorem d_T_winGame_56 : decode b_T_winGame 56 = .ok (.getfield 93, 3) := by decide +kernel
theorem d_T_winGame_59 : decode b_T_winGame 59 = .ok (.ifCond .eq 7, 3) := by decide +kernel
theorem d_T_winGame_62 : decode b_T_winGame 62 = .ok (.iconst 1, 1) := by decide +kernel
theorem d_T_winGame_63 : decode b_T_winGame 63 = .ok (.goto 4, 3) := by decide +kernel
theorem d_T_winGame_66 : decode b_T_winGame 66 = .ok (.iconst 0, 1) := by decide +kernel
theorem d_T_winGame_67 : decode b_T_winGame 67 = .ok (.putfield 133, 3) := by decide +kernel
theorem d_T_winGame_70 : decode b_T_winGame 70 = .ok (.aload_n 0, 1) := by decide +kernel
theorem d_T_winGame_71 : decode b_T_winGame 71 = .ok (.getfield 7, 3) := by decide +kernel
theorem d_T_winGame_74 : decode b_T_winGame 74 = .ok (.aload_n 0, 1) := by decide +kernel
theorem d_T_winGame_75 : decode b_T_winGame 75 = .ok (.getfield 66, 3) := by decide +kernel
theorem d_T_winGame_78 : decode b_T_winGame 78 = .ok (.iaload, 1) := by decide +kernel
theorem d_T_winGame_79 : decode b_T_winGame 79 = .ok (.aload_n 0, 1) := by decide +kernel
theorem d_T_winGame_80 : decode b_T_winGame 80 = .ok (.getfield 45, 3) := by decide +kernel
theorem d_T_winGame_83 : decode b_T_winGame 83 = .ok (.if_icmp .lt 11, 3) := by decide +kernel
theorem d_T_winGame_86 : decode b_T_winGame 86 = .ok (.aload_n 0, 1) := by decide +kernel
theorem d_T_winGame_87 : decode b_T_winGame 87 = .ok (.iconst 4, 1) := by decide +kernel
theorem d_T_winGame_88 : decode b_T_winGame 88 = .ok (.putfield 52, 3) := by decide +kernel
theorem d_T_winGame_91 : decode b_T_winGame 91 = .ok (.goto 7, 3) := by decide +kernel
theorem d_T_winGame_94 : decode b_T_winGame 94 = .ok (.aload_n 0, 1) := by decide +kernel
theorem d_T_winGame_95 : decode b_T_winGame 95 = .ok (.invokevirtual 49, 3) := by decide +kernel
theorem d_T_winGame_98 : decode b_T_winGame 98 = .ok (.bipush 10, 2) := by decide +kernel
theorem d_T_winGame_100 : decode b_T_winGame 100 = .ok (.iload_n 1, 1) := by decide +kernel
theorem d_T_winGame_101 : decode b_T_winGame 101 = .ok (.imul, 1) := by decide +kernel
theorem d_T_winGame_102 : decode b_T_winGame 102 = .ok (.ireturn, 1) := by decide +kernel
theorem d_Q_maxL_0 : decode b_Q_maxL 0 = .ok (.lload_n 0, 1) := by decide +kernel
theorem d_Q_maxL_1 : decode b_Q_maxL 1 = .ok (.lload_n 2, 1) := by decide +kernel
theorem d_Q_maxL_2 : decode b_Q_maxL 2 = .ok (.lcmp, 1) := by decide +kernel
theorem d_Q_maxL_3 : decode b_Q_maxL 3 = .ok (.ifCond .lt 7, 3) := by decide +kernel
theorem d_Q_maxL_6 : decode b_Q_maxL 6 = .ok (.lload_n 0, 1) := by decide +kernel
theorem d_Q_maxL_7 : decode b_Q_maxL 7 = .ok (.goto 4, 3) := by decide +kernel
theorem d_Q_maxL_10 : decode b_Q_maxL 10 = .ok (.lload_n 2, 1) := by decide +kernel
theorem d_Q_maxL_11 : decode b_Q_maxL 11 = .ok (.lreturn, 1) := by decide +kernel
