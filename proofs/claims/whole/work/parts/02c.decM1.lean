theorem d_M_init_0 : decode b_M_init 0 = .ok (.aload_n 0, 1) := by decide +kernel
theorem d_M_init_1 : decode b_M_init 1 = .ok (.invokespecial 1, 3) := by decide +kernel
theorem d_M_init_4 : decode b_M_init 4 = .ok (.aload_n 0, 1) := by decide +kernel
theorem d_M_init_5 : decode b_M_init 5 = .ok (.iconst 2, 1) := by decide +kernel
theorem d_M_init_6 : decode b_M_init 6 = .ok (.newarray .int, 2) := by decide +kernel
theorem d_M_init_8 : decode b_M_init 8 = .ok (.putfield 7, 3) := by decide +kernel
theorem d_M_init_11 : decode b_M_init 11 = .ok (.aload_n 0, 1) := by decide +kernel
theorem d_M_init_12 : decode b_M_init 12 = .ok (.bipush 52, 2) := by decide +kernel
theorem d_M_init_14 : decode b_M_init 14 = .ok (.newarray .int, 2) := by decide +kernel
theorem d_M_init_16 : decode b_M_init 16 = .ok (.putfield 13, 3) := by decide +kernel
theorem d_M_init_19 : decode b_M_init 19 = .ok (.aload_n 0, 1) := by decide +kernel
theorem d_M_init_20 : decode b_M_init 20 = .ok (.iconst 1, 1) := by decide +kernel
theorem d_M_init_21 : decode b_M_init 21 = .ok (.putfield 16, 3) := by decide +kernel
theorem d_M_init_24 : decode b_M_init 24 = .ok (.aload_n 0, 1) := by decide +kernel
theorem d_M_init_25 : decode b_M_init 25 = .ok (.iconst (-1), 1) := by decide +kernel
theorem d_M_init_26 : decode b_M_init 26 = .ok (.putfield 20, 3) := by decide +kernel
theorem d_M_init_29 : decode b_M_init 29 = .ok (.aload_n 0, 1) := by decide +kernel
theorem d_M_init_30 : decode b_M_init 30 = .ok (.sipush 312, 3) := by decide +kernel
theorem d_M_init_33 : decode b_M_init 33 = .ok (.newarray .int, 2) := by decide +kernel
theorem d_M_init_35 : decode b_M_init 35 = .ok (.putfield 23, 3) := by decide +kernel
theorem d_M_init_38 : decode b_M_init 38 = .ok (.aload_n 0, 1) := by decide +kernel
theorem d_M_init_39 : decode b_M_init 39 = .ok (.bipush 6, 2) := by decide +kernel
theorem d_M_init_41 : decode b_M_init 41 = .ok (.newarray .int, 2) := by decide +kernel
theorem d_M_init_43 : decode b_M_init 43 = .ok (.putfield 26, 3) := by decide +kernel
theorem d_M_init_46 : decode b_M_init 46 = .ok (.aload_n 0, 1) := by decide +kernel
theorem d_M_init_47 : decode b_M_init 47 = .ok (.sipush 625, 3) := by decide +kernel
theorem d_M_init_50 : decode b_M_init 50 = .ok (.newarray .long, 2) := by decide +kernel
theorem d_M_init_52 : decode b_M_init 52 = .ok (.putfield 29, 3) := by decide +kernel
theorem d_M_init_55 : decode b_M_init 55 = .ok (.aload_n 0, 1) := by decide +kernel
theorem d_M_init_56 : decode b_M_init 56 = .ok (.iload_n 1, 1) := by decide +kernel
theorem d_M_init_57 : decode b_M_init 57 = .ok (.iconst 1, 1) := by decide +kernel
theorem d_M_init_58 : decode b_M_init 58 = .ok (.if_icmp .ge 7, 3) := by decide +kernel
theorem d_M_init_61 : decode b_M_init 61 = .ok (.iconst 1, 1) := by decide +kernel
theorem d_M_init_62 : decode b_M_init 62 = .ok (.goto 15, 3) := by decide +kernel
theorem d_M_init_65 : decode b_M_init 65 = .ok (.iload_n 1, 1) := by decide +kernel
theorem d_M_init_66 : decode b_M_init 66 = .ok (.bipush 25, 2) := by decide +kernel
theorem d_M_init_68 : decode b_M_init 68 = .ok (.if_icmp .le 8, 3) := by decide +kernel
theorem d_M_init_71 : decode b_M_init 71 = .ok (.bipush 25, 2) := by decide +kernel
theorem d_M_init_73 : decode b_M_init 73 = .ok (.goto 4, 3) := by decide +kernel
theorem d_M_init_76 : decode b_M_init 76 = .ok (.iload_n 1, 1) := by decide +kernel
theorem d_M_init_77 : decode b_M_init 77 = .ok (.putfield 33, 3) := by decide +kernel
theorem d_M_init_80 : decode b_M_init 80 = .ok (.aload_n 0, 1) := by decide +kernel
theorem d_M_init_81 : decode b_M_init 81 = .ok (.invokevirtual 36, 3) := by decide +kernel
theorem d_M_init_84 : decode b_M_init 84 = .ok (.return_, 1) := by decide +kernel
theorem d_M_setUp_0 : decode b_M_setUp 0 = .ok (.iconst 0, 1) := by decide +kernel
theorem d_M_setUp_1 : decode b_M_setUp 1 = .ok (.istore_n 1, 1) := by decide +kernel
theorem d_M_setUp_2 : decode b_M_setUp 2 = .ok (.iload_n 1, 1) := by decide +kernel
theorem d_M_setUp_3 : decode b_M_setUp 3 = .ok (.iconst 2, 1) := by decide +kernel
theorem d_M_setUp_4 : decode b_M_setUp 4 = .ok (.if_icmp .ge 71, 3) := by decide +kernel
theorem d_M_setUp_7 : decode b_M_setUp 7 = .ok (.iconst 0, 1) := by decide +kernel
theorem d_M_setUp_8 : decode b_M_setUp 8 = .ok (.istore_n 2, 1) := by decide +kernel
theorem d_M_setUp_9 : decode b_M_setUp 9 = .ok (.iload_n 2, 1) := by decide +kernel
theorem d_M_setUp_10 : decode b_M_setUp 10 = .ok (.bipush 26, 2) := by decide +kernel
theorem d_M_setUp_12 : decode b_M_setUp 12 = .ok (.if_icmp .ge 57, 3) := by decide +kernel
theorem d_M_setUp_15 : decode b_M_setUp 15 = .ok (.aload_n 0, 1) := by decide +kernel
theorem d_M_setUp_16 : decode b_M_setUp 16 = .ok (.getfield 13, 3) := by decide +kernel
theorem d_M_setUp_19 : decode b_M_setUp 19 = .ok (.bipush 26, 2) := by decide +kernel
theorem d_M_setUp_21 : decode b_M_setUp 21 = .ok (.iload_n 1, 1) := by decide +kernel
theorem d_M_setUp_22 : decode b_M_setUp 22 = .ok (.imul, 1) := by decide +kernel
theorem d_M_setUp_23 : decode b_M_setUp 23 = .ok (.iload_n 2, 1) := by decide +kernel
theorem d_M_setUp_24 : decode b_M_setUp 24 = .ok (.iadd, 1) := by decide +kernel
theorem d_M_setUp_25 : decode b_M_setUp 25 = .ok (.iload_n 2, 1) := by decide +kernel
theorem d_M_setUp_26 : decode b_M_setUp 26 = .ok (.bipush 24, 2) := by decide +kernel
theorem d_M_setUp_28 : decode b_M_setUp 28 = .ok (.if_icmp .ne 7, 3) := by decide +kernel
theorem d_M_setUp_31 : decode b_M_setUp 31 = .ok (.iconst 2, 1) := by decide +kernel
theorem d_M_setUp_32 : decode b_M_setUp 32 = .ok (.goto 30, 3) := by decide +kernel
theorem d_M_setUp_35 : decode b_M_setUp 35 = .ok (.iload_n 2, 1) := by decide +kernel
theorem d_M_setUp_36 : decode b_M_setUp 36 = .ok (.bipush 13, 2) := by decide +kernel
theorem d_M_setUp_38 : decode b_M_setUp 38 = .ok (.if_icmp .eq 9, 3) := by decide +kernel
theorem d_M_setUp_41 : decode b_M_setUp 41 = .ok (.iload_n 2, 1) := by decide +kernel
theorem d_M_setUp_42 : decode b_M_setUp 42 = .ok (.bipush 6, 2) := by decide +kernel
theorem d_M_setUp_44 : decode b_M_setUp 44 = .ok (.if_icmp .ne 7, 3) := by decide +kernel
theorem d_M_setUp_47 : decode b_M_setUp 47 = .ok (.iconst 5, 1) := by decide +kernel
theorem d_M_setUp_48 : decode b_M_setUp 48 = .ok (.goto 14, 3) := by decide +kernel
theorem d_M_setUp_51 : decode b_M_setUp 51 = .ok (.iload_n 2, 1) := by decide +kernel
theorem d_M_setUp_52 : decode b_M_setUp 52 = .ok (.bipush 8, 2) := by decide +kernel
theorem d_M_setUp_54 : decode b_M_setUp 54 = .ok (.if_icmp .ne 7, 3) := by decide +kernel
theorem d_M_setUp_57 : decode b_M_setUp 57 = .ok (.iconst 3, 1) := by decide +kernel
theorem d_M_setUp_58 : decode b_M_setUp 58 = .ok (.goto 4, 3) := by decide +kernel
theorem d_M_setUp_61 : decode b_M_setUp 61 = .ok (.iconst 0, 1) := by decide +kernel
theorem d_M_setUp_62 : decode b_M_setUp 62 = .ok (.iastore, 1) := by decide +kernel
theorem d_M_setUp_63 : decode b_M_setUp 63 = .ok (.iinc 2 1, 3) := by decide +kernel
theorem d_M_setUp_66 : decode b_M_setUp 66 = .ok (.goto (-57), 3) := by decide +kernel
theorem d_M_setUp_69 : decode b_M_setUp 69 = .ok (.iinc 1 1, 3) := by decide +kernel
theorem d_M_setUp_72 : decode b_M_setUp 72 = .ok (.goto (-70), 3) := by decide +kernel
theorem d_M_setUp_75 : decode b_M_setUp 75 = .ok (.aload_n 0, 1) := by decide +kernel
theorem d_M_setUp_76 : decode b_M_setUp 76 = .ok (.iconst 1, 1) := by decide +kernel
theorem d_M_setUp_77 : decode b_M_setUp 77 = .ok (.putfield 16, 3) := by decide +kernel
theorem d_M_setUp_80 : decode b_M_setUp 80 = .ok (.aload_n 0, 1) := by decide +kernel
theorem d_M_setUp_81 : decode b_M_setUp 81 = .ok (.iconst (-1), 1) := by decide +kernel
theorem d_M_setUp_82 : decode b_M_setUp 82 = .ok (.putfield 20, 3) := by decide +kernel
theorem d_M_setUp_85 : decode b_M_setUp 85 = .ok (.aload_n 0, 1) := by decide +kernel
theorem d_M_setUp_86 : decode b_M_setUp 86 = .ok (.iconst 0, 1) := by decide +kernel
theorem d_M_setUp_87 : decode b_M_setUp 87 = .ok (.putfield 39, 3) := by decide +kernel
theorem d_M_setUp_90 : decode b_M_setUp 90 = .ok (.return_, 1) := by decide +kernel
theorem d_M_look_0 : decode b_M_look 0 = .ok (.iconst 0, 1) := by decide +kernel
theorem d_M_look_1 : decode b_M_look 1 = .ok (.istore_n 3, 1) := by decide +kernel
theorem d_M_look_2 : decode b_M_look 2 = .ok (.iload_n 3, 1) := by decide +kernel
theorem d_M_look_3 : decode b_M_look 3 = .ok (.bipush 26, 2) := by decide +kernel
theorem d_M_look_5 : decode b_M_look 5 = .ok (.if_icmp .ge 58, 3) := by decide +kernel
theorem d_M_look_8 : decode b_M_look 8 = .ok (.aload_n 0, 1) := by decide +kernel
theorem d_M_look_9 : decode b_M_look 9 = .ok (.getfield 23, 3) := by decide +kernel
theorem d_M_look_12 : decode b_M_look 12 = .ok (.bipush 52, 2) := by decide +kernel
theorem d_M_look_14 : decode b_M_look 14 = .ok (.iload_n 2, 1) := by decide +kernel
theorem d_M_look_15 : decode b_M_look 15 = .ok (.imul, 1) := by decide +kernel
theorem d_M_look_16 : decode b_M_look 16 = .ok (.iload_n 3, 1) := by decide +kernel
theorem d_M_look_17 : decode b_M_look 17 = .ok (.iadd, 1) := by decide +kernel
theorem d_M_look_18 : decode b_M_look 18 = .ok (.aload_n 0, 1) := by decide +kernel
theorem d_M_look_19 : decode b_M_look 19 = .ok (.getfield 13, 3) := by decide +kernel
theorem d_M_look_22 : decode b_M_look 22 = .ok (.bipush 26, 2) := by decide +kernel
theorem d_M_look_24 : decode b_M_look 24 = .ok (.iload_n 1, 1) := by decide +kernel
theorem d_M_look_25 : decode b_M_look 25 = .ok (.imul, 1) := by decide +kernel
theorem d_M_look_26 : decode b_M_look 26 = .ok (.iload_n 3, 1) := by decide +kernel
theorem d_M_look_27 : decode b_M_look 27 = .ok (.iadd, 1) := by decide +kernel
theorem d_M_look_28 : decode b_M_look 28 = .ok (.iaload, 1) := by decide +kernel
theorem d_M_look_29 : decode b_M_look 29 = .ok (.iastore, 1) := by decide +kernel
theorem d_M_look_30 : decode b_M_look 30 = .ok (.aload_n 0, 1) := by decide +kernel
theorem d_M_look_31 : decode b_M_look 31 = .ok (.getfield 23, 3) := by decide +kernel
theorem d_M_look_34 : decode b_M_look 34 = .ok (.bipush 52, 2) := by decide +kernel
theorem d_M_look_36 : decode b_M_look 36 = .ok (.iload_n 2, 1) := by decide +kernel
theorem d_M_look_37 : decode b_M_look 37 = .ok (.imul, 1) := by decide +kernel
theorem d_M_look_38 : decode b_M_look 38 = .ok (.bipush 26, 2) := by decide +kernel
theorem d_M_look_40 : decode b_M_look 40 = .ok (.iadd, 1) := by decide +kernel
theorem d_M_look_41 : decode b_M_look 41 = .ok (.iload_n 3, 1) := by decide +kernel
theorem d_M_look_42 : decode b_M_look 42 = .ok (.iadd, 1) := by decide +kernel
theorem d_M_look_43 : decode b_M_look 43 = .ok (.aload_n 0, 1) := by decide +kernel
theorem d_M_look_44 : decode b_M_look 44 = .ok (.getfield 13, 3) := by decide +kernel
theorem d_M_look_47 : decode b_M_look 47 = .ok (.bipush 26, 2) := by decide +kernel
theorem d_M_look_49 : decode b_M_look 49 = .ok (.iconst 1, 1) := by decide +kernel
theorem d_M_look_50 : decode b_M_look 50 = .ok (.iload_n 1, 1) := by decide +kernel
theorem d_M_look_51 : decode b_M_look 51 = .ok (.isub, 1) := by decide +kernel
theorem d_M_look_52 : decode b_M_look 52 = .ok (.imul, 1) := by decide +kernel
theorem d_M_look_53 : decode b_M_look 53 = .ok (.iload_n 3, 1) := by decide +kernel
theorem d_M_look_54 : decode b_M_look 54 = .ok (.iadd, 1) := by decide +kernel
theorem d_M_look_55 : decode b_M_look 55 = .ok (.iaload, 1) := by decide +kernel
theorem d_M_look_56 : decode b_M_look 56 = .ok (.iastore, 1) := by decide +kernel
theorem d_M_look_57 : decode b_M_look 57 = .ok (.iinc 3 1, 3) := by decide +kernel
theorem d_M_look_60 : decode b_M_look 60 = .ok (.goto (-58), 3) := by decide +kernel
theorem d_M_look_63 : decode b_M_look 63 = .ok (.return_, 1) := by decide +kernel
theorem d_M_allHome_0 : decode b_M_allHome 0 = .ok (.bipush 7, 2) := by decide +kernel
theorem d_M_allHome_2 : decode b_M_allHome 2 = .ok (.istore_n 2, 1) := by decide +kernel
theorem d_M_allHome_3 : decode b_M_allHome 3 = .ok (.iload_n 2, 1) := by decide +kernel
theorem d_M_allHome_4 : decode b_M_allHome 4 = .ok (.bipush 26, 2) := by decide +kernel
theorem d_M_allHome_6 : decode b_M_allHome 6 = .ok (.if_icmp .ge 25, 3) := by decide +kernel
theorem d_M_allHome_9 : decode b_M_allHome 9 = .ok (.aload_n 0, 1) := by decide +kernel
theorem d_M_allHome_10 : decode b_M_allHome 10 = .ok (.getfield 23, 3) := by decide +kernel
theorem d_M_allHome_13 : decode b_M_allHome 13 = .ok (.bipush 52, 2) := by decide +kernel
theorem d_M_allHome_15 : decode b_M_allHome 15 = .ok (.iload_n 1, 1) := by decide +kernel
theorem d_M_allHome_16 : decode b_M_allHome 16 = .ok (.imul, 1) := by decide +kernel
theorem d_M_allHome_17 : decode b_M_allHome 17 = .ok (.iload_n 2, 1) := by decide +kernel
theorem d_M_allHome_18 : decode b_M_allHome 18 = .ok (.iadd, 1) := by decide +kernel
theorem d_M_allHome_19 : decode b_M_allHome 19 = .ok (.iaload, 1) := by decide +kernel
theorem d_M_allHome_20 : decode b_M_allHome 20 = .ok (.ifCond .le 5, 3) := by decide +kernel
theorem d_M_allHome_23 : decode b_M_allHome 23 = .ok (.iconst 0, 1) := by decide +kernel
theorem d_M_allHome_24 : decode b_M_allHome 24 = .ok (.ireturn, 1) := by decide +kernel
theorem d_M_allHome_25 : decode b_M_allHome 25 = .ok (.iinc 2 1, 3) := by decide +kernel
theorem d_M_allHome_28 : decode b_M_allHome 28 = .ok (.goto (-25), 3) := by decide +kernel
theorem d_M_allHome_31 : decode b_M_allHome 31 = .ok (.iconst 1, 1) := by decide +kernel
theorem d_M_allHome_32 : decode b_M_allHome 32 = .ok (.ireturn, 1) := by decide +kernel
theorem d_M_noneAbove_0 : decode b_M_noneAbove 0 = .ok (.iload_n 2, 1) := by decide +kernel
theorem d_M_noneAbove_1 : decode b_M_noneAbove 1 = .ok (.iconst 1, 1) := by decide +kernel
theorem d_M_noneAbove_2 : decode b_M_noneAbove 2 = .ok (.iadd, 1) := by decide +kernel
theorem d_M_noneAbove_3 : decode b_M_noneAbove 3 = .ok (.istore_n 3, 1) := by decide +kernel
theorem d_M_noneAbove_4 : decode b_M_noneAbove 4 = .ok (.iload_n 3, 1) := by decide +kernel
theorem d_M_noneAbove_5 : decode b_M_noneAbove 5 = .ok (.bipush 26, 2) := by decide +kernel
theorem d_M_noneAbove_7 : decode b_M_noneAbove 7 = .ok (.if_icmp .ge 25, 3) := by decide +kernel
theorem d_M_noneAbove_10 : decode b_M_noneAbove 10 = .ok (.aload_n 0, 1) := by decide +kernel
theorem d_M_noneAbove_11 : decode b_M_noneAbove 11 = .ok (.getfield 23, 3) := by decide +kernel
theorem d_M_noneAbove_14 : decode b_M_noneAbove 14 = .ok (.bipush 52, 2) := by decide +kernel
theorem d_M_noneAbove_16 : decode b_M_noneAbove 16 = .ok (.iload_n 1, 1) := by decide +kernel
theorem d_M_noneAbove_17 : decode b_M_noneAbove 17 = .ok (.imul, 1) := by decide +kernel
theorem d_M_noneAbove_18 : decode b_M_noneAbove 18 = .ok (.iload_n 3, 1) := by decide +kernel
theorem d_M_noneAbove_19 : decode b_M_noneAbove 19 = .ok (.iadd, 1) := by decide +kernel
theorem d_M_noneAbove_20 : decode b_M_noneAbove 20 = .ok (.iaload, 1) := by decide +kernel
theorem d_M_noneAbove_21 : decode b_M_noneAbove 21 = .ok (.ifCond .le 5, 3) := by decide +kernel
theorem d_M_noneAbove_24 : decode b_M_noneAbove 24 = .ok (.iconst 0, 1) := by decide +kernel
theorem d_M_noneAbove_25 : decode b_M_noneAbove 25 = .ok (.ireturn, 1) := by decide +kernel
theorem d_M_noneAbove_26 : decode b_M_noneAbove 26 = .ok (.iinc 3 1, 3) := by decide +kernel
theorem d_M_noneAbove_29 : decode b_M_noneAbove 29 = .ok (.goto (-25), 3) := by decide +kernel
theorem d_M_noneAbove_32 : decode b_M_noneAbove 32 = .ok (.iconst 1, 1) := by decide +kernel
theorem d_M_noneAbove_33 : decode b_M_noneAbove 33 = .ok (.ireturn, 1) := by decide +kernel
theorem d_M_can_0 : decode b_M_can 0 = .ok (.bipush 52, 2) := by decide +kernel
theorem d_M_can_2 : decode b_M_can 2 = .ok (.iload_n 1, 1) := by decide +kernel
theorem d_M_can_3 : decode b_M_can 3 = .ok (.imul, 1) := by decide +kernel
theorem d_M_can_4 : decode b_M_can 4 = .ok (.istore 4, 2) := by decide +kernel
theorem d_M_can_6 : decode b_M_can 6 = .ok (.aload_n 0, 1) := by decide +kernel
theorem d_M_can_7 : decode b_M_can 7 = .ok (.getfield 23, 3) := by decide +kernel
theorem d_M_can_10 : decode b_M_can 10 = .ok (.iload 4, 2) := by decide +kernel
theorem d_M_can_12 : decode b_M_can 12 = .ok (.iload_n 2, 1) := by decide +kernel
theorem d_M_can_13 : decode b_M_can 13 = .ok (.iadd, 1) := by decide +kernel
theorem d_M_can_14 : decode b_M_can 14 = .ok (.iaload, 1) := by decide +kernel
theorem d_M_can_15 : decode b_M_can 15 = .ok (.ifCond .eq 22, 3) := by decide +kernel
theorem d_M_can_18 : decode b_M_can 18 = .ok (.iload_n 2, 1) := by decide +kernel
theorem d_M_can_19 : decode b_M_can 19 = .ok (.bipush 25, 2) := by decide +kernel
theorem d_M_can_21 : decode b_M_can 21 = .ok (.if_icmp .ge 18, 3) := by decide +kernel
theorem d_M_can_24 : decode b_M_can 24 = .ok (.aload_n 0, 1) := by decide +kernel
theorem d_M_can_25 : decode b_M_can 25 = .ok (.getfield 23, 3) := by decide +kernel
theorem d_M_can_28 : decode b_M_can 28 = .ok (.iload 4, 2) := by decide +kernel
theorem d_M_can_30 : decode b_M_can 30 = .ok (.bipush 25, 2) := by decide +kernel
theorem d_M_can_32 : decode b_M_can 32 = .ok (.iadd, 1) := by decide +kernel
theorem d_M_can_33 : decode b_M_can 33 = .ok (.iaload, 1) := by decide +kernel
theorem d_M_can_34 : decode b_M_can 34 = .ok (.ifCond .le 5, 3) := by decide +kernel
theorem d_M_can_37 : decode b_M_can 37 = .ok (.iconst 0, 1) := by decide +kernel
theorem d_M_can_38 : decode b_M_can 38 = .ok (.ireturn, 1) := by decide +kernel
theorem d_M_can_39 : decode b_M_can 39 = .ok (.iload_n 2, 1) := by decide +kernel
theorem d_M_can_40 : decode b_M_can 40 = .ok (.iload_n 3, 1) := by decide +kernel
theorem d_M_can_41 : decode b_M_can 41 = .ok (.isub, 1) := by decide +kernel
theorem d_M_can_42 : decode b_M_can 42 = .ok (.istore 5, 2) := by decide +kernel
theorem d_M_can_44 : decode b_M_can 44 = .ok (.iload 5, 2) := by decide +kernel
theorem d_M_can_46 : decode b_M_can 46 = .ok (.ifCond .le 29, 3) := by decide +kernel
theorem d_M_can_49 : decode b_M_can 49 = .ok (.aload_n 0, 1) := by decide +kernel
theorem d_M_can_50 : decode b_M_can 50 = .ok (.getfield 23, 3) := by decide +kernel
theorem d_M_can_53 : decode b_M_can 53 = .ok (.iload 4, 2) := by decide +kernel
theorem d_M_can_55 : decode b_M_can 55 = .ok (.bipush 26, 2) := by decide +kernel
theorem d_M_can_57 : decode b_M_can 57 = .ok (.iadd, 1) := by decide +kernel
theorem d_M_can_58 : decode b_M_can 58 = .ok (.bipush 25, 2) := by decide +kernel
theorem d_M_can_60 : decode b_M_can 60 = .ok (.iadd, 1) := by decide +kernel
theorem d_M_can_61 : decode b_M_can 61 = .ok (.iload 5, 2) := by decide +kernel
theorem d_M_can_63 : decode b_M_can 63 = .ok (.isub, 1) := by decide +kernel
theorem d_M_can_64 : decode b_M_can 64 = .ok (.iaload, 1) := by decide +kernel
theorem d_M_can_65 : decode b_M_can 65 = .ok (.iconst 2, 1) := by decide +kernel
theorem d_M_can_66 : decode b_M_can 66 = .ok (.if_icmp .ge 7, 3) := by decide +kernel
theorem d_M_can_69 : decode b_M_can 69 = .ok (.iconst 1, 1) := by decide +kernel
theorem d_M_can_70 : decode b_M_can 70 = .ok (.goto 4, 3) := by decide +kernel
theorem d_M_can_73 : decode b_M_can 73 = .ok (.iconst 0, 1) := by decide +kernel
theorem d_M_can_74 : decode b_M_can 74 = .ok (.ireturn, 1) := by decide +kernel
theorem d_M_can_75 : decode b_M_can 75 = .ok (.aload_n 0, 1) := by decide +kernel
theorem d_M_can_76 : decode b_M_can 76 = .ok (.iload_n 1, 1) := by decide +kernel
theorem d_M_can_77 : decode b_M_can 77 = .ok (.invokevirtual 42, 3) := by decide +kernel
theorem d_M_can_80 : decode b_M_can 80 = .ok (.ifCond .eq 21, 3) := by decide +kernel
theorem d_M_can_83 : decode b_M_can 83 = .ok (.iload 5, 2) := by decide +kernel
theorem d_M_can_85 : decode b_M_can 85 = .ok (.ifCond .eq 12, 3) := by decide +kernel
theorem d_M_can_88 : decode b_M_can 88 = .ok (.aload_n 0, 1) := by decide +kernel
theorem d_M_can_89 : decode b_M_can 89 = .ok (.iload_n 1, 1) := by decide +kernel
theorem d_M_can_90 : decode b_M_can 90 = .ok (.iload_n 2, 1) := by decide +kernel
theorem d_M_can_91 : decode b_M_can 91 = .ok (.invokevirtual 46, 3) := by decide +kernel
theorem d_M_can_94 : decode b_M_can 94 = .ok (.ifCond .eq 7, 3) := by decide +kernel
theorem d_M_can_97 : decode b_M_can 97 = .ok (.iconst 1, 1) := by decide +kernel
theorem d_M_can_98 : decode b_M_can 98 = .ok (.goto 4, 3) := by decide +kernel
theorem d_M_can_101 : decode b_M_can 101 = .ok (.iconst 0, 1) := by decide +kernel
theorem d_M_can_102 : decode b_M_can 102 = .ok (.ireturn, 1) := by decide +kernel
theorem d_M_make_0 : decode b_M_make 0 = .ok (.bipush 52, 2) := by decide +kernel
theorem d_M_make_2 : decode b_M_make 2 = .ok (.iload_n 1, 1) := by decide +kernel
theorem d_M_make_3 : decode b_M_make 3 = .ok (.imul, 1) := by decide +kernel
theorem d_M_make_4 : decode b_M_make 4 = .ok (.istore 4, 2) := by decide +kernel
theorem d_M_make_6 : decode b_M_make 6 = .ok (.iconst 0, 1) := by decide +kernel
theorem d_M_make_7 : decode b_M_make 7 = .ok (.istore 5, 2) := by decide +kernel
theorem d_M_make_9 : decode b_M_make 9 = .ok (.iload 5, 2) := by decide +kernel
theorem d_M_make_11 : decode b_M_make 11 = .ok (.bipush 52, 2) := by decide +kernel
theorem d_M_make_13 : decode b_M_make 13 = .ok (.if_icmp .ge 32, 3) := by decide +kernel
theorem d_M_make_16 : decode b_M_make 16 = .ok (.aload_n 0, 1) := by decide +kernel
theorem d_M_make_17 : decode b_M_make 17 = .ok (.getfield 23, 3) := by decide +kernel
theorem d_M_make_20 : decode b_M_make 20 = .ok (.iload 4, 2) := by decide +kernel
theorem d_M_make_22 : decode b_M_make 22 = .ok (.bipush 52, 2) := by decide +kernel
theorem d_M_make_24 : decode b_M_make 24 = .ok (.iadd, 1) := by decide +kernel
theorem d_M_make_25 : decode b_M_make 25 = .ok (.iload 5, 2) := by decide +kernel
theorem d_M_make_27 : decode b_M_make 27 = .ok (.iadd, 1) := by decide +kernel
theorem d_M_make_28 : decode b_M_make 28 = .ok (.aload_n 0, 1) := by decide +kernel
theorem d_M_make_29 : decode b_M_make 29 = .ok (.getfield 23, 3) := by decide +kernel
theorem d_M_make_32 : decode b_M_make 32 = .ok (.iload 4, 2) := by decide +kernel
theorem d_M_make_34 : decode b_M_make 34 = .ok (.iload 5, 2) := by decide +kernel
theorem d_M_make_36 : decode b_M_make 36 = .ok (.iadd, 1) := by decide +kernel
theorem d_M_make_37 : decode b_M_make 37 = .ok (.iaload, 1) := by decide +kernel
theorem d_M_make_38 : decode b_M_make 38 = .ok (.iastore, 1) := by decide +kernel
theorem d_M_make_39 : decode b_M_make 39 = .ok (.iinc 5 1, 3) := by decide +kernel
theorem d_M_make_42 : decode b_M_make 42 = .ok (.goto (-33), 3) := by decide +kernel
theorem d_M_make_45 : decode b_M_make 45 = .ok (.iload 4, 2) := by decide +kernel
theorem d_M_make_47 : decode b_M_make 47 = .ok (.bipush 52, 2) := by decide +kernel
theorem d_M_make_49 : decode b_M_make 49 = .ok (.iadd, 1) := by decide +kernel
theorem d_M_make_50 : decode b_M_make 50 = .ok (.istore 4, 2) := by decide +kernel
theorem d_M_make_52 : decode b_M_make 52 = .ok (.iload_n 2, 1) := by decide +kernel
theorem d_M_make_53 : decode b_M_make 53 = .ok (.iload_n 3, 1) := by decide +kernel
theorem d_M_make_54 : decode b_M_make 54 = .ok (.isub, 1) := by decide +kernel
theorem d_M_make_55 : decode b_M_make 55 = .ok (.ifCond .ge 7, 3) := by decide +kernel
theorem d_M_make_58 : decode b_M_make 58 = .ok (.iconst 0, 1) := by decide +kernel
theorem d_M_make_59 : decode b_M_make 59 = .ok (.goto 6, 3) := by decide +kernel
theorem d_M_make_62 : decode b_M_make 62 = .ok (.iload_n 2, 1) := by decide +kernel
theorem d_M_make_63 : decode b_M_make 63 = .ok (.iload_n 3, 1) := by decide +kernel
theorem d_M_make_64 : decode b_M_make 64 = .ok (.isub, 1) := by decide +kernel
theorem d_M_make_65 : decode b_M_make 65 = .ok (.istore 5, 2) := by decide +kernel
theorem d_M_make_67 : decode b_M_make 67 = .ok (.aload_n 0, 1) := by decide +kernel
theorem d_M_make_68 : decode b_M_make 68 = .ok (.getfield 23, 3) := by decide +kernel
theorem d_M_make_71 : decode b_M_make 71 = .ok (.iload 4, 2) := by decide +kernel
theorem d_M_make_73 : decode b_M_make 73 = .ok (.iload_n 2, 1) := by decide +kernel
theorem d_M_make_74 : decode b_M_make 74 = .ok (.iadd, 1) := by decide +kernel
theorem d_M_make_75 : decode b_M_make 75 = .ok (.dup2, 1) := by decide +kernel
theorem d_M_make_76 : decode b_M_make 76 = .ok (.iaload, 1) := by decide +kernel
theorem d_M_make_77 : decode b_M_make 77 = .ok (.iconst 1, 1) := by decide +kernel
theorem d_M_make_78 : decode b_M_make 78 = .ok (.isub, 1) := by decide +kernel
theorem d_M_make_79 : decode b_M_make 79 = .ok (.iastore, 1) := by decide +kernel
theorem d_M_make_80 : decode b_M_make 80 = .ok (.aload_n 0, 1) := by decide +kernel
theorem d_M_make_81 : decode b_M_make 81 = .ok (.getfield 23, 3) := by decide +kernel
theorem d_M_make_84 : decode b_M_make 84 = .ok (.iload 4, 2) := by decide +kernel
theorem d_M_make_86 : decode b_M_make 86 = .ok (.iload 5, 2) := by decide +kernel
theorem d_M_make_88 : decode b_M_make 88 = .ok (.iadd, 1) := by decide +kernel
theorem d_M_make_89 : decode b_M_make 89 = .ok (.dup2, 1) := by decide +kernel
theorem d_M_make_90 : decode b_M_make 90 = .ok (.iaload, 1) := by decide +kernel
theorem d_M_make_91 : decode b_M_make 91 = .ok (.iconst 1, 1) := by decide +kernel
theorem d_M_make_92 : decode b_M_make 92 = .ok (.iadd, 1) := by decide +kernel
theorem d_M_make_93 : decode b_M_make 93 = .ok (.iastore, 1) := by decide +kernel
theorem d_M_make_94 : decode b_M_make 94 = .ok (.iload 5, 2) := by decide +kernel
theorem d_M_make_96 : decode b_M_make 96 = .ok (.ifCond .le 57, 3) := by decide +kernel
theorem d_M_make_99 : decode b_M_make 99 = .ok (.aload_n 0, 1) := by decide +kernel
theorem d_M_make_100 : decode b_M_make 100 = .ok (.getfield 23, 3) := by decide +kernel
theorem d_M_make_103 : decode b_M_make 103 = .ok (.iload 4, 2) := by decide +kernel
theorem d_M_make_105 : decode b_M_make 105 = .ok (.bipush 26, 2) := by decide +kernel
theorem d_M_make_107 : decode b_M_make 107 = .ok (.iadd, 1) := by decide +kernel
theorem d_M_make_108 : decode b_M_make 108 = .ok (.bipush 25, 2) := by decide +kernel
theorem d_M_make_110 : decode b_M_make 110 = .ok (.iadd, 1) := by decide +kernel
theorem d_M_make_111 : decode b_M_make 111 = .ok (.iload 5, 2) := by decide +kernel
theorem d_M_make_113 : decode b_M_make 113 = .ok (.isub, 1) := by decide +kernel
theorem d_M_make_114 : decode b_M_make 114 = .ok (.iaload, 1) := by decide +kernel
theorem d_M_make_115 : decode b_M_make 115 = .ok (.iconst 1, 1) := by decide +kernel
theorem d_M_make_116 : decode b_M_make 116 = .ok (.if_icmp .ne 37, 3) := by decide +kernel
theorem d_M_make_119 : decode b_M_make 119 = .ok (.aload_n 0, 1) := by decide +kernel
theorem d_M_make_120 : decode b_M_make 120 = .ok (.getfield 23, 3) := by decide +kernel
theorem d_M_make_123 : decode b_M_make 123 = .ok (.iload 4, 2) := by decide +kernel
theorem d_M_make_125 : decode b_M_make 125 = .ok (.bipush 26, 2) := by decide +kernel
theorem d_M_make_127 : decode b_M_make 127 = .ok (.iadd, 1) := by decide +kernel
theorem d_M_make_128 : decode b_M_make 128 = .ok (.bipush 25, 2) := by decide +kernel
theorem d_M_make_130 : decode b_M_make 130 = .ok (.iadd, 1) := by decide +kernel
theorem d_M_make_131 : decode b_M_make 131 = .ok (.iload 5, 2) := by decide +kernel
theorem d_M_make_133 : decode b_M_make 133 = .ok (.isub, 1) := by decide +kernel
theorem d_M_make_134 : decode b_M_make 134 = .ok (.iconst 0, 1) := by decide +kernel
theorem d_M_make_135 : decode b_M_make 135 = .ok (.iastore, 1) := by decide +kernel
theorem d_M_make_136 : decode b_M_make 136 = .ok (.aload_n 0, 1) := by decide +kernel
theorem d_M_make_137 : decode b_M_make 137 = .ok (.getfield 23, 3) := by decide +kernel
theorem d_M_make_140 : decode b_M_make 140 = .ok (.iload 4, 2) := by decide +kernel
theorem d_M_make_142 : decode b_M_make 142 = .ok (.bipush 26, 2) := by decide +kernel
theorem d_M_make_144 : decode b_M_make 144 = .ok (.iadd, 1) := by decide +kernel
theorem d_M_make_145 : decode b_M_make 145 = .ok (.bipush 25, 2) := by decide +kernel
theorem d_M_make_147 : decode b_M_make 147 = .ok (.iadd, 1) := by decide +kernel
theorem d_M_make_148 : decode b_M_make 148 = .ok (.dup2, 1) := by decide +kernel
theorem d_M_make_149 : decode b_M_make 149 = .ok (.iaload, 1) := by decide +kernel
theorem d_M_make_150 : decode b_M_make 150 = .ok (.iconst 1, 1) := by decide +kernel
theorem d_M_make_151 : decode b_M_make 151 = .ok (.iadd, 1) := by decide +kernel
theorem d_M_make_152 : decode b_M_make 152 = .ok (.iastore, 1) := by decide +kernel
theorem d_M_make_153 : decode b_M_make 153 = .ok (.return_, 1) := by decide +kernel
theorem d_M_any_0 : decode b_M_any 0 = .ok (.iconst 1, 1) := by decide +kernel
theorem d_M_any_1 : decode b_M_any 1 = .ok (.istore_n 3, 1) := by decide +kernel
theorem d_M_any_2 : decode b_M_any 2 = .ok (.iload_n 3, 1) := by decide +kernel
theorem d_M_any_3 : decode b_M_any 3 = .ok (.bipush 26, 2) := by decide +kernel
theorem d_M_any_5 : decode b_M_any 5 = .ok (.if_icmp .ge 21, 3) := by decide +kernel
theorem d_M_any_8 : decode b_M_any 8 = .ok (.aload_n 0, 1) := by decide +kernel
theorem d_M_any_9 : decode b_M_any 9 = .ok (.iload_n 1, 1) := by decide +kernel
theorem d_M_any_10 : decode b_M_any 10 = .ok (.iload_n 3, 1) := by decide +kernel
theorem d_M_any_11 : decode b_M_any 11 = .ok (.iload_n 2, 1) := by decide +kernel
theorem d_M_any_12 : decode b_M_any 12 = .ok (.invokevirtual 50, 3) := by decide +kernel
theorem d_M_any_15 : decode b_M_any 15 = .ok (.ifCond .eq 5, 3) := by decide +kernel
theorem d_M_any_18 : decode b_M_any 18 = .ok (.iconst 1, 1) := by decide +kernel
theorem d_M_any_19 : decode b_M_any 19 = .ok (.ireturn, 1) := by decide +kernel
theorem d_M_any_20 : decode b_M_any 20 = .ok (.iinc 3 1, 3) := by decide +kernel
theorem d_M_any_23 : decode b_M_any 23 = .ok (.goto (-21), 3) := by decide +kernel
theorem d_M_any_26 : decode b_M_any 26 = .ok (.iconst 0, 1) := by decide +kernel
theorem d_M_any_27 : decode b_M_any 27 = .ok (.ireturn, 1) := by decide +kernel
theorem d_M_longest_0 : decode b_M_longest 0 = .ok (.iconst 0, 1) := by decide +kernel
theorem d_M_longest_1 : decode b_M_longest 1 = .ok (.istore 4, 2) := by decide +kernel
theorem d_M_longest_3 : decode b_M_longest 3 = .ok (.iload_n 3, 1) := by decide +kernel
theorem d_M_longest_4 : decode b_M_longest 4 = .ok (.ifCond .le 7, 3) := by decide +kernel
theorem d_M_longest_7 : decode b_M_longest 7 = .ok (.iconst 0, 1) := by decide +kernel
theorem d_M_longest_8 : decode b_M_longest 8 = .ok (.goto 4, 3) := by decide +kernel
theorem d_M_longest_11 : decode b_M_longest 11 = .ok (.iconst (-1), 1) := by decide +kernel
theorem d_M_longest_12 : decode b_M_longest 12 = .ok (.istore 5, 2) := by decide +kernel
theorem d_M_longest_14 : decode b_M_longest 14 = .ok (.aload_n 0, 1) := by decide +kernel
theorem d_M_longest_15 : decode b_M_longest 15 = .ok (.getfield 26, 3) := by decide +kernel
theorem d_M_longest_18 : decode b_M_longest 18 = .ok (.iconst 0, 1) := by decide +kernel
theorem d_M_longest_19 : decode b_M_longest 19 = .ok (.bipush 26, 2) := by decide +kernel
theorem d_M_longest_21 : decode b_M_longest 21 = .ok (.iastore, 1) := by decide +kernel
theorem d_M_longest_22 : decode b_M_longest 22 = .ok (.iload 5, 2) := by decide +kernel
theorem d_M_longest_24 : decode b_M_longest 24 = .ok (.ifCond .lt 115, 3) := by decide +kernel
theorem d_M_longest_27 : decode b_M_longest 27 = .ok (.iload 4, 2) := by decide +kernel
theorem d_M_longest_29 : decode b_M_longest 29 = .ok (.iload_n 3, 1) := by decide +kernel
theorem d_M_longest_30 : decode b_M_longest 30 = .ok (.if_icmp .ge 109, 3) := by decide +kernel
theorem d_M_longest_33 : decode b_M_longest 33 = .ok (.aload_n 0, 1) := by decide +kernel
theorem d_M_longest_34 : decode b_M_longest 34 = .ok (.getfield 26, 3) := by decide +kernel
theorem d_M_longest_37 : decode b_M_longest 37 = .ok (.iload 5, 2) := by decide +kernel
theorem d_M_longest_39 : decode b_M_longest 39 = .ok (.dup2, 1) := by decide +kernel
theorem d_M_longest_40 : decode b_M_longest 40 = .ok (.iaload, 1) := by decide +kernel
theorem d_M_longest_41 : decode b_M_longest 41 = .ok (.iconst 1, 1) := by decide +kernel
theorem d_M_longest_42 : decode b_M_longest 42 = .ok (.isub, 1) := by decide +kernel
theorem d_M_longest_43 : decode b_M_longest 43 = .ok (.iastore, 1) := by decide +kernel
theorem d_M_longest_44 : decode b_M_longest 44 = .ok (.aload_n 0, 1) := by decide +kernel
theorem d_M_longest_45 : decode b_M_longest 45 = .ok (.getfield 26, 3) := by decide +kernel
theorem d_M_longest_48 : decode b_M_longest 48 = .ok (.iload 5, 2) := by decide +kernel
theorem d_M_longest_50 : decode b_M_longest 50 = .ok (.iaload, 1) := by decide +kernel
theorem d_M_longest_51 : decode b_M_longest 51 = .ok (.iconst 1, 1) := by decide +kernel
theorem d_M_longest_52 : decode b_M_longest 52 = .ok (.if_icmp .ge 9, 3) := by decide +kernel
theorem d_M_longest_55 : decode b_M_longest 55 = .ok (.iinc 5 (-1), 3) := by decide +kernel
theorem d_M_longest_58 : decode b_M_longest 58 = .ok (.goto (-36), 3) := by decide +kernel
theorem d_M_longest_61 : decode b_M_longest 61 = .ok (.aload_n 0, 1) := by decide +kernel
theorem d_M_longest_62 : decode b_M_longest 62 = .ok (.iload_n 1, 1) := by decide +kernel
theorem d_M_longest_63 : decode b_M_longest 63 = .ok (.iload 5, 2) := by decide +kernel
theorem d_M_longest_65 : decode b_M_longest 65 = .ok (.iadd, 1) := by decide +kernel
theorem d_M_longest_66 : decode b_M_longest 66 = .ok (.aload_n 0, 1) := by decide +kernel
theorem d_M_longest_67 : decode b_M_longest 67 = .ok (.getfield 26, 3) := by decide +kernel
theorem d_M_longest_70 : decode b_M_longest 70 = .ok (.iload 5, 2) := by decide +kernel
theorem d_M_longest_72 : decode b_M_longest 72 = .ok (.iaload, 1) := by decide +kernel
theorem d_M_longest_73 : decode b_M_longest 73 = .ok (.iload_n 2, 1) := by decide +kernel
theorem d_M_longest_74 : decode b_M_longest 74 = .ok (.invokevirtual 50, 3) := by decide +kernel
theorem d_M_longest_77 : decode b_M_longest 77 = .ok (.ifCond .eq (-55), 3) := by decide +kernel
theorem d_M_longest_80 : decode b_M_longest 80 = .ok (.iload 5, 2) := by decide +kernel
theorem d_M_longest_82 : decode b_M_longest 82 = .ok (.iconst 1, 1) := by decide +kernel
theorem d_M_longest_83 : decode b_M_longest 83 = .ok (.iadd, 1) := by decide +kernel
theorem d_M_longest_84 : decode b_M_longest 84 = .ok (.iload 4, 2) := by decide +kernel
theorem d_M_longest_86 : decode b_M_longest 86 = .ok (.if_icmp .le 10, 3) := by decide +kernel
theorem d_M_longest_89 : decode b_M_longest 89 = .ok (.iload 5, 2) := by decide +kernel
theorem d_M_longest_91 : decode b_M_longest 91 = .ok (.iconst 1, 1) := by decide +kernel
theorem d_M_longest_92 : decode b_M_longest 92 = .ok (.iadd, 1) := by decide +kernel
theorem d_M_longest_93 : decode b_M_longest 93 = .ok (.goto 5, 3) := by decide +kernel
theorem d_M_longest_96 : decode b_M_longest 96 = .ok (.iload 4, 2) := by decide +kernel
theorem d_M_longest_98 : decode b_M_longest 98 = .ok (.istore 4, 2) := by decide +kernel
theorem d_M_longest_100 : decode b_M_longest 100 = .ok (.iload 5, 2) := by decide +kernel
theorem d_M_longest_102 : decode b_M_longest 102 = .ok (.iconst 1, 1) := by decide +kernel
theorem d_M_longest_103 : decode b_M_longest 103 = .ok (.iadd, 1) := by decide +kernel
theorem d_M_longest_104 : decode b_M_longest 104 = .ok (.iload_n 3, 1) := by decide +kernel
theorem d_M_longest_105 : decode b_M_longest 105 = .ok (.if_icmp .ge (-83), 3) := by decide +kernel
theorem d_M_longest_108 : decode b_M_longest 108 = .ok (.aload_n 0, 1) := by decide +kernel
theorem d_M_longest_109 : decode b_M_longest 109 = .ok (.iload_n 1, 1) := by decide +kernel
theorem d_M_longest_110 : decode b_M_longest 110 = .ok (.iload 5, 2) := by decide +kernel
theorem d_M_longest_112 : decode b_M_longest 112 = .ok (.iadd, 1) := by decide +kernel
theorem d_M_longest_113 : decode b_M_longest 113 = .ok (.aload_n 0, 1) := by decide +kernel
theorem d_M_longest_114 : decode b_M_longest 114 = .ok (.getfield 26, 3) := by decide +kernel
theorem d_M_longest_117 : decode b_M_longest 117 = .ok (.iload 5, 2) := by decide +kernel
theorem d_M_longest_119 : decode b_M_longest 119 = .ok (.iaload, 1) := by decide +kernel
theorem d_M_longest_120 : decode b_M_longest 120 = .ok (.iload_n 2, 1) := by decide +kernel
theorem d_M_longest_121 : decode b_M_longest 121 = .ok (.invokevirtual 54, 3) := by decide +kernel
theorem d_M_longest_124 : decode b_M_longest 124 = .ok (.iinc 5 1, 3) := by decide +kernel
theorem d_M_longest_127 : decode b_M_longest 127 = .ok (.aload_n 0, 1) := by decide +kernel
theorem d_M_longest_128 : decode b_M_longest 128 = .ok (.getfield 26, 3) := by decide +kernel
theorem d_M_longest_131 : decode b_M_longest 131 = .ok (.iload 5, 2) := by decide +kernel
theorem d_M_longest_133 : decode b_M_longest 133 = .ok (.bipush 26, 2) := by decide +kernel
theorem d_M_longest_135 : decode b_M_longest 135 = .ok (.iastore, 1) := by decide +kernel
theorem d_M_longest_136 : decode b_M_longest 136 = .ok (.goto (-114), 3) := by decide +kernel
theorem d_M_longest_139 : decode b_M_longest 139 = .ok (.iload 4, 2) := by decide +kernel
theorem d_M_longest_141 : decode b_M_longest 141 = .ok (.ireturn, 1) := by decide +kernel
theorem d_M_both_0 : decode b_M_both 0 = .ok (.iconst 1, 1) := by decide +kernel
theorem d_M_both_1 : decode b_M_both 1 = .ok (.istore 4, 2) := by decide +kernel
theorem d_M_both_3 : decode b_M_both 3 = .ok (.iload 4, 2) := by decide +kernel
theorem d_M_both_5 : decode b_M_both 5 = .ok (.bipush 26, 2) := by decide +kernel
theorem d_M_both_7 : decode b_M_both 7 = .ok (.if_icmp .ge 41, 3) := by decide +kernel
theorem d_M_both_10 : decode b_M_both 10 = .ok (.aload_n 0, 1) := by decide +kernel
theorem d_M_both_11 : decode b_M_both 11 = .ok (.iload_n 1, 1) := by decide +kernel
theorem d_M_both_12 : decode b_M_both 12 = .ok (.iload 4, 2) := by decide +kernel
theorem d_M_both_14 : decode b_M_both 14 = .ok (.iload_n 2, 1) := by decide +kernel
theorem d_M_both_15 : decode b_M_both 15 = .ok (.invokevirtual 50, 3) := by decide +kernel
theorem d_M_both_18 : decode b_M_both 18 = .ok (.ifCond .eq 24, 3) := by decide +kernel
theorem d_M_both_21 : decode b_M_both 21 = .ok (.aload_n 0, 1) := by decide +kernel
theorem d_M_both_22 : decode b_M_both 22 = .ok (.iload_n 1, 1) := by decide +kernel
theorem d_M_both_23 : decode b_M_both 23 = .ok (.iload 4, 2) := by decide +kernel
theorem d_M_both_25 : decode b_M_both 25 = .ok (.iload_n 2, 1) := by decide +kernel
theorem d_M_both_26 : decode b_M_both 26 = .ok (.invokevirtual 54, 3) := by decide +kernel
theorem d_M_both_29 : decode b_M_both 29 = .ok (.aload_n 0, 1) := by decide +kernel
theorem d_M_both_30 : decode b_M_both 30 = .ok (.iload_n 1, 1) := by decide +kernel
theorem d_M_both_31 : decode b_M_both 31 = .ok (.iconst 1, 1) := by decide +kernel
theorem d_M_both_32 : decode b_M_both 32 = .ok (.iadd, 1) := by decide +kernel
theorem d_M_both_33 : decode b_M_both 33 = .ok (.iload_n 3, 1) := by decide +kernel
theorem d_M_both_34 : decode b_M_both 34 = .ok (.invokevirtual 58, 3) := by decide +kernel
theorem d_M_both_37 : decode b_M_both 37 = .ok (.ifCond .eq 5, 3) := by decide +kernel
theorem d_M_both_40 : decode b_M_both 40 = .ok (.iconst 1, 1) := by decide +kernel
theorem d_M_both_41 : decode b_M_both 41 = .ok (.ireturn, 1) := by decide +kernel
theorem d_M_both_42 : decode b_M_both 42 = .ok (.iinc 4 1, 3) := by decide +kernel
theorem d_M_both_45 : decode b_M_both 45 = .ok (.goto (-42), 3) := by decide +kernel
theorem d_M_both_48 : decode b_M_both 48 = .ok (.iconst 0, 1) := by decide +kernel
theorem d_M_both_49 : decode b_M_both 49 = .ok (.ireturn, 1) := by decide +kernel
theorem d_M_dueAt_0 : decode b_M_dueAt 0 = .ok (.iload_n 2, 1) := by decide +kernel
theorem d_M_dueAt_1 : decode b_M_dueAt 1 = .ok (.ifCond .le 71, 3) := by decide +kernel
theorem d_M_dueAt_4 : decode b_M_dueAt 4 = .ok (.iload_n 3, 1) := by decide +kernel
theorem d_M_dueAt_5 : decode b_M_dueAt 5 = .ok (.ifCond .le 67, 3) := by decide +kernel
theorem d_M_dueAt_8 : decode b_M_dueAt 8 = .ok (.aload_n 0, 1) := by decide +kernel
theorem d_M_dueAt_9 : decode b_M_dueAt 9 = .ok (.iload_n 1, 1) := by decide +kernel
theorem d_M_dueAt_10 : decode b_M_dueAt 10 = .ok (.aload_n 0, 1) := by decide +kernel
theorem d_M_dueAt_11 : decode b_M_dueAt 11 = .ok (.getfield 61, 3) := by decide +kernel
theorem d_M_dueAt_14 : decode b_M_dueAt 14 = .ok (.aload_n 0, 1) := by decide +kernel
theorem d_M_dueAt_15 : decode b_M_dueAt 15 = .ok (.getfield 64, 3) := by decide +kernel
theorem d_M_dueAt_18 : decode b_M_dueAt 18 = .ok (.invokevirtual 67, 3) := by decide +kernel
theorem d_M_dueAt_21 : decode b_M_dueAt 21 = .ok (.ifCond .ne 19, 3) := by decide +kernel
theorem d_M_dueAt_24 : decode b_M_dueAt 24 = .ok (.aload_n 0, 1) := by decide +kernel
theorem d_M_dueAt_25 : decode b_M_dueAt 25 = .ok (.iload_n 1, 1) := by decide +kernel
theorem d_M_dueAt_26 : decode b_M_dueAt 26 = .ok (.aload_n 0, 1) := by decide +kernel
theorem d_M_dueAt_27 : decode b_M_dueAt 27 = .ok (.getfield 64, 3) := by decide +kernel
theorem d_M_dueAt_30 : decode b_M_dueAt 30 = .ok (.aload_n 0, 1) := by decide +kernel
theorem d_M_dueAt_31 : decode b_M_dueAt 31 = .ok (.getfield 61, 3) := by decide +kernel
theorem d_M_dueAt_34 : decode b_M_dueAt 34 = .ok (.invokevirtual 67, 3) := by decide +kernel
theorem d_M_dueAt_37 : decode b_M_dueAt 37 = .ok (.ifCond .eq 5, 3) := by decide +kernel
theorem d_M_dueAt_40 : decode b_M_dueAt 40 = .ok (.iconst 2, 1) := by decide +kernel
theorem d_M_dueAt_41 : decode b_M_dueAt 41 = .ok (.ireturn, 1) := by decide +kernel
theorem d_M_dueAt_42 : decode b_M_dueAt 42 = .ok (.aload_n 0, 1) := by decide +kernel
theorem d_M_dueAt_43 : decode b_M_dueAt 43 = .ok (.iload_n 1, 1) := by decide +kernel
theorem d_M_dueAt_44 : decode b_M_dueAt 44 = .ok (.aload_n 0, 1) := by decide +kernel
theorem d_M_dueAt_45 : decode b_M_dueAt 45 = .ok (.getfield 61, 3) := by decide +kernel
theorem d_M_dueAt_48 : decode b_M_dueAt 48 = .ok (.invokevirtual 58, 3) := by decide +kernel
theorem d_M_dueAt_51 : decode b_M_dueAt 51 = .ok (.ifCond .ne 15, 3) := by decide +kernel
theorem d_M_dueAt_54 : decode b_M_dueAt 54 = .ok (.aload_n 0, 1) := by decide +kernel
theorem d_M_dueAt_55 : decode b_M_dueAt 55 = .ok (.iload_n 1, 1) := by decide +kernel
theorem d_M_dueAt_56 : decode b_M_dueAt 56 = .ok (.aload_n 0, 1) := by decide +kernel
theorem d_M_dueAt_57 : decode b_M_dueAt 57 = .ok (.getfield 64, 3) := by decide +kernel
theorem d_M_dueAt_60 : decode b_M_dueAt 60 = .ok (.invokevirtual 58, 3) := by decide +kernel
theorem d_M_dueAt_63 : decode b_M_dueAt 63 = .ok (.ifCond .eq 7, 3) := by decide +kernel
theorem d_M_dueAt_66 : decode b_M_dueAt 66 = .ok (.iconst 1, 1) := by decide +kernel
theorem d_M_dueAt_67 : decode b_M_dueAt 67 = .ok (.goto 4, 3) := by decide +kernel
theorem d_M_dueAt_70 : decode b_M_dueAt 70 = .ok (.iconst 0, 1) := by decide +kernel
theorem d_M_dueAt_71 : decode b_M_dueAt 71 = .ok (.ireturn, 1) := by decide +kernel
theorem d_M_dueAt_72 : decode b_M_dueAt 72 = .ok (.iload_n 2, 1) := by decide +kernel
theorem d_M_dueAt_73 : decode b_M_dueAt 73 = .ok (.ifCond .le 16, 3) := by decide +kernel
theorem d_M_dueAt_76 : decode b_M_dueAt 76 = .ok (.aload_n 0, 1) := by decide +kernel
theorem d_M_dueAt_77 : decode b_M_dueAt 77 = .ok (.iload_n 1, 1) := by decide +kernel
theorem d_M_dueAt_78 : decode b_M_dueAt 78 = .ok (.aload_n 0, 1) := by decide +kernel
theorem d_M_dueAt_79 : decode b_M_dueAt 79 = .ok (.getfield 61, 3) := by decide +kernel
theorem d_M_dueAt_82 : decode b_M_dueAt 82 = .ok (.iload_n 2, 1) := by decide +kernel
theorem d_M_dueAt_83 : decode b_M_dueAt 83 = .ok (.invokevirtual 70, 3) := by decide +kernel
theorem d_M_dueAt_86 : decode b_M_dueAt 86 = .ok (.goto 13, 3) := by decide +kernel
theorem d_M_dueAt_89 : decode b_M_dueAt 89 = .ok (.aload_n 0, 1) := by decide +kernel
theorem d_M_dueAt_90 : decode b_M_dueAt 90 = .ok (.iload_n 1, 1) := by decide +kernel
theorem d_M_dueAt_91 : decode b_M_dueAt 91 = .ok (.aload_n 0, 1) := by decide +kernel
theorem d_M_dueAt_92 : decode b_M_dueAt 92 = .ok (.getfield 64, 3) := by decide +kernel
theorem d_M_dueAt_95 : decode b_M_dueAt 95 = .ok (.iload_n 3, 1) := by decide +kernel
theorem d_M_dueAt_96 : decode b_M_dueAt 96 = .ok (.invokevirtual 70, 3) := by decide +kernel
theorem d_M_dueAt_99 : decode b_M_dueAt 99 = .ok (.ireturn, 1) := by decide +kernel
theorem d_M_right_0 : decode b_M_right 0 = .ok (.iload_n 2, 1) := by decide +kernel
theorem d_M_right_1 : decode b_M_right 1 = .ok (.aload_n 0, 1) := by decide +kernel
theorem d_M_right_2 : decode b_M_right 2 = .ok (.getfield 61, 3) := by decide +kernel
theorem d_M_right_5 : decode b_M_right 5 = .ok (.if_icmp .ne 14, 3) := by decide +kernel
theorem d_M_right_8 : decode b_M_right 8 = .ok (.aload_n 0, 1) := by decide +kernel
theorem d_M_right_9 : decode b_M_right 9 = .ok (.getfield 74, 3) := by decide +kernel
theorem d_M_right_12 : decode b_M_right 12 = .ok (.ifCond .le 7, 3) := by decide +kernel
theorem d_M_right_15 : decode b_M_right 15 = .ok (.iconst 1, 1) := by decide +kernel
theorem d_M_right_16 : decode b_M_right 16 = .ok (.goto 4, 3) := by decide +kernel
theorem d_M_right_19 : decode b_M_right 19 = .ok (.iconst 0, 1) := by decide +kernel
theorem d_M_right_20 : decode b_M_right 20 = .ok (.istore_n 3, 1) := by decide +kernel
theorem d_M_right_21 : decode b_M_right 21 = .ok (.iload_n 2, 1) := by decide +kernel
theorem d_M_right_22 : decode b_M_right 22 = .ok (.aload_n 0, 1) := by decide +kernel
theorem d_M_right_23 : decode b_M_right 23 = .ok (.getfield 64, 3) := by decide +kernel
theorem d_M_right_26 : decode b_M_right 26 = .ok (.if_icmp .ne 14, 3) := by decide +kernel
theorem d_M_right_29 : decode b_M_right 29 = .ok (.aload_n 0, 1) := by decide +kernel
theorem d_M_right_30 : decode b_M_right 30 = .ok (.getfield 77, 3) := by decide +kernel
theorem d_M_right_33 : decode b_M_right 33 = .ok (.ifCond .le 7, 3) := by decide +kernel
theorem d_M_right_36 : decode b_M_right 36 = .ok (.iconst 1, 1) := by decide +kernel
theorem d_M_right_37 : decode b_M_right 37 = .ok (.goto 4, 3) := by decide +kernel
theorem d_M_right_40 : decode b_M_right 40 = .ok (.iconst 0, 1) := by decide +kernel
theorem d_M_right_41 : decode b_M_right 41 = .ok (.istore 4, 2) := by decide +kernel
theorem d_M_right_43 : decode b_M_right 43 = .ok (.iload_n 3, 1) := by decide +kernel
theorem d_M_right_44 : decode b_M_right 44 = .ok (.ifCond .ne 10, 3) := by decide +kernel
theorem d_M_right_47 : decode b_M_right 47 = .ok (.iload 4, 2) := by decide +kernel
theorem d_M_right_49 : decode b_M_right 49 = .ok (.ifCond .ne 5, 3) := by decide +kernel
theorem d_M_right_52 : decode b_M_right 52 = .ok (.iconst 0, 1) := by decide +kernel
theorem d_M_right_53 : decode b_M_right 53 = .ok (.ireturn, 1) := by decide +kernel
theorem d_M_right_54 : decode b_M_right 54 = .ok (.aload_n 0, 1) := by decide +kernel
theorem d_M_right_55 : decode b_M_right 55 = .ok (.aload_n 0, 1) := by decide +kernel
theorem d_M_right_56 : decode b_M_right 56 = .ok (.getfield 80, 3) := by decide +kernel
theorem d_M_right_59 : decode b_M_right 59 = .ok (.iconst 0, 1) := by decide +kernel
theorem d_M_right_60 : decode b_M_right 60 = .ok (.invokevirtual 83, 3) := by decide +kernel
theorem d_M_right_63 : decode b_M_right 63 = .ok (.aload_n 0, 1) := by decide +kernel
theorem d_M_right_64 : decode b_M_right 64 = .ok (.iconst 0, 1) := by decide +kernel
theorem d_M_right_65 : decode b_M_right 65 = .ok (.iload_n 1, 1) := by decide +kernel
theorem d_M_right_66 : decode b_M_right 66 = .ok (.iload_n 2, 1) := by decide +kernel
theorem d_M_right_67 : decode b_M_right 67 = .ok (.invokevirtual 50, 3) := by decide +kernel
theorem d_M_right_70 : decode b_M_right 70 = .ok (.ifCond .ne 5, 3) := by decide +kernel
theorem d_M_right_73 : decode b_M_right 73 = .ok (.iconst 0, 1) := by decide +kernel
theorem d_M_right_74 : decode b_M_right 74 = .ok (.ireturn, 1) := by decide +kernel
theorem d_M_right_75 : decode b_M_right 75 = .ok (.aload_n 0, 1) := by decide +kernel
theorem d_M_right_76 : decode b_M_right 76 = .ok (.getfield 87, 3) := by decide +kernel
theorem d_M_right_79 : decode b_M_right 79 = .ok (.iconst 1, 1) := by decide +kernel
theorem d_M_right_80 : decode b_M_right 80 = .ok (.if_icmp .ne 36, 3) := by decide +kernel
theorem d_M_right_83 : decode b_M_right 83 = .ok (.aload_n 0, 1) := by decide +kernel
theorem d_M_right_84 : decode b_M_right 84 = .ok (.getfield 74, 3) := by decide +kernel
theorem d_M_right_87 : decode b_M_right 87 = .ok (.ifCond .le 29, 3) := by decide +kernel
theorem d_M_right_90 : decode b_M_right 90 = .ok (.aload_n 0, 1) := by decide +kernel
theorem d_M_right_91 : decode b_M_right 91 = .ok (.getfield 77, 3) := by decide +kernel
theorem d_M_right_94 : decode b_M_right 94 = .ok (.ifCond .le 22, 3) := by decide +kernel
theorem d_M_right_97 : decode b_M_right 97 = .ok (.iload 4, 2) := by decide +kernel
theorem d_M_right_99 : decode b_M_right 99 = .ok (.ifCond .eq 17, 3) := by decide +kernel
theorem d_M_right_102 : decode b_M_right 102 = .ok (.aload_n 0, 1) := by decide +kernel
theorem d_M_right_103 : decode b_M_right 103 = .ok (.iconst 0, 1) := by decide +kernel
theorem d_M_right_104 : decode b_M_right 104 = .ok (.aload_n 0, 1) := by decide +kernel
theorem d_M_right_105 : decode b_M_right 105 = .ok (.getfield 61, 3) := by decide +kernel
theorem d_M_right_108 : decode b_M_right 108 = .ok (.invokevirtual 58, 3) := by decide +kernel
theorem d_M_right_111 : decode b_M_right 111 = .ok (.ifCond .eq 5, 3) := by decide +kernel
theorem d_M_right_114 : decode b_M_right 114 = .ok (.iconst 0, 1) := by decide +kernel
theorem d_M_right_115 : decode b_M_right 115 = .ok (.ireturn, 1) := by decide +kernel
theorem d_M_right_116 : decode b_M_right 116 = .ok (.aload_n 0, 1) := by decide +kernel
theorem d_M_right_117 : decode b_M_right 117 = .ok (.iconst 0, 1) := by decide +kernel
theorem d_M_right_118 : decode b_M_right 118 = .ok (.iload_n 1, 1) := by decide +kernel
theorem d_M_right_119 : decode b_M_right 119 = .ok (.iload_n 2, 1) := by decide +kernel
theorem d_M_right_120 : decode b_M_right 120 = .ok (.invokevirtual 54, 3) := by decide +kernel
theorem d_M_right_123 : decode b_M_right 123 = .ok (.aload_n 0, 1) := by decide +kernel
theorem d_M_right_124 : decode b_M_right 124 = .ok (.iconst 1, 1) := by decide +kernel
theorem d_M_right_125 : decode b_M_right 125 = .ok (.iload_n 3, 1) := by decide +kernel
theorem d_M_right_126 : decode b_M_right 126 = .ok (.ifCond .eq 12, 3) := by decide +kernel
theorem d_M_right_129 : decode b_M_right 129 = .ok (.aload_n 0, 1) := by decide +kernel
theorem d_M_right_130 : decode b_M_right 130 = .ok (.getfield 74, 3) := by decide +kernel
theorem d_M_right_133 : decode b_M_right 133 = .ok (.iconst 1, 1) := by decide +kernel
theorem d_M_right_134 : decode b_M_right 134 = .ok (.isub, 1) := by decide +kernel
theorem d_M_right_135 : decode b_M_right 135 = .ok (.goto 7, 3) := by decide +kernel
theorem d_M_right_138 : decode b_M_right 138 = .ok (.aload_n 0, 1) := by decide +kernel
theorem d_M_right_139 : decode b_M_right 139 = .ok (.getfield 74, 3) := by decide +kernel
theorem d_M_right_142 : decode b_M_right 142 = .ok (.iload 4, 2) := by decide +kernel
theorem d_M_right_144 : decode b_M_right 144 = .ok (.ifCond .eq 12, 3) := by decide +kernel
theorem d_M_right_147 : decode b_M_right 147 = .ok (.aload_n 0, 1) := by decide +kernel
theorem d_M_right_148 : decode b_M_right 148 = .ok (.getfield 77, 3) := by decide +kernel
theorem d_M_right_151 : decode b_M_right 151 = .ok (.iconst 1, 1) := by decide +kernel
theorem d_M_right_152 : decode b_M_right 152 = .ok (.isub, 1) := by decide +kernel
theorem d_M_right_153 : decode b_M_right 153 = .ok (.goto 7, 3) := by decide +kernel
theorem d_M_right_156 : decode b_M_right 156 = .ok (.aload_n 0, 1) := by decide +kernel
theorem d_M_right_157 : decode b_M_right 157 = .ok (.getfield 77, 3) := by decide +kernel
theorem d_M_right_160 : decode b_M_right 160 = .ok (.invokevirtual 90, 3) := by decide +kernel
theorem d_M_right_163 : decode b_M_right 163 = .ok (.aload_n 0, 1) := by decide +kernel
theorem d_M_right_164 : decode b_M_right 164 = .ok (.getfield 87, 3) := by decide +kernel
theorem d_M_right_167 : decode b_M_right 167 = .ok (.iconst 1, 1) := by decide +kernel
theorem d_M_right_168 : decode b_M_right 168 = .ok (.isub, 1) := by decide +kernel
theorem d_M_right_169 : decode b_M_right 169 = .ok (.if_icmp .ne 7, 3) := by decide +kernel
theorem d_M_right_172 : decode b_M_right 172 = .ok (.iconst 1, 1) := by decide +kernel
theorem d_M_right_173 : decode b_M_right 173 = .ok (.goto 4, 3) := by decide +kernel
theorem d_M_right_176 : decode b_M_right 176 = .ok (.iconst 0, 1) := by decide +kernel
theorem d_M_right_177 : decode b_M_right 177 = .ok (.ireturn, 1) := by decide +kernel
theorem d_M_place_0 : decode b_M_place 0 = .ok (.aload_n 0, 1) := by decide +kernel
theorem d_M_place_1 : decode b_M_place 1 = .ok (.getfield 39, 3) := by decide +kernel
theorem d_M_place_4 : decode b_M_place 4 = .ok (.ifCond .ne 33, 3) := by decide +kernel
theorem d_M_place_7 : decode b_M_place 7 = .ok (.iload_n 1, 1) := by decide +kernel
theorem d_M_place_8 : decode b_M_place 8 = .ok (.ifCond .lt 29, 3) := by decide +kernel
theorem d_M_place_11 : decode b_M_place 11 = .ok (.iload_n 1, 1) := by decide +kernel
theorem d_M_place_12 : decode b_M_place 12 = .ok (.iconst 1, 1) := by decide +kernel
theorem d_M_place_13 : decode b_M_place 13 = .ok (.if_icmp .gt 24, 3) := by decide +kernel
theorem d_M_place_16 : decode b_M_place 16 = .ok (.iload_n 2, 1) := by decide +kernel
theorem d_M_place_17 : decode b_M_place 17 = .ok (.iconst 1, 1) := by decide +kernel
theorem d_M_place_18 : decode b_M_place 18 = .ok (.if_icmp .lt 19, 3) := by decide +kernel
theorem d_M_place_21 : decode b_M_place 21 = .ok (.iload_n 2, 1) := by decide +kernel
theorem d_M_place_22 : decode b_M_place 22 = .ok (.bipush 24, 2) := by decide +kernel
theorem d_M_place_24 : decode b_M_place 24 = .ok (.if_icmp .gt 13, 3) := by decide +kernel
theorem d_M_place_27 : decode b_M_place 27 = .ok (.iload_n 3, 1) := by decide +kernel
theorem d_M_place_28 : decode b_M_place 28 = .ok (.ifCond .lt 9, 3) := by decide +kernel
theorem d_M_place_31 : decode b_M_place 31 = .ok (.iload_n 3, 1) := by decide +kernel
theorem d_M_place_32 : decode b_M_place 32 = .ok (.bipush 15, 2) := by decide +kernel
theorem d_M_place_34 : decode b_M_place 34 = .ok (.if_icmp .le 5, 3) := by decide +kernel
theorem d_M_place_37 : decode b_M_place 37 = .ok (.iconst 0, 1) := by decide +kernel
theorem d_M_place_38 : decode b_M_place 38 = .ok (.ireturn, 1) := by decide +kernel
theorem d_M_place_39 : decode b_M_place 39 = .ok (.aload_n 0, 1) := by decide +kernel
theorem d_M_place_40 : decode b_M_place 40 = .ok (.getfield 13, 3) := by decide +kernel
theorem d_M_place_43 : decode b_M_place 43 = .ok (.bipush 26, 2) := by decide +kernel
theorem d_M_place_45 : decode b_M_place 45 = .ok (.iload_n 1, 1) := by decide +kernel
theorem d_M_place_46 : decode b_M_place 46 = .ok (.imul, 1) := by decide +kernel
theorem d_M_place_47 : decode b_M_place 47 = .ok (.iaload, 1) := by decide +kernel
theorem d_M_place_48 : decode b_M_place 48 = .ok (.aload_n 0, 1) := by decide +kernel
theorem d_M_place_49 : decode b_M_place 49 = .ok (.getfield 13, 3) := by decide +kernel
theorem d_M_place_52 : decode b_M_place 52 = .ok (.bipush 26, 2) := by decide +kernel
theorem d_M_place_54 : decode b_M_place 54 = .ok (.iload_n 1, 1) := by decide +kernel
theorem d_M_place_55 : decode b_M_place 55 = .ok (.imul, 1) := by decide +kernel
theorem d_M_place_56 : decode b_M_place 56 = .ok (.iload_n 2, 1) := by decide +kernel
theorem d_M_place_57 : decode b_M_place 57 = .ok (.iadd, 1) := by decide +kernel
theorem d_M_place_58 : decode b_M_place 58 = .ok (.iaload, 1) := by decide +kernel
theorem d_M_place_59 : decode b_M_place 59 = .ok (.iadd, 1) := by decide +kernel
theorem d_M_place_60 : decode b_M_place 60 = .ok (.iload_n 3, 1) := by decide +kernel
theorem d_M_place_61 : decode b_M_place 61 = .ok (.isub, 1) := by decide +kernel
theorem d_M_place_62 : decode b_M_place 62 = .ok (.istore 4, 2) := by decide +kernel
theorem d_M_place_64 : decode b_M_place 64 = .ok (.iload_n 3, 1) := by decide +kernel
theorem d_M_place_65 : decode b_M_place 65 = .ok (.ifCond .le 22, 3) := by decide +kernel
theorem d_M_place_68 : decode b_M_place 68 = .ok (.aload_n 0, 1) := by decide +kernel
theorem d_M_place_69 : decode b_M_place 69 = .ok (.getfield 13, 3) := by decide +kernel
theorem d_M_place_72 : decode b_M_place 72 = .ok (.bipush 26, 2) := by decide +kernel
theorem d_M_place_74 : decode b_M_place 74 = .ok (.iconst 1, 1) := by decide +kernel
theorem d_M_place_75 : decode b_M_place 75 = .ok (.iload_n 1, 1) := by decide +kernel
theorem d_M_place_76 : decode b_M_place 76 = .ok (.isub, 1) := by decide +kernel
theorem d_M_place_77 : decode b_M_place 77 = .ok (.imul, 1) := by decide +kernel
theorem d_M_place_78 : decode b_M_place 78 = .ok (.bipush 25, 2) := by decide +kernel
theorem d_M_place_80 : decode b_M_place 80 = .ok (.iadd, 1) := by decide +kernel
theorem d_M_place_81 : decode b_M_place 81 = .ok (.iload_n 2, 1) := by decide +kernel
theorem d_M_place_82 : decode b_M_place 82 = .ok (.isub, 1) := by decide +kernel
theorem d_M_place_83 : decode b_M_place 83 = .ok (.iaload, 1) := by decide +kernel
theorem d_M_place_84 : decode b_M_place 84 = .ok (.ifCond .gt 15, 3) := by decide +kernel
theorem d_M_place_87 : decode b_M_place 87 = .ok (.iload 4, 2) := by decide +kernel
theorem d_M_place_89 : decode b_M_place 89 = .ok (.ifCond .lt 10, 3) := by decide +kernel
theorem d_M_place_92 : decode b_M_place 92 = .ok (.iload 4, 2) := by decide +kernel
theorem d_M_place_94 : decode b_M_place 94 = .ok (.bipush 14, 2) := by decide +kernel
theorem d_M_place_96 : decode b_M_place 96 = .ok (.if_icmp .le 5, 3) := by decide +kernel
theorem d_M_place_99 : decode b_M_place 99 = .ok (.iconst 0, 1) := by decide +kernel
theorem d_M_place_100 : decode b_M_place 100 = .ok (.ireturn, 1) := by decide +kernel
theorem d_M_place_101 : decode b_M_place 101 = .ok (.aload_n 0, 1) := by decide +kernel
theorem d_M_place_102 : decode b_M_place 102 = .ok (.getfield 13, 3) := by decide +kernel
theorem d_M_place_105 : decode b_M_place 105 = .ok (.bipush 26, 2) := by decide +kernel
theorem d_M_place_107 : decode b_M_place 107 = .ok (.iload_n 1, 1) := by decide +kernel
theorem d_M_place_108 : decode b_M_place 108 = .ok (.imul, 1) := by decide +kernel
theorem d_M_place_109 : decode b_M_place 109 = .ok (.iload 4, 2) := by decide +kernel
theorem d_M_place_111 : decode b_M_place 111 = .ok (.iastore, 1) := by decide +kernel
theorem d_M_place_112 : decode b_M_place 112 = .ok (.aload_n 0, 1) := by decide +kernel
theorem d_M_place_113 : decode b_M_place 113 = .ok (.getfield 13, 3) := by decide +kernel
theorem d_M_place_116 : decode b_M_place 116 = .ok (.bipush 26, 2) := by decide +kernel
theorem d_M_place_118 : decode b_M_place 118 = .ok (.iload_n 1, 1) := by decide +kernel
theorem d_M_place_119 : decode b_M_place 119 = .ok (.imul, 1) := by decide +kernel
theorem d_M_place_120 : decode b_M_place 120 = .ok (.iload_n 2, 1) := by decide +kernel
theorem d_M_place_121 : decode b_M_place 121 = .ok (.iadd, 1) := by decide +kernel
theorem d_M_place_122 : decode b_M_place 122 = .ok (.iload_n 3, 1) := by decide +kernel
theorem d_M_place_123 : decode b_M_place 123 = .ok (.iastore, 1) := by decide +kernel
theorem d_M_place_124 : decode b_M_place 124 = .ok (.iconst 1, 1) := by decide +kernel
theorem d_M_place_125 : decode b_M_place 125 = .ok (.ireturn, 1) := by decide +kernel
theorem d_M_begin_0 : decode b_M_begin 0 = .ok (.aload_n 0, 1) := by decide +kernel
theorem d_M_begin_1 : decode b_M_begin 1 = .ok (.iload_n 1, 1) := by decide +kernel
theorem d_M_begin_2 : decode b_M_begin 2 = .ok (.iload_n 2, 1) := by decide +kernel
theorem d_M_begin_3 : decode b_M_begin 3 = .ok (.if_icmp .le 7, 3) := by decide +kernel
theorem d_M_begin_6 : decode b_M_begin 6 = .ok (.iload_n 1, 1) := by decide +kernel
theorem d_M_begin_7 : decode b_M_begin 7 = .ok (.goto 4, 3) := by decide +kernel
theorem d_M_begin_10 : decode b_M_begin 10 = .ok (.iload_n 2, 1) := by decide +kernel
theorem d_M_begin_11 : decode b_M_begin 11 = .ok (.putfield 61, 3) := by decide +kernel
theorem d_M_begin_14 : decode b_M_begin 14 = .ok (.aload_n 0, 1) := by decide +kernel
theorem d_M_begin_15 : decode b_M_begin 15 = .ok (.iload_n 1, 1) := by decide +kernel
theorem d_M_begin_16 : decode b_M_begin 16 = .ok (.iload_n 2, 1) := by decide +kernel
theorem d_M_begin_17 : decode b_M_begin 17 = .ok (.if_icmp .ne 7, 3) := by decide +kernel
theorem d_M_begin_20 : decode b_M_begin 20 = .ok (.iconst 0, 1) := by decide +kernel
theorem d_M_begin_21 : decode b_M_begin 21 = .ok (.goto 13, 3) := by decide +kernel
theorem d_M_begin_24 : decode b_M_begin 24 = .ok (.iload_n 1, 1) := by decide +kernel
theorem d_M_begin_25 : decode b_M_begin 25 = .ok (.iload_n 2, 1) := by decide +kernel
theorem d_M_begin_26 : decode b_M_begin 26 = .ok (.if_icmp .le 7, 3) := by decide +kernel
theorem d_M_begin_29 : decode b_M_begin 29 = .ok (.iload_n 2, 1) := by decide +kernel
theorem d_M_begin_30 : decode b_M_begin 30 = .ok (.goto 4, 3) := by decide +kernel
theorem d_M_begin_33 : decode b_M_begin 33 = .ok (.iload_n 1, 1) := by decide +kernel
theorem d_M_begin_34 : decode b_M_begin 34 = .ok (.putfield 64, 3) := by decide +kernel
theorem d_M_begin_37 : decode b_M_begin 37 = .ok (.aload_n 0, 1) := by decide +kernel
theorem d_M_begin_38 : decode b_M_begin 38 = .ok (.iload_n 1, 1) := by decide +kernel
theorem d_M_begin_39 : decode b_M_begin 39 = .ok (.iload_n 2, 1) := by decide +kernel
theorem d_M_begin_40 : decode b_M_begin 40 = .ok (.if_icmp .ne 7, 3) := by decide +kernel
theorem d_M_begin_43 : decode b_M_begin 43 = .ok (.iconst 4, 1) := by decide +kernel
theorem d_M_begin_44 : decode b_M_begin 44 = .ok (.goto 4, 3) := by decide +kernel
theorem d_M_begin_47 : decode b_M_begin 47 = .ok (.iconst 1, 1) := by decide +kernel
theorem d_M_begin_48 : decode b_M_begin 48 = .ok (.putfield 74, 3) := by decide +kernel
theorem d_M_begin_51 : decode b_M_begin 51 = .ok (.aload_n 0, 1) := by decide +kernel
theorem d_M_begin_52 : decode b_M_begin 52 = .ok (.iload_n 1, 1) := by decide +kernel
theorem d_M_begin_53 : decode b_M_begin 53 = .ok (.iload_n 2, 1) := by decide +kernel
theorem d_M_begin_54 : decode b_M_begin 54 = .ok (.if_icmp .ne 7, 3) := by decide +kernel
theorem d_M_begin_57 : decode b_M_begin 57 = .ok (.iconst 0, 1) := by decide +kernel
theorem d_M_begin_58 : decode b_M_begin 58 = .ok (.goto 4, 3) := by decide +kernel
theorem d_M_begin_61 : decode b_M_begin 61 = .ok (.iconst 1, 1) := by decide +kernel
theorem d_M_begin_62 : decode b_M_begin 62 = .ok (.putfield 77, 3) := by decide +kernel
theorem d_M_begin_65 : decode b_M_begin 65 = .ok (.aload_n 0, 1) := by decide +kernel
theorem d_M_begin_66 : decode b_M_begin 66 = .ok (.invokevirtual 93, 3) := by decide +kernel
theorem d_M_begin_69 : decode b_M_begin 69 = .ok (.ireturn, 1) := by decide +kernel
theorem d_M_settle_0 : decode b_M_settle 0 = .ok (.aload_n 0, 1) := by decide +kernel
theorem d_M_settle_1 : decode b_M_settle 1 = .ok (.aload_n 0, 1) := by decide +kernel
theorem d_M_settle_2 : decode b_M_settle 2 = .ok (.getfield 80, 3) := by decide +kernel
theorem d_M_settle_5 : decode b_M_settle 5 = .ok (.iconst 0, 1) := by decide +kernel
theorem d_M_settle_6 : decode b_M_settle 6 = .ok (.invokevirtual 83, 3) := by decide +kernel
theorem d_M_settle_9 : decode b_M_settle 9 = .ok (.aload_n 0, 1) := by decide +kernel
theorem d_M_settle_10 : decode b_M_settle 10 = .ok (.aload_n 0, 1) := by decide +kernel
theorem d_M_settle_11 : decode b_M_settle 11 = .ok (.iconst 0, 1) := by decide +kernel
theorem d_M_settle_12 : decode b_M_settle 12 = .ok (.aload_n 0, 1) := by decide +kernel
theorem d_M_settle_13 : decode b_M_settle 13 = .ok (.getfield 74, 3) := by decide +kernel
theorem d_M_settle_16 : decode b_M_settle 16 = .ok (.aload_n 0, 1) := by decide +kernel
theorem d_M_settle_17 : decode b_M_settle 17 = .ok (.getfield 77, 3) := by decide +kernel
theorem d_M_settle_20 : decode b_M_settle 20 = .ok (.invokevirtual 90, 3) := by decide +kernel
theorem d_M_settle_23 : decode b_M_settle 23 = .ok (.putfield 87, 3) := by decide +kernel
theorem d_M_settle_26 : decode b_M_settle 26 = .ok (.aload_n 0, 1) := by decide +kernel
theorem d_M_settle_27 : decode b_M_settle 27 = .ok (.iconst 2, 1) := by decide +kernel
theorem d_M_settle_28 : decode b_M_settle 28 = .ok (.putfield 39, 3) := by decide +kernel
theorem d_M_settle_31 : decode b_M_settle 31 = .ok (.aload_n 0, 1) := by decide +kernel
theorem d_M_settle_32 : decode b_M_settle 32 = .ok (.getfield 87, 3) := by decide +kernel
theorem d_M_settle_35 : decode b_M_settle 35 = .ok (.ifCond .ne 18, 3) := by decide +kernel
theorem d_M_settle_38 : decode b_M_settle 38 = .ok (.aload_n 0, 1) := by decide +kernel
theorem d_M_settle_39 : decode b_M_settle 39 = .ok (.iconst 1, 1) := by decide +kernel
theorem d_M_settle_40 : decode b_M_settle 40 = .ok (.putfield 39, 3) := by decide +kernel
theorem d_M_settle_43 : decode b_M_settle 43 = .ok (.aload_n 0, 1) := by decide +kernel
theorem d_M_settle_44 : decode b_M_settle 44 = .ok (.iconst 1, 1) := by decide +kernel
theorem d_M_settle_45 : decode b_M_settle 45 = .ok (.aload_n 0, 1) := by decide +kernel
theorem d_M_settle_46 : decode b_M_settle 46 = .ok (.getfield 80, 3) := by decide +kernel
theorem d_M_settle_49 : decode b_M_settle 49 = .ok (.isub, 1) := by decide +kernel
theorem d_M_settle_50 : decode b_M_settle 50 = .ok (.putfield 80, 3) := by decide +kernel
theorem d_M_settle_53 : decode b_M_settle 53 = .ok (.aload_n 0, 1) := by decide +kernel
theorem d_M_settle_54 : decode b_M_settle 54 = .ok (.getfield 87, 3) := by decide +kernel
theorem d_M_settle_57 : decode b_M_settle 57 = .ok (.ireturn, 1) := by decide +kernel
theorem d_M_roll_0 : decode b_M_roll 0 = .ok (.aload_n 0, 1) := by decide +kernel
theorem d_M_roll_1 : decode b_M_roll 1 = .ok (.getfield 39, 3) := by decide +kernel
theorem d_M_roll_4 : decode b_M_roll 4 = .ok (.ifCond .eq 11, 3) := by decide +kernel
theorem d_M_roll_7 : decode b_M_roll 7 = .ok (.aload_n 0, 1) := by decide +kernel
theorem d_M_roll_8 : decode b_M_roll 8 = .ok (.getfield 39, 3) := by decide +kernel
theorem d_M_roll_11 : decode b_M_roll 11 = .ok (.iconst 1, 1) := by decide +kernel
theorem d_M_roll_12 : decode b_M_roll 12 = .ok (.if_icmp .ne 25, 3) := by decide +kernel
theorem d_M_roll_15 : decode b_M_roll 15 = .ok (.iload_n 1, 1) := by decide +kernel
theorem d_M_roll_16 : decode b_M_roll 16 = .ok (.iconst 1, 1) := by decide +kernel
theorem d_M_roll_17 : decode b_M_roll 17 = .ok (.if_icmp .lt 20, 3) := by decide +kernel
theorem d_M_roll_20 : decode b_M_roll 20 = .ok (.iload_n 1, 1) := by decide +kernel
theorem d_M_roll_21 : decode b_M_roll 21 = .ok (.bipush 6, 2) := by decide +kernel
theorem d_M_roll_23 : decode b_M_roll 23 = .ok (.if_icmp .gt 14, 3) := by decide +kernel
theorem d_M_roll_26 : decode b_M_roll 26 = .ok (.iload_n 2, 1) := by decide +kernel
theorem d_M_roll_27 : decode b_M_roll 27 = .ok (.iconst 1, 1) := by decide +kernel
theorem d_M_roll_28 : decode b_M_roll 28 = .ok (.if_icmp .lt 9, 3) := by decide +kernel
theorem d_M_roll_31 : decode b_M_roll 31 = .ok (.iload_n 2, 1) := by decide +kernel
theorem d_M_roll_32 : decode b_M_roll 32 = .ok (.bipush 6, 2) := by decide +kernel
theorem d_M_roll_34 : decode b_M_roll 34 = .ok (.if_icmp .le 5, 3) := by decide +kernel
theorem d_M_roll_37 : decode b_M_roll 37 = .ok (.iconst (-1), 1) := by decide +kernel
theorem d_M_roll_38 : decode b_M_roll 38 = .ok (.ireturn, 1) := by decide +kernel
theorem d_M_roll_39 : decode b_M_roll 39 = .ok (.aload_n 0, 1) := by decide +kernel
theorem d_M_roll_40 : decode b_M_roll 40 = .ok (.getfield 39, 3) := by decide +kernel
theorem d_M_roll_43 : decode b_M_roll 43 = .ok (.ifCond .ne 24, 3) := by decide +kernel
theorem d_M_roll_46 : decode b_M_roll 46 = .ok (.iload_n 1, 1) := by decide +kernel
theorem d_M_roll_47 : decode b_M_roll 47 = .ok (.iload_n 2, 1) := by decide +kernel
theorem d_M_roll_48 : decode b_M_roll 48 = .ok (.if_icmp .ne 5, 3) := by decide +kernel
theorem d_M_roll_51 : decode b_M_roll 51 = .ok (.iconst 0, 1) := by decide +kernel
theorem d_M_roll_52 : decode b_M_roll 52 = .ok (.ireturn, 1) := by decide +kernel
theorem d_M_roll_53 : decode b_M_roll 53 = .ok (.aload_n 0, 1) := by decide +kernel
theorem d_M_roll_54 : decode b_M_roll 54 = .ok (.iload_n 1, 1) := by decide +kernel
theorem d_M_roll_55 : decode b_M_roll 55 = .ok (.iload_n 2, 1) := by decide +kernel
theorem d_M_roll_56 : decode b_M_roll 56 = .ok (.if_icmp .le 7, 3) := by decide +kernel
theorem d_M_roll_59 : decode b_M_roll 59 = .ok (.iconst 0, 1) := by decide +kernel
theorem d_M_roll_60 : decode b_M_roll 60 = .ok (.goto 4, 3) := by decide +kernel
theorem d_M_roll_63 : decode b_M_roll 63 = .ok (.iconst 1, 1) := by decide +kernel
theorem d_M_roll_64 : decode b_M_roll 64 = .ok (.putfield 80, 3) := by decide +kernel
theorem d_M_roll_67 : decode b_M_roll 67 = .ok (.aload_n 0, 1) := by decide +kernel
theorem d_M_roll_68 : decode b_M_roll 68 = .ok (.iload_n 1, 1) := by decide +kernel
theorem d_M_roll_69 : decode b_M_roll 69 = .ok (.iload_n 2, 1) := by decide +kernel
theorem d_M_roll_70 : decode b_M_roll 70 = .ok (.invokevirtual 97, 3) := by decide +kernel
theorem d_M_roll_73 : decode b_M_roll 73 = .ok (.ireturn, 1) := by decide +kernel
theorem d_M_win_0 : decode b_M_win 0 = .ok (.aload_n 0, 1) := by decide +kernel
theorem d_M_win_1 : decode b_M_win 1 = .ok (.getfield 7, 3) := by decide +kernel
theorem d_M_win_4 : decode b_M_win 4 = .ok (.iload_n 1, 1) := by decide +kernel
theorem d_M_win_5 : decode b_M_win 5 = .ok (.aload_n 0, 1) := by decide +kernel
theorem d_M_win_6 : decode b_M_win 6 = .ok (.getfield 7, 3) := by decide +kernel
theorem d_M_win_9 : decode b_M_win 9 = .ok (.iload_n 1, 1) := by decide +kernel
theorem d_M_win_10 : decode b_M_win 10 = .ok (.iaload, 1) := by decide +kernel
theorem d_M_win_11 : decode b_M_win 11 = .ok (.iload_n 2, 1) := by decide +kernel
theorem d_M_win_12 : decode b_M_win 12 = .ok (.iadd, 1) := by decide +kernel
theorem d_M_win_13 : decode b_M_win 13 = .ok (.iastore, 1) := by decide +kernel
theorem d_M_win_14 : decode b_M_win 14 = .ok (.aload_n 0, 1) := by decide +kernel
theorem d_M_win_15 : decode b_M_win 15 = .ok (.iconst 0, 1) := by decide +kernel
theorem d_M_win_16 : decode b_M_win 16 = .ok (.putfield 101, 3) := by decide +kernel
theorem d_M_win_19 : decode b_M_win 19 = .ok (.aload_n 0, 1) := by decide +kernel
theorem d_M_win_20 : decode b_M_win 20 = .ok (.getfield 7, 3) := by decide +kernel
theorem d_M_win_23 : decode b_M_win 23 = .ok (.iload_n 1, 1) := by decide +kernel
theorem d_M_win_24 : decode b_M_win 24 = .ok (.iaload, 1) := by decide +kernel
theorem d_M_win_25 : decode b_M_win 25 = .ok (.aload_n 0, 1) := by decide +kernel
theorem d_M_win_26 : decode b_M_win 26 = .ok (.getfield 33, 3) := by decide +kernel
theorem d_M_win_29 : decode b_M_win 29 = .ok (.if_icmp .lt 18, 3) := by decide +kernel
theorem d_M_win_32 : decode b_M_win 32 = .ok (.aload_n 0, 1) := by decide +kernel
theorem d_M_win_33 : decode b_M_win 33 = .ok (.iconst 4, 1) := by decide +kernel
theorem d_M_win_34 : decode b_M_win 34 = .ok (.putfield 39, 3) := by decide +kernel
theorem d_M_win_37 : decode b_M_win 37 = .ok (.aload_n 0, 1) := by decide +kernel
theorem d_M_win_38 : decode b_M_win 38 = .ok (.iload_n 1, 1) := by decide +kernel
theorem d_M_win_39 : decode b_M_win 39 = .ok (.putfield 80, 3) := by decide +kernel
theorem d_M_win_42 : decode b_M_win 42 = .ok (.bipush 10, 2) := by decide +kernel
theorem d_M_win_44 : decode b_M_win 44 = .ok (.iload_n 2, 1) := by decide +kernel
theorem d_M_win_45 : decode b_M_win 45 = .ok (.imul, 1) := by decide +kernel
theorem d_M_win_46 : decode b_M_win 46 = .ok (.ireturn, 1) := by decide +kernel
theorem d_M_win_47 : decode b_M_win 47 = .ok (.aload_n 0, 1) := by decide +kernel
theorem d_M_win_48 : decode b_M_win 48 = .ok (.getfield 105, 3) := by decide +kernel
theorem d_M_win_51 : decode b_M_win 51 = .ok (.ifCond .ne 28, 3) := by decide +kernel
theorem d_M_win_54 : decode b_M_win 54 = .ok (.aload_n 0, 1) := by decide +kernel
theorem d_M_win_55 : decode b_M_win 55 = .ok (.getfield 7, 3) := by decide +kernel
theorem d_M_win_58 : decode b_M_win 58 = .ok (.iload_n 1, 1) := by decide +kernel
theorem d_M_win_59 : decode b_M_win 59 = .ok (.iaload, 1) := by decide +kernel
theorem d_M_win_60 : decode b_M_win 60 = .ok (.aload_n 0, 1) := by decide +kernel
theorem d_M_win_61 : decode b_M_win 61 = .ok (.getfield 33, 3) := by decide +kernel
theorem d_M_win_64 : decode b_M_win 64 = .ok (.iconst 1, 1) := by decide +kernel
theorem d_M_win_65 : decode b_M_win 65 = .ok (.isub, 1) := by decide +kernel
theorem d_M_win_66 : decode b_M_win 66 = .ok (.if_icmp .ne 13, 3) := by decide +kernel
theorem d_M_win_69 : decode b_M_win 69 = .ok (.aload_n 0, 1) := by decide +kernel
theorem d_M_win_70 : decode b_M_win 70 = .ok (.iconst 1, 1) := by decide +kernel
theorem d_M_win_71 : decode b_M_win 71 = .ok (.putfield 105, 3) := by decide +kernel
theorem d_M_win_74 : decode b_M_win 74 = .ok (.aload_n 0, 1) := by decide +kernel
theorem d_M_win_75 : decode b_M_win 75 = .ok (.iconst 1, 1) := by decide +kernel
theorem d_M_win_76 : decode b_M_win 76 = .ok (.putfield 101, 3) := by decide +kernel
theorem d_M_win_79 : decode b_M_win 79 = .ok (.aload_n 0, 1) := by decide +kernel
theorem d_M_win_80 : decode b_M_win 80 = .ok (.invokevirtual 36, 3) := by decide +kernel
theorem d_M_win_83 : decode b_M_win 83 = .ok (.bipush 10, 2) := by decide +kernel
theorem d_M_win_85 : decode b_M_win 85 = .ok (.iload_n 2, 1) := by decide +kernel
theorem d_M_win_86 : decode b_M_win 86 = .ok (.imul, 1) := by decide +kernel
theorem d_M_win_87 : decode b_M_win 87 = .ok (.ireturn, 1) := by decide +kernel
