theorem d_B_init_0 : decode b_B_init 0 = .ok (.aload_n 0, 1) := by decide +kernel
theorem d_B_init_1 : decode b_B_init 1 = .ok (.invokespecial 3, 3) := by decide +kernel
theorem d_B_init_4 : decode b_B_init 4 = .ok (.aload_n 0, 1) := by decide +kernel
theorem d_B_init_5 : decode b_B_init 5 = .ok (.iconst 2, 1) := by decide +kernel
theorem d_B_init_6 : decode b_B_init 6 = .ok (.bipush 26, 2) := by decide +kernel
theorem d_B_init_8 : decode b_B_init 8 = .ok (.multianewarray 9 2, 4) := by decide +kernel
theorem d_B_init_12 : decode b_B_init 12 = .ok (.putfield 11, 3) := by decide +kernel
theorem d_B_init_15 : decode b_B_init 15 = .ok (.return_, 1) := by decide +kernel
theorem d_B_setUp_0 : decode b_B_setUp 0 = .ok (.getstatic 16, 3) := by decide +kernel
theorem d_B_setUp_3 : decode b_B_setUp 3 = .ok (.iconst 0, 1) := by decide +kernel
theorem d_B_setUp_4 : decode b_B_setUp 4 = .ok (.aload_n 0, 1) := by decide +kernel
theorem d_B_setUp_5 : decode b_B_setUp 5 = .ok (.getfield 11, 3) := by decide +kernel
theorem d_B_setUp_8 : decode b_B_setUp 8 = .ok (.iconst 0, 1) := by decide +kernel
theorem d_B_setUp_9 : decode b_B_setUp 9 = .ok (.aaload, 1) := by decide +kernel
theorem d_B_setUp_10 : decode b_B_setUp 10 = .ok (.iconst 0, 1) := by decide +kernel
theorem d_B_setUp_11 : decode b_B_setUp 11 = .ok (.getstatic 16, 3) := by decide +kernel
theorem d_B_setUp_14 : decode b_B_setUp 14 = .ok (.arraylength, 1) := by decide +kernel
theorem d_B_setUp_15 : decode b_B_setUp 15 = .ok (.invokestatic 20, 3) := by decide +kernel
theorem d_B_setUp_18 : decode b_B_setUp 18 = .ok (.getstatic 16, 3) := by decide +kernel
theorem d_B_setUp_21 : decode b_B_setUp 21 = .ok (.iconst 0, 1) := by decide +kernel
theorem d_B_setUp_22 : decode b_B_setUp 22 = .ok (.aload_n 0, 1) := by decide +kernel
theorem d_B_setUp_23 : decode b_B_setUp 23 = .ok (.getfield 11, 3) := by decide +kernel
theorem d_B_setUp_26 : decode b_B_setUp 26 = .ok (.iconst 1, 1) := by decide +kernel
theorem d_B_setUp_27 : decode b_B_setUp 27 = .ok (.aaload, 1) := by decide +kernel
theorem d_B_setUp_28 : decode b_B_setUp 28 = .ok (.iconst 0, 1) := by decide +kernel
theorem d_B_setUp_29 : decode b_B_setUp 29 = .ok (.getstatic 16, 3) := by decide +kernel
theorem d_B_setUp_32 : decode b_B_setUp 32 = .ok (.arraylength, 1) := by decide +kernel
theorem d_B_setUp_33 : decode b_B_setUp 33 = .ok (.invokestatic 20, 3) := by decide +kernel
theorem d_B_setUp_36 : decode b_B_setUp 36 = .ok (.return_, 1) := by decide +kernel
theorem d_B_putMen_0 : decode b_B_putMen 0 = .ok (.aload_n 0, 1) := by decide +kernel
theorem d_B_putMen_1 : decode b_B_putMen 1 = .ok (.getfield 11, 3) := by decide +kernel
theorem d_B_putMen_4 : decode b_B_putMen 4 = .ok (.iload_n 1, 1) := by decide +kernel
theorem d_B_putMen_5 : decode b_B_putMen 5 = .ok (.aaload, 1) := by decide +kernel
theorem d_B_putMen_6 : decode b_B_putMen 6 = .ok (.astore 4, 2) := by decide +kernel
theorem d_B_putMen_8 : decode b_B_putMen 8 = .ok (.aload 4, 2) := by decide +kernel
theorem d_B_putMen_10 : decode b_B_putMen 10 = .ok (.iconst 0, 1) := by decide +kernel
theorem d_B_putMen_11 : decode b_B_putMen 11 = .ok (.iaload, 1) := by decide +kernel
theorem d_B_putMen_12 : decode b_B_putMen 12 = .ok (.aload 4, 2) := by decide +kernel
theorem d_B_putMen_14 : decode b_B_putMen 14 = .ok (.iload_n 2, 1) := by decide +kernel
theorem d_B_putMen_15 : decode b_B_putMen 15 = .ok (.iaload, 1) := by decide +kernel
theorem d_B_putMen_16 : decode b_B_putMen 16 = .ok (.iadd, 1) := by decide +kernel
theorem d_B_putMen_17 : decode b_B_putMen 17 = .ok (.iload_n 3, 1) := by decide +kernel
theorem d_B_putMen_18 : decode b_B_putMen 18 = .ok (.isub, 1) := by decide +kernel
theorem d_B_putMen_19 : decode b_B_putMen 19 = .ok (.istore 5, 2) := by decide +kernel
theorem d_B_putMen_21 : decode b_B_putMen 21 = .ok (.iload_n 3, 1) := by decide +kernel
theorem d_B_putMen_22 : decode b_B_putMen 22 = .ok (.ifCond .le 23, 3) := by decide +kernel
theorem d_B_putMen_25 : decode b_B_putMen 25 = .ok (.aload_n 0, 1) := by decide +kernel
theorem d_B_putMen_26 : decode b_B_putMen 26 = .ok (.getfield 11, 3) := by decide +kernel
theorem d_B_putMen_29 : decode b_B_putMen 29 = .ok (.iconst 1, 1) := by decide +kernel
theorem d_B_putMen_30 : decode b_B_putMen 30 = .ok (.iload_n 1, 1) := by decide +kernel
theorem d_B_putMen_31 : decode b_B_putMen 31 = .ok (.isub, 1) := by decide +kernel
theorem d_B_putMen_32 : decode b_B_putMen 32 = .ok (.aaload, 1) := by decide +kernel
theorem d_B_putMen_33 : decode b_B_putMen 33 = .ok (.bipush 25, 2) := by decide +kernel
theorem d_B_putMen_35 : decode b_B_putMen 35 = .ok (.iload_n 2, 1) := by decide +kernel
theorem d_B_putMen_36 : decode b_B_putMen 36 = .ok (.isub, 1) := by decide +kernel
theorem d_B_putMen_37 : decode b_B_putMen 37 = .ok (.iaload, 1) := by decide +kernel
theorem d_B_putMen_38 : decode b_B_putMen 38 = .ok (.ifCond .le 7, 3) := by decide +kernel
theorem d_B_putMen_41 : decode b_B_putMen 41 = .ok (.iconst 1, 1) := by decide +kernel
theorem d_B_putMen_42 : decode b_B_putMen 42 = .ok (.goto 4, 3) := by decide +kernel
theorem d_B_putMen_45 : decode b_B_putMen 45 = .ok (.iconst 0, 1) := by decide +kernel
theorem d_B_putMen_46 : decode b_B_putMen 46 = .ok (.istore 6, 2) := by decide +kernel
theorem d_B_putMen_48 : decode b_B_putMen 48 = .ok (.iload 6, 2) := by decide +kernel
theorem d_B_putMen_50 : decode b_B_putMen 50 = .ok (.ifCond .ne 15, 3) := by decide +kernel
theorem d_B_putMen_53 : decode b_B_putMen 53 = .ok (.iload 5, 2) := by decide +kernel
theorem d_B_putMen_55 : decode b_B_putMen 55 = .ok (.ifCond .lt 10, 3) := by decide +kernel
theorem d_B_putMen_58 : decode b_B_putMen 58 = .ok (.iload 5, 2) := by decide +kernel
theorem d_B_putMen_60 : decode b_B_putMen 60 = .ok (.bipush 15, 2) := by decide +kernel
theorem d_B_putMen_62 : decode b_B_putMen 62 = .ok (.if_icmp .lt 5, 3) := by decide +kernel
theorem d_B_putMen_65 : decode b_B_putMen 65 = .ok (.iconst 0, 1) := by decide +kernel
theorem d_B_putMen_66 : decode b_B_putMen 66 = .ok (.ireturn, 1) := by decide +kernel
theorem d_B_putMen_67 : decode b_B_putMen 67 = .ok (.aload 4, 2) := by decide +kernel
theorem d_B_putMen_69 : decode b_B_putMen 69 = .ok (.iconst 0, 1) := by decide +kernel
theorem d_B_putMen_70 : decode b_B_putMen 70 = .ok (.iload 5, 2) := by decide +kernel
theorem d_B_putMen_72 : decode b_B_putMen 72 = .ok (.iastore, 1) := by decide +kernel
theorem d_B_putMen_73 : decode b_B_putMen 73 = .ok (.aload 4, 2) := by decide +kernel
theorem d_B_putMen_75 : decode b_B_putMen 75 = .ok (.iload_n 2, 1) := by decide +kernel
theorem d_B_putMen_76 : decode b_B_putMen 76 = .ok (.iload_n 3, 1) := by decide +kernel
theorem d_B_putMen_77 : decode b_B_putMen 77 = .ok (.iastore, 1) := by decide +kernel
theorem d_B_putMen_78 : decode b_B_putMen 78 = .ok (.iconst 1, 1) := by decide +kernel
theorem d_B_putMen_79 : decode b_B_putMen 79 = .ok (.ireturn, 1) := by decide +kernel
theorem d_B_canMove_0 : decode b_B_canMove 0 = .ok (.iload_n 2, 1) := by decide +kernel
theorem d_B_canMove_1 : decode b_B_canMove 1 = .ok (.iconst 1, 1) := by decide +kernel
theorem d_B_canMove_2 : decode b_B_canMove 2 = .ok (.if_icmp .lt 16, 3) := by decide +kernel
theorem d_B_canMove_5 : decode b_B_canMove 5 = .ok (.iload_n 2, 1) := by decide +kernel
theorem d_B_canMove_6 : decode b_B_canMove 6 = .ok (.bipush 25, 2) := by decide +kernel
theorem d_B_canMove_8 : decode b_B_canMove 8 = .ok (.if_icmp .gt 10, 3) := by decide +kernel
theorem d_B_canMove_11 : decode b_B_canMove 11 = .ok (.iload_n 3, 1) := by decide +kernel
theorem d_B_canMove_12 : decode b_B_canMove 12 = .ok (.invokestatic 26, 3) := by decide +kernel
theorem d_B_canMove_15 : decode b_B_canMove 15 = .ok (.ifCond .ne 5, 3) := by decide +kernel
theorem d_B_canMove_18 : decode b_B_canMove 18 = .ok (.iconst 0, 1) := by decide +kernel
theorem d_B_canMove_19 : decode b_B_canMove 19 = .ok (.ireturn, 1) := by decide +kernel
theorem d_B_canMove_20 : decode b_B_canMove 20 = .ok (.aload_n 0, 1) := by decide +kernel
theorem d_B_canMove_21 : decode b_B_canMove 21 = .ok (.getfield 11, 3) := by decide +kernel
theorem d_B_canMove_24 : decode b_B_canMove 24 = .ok (.iload_n 1, 1) := by decide +kernel
theorem d_B_canMove_25 : decode b_B_canMove 25 = .ok (.aaload, 1) := by decide +kernel
theorem d_B_canMove_26 : decode b_B_canMove 26 = .ok (.astore 4, 2) := by decide +kernel
theorem d_B_canMove_28 : decode b_B_canMove 28 = .ok (.aload 4, 2) := by decide +kernel
theorem d_B_canMove_30 : decode b_B_canMove 30 = .ok (.iload_n 2, 1) := by decide +kernel
theorem d_B_canMove_31 : decode b_B_canMove 31 = .ok (.iaload, 1) := by decide +kernel
theorem d_B_canMove_32 : decode b_B_canMove 32 = .ok (.ifCond .eq 17, 3) := by decide +kernel
theorem d_B_canMove_35 : decode b_B_canMove 35 = .ok (.iload_n 2, 1) := by decide +kernel
theorem d_B_canMove_36 : decode b_B_canMove 36 = .ok (.bipush 25, 2) := by decide +kernel
theorem d_B_canMove_38 : decode b_B_canMove 38 = .ok (.if_icmp .eq 13, 3) := by decide +kernel
theorem d_B_canMove_41 : decode b_B_canMove 41 = .ok (.aload 4, 2) := by decide +kernel
theorem d_B_canMove_43 : decode b_B_canMove 43 = .ok (.bipush 25, 2) := by decide +kernel
theorem d_B_canMove_45 : decode b_B_canMove 45 = .ok (.iaload, 1) := by decide +kernel
theorem d_B_canMove_46 : decode b_B_canMove 46 = .ok (.ifCond .le 5, 3) := by decide +kernel
theorem d_B_canMove_49 : decode b_B_canMove 49 = .ok (.iconst 0, 1) := by decide +kernel
theorem d_B_canMove_50 : decode b_B_canMove 50 = .ok (.ireturn, 1) := by decide +kernel
theorem d_B_canMove_51 : decode b_B_canMove 51 = .ok (.iload_n 2, 1) := by decide +kernel
theorem d_B_canMove_52 : decode b_B_canMove 52 = .ok (.iload_n 3, 1) := by decide +kernel
theorem d_B_canMove_53 : decode b_B_canMove 53 = .ok (.isub, 1) := by decide +kernel
theorem d_B_canMove_54 : decode b_B_canMove 54 = .ok (.istore 5, 2) := by decide +kernel
theorem d_B_canMove_56 : decode b_B_canMove 56 = .ok (.iload 5, 2) := by decide +kernel
theorem d_B_canMove_58 : decode b_B_canMove 58 = .ok (.ifCond .le 27, 3) := by decide +kernel
theorem d_B_canMove_61 : decode b_B_canMove 61 = .ok (.aload_n 0, 1) := by decide +kernel
theorem d_B_canMove_62 : decode b_B_canMove 62 = .ok (.getfield 11, 3) := by decide +kernel
theorem d_B_canMove_65 : decode b_B_canMove 65 = .ok (.iconst 1, 1) := by decide +kernel
theorem d_B_canMove_66 : decode b_B_canMove 66 = .ok (.iload_n 1, 1) := by decide +kernel
theorem d_B_canMove_67 : decode b_B_canMove 67 = .ok (.isub, 1) := by decide +kernel
theorem d_B_canMove_68 : decode b_B_canMove 68 = .ok (.aaload, 1) := by decide +kernel
theorem d_B_canMove_69 : decode b_B_canMove 69 = .ok (.bipush 25, 2) := by decide +kernel
theorem d_B_canMove_71 : decode b_B_canMove 71 = .ok (.iload 5, 2) := by decide +kernel
theorem d_B_canMove_73 : decode b_B_canMove 73 = .ok (.isub, 1) := by decide +kernel
theorem d_B_canMove_74 : decode b_B_canMove 74 = .ok (.iaload, 1) := by decide +kernel
theorem d_B_canMove_75 : decode b_B_canMove 75 = .ok (.iconst 1, 1) := by decide +kernel
theorem d_B_canMove_76 : decode b_B_canMove 76 = .ok (.if_icmp .gt 7, 3) := by decide +kernel
theorem d_B_canMove_79 : decode b_B_canMove 79 = .ok (.iconst 1, 1) := by decide +kernel
theorem d_B_canMove_80 : decode b_B_canMove 80 = .ok (.goto 4, 3) := by decide +kernel
theorem d_B_canMove_83 : decode b_B_canMove 83 = .ok (.iconst 0, 1) := by decide +kernel
theorem d_B_canMove_84 : decode b_B_canMove 84 = .ok (.ireturn, 1) := by decide +kernel
theorem d_B_canMove_85 : decode b_B_canMove 85 = .ok (.aload 4, 2) := by decide +kernel
theorem d_B_canMove_87 : decode b_B_canMove 87 = .ok (.invokestatic 30, 3) := by decide +kernel
theorem d_B_canMove_90 : decode b_B_canMove 90 = .ok (.istore 6, 2) := by decide +kernel
theorem d_B_canMove_92 : decode b_B_canMove 92 = .ok (.iload 6, 2) := by decide +kernel
theorem d_B_canMove_94 : decode b_B_canMove 94 = .ok (.bipush 6, 2) := by decide +kernel
theorem d_B_canMove_96 : decode b_B_canMove 96 = .ok (.if_icmp .gt 18, 3) := by decide +kernel
theorem d_B_canMove_99 : decode b_B_canMove 99 = .ok (.iload 5, 2) := by decide +kernel
theorem d_B_canMove_101 : decode b_B_canMove 101 = .ok (.ifCond .eq 9, 3) := by decide +kernel
theorem d_B_canMove_104 : decode b_B_canMove 104 = .ok (.iload 6, 2) := by decide +kernel
theorem d_B_canMove_106 : decode b_B_canMove 106 = .ok (.iload_n 2, 1) := by decide +kernel
theorem d_B_canMove_107 : decode b_B_canMove 107 = .ok (.if_icmp .ne 7, 3) := by decide +kernel
theorem d_B_canMove_110 : decode b_B_canMove 110 = .ok (.iconst 1, 1) := by decide +kernel
theorem d_B_canMove_111 : decode b_B_canMove 111 = .ok (.goto 4, 3) := by decide +kernel
theorem d_B_canMove_114 : decode b_B_canMove 114 = .ok (.iconst 0, 1) := by decide +kernel
theorem d_B_canMove_115 : decode b_B_canMove 115 = .ok (.ireturn, 1) := by decide +kernel
theorem d_B_canMoveAny_0 : decode b_B_canMoveAny 0 = .ok (.bipush 25, 2) := by decide +kernel
theorem d_B_canMoveAny_2 : decode b_B_canMoveAny 2 = .ok (.istore_n 3, 1) := by decide +kernel
theorem d_B_canMoveAny_3 : decode b_B_canMoveAny 3 = .ok (.iload_n 3, 1) := by decide +kernel
theorem d_B_canMoveAny_4 : decode b_B_canMoveAny 4 = .ok (.iconst 1, 1) := by decide +kernel
theorem d_B_canMoveAny_5 : decode b_B_canMoveAny 5 = .ok (.if_icmp .lt 21, 3) := by decide +kernel
theorem d_B_canMoveAny_8 : decode b_B_canMoveAny 8 = .ok (.aload_n 0, 1) := by decide +kernel
theorem d_B_canMoveAny_9 : decode b_B_canMoveAny 9 = .ok (.iload_n 1, 1) := by decide +kernel
theorem d_B_canMoveAny_10 : decode b_B_canMoveAny 10 = .ok (.iload_n 3, 1) := by decide +kernel
theorem d_B_canMoveAny_11 : decode b_B_canMoveAny 11 = .ok (.iload_n 2, 1) := by decide +kernel
theorem d_B_canMoveAny_12 : decode b_B_canMoveAny 12 = .ok (.invokevirtual 34, 3) := by decide +kernel
theorem d_B_canMoveAny_15 : decode b_B_canMoveAny 15 = .ok (.ifCond .eq 5, 3) := by decide +kernel
theorem d_B_canMoveAny_18 : decode b_B_canMoveAny 18 = .ok (.iconst 1, 1) := by decide +kernel
theorem d_B_canMoveAny_19 : decode b_B_canMoveAny 19 = .ok (.ireturn, 1) := by decide +kernel
theorem d_B_canMoveAny_20 : decode b_B_canMoveAny 20 = .ok (.iinc 3 (-1), 3) := by decide +kernel
theorem d_B_canMoveAny_23 : decode b_B_canMoveAny 23 = .ok (.goto (-20), 3) := by decide +kernel
theorem d_B_canMoveAny_26 : decode b_B_canMoveAny 26 = .ok (.iconst 0, 1) := by decide +kernel
theorem d_B_canMoveAny_27 : decode b_B_canMoveAny 27 = .ok (.ireturn, 1) := by decide +kernel
theorem d_B_shift_0 : decode b_B_shift 0 = .ok (.aload_n 0, 1) := by decide +kernel
theorem d_B_shift_1 : decode b_B_shift 1 = .ok (.getfield 11, 3) := by decide +kernel
theorem d_B_shift_4 : decode b_B_shift 4 = .ok (.iload_n 1, 1) := by decide +kernel
theorem d_B_shift_5 : decode b_B_shift 5 = .ok (.aaload, 1) := by decide +kernel
theorem d_B_shift_6 : decode b_B_shift 6 = .ok (.iload_n 2, 1) := by decide +kernel
theorem d_B_shift_7 : decode b_B_shift 7 = .ok (.dup2, 1) := by decide +kernel
theorem d_B_shift_8 : decode b_B_shift 8 = .ok (.iaload, 1) := by decide +kernel
theorem d_B_shift_9 : decode b_B_shift 9 = .ok (.iconst 1, 1) := by decide +kernel
theorem d_B_shift_10 : decode b_B_shift 10 = .ok (.isub, 1) := by decide +kernel
theorem d_B_shift_11 : decode b_B_shift 11 = .ok (.iastore, 1) := by decide +kernel
theorem d_B_shift_12 : decode b_B_shift 12 = .ok (.aload_n 0, 1) := by decide +kernel
theorem d_B_shift_13 : decode b_B_shift 13 = .ok (.getfield 11, 3) := by decide +kernel
theorem d_B_shift_16 : decode b_B_shift 16 = .ok (.iload_n 1, 1) := by decide +kernel
theorem d_B_shift_17 : decode b_B_shift 17 = .ok (.aaload, 1) := by decide +kernel
theorem d_B_shift_18 : decode b_B_shift 18 = .ok (.iconst 0, 1) := by decide +kernel
theorem d_B_shift_19 : decode b_B_shift 19 = .ok (.iload_n 2, 1) := by decide +kernel
theorem d_B_shift_20 : decode b_B_shift 20 = .ok (.iload_n 3, 1) := by decide +kernel
theorem d_B_shift_21 : decode b_B_shift 21 = .ok (.isub, 1) := by decide +kernel
theorem d_B_shift_22 : decode b_B_shift 22 = .ok (.invokestatic 38, 3) := by decide +kernel
theorem d_B_shift_25 : decode b_B_shift 25 = .ok (.dup2, 1) := by decide +kernel
theorem d_B_shift_26 : decode b_B_shift 26 = .ok (.iaload, 1) := by decide +kernel
theorem d_B_shift_27 : decode b_B_shift 27 = .ok (.iconst 1, 1) := by decide +kernel
theorem d_B_shift_28 : decode b_B_shift 28 = .ok (.iadd, 1) := by decide +kernel
theorem d_B_shift_29 : decode b_B_shift 29 = .ok (.iastore, 1) := by decide +kernel
theorem d_B_shift_30 : decode b_B_shift 30 = .ok (.return_, 1) := by decide +kernel
theorem d_B_shiftBack_0 : decode b_B_shiftBack 0 = .ok (.aload_n 0, 1) := by decide +kernel
theorem d_B_shiftBack_1 : decode b_B_shiftBack 1 = .ok (.getfield 11, 3) := by decide +kernel
theorem d_B_shiftBack_4 : decode b_B_shiftBack 4 = .ok (.iload_n 1, 1) := by decide +kernel
theorem d_B_shiftBack_5 : decode b_B_shiftBack 5 = .ok (.aaload, 1) := by decide +kernel
theorem d_B_shiftBack_6 : decode b_B_shiftBack 6 = .ok (.iconst 0, 1) := by decide +kernel
theorem d_B_shiftBack_7 : decode b_B_shiftBack 7 = .ok (.iload_n 2, 1) := by decide +kernel
theorem d_B_shiftBack_8 : decode b_B_shiftBack 8 = .ok (.iload_n 3, 1) := by decide +kernel
theorem d_B_shiftBack_9 : decode b_B_shiftBack 9 = .ok (.isub, 1) := by decide +kernel
theorem d_B_shiftBack_10 : decode b_B_shiftBack 10 = .ok (.invokestatic 38, 3) := by decide +kernel
theorem d_B_shiftBack_13 : decode b_B_shiftBack 13 = .ok (.dup2, 1) := by decide +kernel
theorem d_B_shiftBack_14 : decode b_B_shiftBack 14 = .ok (.iaload, 1) := by decide +kernel
theorem d_B_shiftBack_15 : decode b_B_shiftBack 15 = .ok (.iconst 1, 1) := by decide +kernel
theorem d_B_shiftBack_16 : decode b_B_shiftBack 16 = .ok (.isub, 1) := by decide +kernel
theorem d_B_shiftBack_17 : decode b_B_shiftBack 17 = .ok (.iastore, 1) := by decide +kernel
theorem d_B_shiftBack_18 : decode b_B_shiftBack 18 = .ok (.aload_n 0, 1) := by decide +kernel
theorem d_B_shiftBack_19 : decode b_B_shiftBack 19 = .ok (.getfield 11, 3) := by decide +kernel
theorem d_B_shiftBack_22 : decode b_B_shiftBack 22 = .ok (.iload_n 1, 1) := by decide +kernel
theorem d_B_shiftBack_23 : decode b_B_shiftBack 23 = .ok (.aaload, 1) := by decide +kernel
theorem d_B_shiftBack_24 : decode b_B_shiftBack 24 = .ok (.iload_n 2, 1) := by decide +kernel
theorem d_B_shiftBack_25 : decode b_B_shiftBack 25 = .ok (.dup2, 1) := by decide +kernel
theorem d_B_shiftBack_26 : decode b_B_shiftBack 26 = .ok (.iaload, 1) := by decide +kernel
theorem d_B_shiftBack_27 : decode b_B_shiftBack 27 = .ok (.iconst 1, 1) := by decide +kernel
theorem d_B_shiftBack_28 : decode b_B_shiftBack 28 = .ok (.iadd, 1) := by decide +kernel
theorem d_B_shiftBack_29 : decode b_B_shiftBack 29 = .ok (.iastore, 1) := by decide +kernel
theorem d_B_shiftBack_30 : decode b_B_shiftBack 30 = .ok (.return_, 1) := by decide +kernel
theorem d_B_hit_0 : decode b_B_hit 0 = .ok (.aload_n 0, 1) := by decide +kernel
theorem d_B_hit_1 : decode b_B_hit 1 = .ok (.getfield 11, 3) := by decide +kernel
theorem d_B_hit_4 : decode b_B_hit 4 = .ok (.iconst 1, 1) := by decide +kernel
theorem d_B_hit_5 : decode b_B_hit 5 = .ok (.iload_n 1, 1) := by decide +kernel
theorem d_B_hit_6 : decode b_B_hit 6 = .ok (.isub, 1) := by decide +kernel
theorem d_B_hit_7 : decode b_B_hit 7 = .ok (.aaload, 1) := by decide +kernel
theorem d_B_hit_8 : decode b_B_hit 8 = .ok (.astore_n 3, 1) := by decide +kernel
theorem d_B_hit_9 : decode b_B_hit 9 = .ok (.iload_n 2, 1) := by decide +kernel
theorem d_B_hit_10 : decode b_B_hit 10 = .ok (.ifCond .le 30, 3) := by decide +kernel
theorem d_B_hit_13 : decode b_B_hit 13 = .ok (.aload_n 3, 1) := by decide +kernel
theorem d_B_hit_14 : decode b_B_hit 14 = .ok (.bipush 25, 2) := by decide +kernel
theorem d_B_hit_16 : decode b_B_hit 16 = .ok (.iload_n 2, 1) := by decide +kernel
theorem d_B_hit_17 : decode b_B_hit 17 = .ok (.isub, 1) := by decide +kernel
theorem d_B_hit_18 : decode b_B_hit 18 = .ok (.iaload, 1) := by decide +kernel
theorem d_B_hit_19 : decode b_B_hit 19 = .ok (.ifCond .le 21, 3) := by decide +kernel
theorem d_B_hit_22 : decode b_B_hit 22 = .ok (.aload_n 3, 1) := by decide +kernel
theorem d_B_hit_23 : decode b_B_hit 23 = .ok (.bipush 25, 2) := by decide +kernel
theorem d_B_hit_25 : decode b_B_hit 25 = .ok (.iload_n 2, 1) := by decide +kernel
theorem d_B_hit_26 : decode b_B_hit 26 = .ok (.isub, 1) := by decide +kernel
theorem d_B_hit_27 : decode b_B_hit 27 = .ok (.dup2, 1) := by decide +kernel
theorem d_B_hit_28 : decode b_B_hit 28 = .ok (.iaload, 1) := by decide +kernel
theorem d_B_hit_29 : decode b_B_hit 29 = .ok (.iconst 1, 1) := by decide +kernel
theorem d_B_hit_30 : decode b_B_hit 30 = .ok (.isub, 1) := by decide +kernel
theorem d_B_hit_31 : decode b_B_hit 31 = .ok (.iastore, 1) := by decide +kernel
theorem d_B_hit_32 : decode b_B_hit 32 = .ok (.aload_n 3, 1) := by decide +kernel
theorem d_B_hit_33 : decode b_B_hit 33 = .ok (.bipush 25, 2) := by decide +kernel
theorem d_B_hit_35 : decode b_B_hit 35 = .ok (.dup2, 1) := by decide +kernel
theorem d_B_hit_36 : decode b_B_hit 36 = .ok (.iaload, 1) := by decide +kernel
theorem d_B_hit_37 : decode b_B_hit 37 = .ok (.iconst 1, 1) := by decide +kernel
theorem d_B_hit_38 : decode b_B_hit 38 = .ok (.iadd, 1) := by decide +kernel
theorem d_B_hit_39 : decode b_B_hit 39 = .ok (.iastore, 1) := by decide +kernel
theorem d_B_hit_40 : decode b_B_hit 40 = .ok (.return_, 1) := by decide +kernel
theorem d_B_countPips_0 : decode b_B_countPips 0 = .ok (.iconst 0, 1) := by decide +kernel
theorem d_B_countPips_1 : decode b_B_countPips 1 = .ok (.istore_n 2, 1) := by decide +kernel
theorem d_B_countPips_2 : decode b_B_countPips 2 = .ok (.iconst 1, 1) := by decide +kernel
theorem d_B_countPips_3 : decode b_B_countPips 3 = .ok (.istore_n 3, 1) := by decide +kernel
theorem d_B_countPips_4 : decode b_B_countPips 4 = .ok (.iload_n 3, 1) := by decide +kernel
theorem d_B_countPips_5 : decode b_B_countPips 5 = .ok (.bipush 25, 2) := by decide +kernel
theorem d_B_countPips_7 : decode b_B_countPips 7 = .ok (.if_icmp .gt 22, 3) := by decide +kernel
theorem d_B_countPips_10 : decode b_B_countPips 10 = .ok (.iload_n 2, 1) := by decide +kernel
theorem d_B_countPips_11 : decode b_B_countPips 11 = .ok (.iload_n 3, 1) := by decide +kernel
theorem d_B_countPips_12 : decode b_B_countPips 12 = .ok (.aload_n 0, 1) := by decide +kernel
theorem d_B_countPips_13 : decode b_B_countPips 13 = .ok (.getfield 11, 3) := by decide +kernel
theorem d_B_countPips_16 : decode b_B_countPips 16 = .ok (.iload_n 1, 1) := by decide +kernel
theorem d_B_countPips_17 : decode b_B_countPips 17 = .ok (.aaload, 1) := by decide +kernel
theorem d_B_countPips_18 : decode b_B_countPips 18 = .ok (.iload_n 3, 1) := by decide +kernel
theorem d_B_countPips_19 : decode b_B_countPips 19 = .ok (.iaload, 1) := by decide +kernel
theorem d_B_countPips_20 : decode b_B_countPips 20 = .ok (.imul, 1) := by decide +kernel
theorem d_B_countPips_21 : decode b_B_countPips 21 = .ok (.iadd, 1) := by decide +kernel
theorem d_B_countPips_22 : decode b_B_countPips 22 = .ok (.istore_n 2, 1) := by decide +kernel
theorem d_B_countPips_23 : decode b_B_countPips 23 = .ok (.iinc 3 1, 3) := by decide +kernel
theorem d_B_countPips_26 : decode b_B_countPips 26 = .ok (.goto (-22), 3) := by decide +kernel
theorem d_B_countPips_29 : decode b_B_countPips 29 = .ok (.iload_n 2, 1) := by decide +kernel
theorem d_B_countPips_30 : decode b_B_countPips 30 = .ok (.ireturn, 1) := by decide +kernel
theorem d_B_timesCounted_0 : decode b_B_timesCounted 0 = .ok (.aload_n 0, 1) := by decide +kernel
theorem d_B_timesCounted_1 : decode b_B_timesCounted 1 = .ok (.getfield 11, 3) := by decide +kernel
theorem d_B_timesCounted_4 : decode b_B_timesCounted 4 = .ok (.iconst 1, 1) := by decide +kernel
theorem d_B_timesCounted_5 : decode b_B_timesCounted 5 = .ok (.iload_n 1, 1) := by decide +kernel
theorem d_B_timesCounted_6 : decode b_B_timesCounted 6 = .ok (.isub, 1) := by decide +kernel
theorem d_B_timesCounted_7 : decode b_B_timesCounted 7 = .ok (.aaload, 1) := by decide +kernel
theorem d_B_timesCounted_8 : decode b_B_timesCounted 8 = .ok (.astore_n 2, 1) := by decide +kernel
theorem d_B_timesCounted_9 : decode b_B_timesCounted 9 = .ok (.aload_n 2, 1) := by decide +kernel
theorem d_B_timesCounted_10 : decode b_B_timesCounted 10 = .ok (.iconst 0, 1) := by decide +kernel
theorem d_B_timesCounted_11 : decode b_B_timesCounted 11 = .ok (.iaload, 1) := by decide +kernel
theorem d_B_timesCounted_12 : decode b_B_timesCounted 12 = .ok (.ifCond .le 5, 3) := by decide +kernel
theorem d_B_timesCounted_15 : decode b_B_timesCounted 15 = .ok (.iconst 1, 1) := by decide +kernel
theorem d_B_timesCounted_16 : decode b_B_timesCounted 16 = .ok (.ireturn, 1) := by decide +kernel
theorem d_B_timesCounted_17 : decode b_B_timesCounted 17 = .ok (.aload_n 2, 1) := by decide +kernel
theorem d_B_timesCounted_18 : decode b_B_timesCounted 18 = .ok (.invokestatic 30, 3) := by decide +kernel
theorem d_B_timesCounted_21 : decode b_B_timesCounted 21 = .ok (.bipush 19, 2) := by decide +kernel
theorem d_B_timesCounted_23 : decode b_B_timesCounted 23 = .ok (.if_icmp .lt 7, 3) := by decide +kernel
theorem d_B_timesCounted_26 : decode b_B_timesCounted 26 = .ok (.iconst 3, 1) := by decide +kernel
theorem d_B_timesCounted_27 : decode b_B_timesCounted 27 = .ok (.goto 4, 3) := by decide +kernel
theorem d_B_timesCounted_30 : decode b_B_timesCounted 30 = .ok (.iconst 2, 1) := by decide +kernel
theorem d_B_timesCounted_31 : decode b_B_timesCounted 31 = .ok (.ireturn, 1) := by decide +kernel
theorem d_B_rearmostPlace_0 : decode b_B_rearmostPlace 0 = .ok (.bipush 25, 2) := by decide +kernel
theorem d_B_rearmostPlace_2 : decode b_B_rearmostPlace 2 = .ok (.istore_n 1, 1) := by decide +kernel
theorem d_B_rearmostPlace_3 : decode b_B_rearmostPlace 3 = .ok (.iload_n 1, 1) := by decide +kernel
theorem d_B_rearmostPlace_4 : decode b_B_rearmostPlace 4 = .ok (.iconst 1, 1) := by decide +kernel
theorem d_B_rearmostPlace_5 : decode b_B_rearmostPlace 5 = .ok (.if_icmp .lt 17, 3) := by decide +kernel
theorem d_B_rearmostPlace_8 : decode b_B_rearmostPlace 8 = .ok (.aload_n 0, 1) := by decide +kernel
theorem d_B_rearmostPlace_9 : decode b_B_rearmostPlace 9 = .ok (.iload_n 1, 1) := by decide +kernel
theorem d_B_rearmostPlace_10 : decode b_B_rearmostPlace 10 = .ok (.iaload, 1) := by decide +kernel
theorem d_B_rearmostPlace_11 : decode b_B_rearmostPlace 11 = .ok (.ifCond .le 5, 3) := by decide +kernel
theorem d_B_rearmostPlace_14 : decode b_B_rearmostPlace 14 = .ok (.iload_n 1, 1) := by decide +kernel
theorem d_B_rearmostPlace_15 : decode b_B_rearmostPlace 15 = .ok (.ireturn, 1) := by decide +kernel
theorem d_B_rearmostPlace_16 : decode b_B_rearmostPlace 16 = .ok (.iinc 1 (-1), 3) := by decide +kernel
theorem d_B_rearmostPlace_19 : decode b_B_rearmostPlace 19 = .ok (.goto (-16), 3) := by decide +kernel
theorem d_B_rearmostPlace_22 : decode b_B_rearmostPlace 22 = .ok (.iconst 0, 1) := by decide +kernel
theorem d_B_rearmostPlace_23 : decode b_B_rearmostPlace 23 = .ok (.ireturn, 1) := by decide +kernel
theorem d_H_init_0 : decode b_H_init 0 = .ok (.aload_n 0, 1) := by decide +kernel
theorem d_H_init_1 : decode b_H_init 1 = .ok (.invokespecial 3, 3) := by decide +kernel
theorem d_H_init_4 : decode b_H_init 4 = .ok (.aload_n 0, 1) := by decide +kernel
theorem d_H_init_5 : decode b_H_init 5 = .ok (.bipush 7, 2) := by decide +kernel
theorem d_H_init_7 : decode b_H_init 7 = .ok (.newarray .int, 2) := by decide +kernel
theorem d_H_init_9 : decode b_H_init 9 = .ok (.putfield 9, 3) := by decide +kernel
theorem d_H_init_12 : decode b_H_init 12 = .ok (.aload_n 0, 1) := by decide +kernel
theorem d_H_init_13 : decode b_H_init 13 = .ok (.aload_n 1, 1) := by decide +kernel
theorem d_H_init_14 : decode b_H_init 14 = .ok (.putfield 15, 3) := by decide +kernel
theorem d_H_init_17 : decode b_H_init 17 = .ok (.return_, 1) := by decide +kernel
theorem d_H_take_0 : decode b_H_take 0 = .ok (.iconst 1, 1) := by decide +kernel
theorem d_H_take_1 : decode b_H_take 1 = .ok (.istore 4, 2) := by decide +kernel
theorem d_H_take_3 : decode b_H_take 3 = .ok (.iload 4, 2) := by decide +kernel
theorem d_H_take_5 : decode b_H_take 5 = .ok (.bipush 6, 2) := by decide +kernel
theorem d_H_take_7 : decode b_H_take 7 = .ok (.if_icmp .gt 17, 3) := by decide +kernel
theorem d_H_take_10 : decode b_H_take 10 = .ok (.aload_n 0, 1) := by decide +kernel
theorem d_H_take_11 : decode b_H_take 11 = .ok (.getfield 9, 3) := by decide +kernel
theorem d_H_take_14 : decode b_H_take 14 = .ok (.iload 4, 2) := by decide +kernel
theorem d_H_take_16 : decode b_H_take 16 = .ok (.iconst 0, 1) := by decide +kernel
theorem d_H_take_17 : decode b_H_take 17 = .ok (.iastore, 1) := by decide +kernel
theorem d_H_take_18 : decode b_H_take 18 = .ok (.iinc 4 1, 3) := by decide +kernel
theorem d_H_take_21 : decode b_H_take 21 = .ok (.goto (-18), 3) := by decide +kernel
theorem d_H_take_24 : decode b_H_take 24 = .ok (.iload_n 2, 1) := by decide +kernel
theorem d_H_take_25 : decode b_H_take 25 = .ok (.iload_n 3, 1) := by decide +kernel
theorem d_H_take_26 : decode b_H_take 26 = .ok (.if_icmp .ne 7, 3) := by decide +kernel
theorem d_H_take_29 : decode b_H_take 29 = .ok (.iconst 2, 1) := by decide +kernel
theorem d_H_take_30 : decode b_H_take 30 = .ok (.goto 4, 3) := by decide +kernel
theorem d_H_take_33 : decode b_H_take 33 = .ok (.iconst 1, 1) := by decide +kernel
theorem d_H_take_34 : decode b_H_take 34 = .ok (.istore 4, 2) := by decide +kernel
theorem d_H_take_36 : decode b_H_take 36 = .ok (.aload_n 0, 1) := by decide +kernel
theorem d_H_take_37 : decode b_H_take 37 = .ok (.getfield 9, 3) := by decide +kernel
theorem d_H_take_40 : decode b_H_take 40 = .ok (.iload_n 2, 1) := by decide +kernel
theorem d_H_take_41 : decode b_H_take 41 = .ok (.dup2, 1) := by decide +kernel
theorem d_H_take_42 : decode b_H_take 42 = .ok (.iaload, 1) := by decide +kernel
theorem d_H_take_43 : decode b_H_take 43 = .ok (.iload 4, 2) := by decide +kernel
theorem d_H_take_45 : decode b_H_take 45 = .ok (.iadd, 1) := by decide +kernel
theorem d_H_take_46 : decode b_H_take 46 = .ok (.iastore, 1) := by decide +kernel
theorem d_H_take_47 : decode b_H_take 47 = .ok (.aload_n 0, 1) := by decide +kernel
theorem d_H_take_48 : decode b_H_take 48 = .ok (.getfield 9, 3) := by decide +kernel
theorem d_H_take_51 : decode b_H_take 51 = .ok (.iload_n 3, 1) := by decide +kernel
theorem d_H_take_52 : decode b_H_take 52 = .ok (.dup2, 1) := by decide +kernel
theorem d_H_take_53 : decode b_H_take 53 = .ok (.iaload, 1) := by decide +kernel
theorem d_H_take_54 : decode b_H_take 54 = .ok (.iload 4, 2) := by decide +kernel
theorem d_H_take_56 : decode b_H_take 56 = .ok (.iadd, 1) := by decide +kernel
theorem d_H_take_57 : decode b_H_take 57 = .ok (.iastore, 1) := by decide +kernel
theorem d_H_take_58 : decode b_H_take 58 = .ok (.aload_n 0, 1) := by decide +kernel
theorem d_H_take_59 : decode b_H_take 59 = .ok (.iconst 2, 1) := by decide +kernel
theorem d_H_take_60 : decode b_H_take 60 = .ok (.iload 4, 2) := by decide +kernel
theorem d_H_take_62 : decode b_H_take 62 = .ok (.imul, 1) := by decide +kernel
theorem d_H_take_63 : decode b_H_take 63 = .ok (.putfield 19, 3) := by decide +kernel
theorem d_H_take_66 : decode b_H_take 66 = .ok (.aload_n 0, 1) := by decide +kernel
theorem d_H_take_67 : decode b_H_take 67 = .ok (.iload_n 1, 1) := by decide +kernel
theorem d_H_take_68 : decode b_H_take 68 = .ok (.putfield 23, 3) := by decide +kernel
theorem d_H_take_71 : decode b_H_take 71 = .ok (.aload_n 0, 1) := by decide +kernel
theorem d_H_take_72 : decode b_H_take 72 = .ok (.aload_n 0, 1) := by decide +kernel
theorem d_H_take_73 : decode b_H_take 73 = .ok (.aload_n 0, 1) := by decide +kernel
theorem d_H_take_74 : decode b_H_take 74 = .ok (.getfield 19, 3) := by decide +kernel
theorem d_H_take_77 : decode b_H_take 77 = .ok (.invokevirtual 26, 3) := by decide +kernel
theorem d_H_take_80 : decode b_H_take 80 = .ok (.putfield 30, 3) := by decide +kernel
theorem d_H_take_83 : decode b_H_take 83 = .ok (.return_, 1) := by decide +kernel
theorem d_H_isRight_0 : decode b_H_isRight 0 = .ok (.iload_n 2, 1) := by decide +kernel
theorem d_H_isRight_1 : decode b_H_isRight 1 = .ok (.invokestatic 33, 3) := by decide +kernel
theorem d_H_isRight_4 : decode b_H_isRight 4 = .ok (.ifCond .eq 28, 3) := by decide +kernel
theorem d_H_isRight_7 : decode b_H_isRight 7 = .ok (.aload_n 0, 1) := by decide +kernel
theorem d_H_isRight_8 : decode b_H_isRight 8 = .ok (.getfield 9, 3) := by decide +kernel
theorem d_H_isRight_11 : decode b_H_isRight 11 = .ok (.iload_n 2, 1) := by decide +kernel
theorem d_H_isRight_12 : decode b_H_isRight 12 = .ok (.iaload, 1) := by decide +kernel
theorem d_H_isRight_13 : decode b_H_isRight 13 = .ok (.ifCond .eq 19, 3) := by decide +kernel
theorem d_H_isRight_16 : decode b_H_isRight 16 = .ok (.aload_n 0, 1) := by decide +kernel
theorem d_H_isRight_17 : decode b_H_isRight 17 = .ok (.getfield 15, 3) := by decide +kernel
theorem d_H_isRight_20 : decode b_H_isRight 20 = .ok (.aload_n 0, 1) := by decide +kernel
theorem d_H_isRight_21 : decode b_H_isRight 21 = .ok (.getfield 23, 3) := by decide +kernel
theorem d_H_isRight_24 : decode b_H_isRight 24 = .ok (.iload_n 1, 1) := by decide +kernel
theorem d_H_isRight_25 : decode b_H_isRight 25 = .ok (.iload_n 2, 1) := by decide +kernel
theorem d_H_isRight_26 : decode b_H_isRight 26 = .ok (.invokevirtual 37, 3) := by decide +kernel
theorem d_H_isRight_29 : decode b_H_isRight 29 = .ok (.ifCond .ne 5, 3) := by decide +kernel
theorem d_H_isRight_32 : decode b_H_isRight 32 = .ok (.iconst 0, 1) := by decide +kernel
theorem d_H_isRight_33 : decode b_H_isRight 33 = .ok (.ireturn, 1) := by decide +kernel
theorem d_H_isRight_34 : decode b_H_isRight 34 = .ok (.aload_n 0, 1) := by decide +kernel
theorem d_H_isRight_35 : decode b_H_isRight 35 = .ok (.getfield 30, 3) := by decide +kernel
theorem d_H_isRight_38 : decode b_H_isRight 38 = .ok (.iconst 1, 1) := by decide +kernel
theorem d_H_isRight_39 : decode b_H_isRight 39 = .ok (.if_icmp .ne 13, 3) := by decide +kernel
theorem d_H_isRight_42 : decode b_H_isRight 42 = .ok (.aload_n 0, 1) := by decide +kernel
theorem d_H_isRight_43 : decode b_H_isRight 43 = .ok (.iload_n 2, 1) := by decide +kernel
theorem d_H_isRight_44 : decode b_H_isRight 44 = .ok (.invokevirtual 43, 3) := by decide +kernel
theorem d_H_isRight_47 : decode b_H_isRight 47 = .ok (.ifCond .eq 5, 3) := by decide +kernel
theorem d_H_isRight_50 : decode b_H_isRight 50 = .ok (.iconst 0, 1) := by decide +kernel
theorem d_H_isRight_51 : decode b_H_isRight 51 = .ok (.ireturn, 1) := by decide +kernel
theorem d_H_isRight_52 : decode b_H_isRight 52 = .ok (.aload_n 0, 1) := by decide +kernel
theorem d_H_isRight_53 : decode b_H_isRight 53 = .ok (.iload_n 1, 1) := by decide +kernel
theorem d_H_isRight_54 : decode b_H_isRight 54 = .ok (.iload_n 2, 1) := by decide +kernel
theorem d_H_isRight_55 : decode b_H_isRight 55 = .ok (.aload_n 0, 1) := by decide +kernel
theorem d_H_isRight_56 : decode b_H_isRight 56 = .ok (.getfield 19, 3) := by decide +kernel
theorem d_H_isRight_59 : decode b_H_isRight 59 = .ok (.invokevirtual 46, 3) := by decide +kernel
theorem d_H_isRight_62 : decode b_H_isRight 62 = .ok (.aload_n 0, 1) := by decide +kernel
theorem d_H_isRight_63 : decode b_H_isRight 63 = .ok (.getfield 30, 3) := by decide +kernel
theorem d_H_isRight_66 : decode b_H_isRight 66 = .ok (.iconst 1, 1) := by decide +kernel
theorem d_H_isRight_67 : decode b_H_isRight 67 = .ok (.isub, 1) := by decide +kernel
theorem d_H_isRight_68 : decode b_H_isRight 68 = .ok (.if_icmp .ne 7, 3) := by decide +kernel
theorem d_H_isRight_71 : decode b_H_isRight 71 = .ok (.iconst 1, 1) := by decide +kernel
theorem d_H_isRight_72 : decode b_H_isRight 72 = .ok (.goto 4, 3) := by decide +kernel
theorem d_H_isRight_75 : decode b_H_isRight 75 = .ok (.iconst 0, 1) := by decide +kernel
theorem d_H_isRight_76 : decode b_H_isRight 76 = .ok (.ireturn, 1) := by decide +kernel
theorem d_H_countRight_0 : decode b_H_countRight 0 = .ok (.iconst 0, 1) := by decide +kernel
theorem d_H_countRight_1 : decode b_H_countRight 1 = .ok (.istore_n 1, 1) := by decide +kernel
theorem d_H_countRight_2 : decode b_H_countRight 2 = .ok (.bipush 25, 2) := by decide +kernel
theorem d_H_countRight_4 : decode b_H_countRight 4 = .ok (.istore_n 2, 1) := by decide +kernel
theorem d_H_countRight_5 : decode b_H_countRight 5 = .ok (.iload_n 2, 1) := by decide +kernel
theorem d_H_countRight_6 : decode b_H_countRight 6 = .ok (.iconst 1, 1) := by decide +kernel
theorem d_H_countRight_7 : decode b_H_countRight 7 = .ok (.if_icmp .lt 35, 3) := by decide +kernel
theorem d_H_countRight_10 : decode b_H_countRight 10 = .ok (.bipush 6, 2) := by decide +kernel
theorem d_H_countRight_12 : decode b_H_countRight 12 = .ok (.istore_n 3, 1) := by decide +kernel
theorem d_H_countRight_13 : decode b_H_countRight 13 = .ok (.iload_n 3, 1) := by decide +kernel
theorem d_H_countRight_14 : decode b_H_countRight 14 = .ok (.iconst 1, 1) := by decide +kernel
theorem d_H_countRight_15 : decode b_H_countRight 15 = .ok (.if_icmp .lt 21, 3) := by decide +kernel
theorem d_H_countRight_18 : decode b_H_countRight 18 = .ok (.aload_n 0, 1) := by decide +kernel
theorem d_H_countRight_19 : decode b_H_countRight 19 = .ok (.iload_n 2, 1) := by decide +kernel
theorem d_H_countRight_20 : decode b_H_countRight 20 = .ok (.iload_n 3, 1) := by decide +kernel
theorem d_H_countRight_21 : decode b_H_countRight 21 = .ok (.invokevirtual 50, 3) := by decide +kernel
theorem d_H_countRight_24 : decode b_H_countRight 24 = .ok (.ifCond .eq 6, 3) := by decide +kernel
theorem d_H_countRight_27 : decode b_H_countRight 27 = .ok (.iinc 1 1, 3) := by decide +kernel
theorem d_H_countRight_30 : decode b_H_countRight 30 = .ok (.iinc 3 (-1), 3) := by decide +kernel
theorem d_H_countRight_33 : decode b_H_countRight 33 = .ok (.goto (-20), 3) := by decide +kernel
theorem d_H_countRight_36 : decode b_H_countRight 36 = .ok (.iinc 2 (-1), 3) := by decide +kernel
theorem d_H_countRight_39 : decode b_H_countRight 39 = .ok (.goto (-34), 3) := by decide +kernel
theorem d_H_countRight_42 : decode b_H_countRight 42 = .ok (.iload_n 1, 1) := by decide +kernel
theorem d_H_countRight_43 : decode b_H_countRight 43 = .ok (.ireturn, 1) := by decide +kernel
theorem d_H_use_0 : decode b_H_use 0 = .ok (.aload_n 0, 1) := by decide +kernel
theorem d_H_use_1 : decode b_H_use 1 = .ok (.getfield 15, 3) := by decide +kernel
theorem d_H_use_4 : decode b_H_use 4 = .ok (.aload_n 0, 1) := by decide +kernel
theorem d_H_use_5 : decode b_H_use 5 = .ok (.getfield 23, 3) := by decide +kernel
theorem d_H_use_8 : decode b_H_use 8 = .ok (.iload_n 1, 1) := by decide +kernel
theorem d_H_use_9 : decode b_H_use 9 = .ok (.iload_n 2, 1) := by decide +kernel
theorem d_H_use_10 : decode b_H_use 10 = .ok (.invokevirtual 54, 3) := by decide +kernel
theorem d_H_use_13 : decode b_H_use 13 = .ok (.aload_n 0, 1) := by decide +kernel
theorem d_H_use_14 : decode b_H_use 14 = .ok (.getfield 15, 3) := by decide +kernel
theorem d_H_use_17 : decode b_H_use 17 = .ok (.aload_n 0, 1) := by decide +kernel
theorem d_H_use_18 : decode b_H_use 18 = .ok (.getfield 23, 3) := by decide +kernel
theorem d_H_use_21 : decode b_H_use 21 = .ok (.iload_n 1, 1) := by decide +kernel
theorem d_H_use_22 : decode b_H_use 22 = .ok (.iload_n 2, 1) := by decide +kernel
theorem d_H_use_23 : decode b_H_use 23 = .ok (.isub, 1) := by decide +kernel
theorem d_H_use_24 : decode b_H_use 24 = .ok (.invokevirtual 58, 3) := by decide +kernel
theorem d_H_use_27 : decode b_H_use 27 = .ok (.aload_n 0, 1) := by decide +kernel
theorem d_H_use_28 : decode b_H_use 28 = .ok (.getfield 9, 3) := by decide +kernel
theorem d_H_use_31 : decode b_H_use 31 = .ok (.iload_n 2, 1) := by decide +kernel
theorem d_H_use_32 : decode b_H_use 32 = .ok (.dup2, 1) := by decide +kernel
theorem d_H_use_33 : decode b_H_use 33 = .ok (.iaload, 1) := by decide +kernel
theorem d_H_use_34 : decode b_H_use 34 = .ok (.iconst 1, 1) := by decide +kernel
theorem d_H_use_35 : decode b_H_use 35 = .ok (.isub, 1) := by decide +kernel
theorem d_H_use_36 : decode b_H_use 36 = .ok (.iastore, 1) := by decide +kernel
theorem d_H_use_37 : decode b_H_use 37 = .ok (.aload_n 0, 1) := by decide +kernel
theorem d_H_use_38 : decode b_H_use 38 = .ok (.dup, 1) := by decide +kernel
theorem d_H_use_39 : decode b_H_use 39 = .ok (.getfield 19, 3) := by decide +kernel
theorem d_H_use_42 : decode b_H_use 42 = .ok (.iconst 1, 1) := by decide +kernel
theorem d_H_use_43 : decode b_H_use 43 = .ok (.isub, 1) := by decide +kernel
theorem d_H_use_44 : decode b_H_use 44 = .ok (.putfield 19, 3) := by decide +kernel
theorem d_H_use_47 : decode b_H_use 47 = .ok (.aload_n 0, 1) := by decide +kernel
theorem d_H_use_48 : decode b_H_use 48 = .ok (.dup, 1) := by decide +kernel
theorem d_H_use_49 : decode b_H_use 49 = .ok (.getfield 30, 3) := by decide +kernel
theorem d_H_use_52 : decode b_H_use 52 = .ok (.iconst 1, 1) := by decide +kernel
theorem d_H_use_53 : decode b_H_use 53 = .ok (.isub, 1) := by decide +kernel
theorem d_H_use_54 : decode b_H_use 54 = .ok (.putfield 30, 3) := by decide +kernel
theorem d_H_use_57 : decode b_H_use 57 = .ok (.return_, 1) := by decide +kernel
theorem d_H_canMoveGreater_0 : decode b_H_canMoveGreater 0 = .ok (.iload_n 1, 1) := by decide +kernel
theorem d_H_canMoveGreater_1 : decode b_H_canMoveGreater 1 = .ok (.iconst 1, 1) := by decide +kernel
theorem d_H_canMoveGreater_2 : decode b_H_canMoveGreater 2 = .ok (.iadd, 1) := by decide +kernel
theorem d_H_canMoveGreater_3 : decode b_H_canMoveGreater 3 = .ok (.istore_n 2, 1) := by decide +kernel
theorem d_H_canMoveGreater_4 : decode b_H_canMoveGreater 4 = .ok (.iload_n 2, 1) := by decide +kernel
theorem d_H_canMoveGreater_5 : decode b_H_canMoveGreater 5 = .ok (.bipush 6, 2) := by decide +kernel
theorem d_H_canMoveGreater_7 : decode b_H_canMoveGreater 7 = .ok (.if_icmp .gt 35, 3) := by decide +kernel
theorem d_H_canMoveGreater_10 : decode b_H_canMoveGreater 10 = .ok (.aload_n 0, 1) := by decide +kernel
theorem d_H_canMoveGreater_11 : decode b_H_canMoveGreater 11 = .ok (.getfield 9, 3) := by decide +kernel
theorem d_H_canMoveGreater_14 : decode b_H_canMoveGreater 14 = .ok (.iload_n 2, 1) := by decide +kernel
theorem d_H_canMoveGreater_15 : decode b_H_canMoveGreater 15 = .ok (.iaload, 1) := by decide +kernel
theorem d_H_canMoveGreater_16 : decode b_H_canMoveGreater 16 = .ok (.ifCond .le 20, 3) := by decide +kernel
theorem d_H_canMoveGreater_19 : decode b_H_canMoveGreater 19 = .ok (.aload_n 0, 1) := by decide +kernel
theorem d_H_canMoveGreater_20 : decode b_H_canMoveGreater 20 = .ok (.getfield 15, 3) := by decide +kernel
theorem d_H_canMoveGreater_23 : decode b_H_canMoveGreater 23 = .ok (.aload_n 0, 1) := by decide +kernel
theorem d_H_canMoveGreater_24 : decode b_H_canMoveGreater 24 = .ok (.getfield 23, 3) := by decide +kernel
theorem d_H_canMoveGreater_27 : decode b_H_canMoveGreater 27 = .ok (.iload_n 2, 1) := by decide +kernel
theorem d_H_canMoveGreater_28 : decode b_H_canMoveGreater 28 = .ok (.invokevirtual 62, 3) := by decide +kernel
theorem d_H_canMoveGreater_31 : decode b_H_canMoveGreater 31 = .ok (.ifCond .eq 5, 3) := by decide +kernel
theorem d_H_canMoveGreater_34 : decode b_H_canMoveGreater 34 = .ok (.iconst 1, 1) := by decide +kernel
theorem d_H_canMoveGreater_35 : decode b_H_canMoveGreater 35 = .ok (.ireturn, 1) := by decide +kernel
theorem d_H_canMoveGreater_36 : decode b_H_canMoveGreater 36 = .ok (.iinc 2 1, 3) := by decide +kernel
theorem d_H_canMoveGreater_39 : decode b_H_canMoveGreater 39 = .ok (.goto (-35), 3) := by decide +kernel
theorem d_H_canMoveGreater_42 : decode b_H_canMoveGreater 42 = .ok (.iconst 0, 1) := by decide +kernel
theorem d_H_canMoveGreater_43 : decode b_H_canMoveGreater 43 = .ok (.ireturn, 1) := by decide +kernel
theorem d_H_mostUsable_0 : decode b_H_mostUsable 0 = .ok (.iconst 0, 1) := by decide +kernel
theorem d_H_mostUsable_1 : decode b_H_mostUsable 1 = .ok (.istore_n 2, 1) := by decide +kernel
theorem d_H_mostUsable_2 : decode b_H_mostUsable 2 = .ok (.bipush 6, 2) := by decide +kernel
theorem d_H_mostUsable_4 : decode b_H_mostUsable 4 = .ok (.istore_n 3, 1) := by decide +kernel
theorem d_H_mostUsable_5 : decode b_H_mostUsable 5 = .ok (.iload_n 3, 1) := by decide +kernel
theorem d_H_mostUsable_6 : decode b_H_mostUsable 6 = .ok (.iconst 1, 1) := by decide +kernel
theorem d_H_mostUsable_7 : decode b_H_mostUsable 7 = .ok (.if_icmp .lt 71, 3) := by decide +kernel
theorem d_H_mostUsable_10 : decode b_H_mostUsable 10 = .ok (.bipush 25, 2) := by decide +kernel
theorem d_H_mostUsable_12 : decode b_H_mostUsable 12 = .ok (.istore 4, 2) := by decide +kernel
theorem d_H_mostUsable_14 : decode b_H_mostUsable 14 = .ok (.iload 4, 2) := by decide +kernel
theorem d_H_mostUsable_16 : decode b_H_mostUsable 16 = .ok (.iconst 1, 1) := by decide +kernel
theorem d_H_mostUsable_17 : decode b_H_mostUsable 17 = .ok (.if_icmp .lt 55, 3) := by decide +kernel
theorem d_H_mostUsable_20 : decode b_H_mostUsable 20 = .ok (.aload_n 0, 1) := by decide +kernel
theorem d_H_mostUsable_21 : decode b_H_mostUsable 21 = .ok (.getfield 9, 3) := by decide +kernel
theorem d_H_mostUsable_24 : decode b_H_mostUsable 24 = .ok (.iload_n 3, 1) := by decide +kernel
theorem d_H_mostUsable_25 : decode b_H_mostUsable 25 = .ok (.iaload, 1) := by decide +kernel
theorem d_H_mostUsable_26 : decode b_H_mostUsable 26 = .ok (.ifCond .le 46, 3) := by decide +kernel
theorem d_H_mostUsable_29 : decode b_H_mostUsable 29 = .ok (.iload_n 2, 1) := by decide +kernel
theorem d_H_mostUsable_30 : decode b_H_mostUsable 30 = .ok (.iload_n 1, 1) := by decide +kernel
theorem d_H_mostUsable_31 : decode b_H_mostUsable 31 = .ok (.if_icmp .ge 41, 3) := by decide +kernel
theorem d_H_mostUsable_34 : decode b_H_mostUsable 34 = .ok (.aload_n 0, 1) := by decide +kernel
theorem d_H_mostUsable_35 : decode b_H_mostUsable 35 = .ok (.getfield 15, 3) := by decide +kernel
theorem d_H_mostUsable_38 : decode b_H_mostUsable 38 = .ok (.aload_n 0, 1) := by decide +kernel
theorem d_H_mostUsable_39 : decode b_H_mostUsable 39 = .ok (.getfield 23, 3) := by decide +kernel
theorem d_H_mostUsable_42 : decode b_H_mostUsable 42 = .ok (.iload 4, 2) := by decide +kernel
theorem d_H_mostUsable_44 : decode b_H_mostUsable 44 = .ok (.iload_n 3, 1) := by decide +kernel
theorem d_H_mostUsable_45 : decode b_H_mostUsable 45 = .ok (.invokevirtual 37, 3) := by decide +kernel
theorem d_H_mostUsable_48 : decode b_H_mostUsable 48 = .ok (.ifCond .eq 18, 3) := by decide +kernel
theorem d_H_mostUsable_51 : decode b_H_mostUsable 51 = .ok (.iload_n 2, 1) := by decide +kernel
theorem d_H_mostUsable_52 : decode b_H_mostUsable 52 = .ok (.iconst 1, 1) := by decide +kernel
theorem d_H_mostUsable_53 : decode b_H_mostUsable 53 = .ok (.aload_n 0, 1) := by decide +kernel
theorem d_H_mostUsable_54 : decode b_H_mostUsable 54 = .ok (.iload 4, 2) := by decide +kernel
theorem d_H_mostUsable_56 : decode b_H_mostUsable 56 = .ok (.iload_n 3, 1) := by decide +kernel
theorem d_H_mostUsable_57 : decode b_H_mostUsable 57 = .ok (.iload_n 1, 1) := by decide +kernel
theorem d_H_mostUsable_58 : decode b_H_mostUsable 58 = .ok (.invokevirtual 46, 3) := by decide +kernel
theorem d_H_mostUsable_61 : decode b_H_mostUsable 61 = .ok (.iadd, 1) := by decide +kernel
theorem d_H_mostUsable_62 : decode b_H_mostUsable 62 = .ok (.invokestatic 65, 3) := by decide +kernel
theorem d_H_mostUsable_65 : decode b_H_mostUsable 65 = .ok (.istore_n 2, 1) := by decide +kernel
theorem d_H_mostUsable_66 : decode b_H_mostUsable 66 = .ok (.iinc 4 (-1), 3) := by decide +kernel
theorem d_H_mostUsable_69 : decode b_H_mostUsable 69 = .ok (.goto (-55), 3) := by decide +kernel
theorem d_H_mostUsable_72 : decode b_H_mostUsable 72 = .ok (.iinc 3 (-1), 3) := by decide +kernel
theorem d_H_mostUsable_75 : decode b_H_mostUsable 75 = .ok (.goto (-70), 3) := by decide +kernel
theorem d_H_mostUsable_78 : decode b_H_mostUsable 78 = .ok (.iload_n 2, 1) := by decide +kernel
theorem d_H_mostUsable_79 : decode b_H_mostUsable 79 = .ok (.ireturn, 1) := by decide +kernel
theorem d_H_mostUsableAfter_0 : decode b_H_mostUsableAfter 0 = .ok (.aload_n 0, 1) := by decide +kernel
theorem d_H_mostUsableAfter_1 : decode b_H_mostUsableAfter 1 = .ok (.getfield 15, 3) := by decide +kernel
theorem d_H_mostUsableAfter_4 : decode b_H_mostUsableAfter 4 = .ok (.aload_n 0, 1) := by decide +kernel
theorem d_H_mostUsableAfter_5 : decode b_H_mostUsableAfter 5 = .ok (.getfield 23, 3) := by decide +kernel
theorem d_H_mostUsableAfter_8 : decode b_H_mostUsableAfter 8 = .ok (.iload_n 1, 1) := by decide +kernel
theorem d_H_mostUsableAfter_9 : decode b_H_mostUsableAfter 9 = .ok (.iload_n 2, 1) := by decide +kernel
theorem d_H_mostUsableAfter_10 : decode b_H_mostUsableAfter 10 = .ok (.invokevirtual 54, 3) := by decide +kernel
theorem d_H_mostUsableAfter_13 : decode b_H_mostUsableAfter 13 = .ok (.aload_n 0, 1) := by decide +kernel
theorem d_H_mostUsableAfter_14 : decode b_H_mostUsableAfter 14 = .ok (.getfield 9, 3) := by decide +kernel
theorem d_H_mostUsableAfter_17 : decode b_H_mostUsableAfter 17 = .ok (.iload_n 2, 1) := by decide +kernel
theorem d_H_mostUsableAfter_18 : decode b_H_mostUsableAfter 18 = .ok (.dup2, 1) := by decide +kernel
theorem d_H_mostUsableAfter_19 : decode b_H_mostUsableAfter 19 = .ok (.iaload, 1) := by decide +kernel
theorem d_H_mostUsableAfter_20 : decode b_H_mostUsableAfter 20 = .ok (.iconst 1, 1) := by decide +kernel
theorem d_H_mostUsableAfter_21 : decode b_H_mostUsableAfter 21 = .ok (.isub, 1) := by decide +kernel
theorem d_H_mostUsableAfter_22 : decode b_H_mostUsableAfter 22 = .ok (.iastore, 1) := by decide +kernel
theorem d_H_mostUsableAfter_23 : decode b_H_mostUsableAfter 23 = .ok (.aload_n 0, 1) := by decide +kernel
theorem d_H_mostUsableAfter_24 : decode b_H_mostUsableAfter 24 = .ok (.iload_n 3, 1) := by decide +kernel
theorem d_H_mostUsableAfter_25 : decode b_H_mostUsableAfter 25 = .ok (.iconst 1, 1) := by decide +kernel
theorem d_H_mostUsableAfter_26 : decode b_H_mostUsableAfter 26 = .ok (.isub, 1) := by decide +kernel
theorem d_H_mostUsableAfter_27 : decode b_H_mostUsableAfter 27 = .ok (.invokevirtual 26, 3) := by decide +kernel
theorem d_H_mostUsableAfter_30 : decode b_H_mostUsableAfter 30 = .ok (.istore 4, 2) := by decide +kernel
theorem d_H_mostUsableAfter_32 : decode b_H_mostUsableAfter 32 = .ok (.aload_n 0, 1) := by decide +kernel
theorem d_H_mostUsableAfter_33 : decode b_H_mostUsableAfter 33 = .ok (.getfield 9, 3) := by decide +kernel
theorem d_H_mostUsableAfter_36 : decode b_H_mostUsableAfter 36 = .ok (.iload_n 2, 1) := by decide +kernel
theorem d_H_mostUsableAfter_37 : decode b_H_mostUsableAfter 37 = .ok (.dup2, 1) := by decide +kernel
theorem d_H_mostUsableAfter_38 : decode b_H_mostUsableAfter 38 = .ok (.iaload, 1) := by decide +kernel
theorem d_H_mostUsableAfter_39 : decode b_H_mostUsableAfter 39 = .ok (.iconst 1, 1) := by decide +kernel
theorem d_H_mostUsableAfter_40 : decode b_H_mostUsableAfter 40 = .ok (.iadd, 1) := by decide +kernel
theorem d_H_mostUsableAfter_41 : decode b_H_mostUsableAfter 41 = .ok (.iastore, 1) := by decide +kernel
theorem d_H_mostUsableAfter_42 : decode b_H_mostUsableAfter 42 = .ok (.aload_n 0, 1) := by decide +kernel
theorem d_H_mostUsableAfter_43 : decode b_H_mostUsableAfter 43 = .ok (.getfield 15, 3) := by decide +kernel
theorem d_H_mostUsableAfter_46 : decode b_H_mostUsableAfter 46 = .ok (.aload_n 0, 1) := by decide +kernel
theorem d_H_mostUsableAfter_47 : decode b_H_mostUsableAfter 47 = .ok (.getfield 23, 3) := by decide +kernel
theorem d_H_mostUsableAfter_50 : decode b_H_mostUsableAfter 50 = .ok (.iload_n 1, 1) := by decide +kernel
theorem d_H_mostUsableAfter_51 : decode b_H_mostUsableAfter 51 = .ok (.iload_n 2, 1) := by decide +kernel
theorem d_H_mostUsableAfter_52 : decode b_H_mostUsableAfter 52 = .ok (.invokevirtual 71, 3) := by decide +kernel
theorem d_H_mostUsableAfter_55 : decode b_H_mostUsableAfter 55 = .ok (.iload 4, 2) := by decide +kernel
theorem d_H_mostUsableAfter_57 : decode b_H_mostUsableAfter 57 = .ok (.ireturn, 1) := by decide +kernel
theorem d_R_init_0 : decode b_R_init 0 = .ok (.aload_n 0, 1) := by decide +kernel
theorem d_R_init_1 : decode b_R_init 1 = .ok (.invokespecial 3, 3) := by decide +kernel
theorem d_R_init_4 : decode b_R_init 4 = .ok (.aload_n 0, 1) := by decide +kernel
theorem d_R_init_5 : decode b_R_init 5 = .ok (.sipush 225, 3) := by decide +kernel
theorem d_R_init_8 : decode b_R_init 8 = .ok (.newarray .long, 2) := by decide +kernel
theorem d_R_init_10 : decode b_R_init 10 = .ok (.putfield 11, 3) := by decide +kernel
theorem d_R_init_13 : decode b_R_init 13 = .ok (.return_, 1) := by decide +kernel
theorem d_R_chanceToRoll_0 : decode b_R_chanceToRoll 0 = .ok (.iload_n 3, 1) := by decide +kernel
theorem d_R_chanceToRoll_1 : decode b_R_chanceToRoll 1 = .ok (.ifCond .ne 10, 3) := by decide +kernel
theorem d_R_chanceToRoll_4 : decode b_R_chanceToRoll 4 = .ok (.iload 4, 2) := by decide +kernel
theorem d_R_chanceToRoll_6 : decode b_R_chanceToRoll 6 = .ok (.ifCond .ne 5, 3) := by decide +kernel
theorem d_R_chanceToRoll_9 : decode b_R_chanceToRoll 9 = .ok (.lconst 0, 1) := by decide +kernel
theorem d_R_chanceToRoll_10 : decode b_R_chanceToRoll 10 = .ok (.lreturn, 1) := by decide +kernel
theorem d_R_chanceToRoll_11 : decode b_R_chanceToRoll 11 = .ok (.iload_n 1, 1) := by decide +kernel
theorem d_R_chanceToRoll_12 : decode b_R_chanceToRoll 12 = .ok (.ifCond .ne 11, 3) := by decide +kernel
theorem d_R_chanceToRoll_15 : decode b_R_chanceToRoll 15 = .ok (.iload_n 2, 1) := by decide +kernel
theorem d_R_chanceToRoll_16 : decode b_R_chanceToRoll 16 = .ok (.ifCond .ne 7, 3) := by decide +kernel
theorem d_R_chanceToRoll_19 : decode b_R_chanceToRoll 19 = .ok (.ldc2_w 15, 3) := by decide +kernel
theorem d_R_chanceToRoll_22 : decode b_R_chanceToRoll 22 = .ok (.lreturn, 1) := by decide +kernel
theorem d_R_chanceToRoll_23 : decode b_R_chanceToRoll 23 = .ok (.iload_n 1, 1) := by decide +kernel
theorem d_R_chanceToRoll_24 : decode b_R_chanceToRoll 24 = .ok (.iload_n 2, 1) := by decide +kernel
theorem d_R_chanceToRoll_25 : decode b_R_chanceToRoll 25 = .ok (.invokestatic 17, 3) := by decide +kernel
theorem d_R_chanceToRoll_28 : decode b_R_chanceToRoll 28 = .ok (.bipush 15, 2) := by decide +kernel
theorem d_R_chanceToRoll_30 : decode b_R_chanceToRoll 30 = .ok (.imul, 1) := by decide +kernel
theorem d_R_chanceToRoll_31 : decode b_R_chanceToRoll 31 = .ok (.iload_n 3, 1) := by decide +kernel
theorem d_R_chanceToRoll_32 : decode b_R_chanceToRoll 32 = .ok (.iload 4, 2) := by decide +kernel
theorem d_R_chanceToRoll_34 : decode b_R_chanceToRoll 34 = .ok (.invokestatic 17, 3) := by decide +kernel
theorem d_R_chanceToRoll_37 : decode b_R_chanceToRoll 37 = .ok (.iadd, 1) := by decide +kernel
theorem d_R_chanceToRoll_38 : decode b_R_chanceToRoll 38 = .ok (.istore 5, 2) := by decide +kernel
theorem d_R_chanceToRoll_40 : decode b_R_chanceToRoll 40 = .ok (.aload_n 0, 1) := by decide +kernel
theorem d_R_chanceToRoll_41 : decode b_R_chanceToRoll 41 = .ok (.getfield 11, 3) := by decide +kernel
theorem d_R_chanceToRoll_44 : decode b_R_chanceToRoll 44 = .ok (.iload 5, 2) := by decide +kernel
theorem d_R_chanceToRoll_46 : decode b_R_chanceToRoll 46 = .ok (.laload, 1) := by decide +kernel
theorem d_R_chanceToRoll_47 : decode b_R_chanceToRoll 47 = .ok (.lconst 0, 1) := by decide +kernel
theorem d_R_chanceToRoll_48 : decode b_R_chanceToRoll 48 = .ok (.lcmp, 1) := by decide +kernel
theorem d_R_chanceToRoll_49 : decode b_R_chanceToRoll 49 = .ok (.ifCond .ne 21, 3) := by decide +kernel
theorem d_R_chanceToRoll_52 : decode b_R_chanceToRoll 52 = .ok (.aload_n 0, 1) := by decide +kernel
theorem d_R_chanceToRoll_53 : decode b_R_chanceToRoll 53 = .ok (.getfield 11, 3) := by decide +kernel
theorem d_R_chanceToRoll_56 : decode b_R_chanceToRoll 56 = .ok (.iload 5, 2) := by decide +kernel
theorem d_R_chanceToRoll_58 : decode b_R_chanceToRoll 58 = .ok (.lconst 1, 1) := by decide +kernel
theorem d_R_chanceToRoll_59 : decode b_R_chanceToRoll 59 = .ok (.aload_n 0, 1) := by decide +kernel
theorem d_R_chanceToRoll_60 : decode b_R_chanceToRoll 60 = .ok (.iload_n 1, 1) := by decide +kernel
theorem d_R_chanceToRoll_61 : decode b_R_chanceToRoll 61 = .ok (.iload_n 2, 1) := by decide +kernel
theorem d_R_chanceToRoll_62 : decode b_R_chanceToRoll 62 = .ok (.iload_n 3, 1) := by decide +kernel
theorem d_R_chanceToRoll_63 : decode b_R_chanceToRoll 63 = .ok (.iload 4, 2) := by decide +kernel
theorem d_R_chanceToRoll_65 : decode b_R_chanceToRoll 65 = .ok (.invokevirtual 21, 3) := by decide +kernel
theorem d_R_chanceToRoll_68 : decode b_R_chanceToRoll 68 = .ok (.ladd, 1) := by decide +kernel
theorem d_R_chanceToRoll_69 : decode b_R_chanceToRoll 69 = .ok (.lastore, 1) := by decide +kernel
theorem d_R_chanceToRoll_70 : decode b_R_chanceToRoll 70 = .ok (.aload_n 0, 1) := by decide +kernel
theorem d_R_chanceToRoll_71 : decode b_R_chanceToRoll 71 = .ok (.getfield 11, 3) := by decide +kernel
theorem d_R_chanceToRoll_74 : decode b_R_chanceToRoll 74 = .ok (.iload 5, 2) := by decide +kernel
theorem d_R_chanceToRoll_76 : decode b_R_chanceToRoll 76 = .ok (.laload, 1) := by decide +kernel
theorem d_R_chanceToRoll_77 : decode b_R_chanceToRoll 77 = .ok (.lconst 1, 1) := by decide +kernel
theorem d_R_chanceToRoll_78 : decode b_R_chanceToRoll 78 = .ok (.lsub, 1) := by decide +kernel
theorem d_R_chanceToRoll_79 : decode b_R_chanceToRoll 79 = .ok (.lreturn, 1) := by decide +kernel
theorem d_R_pairNumber_0 : decode b_R_pairNumber 0 = .ok (.iload_n 0, 1) := by decide +kernel
theorem d_R_pairNumber_1 : decode b_R_pairNumber 1 = .ok (.iload_n 1, 1) := by decide +kernel
theorem d_R_pairNumber_2 : decode b_R_pairNumber 2 = .ok (.invokestatic 25, 3) := by decide +kernel
theorem d_R_pairNumber_5 : decode b_R_pairNumber 5 = .ok (.istore_n 2, 1) := by decide +kernel
theorem d_R_pairNumber_6 : decode b_R_pairNumber 6 = .ok (.iload_n 2, 1) := by decide +kernel
theorem d_R_pairNumber_7 : decode b_R_pairNumber 7 = .ok (.iload_n 2, 1) := by decide +kernel
theorem d_R_pairNumber_8 : decode b_R_pairNumber 8 = .ok (.iconst 1, 1) := by decide +kernel
theorem d_R_pairNumber_9 : decode b_R_pairNumber 9 = .ok (.iadd, 1) := by decide +kernel
theorem d_R_pairNumber_10 : decode b_R_pairNumber 10 = .ok (.imul, 1) := by decide +kernel
theorem d_R_pairNumber_11 : decode b_R_pairNumber 11 = .ok (.iconst 2, 1) := by decide +kernel
theorem d_R_pairNumber_12 : decode b_R_pairNumber 12 = .ok (.idiv, 1) := by decide +kernel
theorem d_R_pairNumber_13 : decode b_R_pairNumber 13 = .ok (.iload_n 0, 1) := by decide +kernel
theorem d_R_pairNumber_14 : decode b_R_pairNumber 14 = .ok (.iload_n 1, 1) := by decide +kernel
theorem d_R_pairNumber_15 : decode b_R_pairNumber 15 = .ok (.invokestatic 30, 3) := by decide +kernel
theorem d_R_pairNumber_18 : decode b_R_pairNumber 18 = .ok (.iadd, 1) := by decide +kernel
theorem d_R_pairNumber_19 : decode b_R_pairNumber 19 = .ok (.ireturn, 1) := by decide +kernel
theorem d_R_meanOfRolls_0 : decode b_R_meanOfRolls 0 = .ok (.lconst 0, 1) := by decide +kernel
theorem d_R_meanOfRolls_1 : decode b_R_meanOfRolls 1 = .ok (.lstore 5, 2) := by decide +kernel
theorem d_R_meanOfRolls_3 : decode b_R_meanOfRolls 3 = .ok (.iconst 1, 1) := by decide +kernel
theorem d_R_meanOfRolls_4 : decode b_R_meanOfRolls 4 = .ok (.istore 7, 2) := by decide +kernel
theorem d_R_meanOfRolls_6 : decode b_R_meanOfRolls 6 = .ok (.iload 7, 2) := by decide +kernel
theorem d_R_meanOfRolls_8 : decode b_R_meanOfRolls 8 = .ok (.bipush 6, 2) := by decide +kernel
theorem d_R_meanOfRolls_10 : decode b_R_meanOfRolls 10 = .ok (.if_icmp .gt 88, 3) := by decide +kernel
theorem d_R_meanOfRolls_13 : decode b_R_meanOfRolls 13 = .ok (.lload 5, 2) := by decide +kernel
theorem d_R_meanOfRolls_15 : decode b_R_meanOfRolls 15 = .ok (.aload_n 0, 1) := by decide +kernel
theorem d_R_meanOfRolls_16 : decode b_R_meanOfRolls 16 = .ok (.iload_n 1, 1) := by decide +kernel
theorem d_R_meanOfRolls_17 : decode b_R_meanOfRolls 17 = .ok (.iload_n 2, 1) := by decide +kernel
theorem d_R_meanOfRolls_18 : decode b_R_meanOfRolls 18 = .ok (.iload_n 3, 1) := by decide +kernel
theorem d_R_meanOfRolls_19 : decode b_R_meanOfRolls 19 = .ok (.iload 4, 2) := by decide +kernel
theorem d_R_meanOfRolls_21 : decode b_R_meanOfRolls 21 = .ok (.iload 7, 2) := by decide +kernel
theorem d_R_meanOfRolls_23 : decode b_R_meanOfRolls 23 = .ok (.iconst 4, 1) := by decide +kernel
theorem d_R_meanOfRolls_24 : decode b_R_meanOfRolls 24 = .ok (.invokevirtual 33, 3) := by decide +kernel
theorem d_R_meanOfRolls_27 : decode b_R_meanOfRolls 27 = .ok (.ladd, 1) := by decide +kernel
theorem d_R_meanOfRolls_28 : decode b_R_meanOfRolls 28 = .ok (.lstore 5, 2) := by decide +kernel
theorem d_R_meanOfRolls_30 : decode b_R_meanOfRolls 30 = .ok (.iconst 1, 1) := by decide +kernel
theorem d_R_meanOfRolls_31 : decode b_R_meanOfRolls 31 = .ok (.istore 8, 2) := by decide +kernel
theorem d_R_meanOfRolls_33 : decode b_R_meanOfRolls 33 = .ok (.iload 8, 2) := by decide +kernel
theorem d_R_meanOfRolls_35 : decode b_R_meanOfRolls 35 = .ok (.iload 7, 2) := by decide +kernel
theorem d_R_meanOfRolls_37 : decode b_R_meanOfRolls 37 = .ok (.if_icmp .ge 55, 3) := by decide +kernel
theorem d_R_meanOfRolls_40 : decode b_R_meanOfRolls 40 = .ok (.aload_n 0, 1) := by decide +kernel
theorem d_R_meanOfRolls_41 : decode b_R_meanOfRolls 41 = .ok (.iload_n 1, 1) := by decide +kernel
theorem d_R_meanOfRolls_42 : decode b_R_meanOfRolls 42 = .ok (.iload_n 2, 1) := by decide +kernel
theorem d_R_meanOfRolls_43 : decode b_R_meanOfRolls 43 = .ok (.iload_n 3, 1) := by decide +kernel
theorem d_R_meanOfRolls_44 : decode b_R_meanOfRolls 44 = .ok (.iload 4, 2) := by decide +kernel
theorem d_R_meanOfRolls_46 : decode b_R_meanOfRolls 46 = .ok (.iload 7, 2) := by decide +kernel
theorem d_R_meanOfRolls_48 : decode b_R_meanOfRolls 48 = .ok (.iload 8, 2) := by decide +kernel
theorem d_R_meanOfRolls_50 : decode b_R_meanOfRolls 50 = .ok (.invokevirtual 37, 3) := by decide +kernel
theorem d_R_meanOfRolls_53 : decode b_R_meanOfRolls 53 = .ok (.lstore 9, 2) := by decide +kernel
theorem d_R_meanOfRolls_55 : decode b_R_meanOfRolls 55 = .ok (.aload_n 0, 1) := by decide +kernel
theorem d_R_meanOfRolls_56 : decode b_R_meanOfRolls 56 = .ok (.iload_n 1, 1) := by decide +kernel
theorem d_R_meanOfRolls_57 : decode b_R_meanOfRolls 57 = .ok (.iload_n 2, 1) := by decide +kernel
theorem d_R_meanOfRolls_58 : decode b_R_meanOfRolls 58 = .ok (.iload_n 3, 1) := by decide +kernel
theorem d_R_meanOfRolls_59 : decode b_R_meanOfRolls 59 = .ok (.iload 4, 2) := by decide +kernel
theorem d_R_meanOfRolls_61 : decode b_R_meanOfRolls 61 = .ok (.iload 8, 2) := by decide +kernel
theorem d_R_meanOfRolls_63 : decode b_R_meanOfRolls 63 = .ok (.iload 7, 2) := by decide +kernel
theorem d_R_meanOfRolls_65 : decode b_R_meanOfRolls 65 = .ok (.invokevirtual 37, 3) := by decide +kernel
theorem d_R_meanOfRolls_68 : decode b_R_meanOfRolls 68 = .ok (.lstore 11, 2) := by decide +kernel
theorem d_R_meanOfRolls_70 : decode b_R_meanOfRolls 70 = .ok (.lload 5, 2) := by decide +kernel
theorem d_R_meanOfRolls_72 : decode b_R_meanOfRolls 72 = .ok (.ldc2_w 40, 3) := by decide +kernel
theorem d_R_meanOfRolls_75 : decode b_R_meanOfRolls 75 = .ok (.lload 9, 2) := by decide +kernel
theorem d_R_meanOfRolls_77 : decode b_R_meanOfRolls 77 = .ok (.lload 11, 2) := by decide +kernel
theorem d_R_meanOfRolls_79 : decode b_R_meanOfRolls 79 = .ok (.invokestatic 42, 3) := by decide +kernel
theorem d_R_meanOfRolls_82 : decode b_R_meanOfRolls 82 = .ok (.lmul, 1) := by decide +kernel
theorem d_R_meanOfRolls_83 : decode b_R_meanOfRolls 83 = .ok (.ladd, 1) := by decide +kernel
theorem d_R_meanOfRolls_84 : decode b_R_meanOfRolls 84 = .ok (.lstore 5, 2) := by decide +kernel
theorem d_R_meanOfRolls_86 : decode b_R_meanOfRolls 86 = .ok (.iinc 8 1, 3) := by decide +kernel
theorem d_R_meanOfRolls_89 : decode b_R_meanOfRolls 89 = .ok (.goto (-56), 3) := by decide +kernel
theorem d_R_meanOfRolls_92 : decode b_R_meanOfRolls 92 = .ok (.iinc 7 1, 3) := by decide +kernel
theorem d_R_meanOfRolls_95 : decode b_R_meanOfRolls 95 = .ok (.goto (-89), 3) := by decide +kernel
theorem d_R_meanOfRolls_98 : decode b_R_meanOfRolls 98 = .ok (.lload 5, 2) := by decide +kernel
theorem d_R_meanOfRolls_100 : decode b_R_meanOfRolls 100 = .ok (.ldc2_w 45, 3) := by decide +kernel
theorem d_R_meanOfRolls_103 : decode b_R_meanOfRolls 103 = .ok (.ldiv, 1) := by decide +kernel
theorem d_R_meanOfRolls_104 : decode b_R_meanOfRolls 104 = .ok (.lreturn, 1) := by decide +kernel
theorem d_R_bestInOrder_0 : decode b_R_bestInOrder 0 = .ok (.iload_n 1, 1) := by decide +kernel
theorem d_R_bestInOrder_1 : decode b_R_bestInOrder 1 = .ok (.iload_n 2, 1) := by decide +kernel
theorem d_R_bestInOrder_2 : decode b_R_bestInOrder 2 = .ok (.invokestatic 25, 3) := by decide +kernel
theorem d_R_bestInOrder_5 : decode b_R_bestInOrder 5 = .ok (.istore 7, 2) := by decide +kernel
theorem d_R_bestInOrder_7 : decode b_R_bestInOrder 7 = .ok (.iload_n 1, 1) := by decide +kernel
theorem d_R_bestInOrder_8 : decode b_R_bestInOrder 8 = .ok (.iload_n 2, 1) := by decide +kernel
theorem d_R_bestInOrder_9 : decode b_R_bestInOrder 9 = .ok (.invokestatic 30, 3) := by decide +kernel
theorem d_R_bestInOrder_12 : decode b_R_bestInOrder 12 = .ok (.istore 8, 2) := by decide +kernel
theorem d_R_bestInOrder_14 : decode b_R_bestInOrder 14 = .ok (.aload_n 0, 1) := by decide +kernel
theorem d_R_bestInOrder_15 : decode b_R_bestInOrder 15 = .ok (.iconst 0, 1) := by decide +kernel
theorem d_R_bestInOrder_16 : decode b_R_bestInOrder 16 = .ok (.iload 7, 2) := by decide +kernel
theorem d_R_bestInOrder_18 : decode b_R_bestInOrder 18 = .ok (.iload 5, 2) := by decide +kernel
theorem d_R_bestInOrder_20 : decode b_R_bestInOrder 20 = .ok (.isub, 1) := by decide +kernel
theorem d_R_bestInOrder_21 : decode b_R_bestInOrder 21 = .ok (.invokestatic 25, 3) := by decide +kernel
theorem d_R_bestInOrder_24 : decode b_R_bestInOrder 24 = .ok (.iload 8, 2) := by decide +kernel
theorem d_R_bestInOrder_26 : decode b_R_bestInOrder 26 = .ok (.iload_n 3, 1) := by decide +kernel
theorem d_R_bestInOrder_27 : decode b_R_bestInOrder 27 = .ok (.iload 4, 2) := by decide +kernel
theorem d_R_bestInOrder_29 : decode b_R_bestInOrder 29 = .ok (.iload 6, 2) := by decide +kernel
theorem d_R_bestInOrder_31 : decode b_R_bestInOrder 31 = .ok (.iconst 1, 1) := by decide +kernel
theorem d_R_bestInOrder_32 : decode b_R_bestInOrder 32 = .ok (.invokevirtual 33, 3) := by decide +kernel
theorem d_R_bestInOrder_35 : decode b_R_bestInOrder 35 = .ok (.lstore 9, 2) := by decide +kernel
theorem d_R_bestInOrder_37 : decode b_R_bestInOrder 37 = .ok (.iload 7, 2) := by decide +kernel
theorem d_R_bestInOrder_39 : decode b_R_bestInOrder 39 = .ok (.iload 8, 2) := by decide +kernel
theorem d_R_bestInOrder_41 : decode b_R_bestInOrder 41 = .ok (.iload 5, 2) := by decide +kernel
theorem d_R_bestInOrder_43 : decode b_R_bestInOrder 43 = .ok (.invokestatic 47, 3) := by decide +kernel
theorem d_R_bestInOrder_46 : decode b_R_bestInOrder 46 = .ok (.ifCond .eq 27, 3) := by decide +kernel
theorem d_R_bestInOrder_49 : decode b_R_bestInOrder 49 = .ok (.lload 9, 2) := by decide +kernel
theorem d_R_bestInOrder_51 : decode b_R_bestInOrder 51 = .ok (.aload_n 0, 1) := by decide +kernel
theorem d_R_bestInOrder_52 : decode b_R_bestInOrder 52 = .ok (.iload 7, 2) := by decide +kernel
theorem d_R_bestInOrder_54 : decode b_R_bestInOrder 54 = .ok (.iload 8, 2) := by decide +kernel
theorem d_R_bestInOrder_56 : decode b_R_bestInOrder 56 = .ok (.iload 5, 2) := by decide +kernel
theorem d_R_bestInOrder_58 : decode b_R_bestInOrder 58 = .ok (.isub, 1) := by decide +kernel
theorem d_R_bestInOrder_59 : decode b_R_bestInOrder 59 = .ok (.iload_n 3, 1) := by decide +kernel
theorem d_R_bestInOrder_60 : decode b_R_bestInOrder 60 = .ok (.iload 4, 2) := by decide +kernel
theorem d_R_bestInOrder_62 : decode b_R_bestInOrder 62 = .ok (.iload 6, 2) := by decide +kernel
theorem d_R_bestInOrder_64 : decode b_R_bestInOrder 64 = .ok (.iconst 1, 1) := by decide +kernel
theorem d_R_bestInOrder_65 : decode b_R_bestInOrder 65 = .ok (.invokevirtual 33, 3) := by decide +kernel
theorem d_R_bestInOrder_68 : decode b_R_bestInOrder 68 = .ok (.invokestatic 42, 3) := by decide +kernel
theorem d_R_bestInOrder_71 : decode b_R_bestInOrder 71 = .ok (.lstore 9, 2) := by decide +kernel
theorem d_R_bestInOrder_73 : decode b_R_bestInOrder 73 = .ok (.lload 9, 2) := by decide +kernel
theorem d_R_bestInOrder_75 : decode b_R_bestInOrder 75 = .ok (.lreturn, 1) := by decide +kernel
theorem d_R_bestWithEqual_0 : decode b_R_bestWithEqual 0 = .ok (.iload_n 1, 1) := by decide +kernel
theorem d_R_bestWithEqual_1 : decode b_R_bestWithEqual 1 = .ok (.iload_n 2, 1) := by decide +kernel
theorem d_R_bestWithEqual_2 : decode b_R_bestWithEqual 2 = .ok (.invokestatic 25, 3) := by decide +kernel
theorem d_R_bestWithEqual_5 : decode b_R_bestWithEqual 5 = .ok (.istore 7, 2) := by decide +kernel
theorem d_R_bestWithEqual_7 : decode b_R_bestWithEqual 7 = .ok (.iload_n 1, 1) := by decide +kernel
theorem d_R_bestWithEqual_8 : decode b_R_bestWithEqual 8 = .ok (.iload_n 2, 1) := by decide +kernel
theorem d_R_bestWithEqual_9 : decode b_R_bestWithEqual 9 = .ok (.invokestatic 30, 3) := by decide +kernel
theorem d_R_bestWithEqual_12 : decode b_R_bestWithEqual 12 = .ok (.istore 8, 2) := by decide +kernel
theorem d_R_bestWithEqual_14 : decode b_R_bestWithEqual 14 = .ok (.iload 6, 2) := by decide +kernel
theorem d_R_bestWithEqual_16 : decode b_R_bestWithEqual 16 = .ok (.ifCond .le 8, 3) := by decide +kernel
theorem d_R_bestWithEqual_19 : decode b_R_bestWithEqual 19 = .ok (.iload 7, 2) := by decide +kernel
theorem d_R_bestWithEqual_21 : decode b_R_bestWithEqual 21 = .ok (.ifCond .ne 19, 3) := by decide +kernel
theorem d_R_bestWithEqual_24 : decode b_R_bestWithEqual 24 = .ok (.ldc2_w 15, 3) := by decide +kernel
theorem d_R_bestWithEqual_27 : decode b_R_bestWithEqual 27 = .ok (.aload_n 0, 1) := by decide +kernel
theorem d_R_bestWithEqual_28 : decode b_R_bestWithEqual 28 = .ok (.iload_n 3, 1) := by decide +kernel
theorem d_R_bestWithEqual_29 : decode b_R_bestWithEqual 29 = .ok (.iload 4, 2) := by decide +kernel
theorem d_R_bestWithEqual_31 : decode b_R_bestWithEqual 31 = .ok (.iload 7, 2) := by decide +kernel
theorem d_R_bestWithEqual_33 : decode b_R_bestWithEqual 33 = .ok (.iload 8, 2) := by decide +kernel
theorem d_R_bestWithEqual_35 : decode b_R_bestWithEqual 35 = .ok (.invokevirtual 51, 3) := by decide +kernel
theorem d_R_bestWithEqual_38 : decode b_R_bestWithEqual 38 = .ok (.lsub, 1) := by decide +kernel
theorem d_R_bestWithEqual_39 : decode b_R_bestWithEqual 39 = .ok (.lreturn, 1) := by decide +kernel
theorem d_R_bestWithEqual_40 : decode b_R_bestWithEqual 40 = .ok (.iconst 0, 1) := by decide +kernel
theorem d_R_bestWithEqual_41 : decode b_R_bestWithEqual 41 = .ok (.iload 7, 2) := by decide +kernel
theorem d_R_bestWithEqual_43 : decode b_R_bestWithEqual 43 = .ok (.iload 5, 2) := by decide +kernel
theorem d_R_bestWithEqual_45 : decode b_R_bestWithEqual 45 = .ok (.isub, 1) := by decide +kernel
theorem d_R_bestWithEqual_46 : decode b_R_bestWithEqual 46 = .ok (.invokestatic 25, 3) := by decide +kernel
theorem d_R_bestWithEqual_49 : decode b_R_bestWithEqual 49 = .ok (.istore 9, 2) := by decide +kernel
theorem d_R_bestWithEqual_51 : decode b_R_bestWithEqual 51 = .ok (.aload_n 0, 1) := by decide +kernel
theorem d_R_bestWithEqual_52 : decode b_R_bestWithEqual 52 = .ok (.iload 9, 2) := by decide +kernel
theorem d_R_bestWithEqual_54 : decode b_R_bestWithEqual 54 = .ok (.iload 8, 2) := by decide +kernel
theorem d_R_bestWithEqual_56 : decode b_R_bestWithEqual 56 = .ok (.iload_n 3, 1) := by decide +kernel
theorem d_R_bestWithEqual_57 : decode b_R_bestWithEqual 57 = .ok (.iload 4, 2) := by decide +kernel
theorem d_R_bestWithEqual_59 : decode b_R_bestWithEqual 59 = .ok (.iload 5, 2) := by decide +kernel
theorem d_R_bestWithEqual_61 : decode b_R_bestWithEqual 61 = .ok (.iload 6, 2) := by decide +kernel
theorem d_R_bestWithEqual_63 : decode b_R_bestWithEqual 63 = .ok (.iconst 1, 1) := by decide +kernel
theorem d_R_bestWithEqual_64 : decode b_R_bestWithEqual 64 = .ok (.isub, 1) := by decide +kernel
theorem d_R_bestWithEqual_65 : decode b_R_bestWithEqual 65 = .ok (.invokevirtual 33, 3) := by decide +kernel
theorem d_R_bestWithEqual_68 : decode b_R_bestWithEqual 68 = .ok (.lstore 10, 2) := by decide +kernel
theorem d_R_bestWithEqual_70 : decode b_R_bestWithEqual 70 = .ok (.iload 7, 2) := by decide +kernel
theorem d_R_bestWithEqual_72 : decode b_R_bestWithEqual 72 = .ok (.iload 8, 2) := by decide +kernel
theorem d_R_bestWithEqual_74 : decode b_R_bestWithEqual 74 = .ok (.iload 5, 2) := by decide +kernel
theorem d_R_bestWithEqual_76 : decode b_R_bestWithEqual 76 = .ok (.invokestatic 47, 3) := by decide +kernel
theorem d_R_bestWithEqual_79 : decode b_R_bestWithEqual 79 = .ok (.ifCond .eq 30, 3) := by decide +kernel
theorem d_R_bestWithEqual_82 : decode b_R_bestWithEqual 82 = .ok (.lload 10, 2) := by decide +kernel
theorem d_R_bestWithEqual_84 : decode b_R_bestWithEqual 84 = .ok (.aload_n 0, 1) := by decide +kernel
theorem d_R_bestWithEqual_85 : decode b_R_bestWithEqual 85 = .ok (.iload 7, 2) := by decide +kernel
theorem d_R_bestWithEqual_87 : decode b_R_bestWithEqual 87 = .ok (.iload 8, 2) := by decide +kernel
theorem d_R_bestWithEqual_89 : decode b_R_bestWithEqual 89 = .ok (.iload 5, 2) := by decide +kernel
theorem d_R_bestWithEqual_91 : decode b_R_bestWithEqual 91 = .ok (.isub, 1) := by decide +kernel
theorem d_R_bestWithEqual_92 : decode b_R_bestWithEqual 92 = .ok (.iload_n 3, 1) := by decide +kernel
theorem d_R_bestWithEqual_93 : decode b_R_bestWithEqual 93 = .ok (.iload 4, 2) := by decide +kernel
theorem d_R_bestWithEqual_95 : decode b_R_bestWithEqual 95 = .ok (.iload 5, 2) := by decide +kernel
theorem d_R_bestWithEqual_97 : decode b_R_bestWithEqual 97 = .ok (.iload 6, 2) := by decide +kernel
theorem d_R_bestWithEqual_99 : decode b_R_bestWithEqual 99 = .ok (.iconst 1, 1) := by decide +kernel
theorem d_R_bestWithEqual_100 : decode b_R_bestWithEqual 100 = .ok (.isub, 1) := by decide +kernel
theorem d_R_bestWithEqual_101 : decode b_R_bestWithEqual 101 = .ok (.invokevirtual 33, 3) := by decide +kernel
theorem d_R_bestWithEqual_104 : decode b_R_bestWithEqual 104 = .ok (.invokestatic 42, 3) := by decide +kernel
theorem d_R_bestWithEqual_107 : decode b_R_bestWithEqual 107 = .ok (.lstore 10, 2) := by decide +kernel
theorem d_R_bestWithEqual_109 : decode b_R_bestWithEqual 109 = .ok (.lload 10, 2) := by decide +kernel
theorem d_R_bestWithEqual_111 : decode b_R_bestWithEqual 111 = .ok (.lreturn, 1) := by decide +kernel
theorem d_R_frontCanMove_0 : decode b_R_frontCanMove 0 = .ok (.iload_n 1, 1) := by decide +kernel
theorem d_R_frontCanMove_1 : decode b_R_frontCanMove 1 = .ok (.iload_n 0, 1) := by decide +kernel
theorem d_R_frontCanMove_2 : decode b_R_frontCanMove 2 = .ok (.if_icmp .ge 12, 3) := by decide +kernel
theorem d_R_frontCanMove_5 : decode b_R_frontCanMove 5 = .ok (.iload_n 1, 1) := by decide +kernel
theorem d_R_frontCanMove_6 : decode b_R_frontCanMove 6 = .ok (.iload_n 2, 1) := by decide +kernel
theorem d_R_frontCanMove_7 : decode b_R_frontCanMove 7 = .ok (.if_icmp .lt 7, 3) := by decide +kernel
theorem d_R_frontCanMove_10 : decode b_R_frontCanMove 10 = .ok (.iconst 1, 1) := by decide +kernel
theorem d_R_frontCanMove_11 : decode b_R_frontCanMove 11 = .ok (.goto 4, 3) := by decide +kernel
theorem d_R_frontCanMove_14 : decode b_R_frontCanMove 14 = .ok (.iconst 0, 1) := by decide +kernel
theorem d_R_frontCanMove_15 : decode b_R_frontCanMove 15 = .ok (.ireturn, 1) := by decide +kernel
