theorem i_70_0 : kI 70 0 = some (.aload_n 0, 1) := by decide +kernel
theorem i_70_1 : kI 70 1 = some (.invokespecial 3, 3) := by decide +kernel
theorem i_70_4 : kI 70 4 = some (.aload_n 0, 1) := by decide +kernel
theorem i_70_5 : kI 70 5 = some (.iload_n 1, 1) := by decide +kernel
theorem i_70_6 : kI 70 6 = some (.putfield 9, 3) := by decide +kernel
theorem i_70_9 : kI 70 9 = some (.aload_n 0, 1) := by decide +kernel
theorem i_70_10 : kI 70 10 = some (.bipush 6, 2) := by decide +kernel
theorem i_70_12 : kI 70 12 = some (.newarray .boolean, 2) := by decide +kernel
theorem i_70_14 : kI 70 14 = some (.putfield 15, 3) := by decide +kernel
theorem i_70_17 : kI 70 17 = some (.aload_n 0, 1) := by decide +kernel
theorem i_70_18 : kI 70 18 = some (.sipush 240, 3) := by decide +kernel
theorem i_70_21 : kI 70 21 = some (.newarray .int, 2) := by decide +kernel
theorem i_70_23 : kI 70 23 = some (.putfield 19, 3) := by decide +kernel
theorem i_70_26 : kI 70 26 = some (.aload_n 0, 1) := by decide +kernel
theorem i_70_27 : kI 70 27 = some (.sipush 240, 3) := by decide +kernel
theorem i_70_30 : kI 70 30 = some (.newarray .int, 2) := by decide +kernel
theorem i_70_32 : kI 70 32 = some (.putfield 23, 3) := by decide +kernel
theorem i_70_35 : kI 70 35 = some (.return_, 1) := by decide +kernel
theorem i_71_0 : kI 71 0 = some (.iload_n 1, 1) := by decide +kernel
theorem i_71_1 : kI 71 1 = some (.ifCond .lt 15, 3) := by decide +kernel
theorem i_71_4 : kI 71 4 = some (.iload_n 1, 1) := by decide +kernel
theorem i_71_5 : kI 71 5 = some (.aload_n 0, 1) := by decide +kernel
theorem i_71_6 : kI 71 6 = some (.getfield 9, 3) := by decide +kernel
theorem i_71_9 : kI 71 9 = some (.if_icmp .ge 7, 3) := by decide +kernel
theorem i_71_12 : kI 71 12 = some (.iconst 1, 1) := by decide +kernel
theorem i_71_13 : kI 71 13 = some (.goto 4, 3) := by decide +kernel
theorem i_71_16 : kI 71 16 = some (.iconst 0, 1) := by decide +kernel
theorem i_71_17 : kI 71 17 = some (.ireturn, 1) := by decide +kernel
theorem i_72_0 : kI 72 0 = some (.iload_n 1, 1) := by decide +kernel
theorem i_72_1 : kI 72 1 = some (.ifCond .lt 15, 3) := by decide +kernel
theorem i_72_4 : kI 72 4 = some (.iload_n 1, 1) := by decide +kernel
theorem i_72_5 : kI 72 5 = some (.aload_n 0, 1) := by decide +kernel
theorem i_72_6 : kI 72 6 = some (.getfield 26, 3) := by decide +kernel
theorem i_72_9 : kI 72 9 = some (.if_icmp .ge 7, 3) := by decide +kernel
theorem i_72_12 : kI 72 12 = some (.iconst 1, 1) := by decide +kernel
theorem i_72_13 : kI 72 13 = some (.goto 4, 3) := by decide +kernel
theorem i_72_16 : kI 72 16 = some (.iconst 0, 1) := by decide +kernel
theorem i_72_17 : kI 72 17 = some (.ireturn, 1) := by decide +kernel
theorem i_73_0 : kI 73 0 = some (.aload_n 0, 1) := by decide +kernel
theorem i_73_1 : kI 73 1 = some (.iload_n 1, 1) := by decide +kernel
theorem i_73_2 : kI 73 2 = some (.invokevirtual 29, 3) := by decide +kernel
theorem i_73_5 : kI 73 5 = some (.ifCond .eq 27, 3) := by decide +kernel
theorem i_73_8 : kI 73 8 = some (.aload_n 0, 1) := by decide +kernel
theorem i_73_9 : kI 73 9 = some (.iload_n 2, 1) := by decide +kernel
theorem i_73_10 : kI 73 10 = some (.invokevirtual 33, 3) := by decide +kernel
theorem i_73_13 : kI 73 13 = some (.ifCond .eq 19, 3) := by decide +kernel
theorem i_73_16 : kI 73 16 = some (.aload_n 0, 1) := by decide +kernel
theorem i_73_17 : kI 73 17 = some (.getfield 19, 3) := by decide +kernel
theorem i_73_20 : kI 73 20 = some (.iload_n 1, 1) := by decide +kernel
theorem i_73_21 : kI 73 21 = some (.aload_n 0, 1) := by decide +kernel
theorem i_73_22 : kI 73 22 = some (.getfield 9, 3) := by decide +kernel
theorem i_73_25 : kI 73 25 = some (.imul, 1) := by decide +kernel
theorem i_73_26 : kI 73 26 = some (.iload_n 2, 1) := by decide +kernel
theorem i_73_27 : kI 73 27 = some (.iadd, 1) := by decide +kernel
theorem i_73_28 : kI 73 28 = some (.iaload, 1) := by decide +kernel
theorem i_73_29 : kI 73 29 = some (.goto 4, 3) := by decide +kernel
theorem i_73_32 : kI 73 32 = some (.iconst 0, 1) := by decide +kernel
theorem i_73_33 : kI 73 33 = some (.ireturn, 1) := by decide +kernel
theorem i_74_0 : kI 74 0 = some (.aload_n 0, 1) := by decide +kernel
theorem i_74_1 : kI 74 1 = some (.iload_n 1, 1) := by decide +kernel
theorem i_74_2 : kI 74 2 = some (.invokevirtual 29, 3) := by decide +kernel
theorem i_74_5 : kI 74 5 = some (.ifCond .eq 31, 3) := by decide +kernel
theorem i_74_8 : kI 74 8 = some (.aload_n 2, 1) := by decide +kernel
theorem i_74_9 : kI 74 9 = some (.arraylength, 1) := by decide +kernel
theorem i_74_10 : kI 74 10 = some (.aload_n 0, 1) := by decide +kernel
theorem i_74_11 : kI 74 11 = some (.getfield 9, 3) := by decide +kernel
theorem i_74_14 : kI 74 14 = some (.if_icmp .lt 22, 3) := by decide +kernel
theorem i_74_17 : kI 74 17 = some (.aload_n 0, 1) := by decide +kernel
theorem i_74_18 : kI 74 18 = some (.getfield 19, 3) := by decide +kernel
theorem i_74_21 : kI 74 21 = some (.iload_n 1, 1) := by decide +kernel
theorem i_74_22 : kI 74 22 = some (.aload_n 0, 1) := by decide +kernel
theorem i_74_23 : kI 74 23 = some (.getfield 9, 3) := by decide +kernel
theorem i_74_26 : kI 74 26 = some (.imul, 1) := by decide +kernel
theorem i_74_27 : kI 74 27 = some (.aload_n 2, 1) := by decide +kernel
theorem i_74_28 : kI 74 28 = some (.iconst 0, 1) := by decide +kernel
theorem i_74_29 : kI 74 29 = some (.aload_n 0, 1) := by decide +kernel
theorem i_74_30 : kI 74 30 = some (.getfield 9, 3) := by decide +kernel
theorem i_74_33 : kI 74 33 = some (.invokestatic 36, 3) := by decide +kernel
theorem i_74_36 : kI 74 36 = some (.return_, 1) := by decide +kernel
theorem i_75_0 : kI 75 0 = some (.aload_n 0, 1) := by decide +kernel
theorem i_75_1 : kI 75 1 = some (.getfield 26, 3) := by decide +kernel
theorem i_75_4 : kI 75 4 = some (.bipush 40, 2) := by decide +kernel
theorem i_75_6 : kI 75 6 = some (.if_icmp .ge 44, 3) := by decide +kernel
theorem i_75_9 : kI 75 9 = some (.aload_n 1, 1) := by decide +kernel
theorem i_75_10 : kI 75 10 = some (.arraylength, 1) := by decide +kernel
theorem i_75_11 : kI 75 11 = some (.aload_n 0, 1) := by decide +kernel
theorem i_75_12 : kI 75 12 = some (.getfield 9, 3) := by decide +kernel
theorem i_75_15 : kI 75 15 = some (.if_icmp .lt 35, 3) := by decide +kernel
theorem i_75_18 : kI 75 18 = some (.aload_n 1, 1) := by decide +kernel
theorem i_75_19 : kI 75 19 = some (.iconst 0, 1) := by decide +kernel
theorem i_75_20 : kI 75 20 = some (.aload_n 0, 1) := by decide +kernel
theorem i_75_21 : kI 75 21 = some (.getfield 19, 3) := by decide +kernel
theorem i_75_24 : kI 75 24 = some (.aload_n 0, 1) := by decide +kernel
theorem i_75_25 : kI 75 25 = some (.getfield 26, 3) := by decide +kernel
theorem i_75_28 : kI 75 28 = some (.aload_n 0, 1) := by decide +kernel
theorem i_75_29 : kI 75 29 = some (.getfield 9, 3) := by decide +kernel
theorem i_75_32 : kI 75 32 = some (.imul, 1) := by decide +kernel
theorem i_75_33 : kI 75 33 = some (.aload_n 0, 1) := by decide +kernel
theorem i_75_34 : kI 75 34 = some (.getfield 9, 3) := by decide +kernel
theorem i_75_37 : kI 75 37 = some (.invokestatic 36, 3) := by decide +kernel
theorem i_75_40 : kI 75 40 = some (.aload_n 0, 1) := by decide +kernel
theorem i_75_41 : kI 75 41 = some (.dup, 1) := by decide +kernel
theorem i_75_42 : kI 75 42 = some (.getfield 26, 3) := by decide +kernel
theorem i_75_45 : kI 75 45 = some (.iconst 1, 1) := by decide +kernel
theorem i_75_46 : kI 75 46 = some (.iadd, 1) := by decide +kernel
theorem i_75_47 : kI 75 47 = some (.putfield 26, 3) := by decide +kernel
theorem i_75_50 : kI 75 50 = some (.return_, 1) := by decide +kernel
theorem i_76_0 : kI 76 0 = some (.iconst 0, 1) := by decide +kernel
theorem i_76_1 : kI 76 1 = some (.istore_n 3, 1) := by decide +kernel
theorem i_76_2 : kI 76 2 = some (.iconst 0, 1) := by decide +kernel
theorem i_76_3 : kI 76 3 = some (.istore 4, 2) := by decide +kernel
theorem i_76_5 : kI 76 5 = some (.iload 4, 2) := by decide +kernel
theorem i_76_7 : kI 76 7 = some (.aload_n 0, 1) := by decide +kernel
theorem i_76_8 : kI 76 8 = some (.getfield 26, 3) := by decide +kernel
theorem i_76_11 : kI 76 11 = some (.if_icmp .ge 23, 3) := by decide +kernel
theorem i_76_14 : kI 76 14 = some (.aload_n 0, 1) := by decide +kernel
theorem i_76_15 : kI 76 15 = some (.iload 4, 2) := by decide +kernel
theorem i_76_17 : kI 76 17 = some (.iload_n 1, 1) := by decide +kernel
theorem i_76_18 : kI 76 18 = some (.invokevirtual 42, 3) := by decide +kernel
theorem i_76_21 : kI 76 21 = some (.iload_n 2, 1) := by decide +kernel
theorem i_76_22 : kI 76 22 = some (.if_icmp .ne 6, 3) := by decide +kernel
theorem i_76_25 : kI 76 25 = some (.iinc 3 1, 3) := by decide +kernel
theorem i_76_28 : kI 76 28 = some (.iinc 4 1, 3) := by decide +kernel
theorem i_76_31 : kI 76 31 = some (.goto (-26), 3) := by decide +kernel
theorem i_76_34 : kI 76 34 = some (.iload_n 3, 1) := by decide +kernel
theorem i_76_35 : kI 76 35 = some (.ireturn, 1) := by decide +kernel
theorem i_77_0 : kI 77 0 = some (.iload_n 1, 1) := by decide +kernel
theorem i_77_1 : kI 77 1 = some (.istore 4, 2) := by decide +kernel
theorem i_77_3 : kI 77 3 = some (.iload 4, 2) := by decide +kernel
theorem i_77_5 : kI 77 5 = some (.aload_n 0, 1) := by decide +kernel
theorem i_77_6 : kI 77 6 = some (.getfield 26, 3) := by decide +kernel
theorem i_77_9 : kI 77 9 = some (.if_icmp .ge 23, 3) := by decide +kernel
theorem i_77_12 : kI 77 12 = some (.aload_n 0, 1) := by decide +kernel
theorem i_77_13 : kI 77 13 = some (.iload 4, 2) := by decide +kernel
theorem i_77_15 : kI 77 15 = some (.iload_n 2, 1) := by decide +kernel
theorem i_77_16 : kI 77 16 = some (.invokevirtual 42, 3) := by decide +kernel
theorem i_77_19 : kI 77 19 = some (.iload_n 3, 1) := by decide +kernel
theorem i_77_20 : kI 77 20 = some (.if_icmp .ne 6, 3) := by decide +kernel
theorem i_77_23 : kI 77 23 = some (.iload 4, 2) := by decide +kernel
theorem i_77_25 : kI 77 25 = some (.ireturn, 1) := by decide +kernel
theorem i_77_26 : kI 77 26 = some (.iinc 4 1, 3) := by decide +kernel
theorem i_77_29 : kI 77 29 = some (.goto (-26), 3) := by decide +kernel
theorem i_77_32 : kI 77 32 = some (.aload_n 0, 1) := by decide +kernel
theorem i_77_33 : kI 77 33 = some (.getfield 26, 3) := by decide +kernel
theorem i_77_36 : kI 77 36 = some (.ireturn, 1) := by decide +kernel
theorem i_78_0 : kI 78 0 = some (.iconst 0, 1) := by decide +kernel
theorem i_78_1 : kI 78 1 = some (.istore_n 3, 1) := by decide +kernel
theorem i_78_2 : kI 78 2 = some (.iconst 0, 1) := by decide +kernel
theorem i_78_3 : kI 78 3 = some (.istore 4, 2) := by decide +kernel
theorem i_78_5 : kI 78 5 = some (.iload 4, 2) := by decide +kernel
theorem i_78_7 : kI 78 7 = some (.aload_n 0, 1) := by decide +kernel
theorem i_78_8 : kI 78 8 = some (.getfield 26, 3) := by decide +kernel
theorem i_78_11 : kI 78 11 = some (.if_icmp .ge 51, 3) := by decide +kernel
theorem i_78_14 : kI 78 14 = some (.aload_n 0, 1) := by decide +kernel
theorem i_78_15 : kI 78 15 = some (.iload 4, 2) := by decide +kernel
theorem i_78_17 : kI 78 17 = some (.iload_n 1, 1) := by decide +kernel
theorem i_78_18 : kI 78 18 = some (.invokevirtual 42, 3) := by decide +kernel
theorem i_78_21 : kI 78 21 = some (.iload_n 2, 1) := by decide +kernel
theorem i_78_22 : kI 78 22 = some (.if_icmp .eq 34, 3) := by decide +kernel
theorem i_78_25 : kI 78 25 = some (.aload_n 0, 1) := by decide +kernel
theorem i_78_26 : kI 78 26 = some (.getfield 19, 3) := by decide +kernel
theorem i_78_29 : kI 78 29 = some (.iload 4, 2) := by decide +kernel
theorem i_78_31 : kI 78 31 = some (.aload_n 0, 1) := by decide +kernel
theorem i_78_32 : kI 78 32 = some (.getfield 9, 3) := by decide +kernel
theorem i_78_35 : kI 78 35 = some (.imul, 1) := by decide +kernel
theorem i_78_36 : kI 78 36 = some (.aload_n 0, 1) := by decide +kernel
theorem i_78_37 : kI 78 37 = some (.getfield 19, 3) := by decide +kernel
theorem i_78_40 : kI 78 40 = some (.iload_n 3, 1) := by decide +kernel
theorem i_78_41 : kI 78 41 = some (.aload_n 0, 1) := by decide +kernel
theorem i_78_42 : kI 78 42 = some (.getfield 9, 3) := by decide +kernel
theorem i_78_45 : kI 78 45 = some (.imul, 1) := by decide +kernel
theorem i_78_46 : kI 78 46 = some (.aload_n 0, 1) := by decide +kernel
theorem i_78_47 : kI 78 47 = some (.getfield 9, 3) := by decide +kernel
theorem i_78_50 : kI 78 50 = some (.invokestatic 36, 3) := by decide +kernel
theorem i_78_53 : kI 78 53 = some (.iinc 3 1, 3) := by decide +kernel
theorem i_78_56 : kI 78 56 = some (.iinc 4 1, 3) := by decide +kernel
theorem i_78_59 : kI 78 59 = some (.goto (-54), 3) := by decide +kernel
theorem i_78_62 : kI 78 62 = some (.aload_n 0, 1) := by decide +kernel
theorem i_78_63 : kI 78 63 = some (.iload_n 3, 1) := by decide +kernel
theorem i_78_64 : kI 78 64 = some (.putfield 26, 3) := by decide +kernel
theorem i_78_67 : kI 78 67 = some (.return_, 1) := by decide +kernel
theorem i_79_0 : kI 79 0 = some (.iconst 0, 1) := by decide +kernel
theorem i_79_1 : kI 79 1 = some (.istore 5, 2) := by decide +kernel
theorem i_79_3 : kI 79 3 = some (.iload 5, 2) := by decide +kernel
theorem i_79_5 : kI 79 5 = some (.aload_n 0, 1) := by decide +kernel
theorem i_79_6 : kI 79 6 = some (.getfield 26, 3) := by decide +kernel
theorem i_79_9 : kI 79 9 = some (.if_icmp .ge 44, 3) := by decide +kernel
theorem i_79_12 : kI 79 12 = some (.aload_n 0, 1) := by decide +kernel
theorem i_79_13 : kI 79 13 = some (.iload 5, 2) := by decide +kernel
theorem i_79_15 : kI 79 15 = some (.iload_n 1, 1) := by decide +kernel
theorem i_79_16 : kI 79 16 = some (.invokevirtual 42, 3) := by decide +kernel
theorem i_79_19 : kI 79 19 = some (.iload_n 2, 1) := by decide +kernel
theorem i_79_20 : kI 79 20 = some (.if_icmp .ne 27, 3) := by decide +kernel
theorem i_79_23 : kI 79 23 = some (.aload_n 0, 1) := by decide +kernel
theorem i_79_24 : kI 79 24 = some (.iload_n 3, 1) := by decide +kernel
theorem i_79_25 : kI 79 25 = some (.invokevirtual 33, 3) := by decide +kernel
theorem i_79_28 : kI 79 28 = some (.ifCond .eq 19, 3) := by decide +kernel
theorem i_79_31 : kI 79 31 = some (.aload_n 0, 1) := by decide +kernel
theorem i_79_32 : kI 79 32 = some (.getfield 19, 3) := by decide +kernel
theorem i_79_35 : kI 79 35 = some (.iload 5, 2) := by decide +kernel
theorem i_79_37 : kI 79 37 = some (.aload_n 0, 1) := by decide +kernel
theorem i_79_38 : kI 79 38 = some (.getfield 9, 3) := by decide +kernel
theorem i_79_41 : kI 79 41 = some (.imul, 1) := by decide +kernel
theorem i_79_42 : kI 79 42 = some (.iload_n 3, 1) := by decide +kernel
theorem i_79_43 : kI 79 43 = some (.iadd, 1) := by decide +kernel
theorem i_79_44 : kI 79 44 = some (.iload 4, 2) := by decide +kernel
theorem i_79_46 : kI 79 46 = some (.iastore, 1) := by decide +kernel
theorem i_79_47 : kI 79 47 = some (.iinc 5 1, 3) := by decide +kernel
theorem i_79_50 : kI 79 50 = some (.goto (-47), 3) := by decide +kernel
theorem i_79_53 : kI 79 53 = some (.return_, 1) := by decide +kernel
theorem i_80_0 : kI 80 0 = some (.aload_n 0, 1) := by decide +kernel
theorem i_80_1 : kI 80 1 = some (.getfield 19, 3) := by decide +kernel
theorem i_80_4 : kI 80 4 = some (.iconst 0, 1) := by decide +kernel
theorem i_80_5 : kI 80 5 = some (.aload_n 0, 1) := by decide +kernel
theorem i_80_6 : kI 80 6 = some (.getfield 23, 3) := by decide +kernel
theorem i_80_9 : kI 80 9 = some (.iconst 0, 1) := by decide +kernel
theorem i_80_10 : kI 80 10 = some (.aload_n 0, 1) := by decide +kernel
theorem i_80_11 : kI 80 11 = some (.getfield 26, 3) := by decide +kernel
theorem i_80_14 : kI 80 14 = some (.aload_n 0, 1) := by decide +kernel
theorem i_80_15 : kI 80 15 = some (.getfield 9, 3) := by decide +kernel
theorem i_80_18 : kI 80 18 = some (.imul, 1) := by decide +kernel
theorem i_80_19 : kI 80 19 = some (.invokestatic 36, 3) := by decide +kernel
theorem i_80_22 : kI 80 22 = some (.aload_n 0, 1) := by decide +kernel
theorem i_80_23 : kI 80 23 = some (.aload_n 0, 1) := by decide +kernel
theorem i_80_24 : kI 80 24 = some (.getfield 26, 3) := by decide +kernel
theorem i_80_27 : kI 80 27 = some (.putfield 46, 3) := by decide +kernel
theorem i_80_30 : kI 80 30 = some (.return_, 1) := by decide +kernel
theorem i_81_0 : kI 81 0 = some (.aload_n 0, 1) := by decide +kernel
theorem i_81_1 : kI 81 1 = some (.getfield 23, 3) := by decide +kernel
theorem i_81_4 : kI 81 4 = some (.iconst 0, 1) := by decide +kernel
theorem i_81_5 : kI 81 5 = some (.aload_n 0, 1) := by decide +kernel
theorem i_81_6 : kI 81 6 = some (.getfield 19, 3) := by decide +kernel
theorem i_81_9 : kI 81 9 = some (.iconst 0, 1) := by decide +kernel
theorem i_81_10 : kI 81 10 = some (.aload_n 0, 1) := by decide +kernel
theorem i_81_11 : kI 81 11 = some (.getfield 46, 3) := by decide +kernel
theorem i_81_14 : kI 81 14 = some (.aload_n 0, 1) := by decide +kernel
theorem i_81_15 : kI 81 15 = some (.getfield 9, 3) := by decide +kernel
theorem i_81_18 : kI 81 18 = some (.imul, 1) := by decide +kernel
theorem i_81_19 : kI 81 19 = some (.invokestatic 36, 3) := by decide +kernel
theorem i_81_22 : kI 81 22 = some (.aload_n 0, 1) := by decide +kernel
theorem i_81_23 : kI 81 23 = some (.aload_n 0, 1) := by decide +kernel
theorem i_81_24 : kI 81 24 = some (.getfield 46, 3) := by decide +kernel
theorem i_81_27 : kI 81 27 = some (.putfield 26, 3) := by decide +kernel
theorem i_81_30 : kI 81 30 = some (.return_, 1) := by decide +kernel
theorem i_82_0 : kI 82 0 = some (.aload_n 0, 1) := by decide +kernel
theorem i_82_1 : kI 82 1 = some (.invokespecial 3, 3) := by decide +kernel
theorem i_82_4 : kI 82 4 = some (.aload_n 0, 1) := by decide +kernel
theorem i_82_5 : kI 82 5 = some (.bipush 6, 2) := by decide +kernel
theorem i_82_7 : kI 82 7 = some (.anewarray 9, 3) := by decide +kernel
theorem i_82_10 : kI 82 10 = some (.putfield 11, 3) := by decide +kernel
theorem i_82_13 : kI 82 13 = some (.return_, 1) := by decide +kernel
theorem i_83_0 : kI 83 0 = some (.iload_n 1, 1) := by decide +kernel
theorem i_83_1 : kI 83 1 = some (.ifCond .lt 20, 3) := by decide +kernel
theorem i_83_4 : kI 83 4 = some (.iload_n 1, 1) := by decide +kernel
theorem i_83_5 : kI 83 5 = some (.aload_n 0, 1) := by decide +kernel
theorem i_83_6 : kI 83 6 = some (.getfield 17, 3) := by decide +kernel
theorem i_83_9 : kI 83 9 = some (.if_icmp .ge 12, 3) := by decide +kernel
theorem i_83_12 : kI 83 12 = some (.aload_n 0, 1) := by decide +kernel
theorem i_83_13 : kI 83 13 = some (.getfield 11, 3) := by decide +kernel
theorem i_83_16 : kI 83 16 = some (.iload_n 1, 1) := by decide +kernel
theorem i_83_17 : kI 83 17 = some (.aaload, 1) := by decide +kernel
theorem i_83_18 : kI 83 18 = some (.goto 4, 3) := by decide +kernel
theorem i_83_21 : kI 83 21 = some (.aconst_null, 1) := by decide +kernel
theorem i_83_22 : kI 83 22 = some (.areturn, 1) := by decide +kernel
theorem i_84_0 : kI 84 0 = some (.aload_n 0, 1) := by decide +kernel
theorem i_84_1 : kI 84 1 = some (.getfield 17, 3) := by decide +kernel
theorem i_84_4 : kI 84 4 = some (.istore_n 2, 1) := by decide +kernel
theorem i_84_5 : kI 84 5 = some (.iload_n 2, 1) := by decide +kernel
theorem i_84_6 : kI 84 6 = some (.bipush 6, 2) := by decide +kernel
theorem i_84_8 : kI 84 8 = some (.if_icmp .ge 27, 3) := by decide +kernel
theorem i_84_11 : kI 84 11 = some (.aload_n 0, 1) := by decide +kernel
theorem i_84_12 : kI 84 12 = some (.getfield 11, 3) := by decide +kernel
theorem i_84_15 : kI 84 15 = some (.iload_n 2, 1) := by decide +kernel
theorem i_84_16 : kI 84 16 = some (.new 9, 3) := by decide +kernel
theorem i_84_19 : kI 84 19 = some (.dup, 1) := by decide +kernel
theorem i_84_20 : kI 84 20 = some (.iload_n 1, 1) := by decide +kernel
theorem i_84_21 : kI 84 21 = some (.invokespecial 21, 3) := by decide +kernel
theorem i_84_24 : kI 84 24 = some (.aastore, 1) := by decide +kernel
theorem i_84_25 : kI 84 25 = some (.aload_n 0, 1) := by decide +kernel
theorem i_84_26 : kI 84 26 = some (.dup, 1) := by decide +kernel
theorem i_84_27 : kI 84 27 = some (.getfield 17, 3) := by decide +kernel
theorem i_84_30 : kI 84 30 = some (.iconst 1, 1) := by decide +kernel
theorem i_84_31 : kI 84 31 = some (.iadd, 1) := by decide +kernel
theorem i_84_32 : kI 84 32 = some (.putfield 17, 3) := by decide +kernel
theorem i_84_35 : kI 84 35 = some (.iload_n 2, 1) := by decide +kernel
theorem i_84_36 : kI 84 36 = some (.ireturn, 1) := by decide +kernel
theorem i_85_0 : kI 85 0 = some (.aload_n 0, 1) := by decide +kernel
theorem i_85_1 : kI 85 1 = some (.getfield 24, 3) := by decide +kernel
theorem i_85_4 : kI 85 4 = some (.ifCond .eq 14, 3) := by decide +kernel
theorem i_85_7 : kI 85 7 = some (.aload_n 0, 1) := by decide +kernel
theorem i_85_8 : kI 85 8 = some (.getfield 28, 3) := by decide +kernel
theorem i_85_11 : kI 85 11 = some (.iload_n 1, 1) := by decide +kernel
theorem i_85_12 : kI 85 12 = some (.iadd, 1) := by decide +kernel
theorem i_85_13 : kI 85 13 = some (.bipush 120, 2) := by decide +kernel
theorem i_85_15 : kI 85 15 = some (.if_icmp .gt 7, 3) := by decide +kernel
theorem i_85_18 : kI 85 18 = some (.iconst 1, 1) := by decide +kernel
theorem i_85_19 : kI 85 19 = some (.goto 4, 3) := by decide +kernel
theorem i_85_22 : kI 85 22 = some (.iconst 0, 1) := by decide +kernel
theorem i_85_23 : kI 85 23 = some (.ireturn, 1) := by decide +kernel
theorem i_86_0 : kI 86 0 = some (.aload_n 0, 1) := by decide +kernel
theorem i_86_1 : kI 86 1 = some (.getfield 24, 3) := by decide +kernel
theorem i_86_4 : kI 86 4 = some (.ifCond .eq 13, 3) := by decide +kernel
theorem i_86_7 : kI 86 7 = some (.aload_n 0, 1) := by decide +kernel
theorem i_86_8 : kI 86 8 = some (.dup, 1) := by decide +kernel
theorem i_86_9 : kI 86 9 = some (.getfield 28, 3) := by decide +kernel
theorem i_86_12 : kI 86 12 = some (.iload_n 1, 1) := by decide +kernel
theorem i_86_13 : kI 86 13 = some (.iadd, 1) := by decide +kernel
theorem i_86_14 : kI 86 14 = some (.putfield 28, 3) := by decide +kernel
theorem i_86_17 : kI 86 17 = some (.return_, 1) := by decide +kernel
theorem i_87_0 : kI 87 0 = some (.aload_n 0, 1) := by decide +kernel
theorem i_87_1 : kI 87 1 = some (.iconst 1, 1) := by decide +kernel
theorem i_87_2 : kI 87 2 = some (.putfield 24, 3) := by decide +kernel
theorem i_87_5 : kI 87 5 = some (.aload_n 0, 1) := by decide +kernel
theorem i_87_6 : kI 87 6 = some (.iconst 0, 1) := by decide +kernel
theorem i_87_7 : kI 87 7 = some (.putfield 28, 3) := by decide +kernel
theorem i_87_10 : kI 87 10 = some (.iconst 0, 1) := by decide +kernel
theorem i_87_11 : kI 87 11 = some (.istore_n 1, 1) := by decide +kernel
theorem i_87_12 : kI 87 12 = some (.iload_n 1, 1) := by decide +kernel
theorem i_87_13 : kI 87 13 = some (.bipush 6, 2) := by decide +kernel
theorem i_87_15 : kI 87 15 = some (.if_icmp .ge 23, 3) := by decide +kernel
theorem i_87_18 : kI 87 18 = some (.aload_n 0, 1) := by decide +kernel
theorem i_87_19 : kI 87 19 = some (.iload_n 1, 1) := by decide +kernel
theorem i_87_20 : kI 87 20 = some (.invokevirtual 31, 3) := by decide +kernel
theorem i_87_23 : kI 87 23 = some (.astore_n 2, 1) := by decide +kernel
theorem i_87_24 : kI 87 24 = some (.aload_n 2, 1) := by decide +kernel
theorem i_87_25 : kI 87 25 = some (.ifnull 7, 3) := by decide +kernel
theorem i_87_28 : kI 87 28 = some (.aload_n 2, 1) := by decide +kernel
theorem i_87_29 : kI 87 29 = some (.invokevirtual 35, 3) := by decide +kernel
theorem i_87_32 : kI 87 32 = some (.iinc 1 1, 3) := by decide +kernel
theorem i_87_35 : kI 87 35 = some (.goto (-23), 3) := by decide +kernel
theorem i_87_38 : kI 87 38 = some (.return_, 1) := by decide +kernel
theorem i_88_0 : kI 88 0 = some (.aload_n 0, 1) := by decide +kernel
theorem i_88_1 : kI 88 1 = some (.iconst 0, 1) := by decide +kernel
theorem i_88_2 : kI 88 2 = some (.putfield 24, 3) := by decide +kernel
theorem i_88_5 : kI 88 5 = some (.aload_n 0, 1) := by decide +kernel
theorem i_88_6 : kI 88 6 = some (.getfield 28, 3) := by decide +kernel
theorem i_88_9 : kI 88 9 = some (.ireturn, 1) := by decide +kernel
theorem i_89_0 : kI 89 0 = some (.iconst 0, 1) := by decide +kernel
theorem i_89_1 : kI 89 1 = some (.istore_n 1, 1) := by decide +kernel
theorem i_89_2 : kI 89 2 = some (.iload_n 1, 1) := by decide +kernel
theorem i_89_3 : kI 89 3 = some (.bipush 6, 2) := by decide +kernel
theorem i_89_5 : kI 89 5 = some (.if_icmp .ge 23, 3) := by decide +kernel
theorem i_89_8 : kI 89 8 = some (.aload_n 0, 1) := by decide +kernel
theorem i_89_9 : kI 89 9 = some (.iload_n 1, 1) := by decide +kernel
theorem i_89_10 : kI 89 10 = some (.invokevirtual 31, 3) := by decide +kernel
theorem i_89_13 : kI 89 13 = some (.astore_n 2, 1) := by decide +kernel
theorem i_89_14 : kI 89 14 = some (.aload_n 2, 1) := by decide +kernel
theorem i_89_15 : kI 89 15 = some (.ifnull 7, 3) := by decide +kernel
theorem i_89_18 : kI 89 18 = some (.aload_n 2, 1) := by decide +kernel
theorem i_89_19 : kI 89 19 = some (.invokevirtual 38, 3) := by decide +kernel
theorem i_89_22 : kI 89 22 = some (.iinc 1 1, 3) := by decide +kernel
theorem i_89_25 : kI 89 25 = some (.goto (-23), 3) := by decide +kernel
theorem i_89_28 : kI 89 28 = some (.return_, 1) := by decide +kernel
theorem i_90_0 : kI 90 0 = some (.aload_n 0, 1) := by decide +kernel
theorem i_90_1 : kI 90 1 = some (.invokespecial 3, 3) := by decide +kernel
theorem i_90_4 : kI 90 4 = some (.aload_n 0, 1) := by decide +kernel
theorem i_90_5 : kI 90 5 = some (.bipush 8, 2) := by decide +kernel
theorem i_90_7 : kI 90 7 = some (.newarray .int, 2) := by decide +kernel
theorem i_90_9 : kI 90 9 = some (.putfield 9, 3) := by decide +kernel
theorem i_90_12 : kI 90 12 = some (.aload_n 0, 1) := by decide +kernel
theorem i_90_13 : kI 90 13 = some (.bipush 12, 2) := by decide +kernel
theorem i_90_15 : kI 90 15 = some (.newarray .int, 2) := by decide +kernel
theorem i_90_17 : kI 90 17 = some (.putfield 15, 3) := by decide +kernel
theorem i_90_20 : kI 90 20 = some (.aload_n 0, 1) := by decide +kernel
theorem i_90_21 : kI 90 21 = some (.new 18, 3) := by decide +kernel
theorem i_90_24 : kI 90 24 = some (.dup, 1) := by decide +kernel
theorem i_90_25 : kI 90 25 = some (.invokespecial 20, 3) := by decide +kernel
theorem i_90_28 : kI 90 28 = some (.putfield 21, 3) := by decide +kernel
theorem i_90_31 : kI 90 31 = some (.return_, 1) := by decide +kernel
theorem i_91_0 : kI 91 0 = some (.aload_n 0, 1) := by decide +kernel
theorem i_91_1 : kI 91 1 = some (.iload_n 1, 1) := by decide +kernel
theorem i_91_2 : kI 91 2 = some (.putfield 25, 3) := by decide +kernel
theorem i_91_5 : kI 91 5 = some (.aload_n 0, 1) := by decide +kernel
theorem i_91_6 : kI 91 6 = some (.iconst 0, 1) := by decide +kernel
theorem i_91_7 : kI 91 7 = some (.putfield 29, 3) := by decide +kernel
theorem i_91_10 : kI 91 10 = some (.aload_n 0, 1) := by decide +kernel
theorem i_91_11 : kI 91 11 = some (.iconst 0, 1) := by decide +kernel
theorem i_91_12 : kI 91 12 = some (.putfield 32, 3) := by decide +kernel
theorem i_91_15 : kI 91 15 = some (.aload_n 0, 1) := by decide +kernel
theorem i_91_16 : kI 91 16 = some (.iconst 0, 1) := by decide +kernel
theorem i_91_17 : kI 91 17 = some (.putfield 35, 3) := by decide +kernel
theorem i_91_20 : kI 91 20 = some (.aload_n 0, 1) := by decide +kernel
theorem i_91_21 : kI 91 21 = some (.iconst 0, 1) := by decide +kernel
theorem i_91_22 : kI 91 22 = some (.putfield 38, 3) := by decide +kernel
theorem i_91_25 : kI 91 25 = some (.aload_n 0, 1) := by decide +kernel
theorem i_91_26 : kI 91 26 = some (.aconst_null, 1) := by decide +kernel
theorem i_91_27 : kI 91 27 = some (.putfield 41, 3) := by decide +kernel
theorem i_91_30 : kI 91 30 = some (.aload_n 0, 1) := by decide +kernel
theorem i_91_31 : kI 91 31 = some (.aconst_null, 1) := by decide +kernel
theorem i_91_32 : kI 91 32 = some (.putfield 45, 3) := by decide +kernel
theorem i_91_35 : kI 91 35 = some (.aload_n 0, 1) := by decide +kernel
theorem i_91_36 : kI 91 36 = some (.aconst_null, 1) := by decide +kernel
theorem i_91_37 : kI 91 37 = some (.putfield 49, 3) := by decide +kernel
theorem i_91_40 : kI 91 40 = some (.aload_n 0, 1) := by decide +kernel
theorem i_91_41 : kI 91 41 = some (.iconst 0, 1) := by decide +kernel
theorem i_91_42 : kI 91 42 = some (.putfield 52, 3) := by decide +kernel
theorem i_91_45 : kI 91 45 = some (.return_, 1) := by decide +kernel
theorem i_92_0 : kI 92 0 = some (.aload_n 0, 1) := by decide +kernel
theorem i_92_1 : kI 92 1 = some (.iconst 0, 1) := by decide +kernel
theorem i_92_2 : kI 92 2 = some (.putfield 55, 3) := by decide +kernel
theorem i_92_5 : kI 92 5 = some (.aload_n 0, 1) := by decide +kernel
theorem i_92_6 : kI 92 6 = some (.iconst 0, 1) := by decide +kernel
theorem i_92_7 : kI 92 7 = some (.putfield 58, 3) := by decide +kernel
theorem i_92_10 : kI 92 10 = some (.aload_n 0, 1) := by decide +kernel
theorem i_92_11 : kI 92 11 = some (.iconst 0, 1) := by decide +kernel
theorem i_92_12 : kI 92 12 = some (.putfield 62, 3) := by decide +kernel
theorem i_92_15 : kI 92 15 = some (.aload_n 0, 1) := by decide +kernel
theorem i_92_16 : kI 92 16 = some (.iconst 0, 1) := by decide +kernel
theorem i_92_17 : kI 92 17 = some (.putfield 65, 3) := by decide +kernel
theorem i_92_20 : kI 92 20 = some (.aload_n 0, 1) := by decide +kernel
theorem i_92_21 : kI 92 21 = some (.getfield 21, 3) := by decide +kernel
theorem i_92_24 : kI 92 24 = some (.aload_n 0, 1) := by decide +kernel
theorem i_92_25 : kI 92 25 = some (.getfield 52, 3) := by decide +kernel
theorem i_92_28 : kI 92 28 = some (.invokevirtual 68, 3) := by decide +kernel
theorem i_92_31 : kI 92 31 = some (.return_, 1) := by decide +kernel
