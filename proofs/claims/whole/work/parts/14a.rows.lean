theorem i_0_0 : kI 0 0 = some (.aload_n 0, 1) := by decide +kernel
theorem i_0_1 : kI 0 1 = some (.invokespecial 1, 3) := by decide +kernel
theorem i_0_4 : kI 0 4 = some (.aload_n 0, 1) := by decide +kernel
theorem i_0_5 : kI 0 5 = some (.new 7, 3) := by decide +kernel
theorem i_0_8 : kI 0 8 = some (.dup, 1) := by decide +kernel
theorem i_0_9 : kI 0 9 = some (.invokespecial 9, 3) := by decide +kernel
theorem i_0_12 : kI 0 12 = some (.putfield 10, 3) := by decide +kernel
theorem i_0_15 : kI 0 15 = some (.aload_n 0, 1) := by decide +kernel
theorem i_0_16 : kI 0 16 = some (.bipush 6, 2) := by decide +kernel
theorem i_0_18 : kI 0 18 = some (.newarray .int, 2) := by decide +kernel
theorem i_0_20 : kI 0 20 = some (.putfield 16, 3) := by decide +kernel
theorem i_0_23 : kI 0 23 = some (.aload_n 0, 1) := by decide +kernel
theorem i_0_24 : kI 0 24 = some (.new 20, 3) := by decide +kernel
theorem i_0_27 : kI 0 27 = some (.dup, 1) := by decide +kernel
theorem i_0_28 : kI 0 28 = some (.invokespecial 22, 3) := by decide +kernel
theorem i_0_31 : kI 0 31 = some (.putfield 23, 3) := by decide +kernel
theorem i_0_34 : kI 0 34 = some (.aload_n 0, 1) := by decide +kernel
theorem i_0_35 : kI 0 35 = some (.new 27, 3) := by decide +kernel
theorem i_0_38 : kI 0 38 = some (.dup, 1) := by decide +kernel
theorem i_0_39 : kI 0 39 = some (.invokespecial 29, 3) := by decide +kernel
theorem i_0_42 : kI 0 42 = some (.putfield 30, 3) := by decide +kernel
theorem i_0_45 : kI 0 45 = some (.aload_n 0, 1) := by decide +kernel
theorem i_0_46 : kI 0 46 = some (.bipush 12, 2) := by decide +kernel
theorem i_0_48 : kI 0 48 = some (.newarray .int, 2) := by decide +kernel
theorem i_0_50 : kI 0 50 = some (.putfield 34, 3) := by decide +kernel
theorem i_0_53 : kI 0 53 = some (.aload_n 0, 1) := by decide +kernel
theorem i_0_54 : kI 0 54 = some (.iconst 0, 1) := by decide +kernel
theorem i_0_55 : kI 0 55 = some (.putfield 37, 3) := by decide +kernel
theorem i_0_58 : kI 0 58 = some (.aload_n 0, 1) := by decide +kernel
theorem i_0_59 : kI 0 59 = some (.aconst_null, 1) := by decide +kernel
theorem i_0_60 : kI 0 60 = some (.putfield 41, 3) := by decide +kernel
theorem i_0_63 : kI 0 63 = some (.return_, 1) := by decide +kernel
theorem i_1_0 : kI 1 0 = some (.iload_n 1, 1) := by decide +kernel
theorem i_1_1 : kI 1 1 = some (.iconst 1, 1) := by decide +kernel
theorem i_1_2 : kI 1 2 = some (.if_icmp .lt 9, 3) := by decide +kernel
theorem i_1_5 : kI 1 5 = some (.iload_n 1, 1) := by decide +kernel
theorem i_1_6 : kI 1 6 = some (.bipush 6, 2) := by decide +kernel
theorem i_1_8 : kI 1 8 = some (.if_icmp .le 13, 3) := by decide +kernel
theorem i_1_11 : kI 1 11 = some (.new 45, 3) := by decide +kernel
theorem i_1_14 : kI 1 14 = some (.dup, 1) := by decide +kernel
theorem i_1_15 : kI 1 15 = some (.ldc 47, 2) := by decide +kernel
theorem i_1_17 : kI 1 17 = some (.invokespecial 49, 3) := by decide +kernel
theorem i_1_20 : kI 1 20 = some (.athrow, 1) := by decide +kernel
theorem i_1_21 : kI 1 21 = some (.aload_n 0, 1) := by decide +kernel
theorem i_1_22 : kI 1 22 = some (.getfield 10, 3) := by decide +kernel
theorem i_1_25 : kI 1 25 = some (.getfield 52, 3) := by decide +kernel
theorem i_1_28 : kI 1 28 = some (.bipush 6, 2) := by decide +kernel
theorem i_1_30 : kI 1 30 = some (.if_icmp .ge 13, 3) := by decide +kernel
theorem i_1_33 : kI 1 33 = some (.aload_n 0, 1) := by decide +kernel
theorem i_1_34 : kI 1 34 = some (.getfield 10, 3) := by decide +kernel
theorem i_1_37 : kI 1 37 = some (.getfield 55, 3) := by decide +kernel
theorem i_1_40 : kI 1 40 = some (.ifCond .eq 13, 3) := by decide +kernel
theorem i_1_43 : kI 1 43 = some (.new 59, 3) := by decide +kernel
theorem i_1_46 : kI 1 46 = some (.dup, 1) := by decide +kernel
theorem i_1_47 : kI 1 47 = some (.ldc 61, 2) := by decide +kernel
theorem i_1_49 : kI 1 49 = some (.invokespecial 63, 3) := by decide +kernel
theorem i_1_52 : kI 1 52 = some (.athrow, 1) := by decide +kernel
theorem i_1_53 : kI 1 53 = some (.aload_n 0, 1) := by decide +kernel
theorem i_1_54 : kI 1 54 = some (.aconst_null, 1) := by decide +kernel
theorem i_1_55 : kI 1 55 = some (.putfield 41, 3) := by decide +kernel
theorem i_1_58 : kI 1 58 = some (.aload_n 0, 1) := by decide +kernel
theorem i_1_59 : kI 1 59 = some (.getfield 10, 3) := by decide +kernel
theorem i_1_62 : kI 1 62 = some (.iload_n 1, 1) := by decide +kernel
theorem i_1_63 : kI 1 63 = some (.invokevirtual 64, 3) := by decide +kernel
theorem i_1_66 : kI 1 66 = some (.ireturn, 1) := by decide +kernel
theorem i_2_0 : kI 2 0 = some (.aload_n 0, 1) := by decide +kernel
theorem i_2_1 : kI 2 1 = some (.getfield 10, 3) := by decide +kernel
theorem i_2_4 : kI 2 4 = some (.iload_n 1, 1) := by decide +kernel
theorem i_2_5 : kI 2 5 = some (.invokevirtual 68, 3) := by decide +kernel
theorem i_2_8 : kI 2 8 = some (.astore_n 3, 1) := by decide +kernel
theorem i_2_9 : kI 2 9 = some (.aload_n 3, 1) := by decide +kernel
theorem i_2_10 : kI 2 10 = some (.ifnull 11, 3) := by decide +kernel
theorem i_2_13 : kI 2 13 = some (.aload_n 3, 1) := by decide +kernel
theorem i_2_14 : kI 2 14 = some (.iload_n 2, 1) := by decide +kernel
theorem i_2_15 : kI 2 15 = some (.invokevirtual 72, 3) := by decide +kernel
theorem i_2_18 : kI 2 18 = some (.ifCond .ne 13, 3) := by decide +kernel
theorem i_2_21 : kI 2 21 = some (.new 45, 3) := by decide +kernel
theorem i_2_24 : kI 2 24 = some (.dup, 1) := by decide +kernel
theorem i_2_25 : kI 2 25 = some (.ldc 78, 2) := by decide +kernel
theorem i_2_27 : kI 2 27 = some (.invokespecial 49, 3) := by decide +kernel
theorem i_2_30 : kI 2 30 = some (.athrow, 1) := by decide +kernel
theorem i_2_31 : kI 2 31 = some (.aload_n 3, 1) := by decide +kernel
theorem i_2_32 : kI 2 32 = some (.getfield 80, 3) := by decide +kernel
theorem i_2_35 : kI 2 35 = some (.iload_n 2, 1) := by decide +kernel
theorem i_2_36 : kI 2 36 = some (.baload, 1) := by decide +kernel
theorem i_2_37 : kI 2 37 = some (.ifCond .ne 13, 3) := by decide +kernel
theorem i_2_40 : kI 2 40 = some (.aload_n 0, 1) := by decide +kernel
theorem i_2_41 : kI 2 41 = some (.getfield 10, 3) := by decide +kernel
theorem i_2_44 : kI 2 44 = some (.getfield 55, 3) := by decide +kernel
theorem i_2_47 : kI 2 47 = some (.ifCond .eq 13, 3) := by decide +kernel
theorem i_2_50 : kI 2 50 = some (.new 59, 3) := by decide +kernel
theorem i_2_53 : kI 2 53 = some (.dup, 1) := by decide +kernel
theorem i_2_54 : kI 2 54 = some (.ldc 84, 2) := by decide +kernel
theorem i_2_56 : kI 2 56 = some (.invokespecial 63, 3) := by decide +kernel
theorem i_2_59 : kI 2 59 = some (.athrow, 1) := by decide +kernel
theorem i_2_60 : kI 2 60 = some (.aload_n 0, 1) := by decide +kernel
theorem i_2_61 : kI 2 61 = some (.aconst_null, 1) := by decide +kernel
theorem i_2_62 : kI 2 62 = some (.putfield 41, 3) := by decide +kernel
theorem i_2_65 : kI 2 65 = some (.aload_n 3, 1) := by decide +kernel
theorem i_2_66 : kI 2 66 = some (.getfield 80, 3) := by decide +kernel
theorem i_2_69 : kI 2 69 = some (.iload_n 2, 1) := by decide +kernel
theorem i_2_70 : kI 2 70 = some (.iconst 1, 1) := by decide +kernel
theorem i_2_71 : kI 2 71 = some (.bastore, 1) := by decide +kernel
theorem i_2_72 : kI 2 72 = some (.return_, 1) := by decide +kernel
theorem i_3_0 : kI 3 0 = some (.iload_n 1, 1) := by decide +kernel
theorem i_3_1 : kI 3 1 = some (.ifCond .lt 9, 3) := by decide +kernel
theorem i_3_4 : kI 3 4 = some (.iload_n 1, 1) := by decide +kernel
theorem i_3_5 : kI 3 5 = some (.bipush 6, 2) := by decide +kernel
theorem i_3_7 : kI 3 7 = some (.if_icmp .lt 13, 3) := by decide +kernel
theorem i_3_10 : kI 3 10 = some (.new 45, 3) := by decide +kernel
theorem i_3_13 : kI 3 13 = some (.dup, 1) := by decide +kernel
theorem i_3_14 : kI 3 14 = some (.ldc 86, 2) := by decide +kernel
theorem i_3_16 : kI 3 16 = some (.invokespecial 49, 3) := by decide +kernel
theorem i_3_19 : kI 3 19 = some (.athrow, 1) := by decide +kernel
theorem i_3_20 : kI 3 20 = some (.aload_n 0, 1) := by decide +kernel
theorem i_3_21 : kI 3 21 = some (.getfield 16, 3) := by decide +kernel
theorem i_3_24 : kI 3 24 = some (.iload_n 1, 1) := by decide +kernel
theorem i_3_25 : kI 3 25 = some (.iload_n 2, 1) := by decide +kernel
theorem i_3_26 : kI 3 26 = some (.iastore, 1) := by decide +kernel
theorem i_3_27 : kI 3 27 = some (.return_, 1) := by decide +kernel
theorem i_4_0 : kI 4 0 = some (.aload_n 0, 1) := by decide +kernel
theorem i_4_1 : kI 4 1 = some (.getfield 10, 3) := by decide +kernel
theorem i_4_4 : kI 4 4 = some (.iload_n 1, 1) := by decide +kernel
theorem i_4_5 : kI 4 5 = some (.invokevirtual 68, 3) := by decide +kernel
theorem i_4_8 : kI 4 8 = some (.astore_n 2, 1) := by decide +kernel
theorem i_4_9 : kI 4 9 = some (.aload_n 2, 1) := by decide +kernel
theorem i_4_10 : kI 4 10 = some (.ifnonnull 13, 3) := by decide +kernel
theorem i_4_13 : kI 4 13 = some (.new 45, 3) := by decide +kernel
theorem i_4_16 : kI 4 16 = some (.dup, 1) := by decide +kernel
theorem i_4_17 : kI 4 17 = some (.ldc 88, 2) := by decide +kernel
theorem i_4_19 : kI 4 19 = some (.invokespecial 49, 3) := by decide +kernel
theorem i_4_22 : kI 4 22 = some (.athrow, 1) := by decide +kernel
theorem i_4_23 : kI 4 23 = some (.aload_n 2, 1) := by decide +kernel
theorem i_4_24 : kI 4 24 = some (.getfield 90, 3) := by decide +kernel
theorem i_4_27 : kI 4 27 = some (.bipush 40, 2) := by decide +kernel
theorem i_4_29 : kI 4 29 = some (.if_icmp .ge 14, 3) := by decide +kernel
theorem i_4_32 : kI 4 32 = some (.aload_n 0, 1) := by decide +kernel
theorem i_4_33 : kI 4 33 = some (.getfield 10, 3) := by decide +kernel
theorem i_4_36 : kI 4 36 = some (.iconst 1, 1) := by decide +kernel
theorem i_4_37 : kI 4 37 = some (.invokevirtual 93, 3) := by decide +kernel
theorem i_4_40 : kI 4 40 = some (.ifCond .ne 13, 3) := by decide +kernel
theorem i_4_43 : kI 4 43 = some (.new 59, 3) := by decide +kernel
theorem i_4_46 : kI 4 46 = some (.dup, 1) := by decide +kernel
theorem i_4_47 : kI 4 47 = some (.ldc 96, 2) := by decide +kernel
theorem i_4_49 : kI 4 49 = some (.invokespecial 63, 3) := by decide +kernel
theorem i_4_52 : kI 4 52 = some (.athrow, 1) := by decide +kernel
theorem i_4_53 : kI 4 53 = some (.aload_n 0, 1) := by decide +kernel
theorem i_4_54 : kI 4 54 = some (.aconst_null, 1) := by decide +kernel
theorem i_4_55 : kI 4 55 = some (.putfield 41, 3) := by decide +kernel
theorem i_4_58 : kI 4 58 = some (.aload_n 0, 1) := by decide +kernel
theorem i_4_59 : kI 4 59 = some (.getfield 10, 3) := by decide +kernel
theorem i_4_62 : kI 4 62 = some (.iconst 1, 1) := by decide +kernel
theorem i_4_63 : kI 4 63 = some (.invokevirtual 98, 3) := by decide +kernel
theorem i_4_66 : kI 4 66 = some (.aload_n 2, 1) := by decide +kernel
theorem i_4_67 : kI 4 67 = some (.aload_n 0, 1) := by decide +kernel
theorem i_4_68 : kI 4 68 = some (.getfield 16, 3) := by decide +kernel
theorem i_4_71 : kI 4 71 = some (.invokevirtual 102, 3) := by decide +kernel
theorem i_4_74 : kI 4 74 = some (.aload_n 2, 1) := by decide +kernel
theorem i_4_75 : kI 4 75 = some (.getfield 90, 3) := by decide +kernel
theorem i_4_78 : kI 4 78 = some (.ireturn, 1) := by decide +kernel
theorem i_5_0 : kI 5 0 = some (.aload_n 0, 1) := by decide +kernel
theorem i_5_1 : kI 5 1 = some (.getfield 10, 3) := by decide +kernel
theorem i_5_4 : kI 5 4 = some (.iload_n 1, 1) := by decide +kernel
theorem i_5_5 : kI 5 5 = some (.invokevirtual 68, 3) := by decide +kernel
theorem i_5_8 : kI 5 8 = some (.astore 4, 2) := by decide +kernel
theorem i_5_10 : kI 5 10 = some (.aload 4, 2) := by decide +kernel
theorem i_5_12 : kI 5 12 = some (.ifnull 12, 3) := by decide +kernel
theorem i_5_15 : kI 5 15 = some (.aload 4, 2) := by decide +kernel
theorem i_5_17 : kI 5 17 = some (.iload_n 2, 1) := by decide +kernel
theorem i_5_18 : kI 5 18 = some (.invokevirtual 72, 3) := by decide +kernel
theorem i_5_21 : kI 5 21 = some (.ifCond .ne 13, 3) := by decide +kernel
theorem i_5_24 : kI 5 24 = some (.new 45, 3) := by decide +kernel
theorem i_5_27 : kI 5 27 = some (.dup, 1) := by decide +kernel
theorem i_5_28 : kI 5 28 = some (.ldc 78, 2) := by decide +kernel
theorem i_5_30 : kI 5 30 = some (.invokespecial 49, 3) := by decide +kernel
theorem i_5_33 : kI 5 33 = some (.athrow, 1) := by decide +kernel
theorem i_5_34 : kI 5 34 = some (.aload 4, 2) := by decide +kernel
theorem i_5_36 : kI 5 36 = some (.iload_n 2, 1) := by decide +kernel
theorem i_5_37 : kI 5 37 = some (.iload_n 3, 1) := by decide +kernel
theorem i_5_38 : kI 5 38 = some (.invokevirtual 106, 3) := by decide +kernel
theorem i_5_41 : kI 5 41 = some (.istore 5, 2) := by decide +kernel
theorem i_5_43 : kI 5 43 = some (.aload_n 0, 1) := by decide +kernel
theorem i_5_44 : kI 5 44 = some (.getfield 10, 3) := by decide +kernel
theorem i_5_47 : kI 5 47 = some (.iload 5, 2) := by decide +kernel
theorem i_5_49 : kI 5 49 = some (.invokevirtual 93, 3) := by decide +kernel
theorem i_5_52 : kI 5 52 = some (.ifCond .ne 13, 3) := by decide +kernel
theorem i_5_55 : kI 5 55 = some (.new 59, 3) := by decide +kernel
theorem i_5_58 : kI 5 58 = some (.dup, 1) := by decide +kernel
theorem i_5_59 : kI 5 59 = some (.ldc 110, 2) := by decide +kernel
theorem i_5_61 : kI 5 61 = some (.invokespecial 63, 3) := by decide +kernel
theorem i_5_64 : kI 5 64 = some (.athrow, 1) := by decide +kernel
theorem i_5_65 : kI 5 65 = some (.aload_n 0, 1) := by decide +kernel
theorem i_5_66 : kI 5 66 = some (.aconst_null, 1) := by decide +kernel
theorem i_5_67 : kI 5 67 = some (.putfield 41, 3) := by decide +kernel
theorem i_5_70 : kI 5 70 = some (.aload_n 0, 1) := by decide +kernel
theorem i_5_71 : kI 5 71 = some (.getfield 10, 3) := by decide +kernel
theorem i_5_74 : kI 5 74 = some (.iload 5, 2) := by decide +kernel
theorem i_5_76 : kI 5 76 = some (.invokevirtual 98, 3) := by decide +kernel
theorem i_5_79 : kI 5 79 = some (.aload 4, 2) := by decide +kernel
theorem i_5_81 : kI 5 81 = some (.iload_n 2, 1) := by decide +kernel
theorem i_5_82 : kI 5 82 = some (.iload_n 3, 1) := by decide +kernel
theorem i_5_83 : kI 5 83 = some (.invokevirtual 112, 3) := by decide +kernel
theorem i_5_86 : kI 5 86 = some (.iload 5, 2) := by decide +kernel
theorem i_5_88 : kI 5 88 = some (.ireturn, 1) := by decide +kernel
theorem i_6_0 : kI 6 0 = some (.aload_n 0, 1) := by decide +kernel
theorem i_6_1 : kI 6 1 = some (.getfield 10, 3) := by decide +kernel
theorem i_6_4 : kI 6 4 = some (.iload_n 1, 1) := by decide +kernel
theorem i_6_5 : kI 6 5 = some (.invokevirtual 68, 3) := by decide +kernel
theorem i_6_8 : kI 6 8 = some (.astore 5, 2) := by decide +kernel
theorem i_6_10 : kI 6 10 = some (.iload_n 2, 1) := by decide +kernel
theorem i_6_11 : kI 6 11 = some (.bipush 8, 2) := by decide +kernel
theorem i_6_13 : kI 6 13 = some (.invokestatic 116, 3) := by decide +kernel
theorem i_6_16 : kI 6 16 = some (.istore 6, 2) := by decide +kernel
theorem i_6_18 : kI 6 18 = some (.iload_n 2, 1) := by decide +kernel
theorem i_6_19 : kI 6 19 = some (.bipush 8, 2) := by decide +kernel
theorem i_6_21 : kI 6 21 = some (.invokestatic 121, 3) := by decide +kernel
theorem i_6_24 : kI 6 24 = some (.istore 7, 2) := by decide +kernel
theorem i_6_26 : kI 6 26 = some (.aload 5, 2) := by decide +kernel
theorem i_6_28 : kI 6 28 = some (.ifnull 23, 3) := by decide +kernel
theorem i_6_31 : kI 6 31 = some (.aload 5, 2) := by decide +kernel
theorem i_6_33 : kI 6 33 = some (.iload 6, 2) := by decide +kernel
theorem i_6_35 : kI 6 35 = some (.invokevirtual 72, 3) := by decide +kernel
theorem i_6_38 : kI 6 38 = some (.ifCond .eq 13, 3) := by decide +kernel
theorem i_6_41 : kI 6 41 = some (.aload 5, 2) := by decide +kernel
theorem i_6_43 : kI 6 43 = some (.iload 7, 2) := by decide +kernel
theorem i_6_45 : kI 6 45 = some (.invokevirtual 72, 3) := by decide +kernel
theorem i_6_48 : kI 6 48 = some (.ifCond .ne 13, 3) := by decide +kernel
theorem i_6_51 : kI 6 51 = some (.new 45, 3) := by decide +kernel
theorem i_6_54 : kI 6 54 = some (.dup, 1) := by decide +kernel
theorem i_6_55 : kI 6 55 = some (.ldc 78, 2) := by decide +kernel
theorem i_6_57 : kI 6 57 = some (.invokespecial 49, 3) := by decide +kernel
theorem i_6_60 : kI 6 60 = some (.athrow, 1) := by decide +kernel
theorem i_6_61 : kI 6 61 = some (.aload 5, 2) := by decide +kernel
theorem i_6_63 : kI 6 63 = some (.iload 6, 2) := by decide +kernel
theorem i_6_65 : kI 6 65 = some (.iload_n 3, 1) := by decide +kernel
theorem i_6_66 : kI 6 66 = some (.invokevirtual 106, 3) := by decide +kernel
theorem i_6_69 : kI 6 69 = some (.istore 8, 2) := by decide +kernel
theorem i_6_71 : kI 6 71 = some (.aload_n 0, 1) := by decide +kernel
theorem i_6_72 : kI 6 72 = some (.getfield 10, 3) := by decide +kernel
theorem i_6_75 : kI 6 75 = some (.iload 8, 2) := by decide +kernel
theorem i_6_77 : kI 6 77 = some (.invokevirtual 93, 3) := by decide +kernel
theorem i_6_80 : kI 6 80 = some (.ifCond .ne 13, 3) := by decide +kernel
theorem i_6_83 : kI 6 83 = some (.new 59, 3) := by decide +kernel
theorem i_6_86 : kI 6 86 = some (.dup, 1) := by decide +kernel
theorem i_6_87 : kI 6 87 = some (.ldc 110, 2) := by decide +kernel
theorem i_6_89 : kI 6 89 = some (.invokespecial 63, 3) := by decide +kernel
theorem i_6_92 : kI 6 92 = some (.athrow, 1) := by decide +kernel
theorem i_6_93 : kI 6 93 = some (.aload_n 0, 1) := by decide +kernel
theorem i_6_94 : kI 6 94 = some (.aconst_null, 1) := by decide +kernel
theorem i_6_95 : kI 6 95 = some (.putfield 41, 3) := by decide +kernel
theorem i_6_98 : kI 6 98 = some (.aload_n 0, 1) := by decide +kernel
theorem i_6_99 : kI 6 99 = some (.getfield 10, 3) := by decide +kernel
theorem i_6_102 : kI 6 102 = some (.iload 8, 2) := by decide +kernel
theorem i_6_104 : kI 6 104 = some (.invokevirtual 98, 3) := by decide +kernel
theorem i_6_107 : kI 6 107 = some (.aload 5, 2) := by decide +kernel
theorem i_6_109 : kI 6 109 = some (.iload 6, 2) := by decide +kernel
theorem i_6_111 : kI 6 111 = some (.iload_n 3, 1) := by decide +kernel
theorem i_6_112 : kI 6 112 = some (.iload 7, 2) := by decide +kernel
theorem i_6_114 : kI 6 114 = some (.iload 4, 2) := by decide +kernel
theorem i_6_116 : kI 6 116 = some (.invokevirtual 124, 3) := by decide +kernel
theorem i_6_119 : kI 6 119 = some (.iload 8, 2) := by decide +kernel
theorem i_6_121 : kI 6 121 = some (.ireturn, 1) := by decide +kernel
theorem i_7_0 : kI 7 0 = some (.aload_n 0, 1) := by decide +kernel
theorem i_7_1 : kI 7 1 = some (.getfield 10, 3) := by decide +kernel
theorem i_7_4 : kI 7 4 = some (.getfield 55, 3) := by decide +kernel
theorem i_7_7 : kI 7 7 = some (.ifCond .eq 13, 3) := by decide +kernel
theorem i_7_10 : kI 7 10 = some (.new 59, 3) := by decide +kernel
theorem i_7_13 : kI 7 13 = some (.dup, 1) := by decide +kernel
theorem i_7_14 : kI 7 14 = some (.ldc 128, 2) := by decide +kernel
theorem i_7_16 : kI 7 16 = some (.invokespecial 63, 3) := by decide +kernel
theorem i_7_19 : kI 7 19 = some (.athrow, 1) := by decide +kernel
theorem i_7_20 : kI 7 20 = some (.aload_n 0, 1) := by decide +kernel
theorem i_7_21 : kI 7 21 = some (.aconst_null, 1) := by decide +kernel
theorem i_7_22 : kI 7 22 = some (.putfield 41, 3) := by decide +kernel
theorem i_7_25 : kI 7 25 = some (.aload_n 0, 1) := by decide +kernel
theorem i_7_26 : kI 7 26 = some (.getfield 10, 3) := by decide +kernel
theorem i_7_29 : kI 7 29 = some (.invokevirtual 130, 3) := by decide +kernel
theorem i_7_32 : kI 7 32 = some (.return_, 1) := by decide +kernel
theorem i_8_0 : kI 8 0 = some (.aload_n 0, 1) := by decide +kernel
theorem i_8_1 : kI 8 1 = some (.getfield 10, 3) := by decide +kernel
theorem i_8_4 : kI 8 4 = some (.getfield 55, 3) := by decide +kernel
theorem i_8_7 : kI 8 7 = some (.ifCond .ne 13, 3) := by decide +kernel
theorem i_8_10 : kI 8 10 = some (.new 59, 3) := by decide +kernel
theorem i_8_13 : kI 8 13 = some (.dup, 1) := by decide +kernel
theorem i_8_14 : kI 8 14 = some (.ldc 133, 2) := by decide +kernel
theorem i_8_16 : kI 8 16 = some (.invokespecial 63, 3) := by decide +kernel
theorem i_8_19 : kI 8 19 = some (.athrow, 1) := by decide +kernel
theorem i_8_20 : kI 8 20 = some (.aload_n 0, 1) := by decide +kernel
theorem i_8_21 : kI 8 21 = some (.aconst_null, 1) := by decide +kernel
theorem i_8_22 : kI 8 22 = some (.putfield 41, 3) := by decide +kernel
theorem i_8_25 : kI 8 25 = some (.aload_n 0, 1) := by decide +kernel
theorem i_8_26 : kI 8 26 = some (.getfield 10, 3) := by decide +kernel
theorem i_8_29 : kI 8 29 = some (.invokevirtual 135, 3) := by decide +kernel
theorem i_8_32 : kI 8 32 = some (.ireturn, 1) := by decide +kernel
theorem i_9_0 : kI 9 0 = some (.aload_n 0, 1) := by decide +kernel
theorem i_9_1 : kI 9 1 = some (.getfield 10, 3) := by decide +kernel
theorem i_9_4 : kI 9 4 = some (.getfield 55, 3) := by decide +kernel
theorem i_9_7 : kI 9 7 = some (.ifCond .ne 13, 3) := by decide +kernel
theorem i_9_10 : kI 9 10 = some (.new 59, 3) := by decide +kernel
theorem i_9_13 : kI 9 13 = some (.dup, 1) := by decide +kernel
theorem i_9_14 : kI 9 14 = some (.ldc 133, 2) := by decide +kernel
theorem i_9_16 : kI 9 16 = some (.invokespecial 63, 3) := by decide +kernel
theorem i_9_19 : kI 9 19 = some (.athrow, 1) := by decide +kernel
theorem i_9_20 : kI 9 20 = some (.aload_n 0, 1) := by decide +kernel
theorem i_9_21 : kI 9 21 = some (.aconst_null, 1) := by decide +kernel
theorem i_9_22 : kI 9 22 = some (.putfield 41, 3) := by decide +kernel
theorem i_9_25 : kI 9 25 = some (.aload_n 0, 1) := by decide +kernel
theorem i_9_26 : kI 9 26 = some (.getfield 10, 3) := by decide +kernel
theorem i_9_29 : kI 9 29 = some (.invokevirtual 139, 3) := by decide +kernel
theorem i_9_32 : kI 9 32 = some (.aload_n 0, 1) := by decide +kernel
theorem i_9_33 : kI 9 33 = some (.getfield 10, 3) := by decide +kernel
theorem i_9_36 : kI 9 36 = some (.invokevirtual 135, 3) := by decide +kernel
theorem i_9_39 : kI 9 39 = some (.ireturn, 1) := by decide +kernel
theorem i_10_0 : kI 10 0 = some (.aload_n 0, 1) := by decide +kernel
theorem i_10_1 : kI 10 1 = some (.getfield 10, 3) := by decide +kernel
theorem i_10_4 : kI 10 4 = some (.iload_n 1, 1) := by decide +kernel
theorem i_10_5 : kI 10 5 = some (.invokevirtual 68, 3) := by decide +kernel
theorem i_10_8 : kI 10 8 = some (.astore 4, 2) := by decide +kernel
theorem i_10_10 : kI 10 10 = some (.aload 4, 2) := by decide +kernel
theorem i_10_12 : kI 10 12 = some (.ifnonnull 13, 3) := by decide +kernel
theorem i_10_15 : kI 10 15 = some (.new 45, 3) := by decide +kernel
theorem i_10_18 : kI 10 18 = some (.dup, 1) := by decide +kernel
theorem i_10_19 : kI 10 19 = some (.ldc 88, 2) := by decide +kernel
theorem i_10_21 : kI 10 21 = some (.invokespecial 49, 3) := by decide +kernel
theorem i_10_24 : kI 10 24 = some (.athrow, 1) := by decide +kernel
theorem i_10_25 : kI 10 25 = some (.iload_n 2, 1) := by decide +kernel
theorem i_10_26 : kI 10 26 = some (.iconst (-1), 1) := by decide +kernel
theorem i_10_27 : kI 10 27 = some (.if_icmp .ne 9, 3) := by decide +kernel
theorem i_10_30 : kI 10 30 = some (.aload 4, 2) := by decide +kernel
theorem i_10_32 : kI 10 32 = some (.getfield 90, 3) := by decide +kernel
theorem i_10_35 : kI 10 35 = some (.ireturn, 1) := by decide +kernel
theorem i_10_36 : kI 10 36 = some (.aload 4, 2) := by decide +kernel
theorem i_10_38 : kI 10 38 = some (.iload_n 2, 1) := by decide +kernel
theorem i_10_39 : kI 10 39 = some (.invokevirtual 142, 3) := by decide +kernel
theorem i_10_42 : kI 10 42 = some (.ifCond .eq 12, 3) := by decide +kernel
theorem i_10_45 : kI 10 45 = some (.aload 4, 2) := by decide +kernel
theorem i_10_47 : kI 10 47 = some (.iload_n 3, 1) := by decide +kernel
theorem i_10_48 : kI 10 48 = some (.invokevirtual 72, 3) := by decide +kernel
theorem i_10_51 : kI 10 51 = some (.ifCond .ne 13, 3) := by decide +kernel
theorem i_10_54 : kI 10 54 = some (.new 45, 3) := by decide +kernel
theorem i_10_57 : kI 10 57 = some (.dup, 1) := by decide +kernel
theorem i_10_58 : kI 10 58 = some (.ldc 145, 2) := by decide +kernel
theorem i_10_60 : kI 10 60 = some (.invokespecial 49, 3) := by decide +kernel
theorem i_10_63 : kI 10 63 = some (.athrow, 1) := by decide +kernel
theorem i_10_64 : kI 10 64 = some (.aload 4, 2) := by decide +kernel
theorem i_10_66 : kI 10 66 = some (.iload_n 2, 1) := by decide +kernel
theorem i_10_67 : kI 10 67 = some (.iload_n 3, 1) := by decide +kernel
theorem i_10_68 : kI 10 68 = some (.invokevirtual 147, 3) := by decide +kernel
theorem i_10_71 : kI 10 71 = some (.ireturn, 1) := by decide +kernel
theorem i_11_0 : kI 11 0 = some (.aload_n 0, 1) := by decide +kernel
theorem i_11_1 : kI 11 1 = some (.getfield 23, 3) := by decide +kernel
theorem i_11_4 : kI 11 4 = some (.getfield 150, 3) := by decide +kernel
theorem i_11_7 : kI 11 7 = some (.bipush 60, 2) := by decide +kernel
theorem i_11_9 : kI 11 9 = some (.if_icmp .lt 13, 3) := by decide +kernel
theorem i_11_12 : kI 11 12 = some (.new 59, 3) := by decide +kernel
theorem i_11_15 : kI 11 15 = some (.dup, 1) := by decide +kernel
theorem i_11_16 : kI 11 16 = some (.ldc 151, 2) := by decide +kernel
theorem i_11_18 : kI 11 18 = some (.invokespecial 63, 3) := by decide +kernel
theorem i_11_21 : kI 11 21 = some (.athrow, 1) := by decide +kernel
theorem i_11_22 : kI 11 22 = some (.aload_n 0, 1) := by decide +kernel
theorem i_11_23 : kI 11 23 = some (.getfield 23, 3) := by decide +kernel
theorem i_11_26 : kI 11 26 = some (.iload_n 1, 1) := by decide +kernel
theorem i_11_27 : kI 11 27 = some (.invokevirtual 153, 3) := by decide +kernel
theorem i_11_30 : kI 11 30 = some (.aload_n 0, 1) := by decide +kernel
theorem i_11_31 : kI 11 31 = some (.getfield 23, 3) := by decide +kernel
theorem i_11_34 : kI 11 34 = some (.getfield 150, 3) := by decide +kernel
theorem i_11_37 : kI 11 37 = some (.ireturn, 1) := by decide +kernel
theorem i_12_0 : kI 12 0 = some (.aload_n 0, 1) := by decide +kernel
theorem i_12_1 : kI 12 1 = some (.iconst 0, 1) := by decide +kernel
theorem i_12_2 : kI 12 2 = some (.putfield 37, 3) := by decide +kernel
theorem i_12_5 : kI 12 5 = some (.aload_n 0, 1) := by decide +kernel
theorem i_12_6 : kI 12 6 = some (.aload_n 0, 1) := by decide +kernel
theorem i_12_7 : kI 12 7 = some (.getfield 23, 3) := by decide +kernel
theorem i_12_10 : kI 12 10 = some (.aload_n 0, 1) := by decide +kernel
theorem i_12_11 : kI 12 11 = some (.getfield 10, 3) := by decide +kernel
theorem i_12_14 : kI 12 14 = some (.invokevirtual 156, 3) := by decide +kernel
theorem i_12_17 : kI 12 17 = some (.putfield 41, 3) := by decide +kernel
theorem i_12_20 : kI 12 20 = some (.aload_n 0, 1) := by decide +kernel
theorem i_12_21 : kI 12 21 = some (.getfield 30, 3) := by decide +kernel
theorem i_12_24 : kI 12 24 = some (.aload_n 0, 1) := by decide +kernel
theorem i_12_25 : kI 12 25 = some (.getfield 41, 3) := by decide +kernel
theorem i_12_28 : kI 12 28 = some (.invokevirtual 160, 3) := by decide +kernel
theorem i_12_31 : kI 12 31 = some (.aload_n 0, 1) := by decide +kernel
theorem i_12_32 : kI 12 32 = some (.getfield 41, 3) := by decide +kernel
theorem i_12_35 : kI 12 35 = some (.ifnonnull 13, 3) := by decide +kernel
theorem i_12_38 : kI 12 38 = some (.new 45, 3) := by decide +kernel
theorem i_12_41 : kI 12 41 = some (.dup, 1) := by decide +kernel
theorem i_12_42 : kI 12 42 = some (.ldc 164, 2) := by decide +kernel
theorem i_12_44 : kI 12 44 = some (.invokespecial 49, 3) := by decide +kernel
theorem i_12_47 : kI 12 47 = some (.athrow, 1) := by decide +kernel
theorem i_12_48 : kI 12 48 = some (.aload_n 0, 1) := by decide +kernel
theorem i_12_49 : kI 12 49 = some (.getfield 41, 3) := by decide +kernel
theorem i_12_52 : kI 12 52 = some (.getfield 166, 3) := by decide +kernel
theorem i_12_55 : kI 12 55 = some (.ireturn, 1) := by decide +kernel
theorem i_13_0 : kI 13 0 = some (.aload_n 0, 1) := by decide +kernel
theorem i_13_1 : kI 13 1 = some (.getfield 23, 3) := by decide +kernel
theorem i_13_4 : kI 13 4 = some (.getfield 171, 3) := by decide +kernel
theorem i_13_7 : kI 13 7 = some (.ireturn, 1) := by decide +kernel
theorem i_14_0 : kI 14 0 = some (.iload_n 1, 1) := by decide +kernel
theorem i_14_1 : kI 14 1 = some (.iconst 1, 1) := by decide +kernel
theorem i_14_2 : kI 14 2 = some (.if_icmp .lt 10, 3) := by decide +kernel
theorem i_14_5 : kI 14 5 = some (.iload_n 1, 1) := by decide +kernel
theorem i_14_6 : kI 14 6 = some (.sipush 500, 3) := by decide +kernel
theorem i_14_9 : kI 14 9 = some (.if_icmp .le 13, 3) := by decide +kernel
theorem i_14_12 : kI 14 12 = some (.new 45, 3) := by decide +kernel
theorem i_14_15 : kI 14 15 = some (.dup, 1) := by decide +kernel
theorem i_14_16 : kI 14 16 = some (.ldc 174, 2) := by decide +kernel
theorem i_14_18 : kI 14 18 = some (.invokespecial 49, 3) := by decide +kernel
theorem i_14_21 : kI 14 21 = some (.athrow, 1) := by decide +kernel
theorem i_14_22 : kI 14 22 = some (.aload_n 0, 1) := by decide +kernel
theorem i_14_23 : kI 14 23 = some (.getfield 41, 3) := by decide +kernel
theorem i_14_26 : kI 14 26 = some (.ifnonnull 13, 3) := by decide +kernel
theorem i_14_29 : kI 14 29 = some (.new 59, 3) := by decide +kernel
theorem i_14_32 : kI 14 32 = some (.dup, 1) := by decide +kernel
theorem i_14_33 : kI 14 33 = some (.ldc 176, 2) := by decide +kernel
theorem i_14_35 : kI 14 35 = some (.invokespecial 63, 3) := by decide +kernel
theorem i_14_38 : kI 14 38 = some (.athrow, 1) := by decide +kernel
theorem i_14_39 : kI 14 39 = some (.aload_n 0, 1) := by decide +kernel
theorem i_14_40 : kI 14 40 = some (.getfield 30, 3) := by decide +kernel
theorem i_14_43 : kI 14 43 = some (.aload_n 0, 1) := by decide +kernel
theorem i_14_44 : kI 14 44 = some (.getfield 41, 3) := by decide +kernel
theorem i_14_47 : kI 14 47 = some (.iload_n 1, 1) := by decide +kernel
theorem i_14_48 : kI 14 48 = some (.invokevirtual 178, 3) := by decide +kernel
theorem i_14_51 : kI 14 51 = some (.istore_n 2, 1) := by decide +kernel
theorem i_14_52 : kI 14 52 = some (.iload_n 2, 1) := by decide +kernel
theorem i_14_53 : kI 14 53 = some (.iconst 1, 1) := by decide +kernel
theorem i_14_54 : kI 14 54 = some (.if_icmp .ne 11, 3) := by decide +kernel
theorem i_14_57 : kI 14 57 = some (.aload_n 0, 1) := by decide +kernel
theorem i_14_58 : kI 14 58 = some (.aload_n 0, 1) := by decide +kernel
theorem i_14_59 : kI 14 59 = some (.getfield 41, 3) := by decide +kernel
theorem i_14_62 : kI 14 62 = some (.invokevirtual 182, 3) := by decide +kernel
theorem i_14_65 : kI 14 65 = some (.iload_n 2, 1) := by decide +kernel
theorem i_14_66 : kI 14 66 = some (.ifCond .eq 8, 3) := by decide +kernel
theorem i_14_69 : kI 14 69 = some (.iload_n 2, 1) := by decide +kernel
theorem i_14_70 : kI 14 70 = some (.iconst 3, 1) := by decide +kernel
theorem i_14_71 : kI 14 71 = some (.if_icmp .ne 8, 3) := by decide +kernel
theorem i_14_74 : kI 14 74 = some (.aload_n 0, 1) := by decide +kernel
theorem i_14_75 : kI 14 75 = some (.aconst_null, 1) := by decide +kernel
theorem i_14_76 : kI 14 76 = some (.putfield 41, 3) := by decide +kernel
theorem i_14_79 : kI 14 79 = some (.iload_n 2, 1) := by decide +kernel
theorem i_14_80 : kI 14 80 = some (.ireturn, 1) := by decide +kernel
theorem i_15_0 : kI 15 0 = some (.iload_n 1, 1) := by decide +kernel
theorem i_15_1 : kI 15 1 = some (.ifCond .lt 20, 3) := by decide +kernel
theorem i_15_4 : kI 15 4 = some (.iload_n 1, 1) := by decide +kernel
theorem i_15_5 : kI 15 5 = some (.aload_n 0, 1) := by decide +kernel
theorem i_15_6 : kI 15 6 = some (.getfield 37, 3) := by decide +kernel
theorem i_15_9 : kI 15 9 = some (.if_icmp .ge 12, 3) := by decide +kernel
theorem i_15_12 : kI 15 12 = some (.aload_n 0, 1) := by decide +kernel
theorem i_15_13 : kI 15 13 = some (.getfield 34, 3) := by decide +kernel
theorem i_15_16 : kI 15 16 = some (.iload_n 1, 1) := by decide +kernel
theorem i_15_17 : kI 15 17 = some (.iaload, 1) := by decide +kernel
theorem i_15_18 : kI 15 18 = some (.goto 4, 3) := by decide +kernel
theorem i_15_21 : kI 15 21 = some (.iconst 0, 1) := by decide +kernel
theorem i_15_22 : kI 15 22 = some (.ireturn, 1) := by decide +kernel
theorem i_16_0 : kI 16 0 = some (.aload_n 0, 1) := by decide +kernel
theorem i_16_1 : kI 16 1 = some (.getfield 30, 3) := by decide +kernel
theorem i_16_4 : kI 16 4 = some (.getfield 185, 3) := by decide +kernel
theorem i_16_7 : kI 16 7 = some (.ireturn, 1) := by decide +kernel
theorem i_17_0 : kI 17 0 = some (.aload_n 0, 1) := by decide +kernel
theorem i_17_1 : kI 17 1 = some (.aload_n 1, 1) := by decide +kernel
theorem i_17_2 : kI 17 2 = some (.getfield 166, 3) := by decide +kernel
theorem i_17_5 : kI 17 5 = some (.putfield 37, 3) := by decide +kernel
theorem i_17_8 : kI 17 8 = some (.aload_n 1, 1) := by decide +kernel
theorem i_17_9 : kI 17 9 = some (.getfield 188, 3) := by decide +kernel
theorem i_17_12 : kI 17 12 = some (.iconst 0, 1) := by decide +kernel
theorem i_17_13 : kI 17 13 = some (.aload_n 0, 1) := by decide +kernel
theorem i_17_14 : kI 17 14 = some (.getfield 34, 3) := by decide +kernel
theorem i_17_17 : kI 17 17 = some (.iconst 0, 1) := by decide +kernel
theorem i_17_18 : kI 17 18 = some (.aload_n 0, 1) := by decide +kernel
theorem i_17_19 : kI 17 19 = some (.getfield 37, 3) := by decide +kernel
theorem i_17_22 : kI 17 22 = some (.invokestatic 191, 3) := by decide +kernel
theorem i_17_25 : kI 17 25 = some (.return_, 1) := by decide +kernel
theorem i_18_0 : kI 18 0 = some (.aload_n 0, 1) := by decide +kernel
theorem i_18_1 : kI 18 1 = some (.ifnonnull 7, 3) := by decide +kernel
theorem i_18_4 : kI 18 4 = some (.iconst 0, 1) := by decide +kernel
theorem i_18_5 : kI 18 5 = some (.goto 7, 3) := by decide +kernel
theorem i_18_8 : kI 18 8 = some (.aload_n 0, 1) := by decide +kernel
theorem i_18_9 : kI 18 9 = some (.getfield 166, 3) := by decide +kernel
theorem i_18_12 : kI 18 12 = some (.ireturn, 1) := by decide +kernel
theorem i_19_0 : kI 19 0 = some (.aload_n 0, 1) := by decide +kernel
theorem i_19_1 : kI 19 1 = some (.invokespecial 3, 3) := by decide +kernel
theorem i_19_4 : kI 19 4 = some (.aload_n 0, 1) := by decide +kernel
theorem i_19_5 : kI 19 5 = some (.sipush 1800, 3) := by decide +kernel
theorem i_19_8 : kI 19 8 = some (.newarray .int, 2) := by decide +kernel
theorem i_19_10 : kI 19 10 = some (.putfield 9, 3) := by decide +kernel
theorem i_19_13 : kI 19 13 = some (.aload_n 0, 1) := by decide +kernel
theorem i_19_14 : kI 19 14 = some (.sipush 150, 3) := by decide +kernel
theorem i_19_17 : kI 19 17 = some (.newarray .int, 2) := by decide +kernel
theorem i_19_19 : kI 19 19 = some (.putfield 15, 3) := by decide +kernel
theorem i_19_22 : kI 19 22 = some (.return_, 1) := by decide +kernel
theorem i_20_0 : kI 20 0 = some (.aload_n 0, 1) := by decide +kernel
theorem i_20_1 : kI 20 1 = some (.iload_n 1, 1) := by decide +kernel
theorem i_20_2 : kI 20 2 = some (.putfield 18, 3) := by decide +kernel
theorem i_20_5 : kI 20 5 = some (.aload_n 0, 1) := by decide +kernel
theorem i_20_6 : kI 20 6 = some (.iconst 0, 1) := by decide +kernel
theorem i_20_7 : kI 20 7 = some (.putfield 22, 3) := by decide +kernel
theorem i_20_10 : kI 20 10 = some (.return_, 1) := by decide +kernel
theorem i_21_0 : kI 21 0 = some (.iload_n 1, 1) := by decide +kernel
theorem i_21_1 : kI 21 1 = some (.ifCond .lt 42, 3) := by decide +kernel
theorem i_21_4 : kI 21 4 = some (.iload_n 1, 1) := by decide +kernel
theorem i_21_5 : kI 21 5 = some (.aload_n 0, 1) := by decide +kernel
theorem i_21_6 : kI 21 6 = some (.getfield 22, 3) := by decide +kernel
theorem i_21_9 : kI 21 9 = some (.if_icmp .ge 34, 3) := by decide +kernel
theorem i_21_12 : kI 21 12 = some (.iload_n 2, 1) := by decide +kernel
theorem i_21_13 : kI 21 13 = some (.ifCond .lt 30, 3) := by decide +kernel
theorem i_21_16 : kI 21 16 = some (.iload_n 2, 1) := by decide +kernel
theorem i_21_17 : kI 21 17 = some (.aload_n 0, 1) := by decide +kernel
theorem i_21_18 : kI 21 18 = some (.getfield 18, 3) := by decide +kernel
theorem i_21_21 : kI 21 21 = some (.if_icmp .ge 22, 3) := by decide +kernel
theorem i_21_24 : kI 21 24 = some (.aload_n 0, 1) := by decide +kernel
theorem i_21_25 : kI 21 25 = some (.getfield 9, 3) := by decide +kernel
theorem i_21_28 : kI 21 28 = some (.aload_n 0, 1) := by decide +kernel
theorem i_21_29 : kI 21 29 = some (.getfield 15, 3) := by decide +kernel
theorem i_21_32 : kI 21 32 = some (.iload_n 1, 1) := by decide +kernel
theorem i_21_33 : kI 21 33 = some (.iaload, 1) := by decide +kernel
theorem i_21_34 : kI 21 34 = some (.bipush 12, 2) := by decide +kernel
theorem i_21_36 : kI 21 36 = some (.imul, 1) := by decide +kernel
theorem i_21_37 : kI 21 37 = some (.iload_n 2, 1) := by decide +kernel
theorem i_21_38 : kI 21 38 = some (.iadd, 1) := by decide +kernel
theorem i_21_39 : kI 21 39 = some (.iaload, 1) := by decide +kernel
theorem i_21_40 : kI 21 40 = some (.goto 4, 3) := by decide +kernel
theorem i_21_43 : kI 21 43 = some (.iconst 0, 1) := by decide +kernel
theorem i_21_44 : kI 21 44 = some (.ireturn, 1) := by decide +kernel
theorem i_22_0 : kI 22 0 = some (.iload_n 1, 1) := by decide +kernel
theorem i_22_1 : kI 22 1 = some (.ifCond .lt 40, 3) := by decide +kernel
theorem i_22_4 : kI 22 4 = some (.iload_n 1, 1) := by decide +kernel
theorem i_22_5 : kI 22 5 = some (.aload_n 0, 1) := by decide +kernel
theorem i_22_6 : kI 22 6 = some (.getfield 22, 3) := by decide +kernel
theorem i_22_9 : kI 22 9 = some (.if_icmp .ge 32, 3) := by decide +kernel
theorem i_22_12 : kI 22 12 = some (.iload_n 2, 1) := by decide +kernel
theorem i_22_13 : kI 22 13 = some (.ifCond .lt 28, 3) := by decide +kernel
theorem i_22_16 : kI 22 16 = some (.iload_n 2, 1) := by decide +kernel
theorem i_22_17 : kI 22 17 = some (.aload_n 0, 1) := by decide +kernel
theorem i_22_18 : kI 22 18 = some (.getfield 18, 3) := by decide +kernel
theorem i_22_21 : kI 22 21 = some (.if_icmp .ge 20, 3) := by decide +kernel
theorem i_22_24 : kI 22 24 = some (.aload_n 0, 1) := by decide +kernel
theorem i_22_25 : kI 22 25 = some (.getfield 9, 3) := by decide +kernel
theorem i_22_28 : kI 22 28 = some (.aload_n 0, 1) := by decide +kernel
theorem i_22_29 : kI 22 29 = some (.getfield 15, 3) := by decide +kernel
theorem i_22_32 : kI 22 32 = some (.iload_n 1, 1) := by decide +kernel
theorem i_22_33 : kI 22 33 = some (.iaload, 1) := by decide +kernel
theorem i_22_34 : kI 22 34 = some (.bipush 12, 2) := by decide +kernel
theorem i_22_36 : kI 22 36 = some (.imul, 1) := by decide +kernel
theorem i_22_37 : kI 22 37 = some (.iload_n 2, 1) := by decide +kernel
theorem i_22_38 : kI 22 38 = some (.iadd, 1) := by decide +kernel
theorem i_22_39 : kI 22 39 = some (.iload_n 3, 1) := by decide +kernel
theorem i_22_40 : kI 22 40 = some (.iastore, 1) := by decide +kernel
theorem i_22_41 : kI 22 41 = some (.return_, 1) := by decide +kernel
theorem i_23_0 : kI 23 0 = some (.iload_n 1, 1) := by decide +kernel
theorem i_23_1 : kI 23 1 = some (.ifCond .lt 42, 3) := by decide +kernel
theorem i_23_4 : kI 23 4 = some (.iload_n 1, 1) := by decide +kernel
theorem i_23_5 : kI 23 5 = some (.aload_n 0, 1) := by decide +kernel
theorem i_23_6 : kI 23 6 = some (.getfield 22, 3) := by decide +kernel
theorem i_23_9 : kI 23 9 = some (.if_icmp .ge 34, 3) := by decide +kernel
theorem i_23_12 : kI 23 12 = some (.aload_n 2, 1) := by decide +kernel
theorem i_23_13 : kI 23 13 = some (.arraylength, 1) := by decide +kernel
theorem i_23_14 : kI 23 14 = some (.aload_n 0, 1) := by decide +kernel
theorem i_23_15 : kI 23 15 = some (.getfield 18, 3) := by decide +kernel
theorem i_23_18 : kI 23 18 = some (.if_icmp .lt 25, 3) := by decide +kernel
theorem i_23_21 : kI 23 21 = some (.aload_n 0, 1) := by decide +kernel
theorem i_23_22 : kI 23 22 = some (.getfield 9, 3) := by decide +kernel
theorem i_23_25 : kI 23 25 = some (.aload_n 0, 1) := by decide +kernel
theorem i_23_26 : kI 23 26 = some (.getfield 15, 3) := by decide +kernel
theorem i_23_29 : kI 23 29 = some (.iload_n 1, 1) := by decide +kernel
theorem i_23_30 : kI 23 30 = some (.iaload, 1) := by decide +kernel
theorem i_23_31 : kI 23 31 = some (.bipush 12, 2) := by decide +kernel
theorem i_23_33 : kI 23 33 = some (.imul, 1) := by decide +kernel
theorem i_23_34 : kI 23 34 = some (.aload_n 2, 1) := by decide +kernel
theorem i_23_35 : kI 23 35 = some (.iconst 0, 1) := by decide +kernel
theorem i_23_36 : kI 23 36 = some (.aload_n 0, 1) := by decide +kernel
theorem i_23_37 : kI 23 37 = some (.getfield 18, 3) := by decide +kernel
theorem i_23_40 : kI 23 40 = some (.invokestatic 25, 3) := by decide +kernel
theorem i_23_43 : kI 23 43 = some (.return_, 1) := by decide +kernel
theorem i_24_0 : kI 24 0 = some (.aload_n 0, 1) := by decide +kernel
theorem i_24_1 : kI 24 1 = some (.getfield 22, 3) := by decide +kernel
theorem i_24_4 : kI 24 4 = some (.sipush 150, 3) := by decide +kernel
theorem i_24_7 : kI 24 7 = some (.if_icmp .ge 12, 3) := by decide +kernel
theorem i_24_10 : kI 24 10 = some (.aload_n 1, 1) := by decide +kernel
theorem i_24_11 : kI 24 11 = some (.arraylength, 1) := by decide +kernel
theorem i_24_12 : kI 24 12 = some (.aload_n 0, 1) := by decide +kernel
theorem i_24_13 : kI 24 13 = some (.getfield 18, 3) := by decide +kernel
theorem i_24_16 : kI 24 16 = some (.if_icmp .ge 5, 3) := by decide +kernel
theorem i_24_19 : kI 24 19 = some (.iconst 0, 1) := by decide +kernel
theorem i_24_20 : kI 24 20 = some (.ireturn, 1) := by decide +kernel
theorem i_24_21 : kI 24 21 = some (.aload_n 1, 1) := by decide +kernel
theorem i_24_22 : kI 24 22 = some (.iconst 0, 1) := by decide +kernel
theorem i_24_23 : kI 24 23 = some (.aload_n 0, 1) := by decide +kernel
theorem i_24_24 : kI 24 24 = some (.getfield 9, 3) := by decide +kernel
theorem i_24_27 : kI 24 27 = some (.aload_n 0, 1) := by decide +kernel
theorem i_24_28 : kI 24 28 = some (.getfield 22, 3) := by decide +kernel
theorem i_24_31 : kI 24 31 = some (.bipush 12, 2) := by decide +kernel
theorem i_24_33 : kI 24 33 = some (.imul, 1) := by decide +kernel
theorem i_24_34 : kI 24 34 = some (.aload_n 0, 1) := by decide +kernel
theorem i_24_35 : kI 24 35 = some (.getfield 18, 3) := by decide +kernel
theorem i_24_38 : kI 24 38 = some (.invokestatic 25, 3) := by decide +kernel
theorem i_24_41 : kI 24 41 = some (.aload_n 0, 1) := by decide +kernel
theorem i_24_42 : kI 24 42 = some (.getfield 15, 3) := by decide +kernel
theorem i_24_45 : kI 24 45 = some (.aload_n 0, 1) := by decide +kernel
theorem i_24_46 : kI 24 46 = some (.getfield 22, 3) := by decide +kernel
theorem i_24_49 : kI 24 49 = some (.aload_n 0, 1) := by decide +kernel
theorem i_24_50 : kI 24 50 = some (.getfield 22, 3) := by decide +kernel
theorem i_24_53 : kI 24 53 = some (.iastore, 1) := by decide +kernel
theorem i_24_54 : kI 24 54 = some (.aload_n 0, 1) := by decide +kernel
theorem i_24_55 : kI 24 55 = some (.dup, 1) := by decide +kernel
theorem i_24_56 : kI 24 56 = some (.getfield 22, 3) := by decide +kernel
theorem i_24_59 : kI 24 59 = some (.iconst 1, 1) := by decide +kernel
theorem i_24_60 : kI 24 60 = some (.iadd, 1) := by decide +kernel
theorem i_24_61 : kI 24 61 = some (.putfield 22, 3) := by decide +kernel
theorem i_24_64 : kI 24 64 = some (.iconst 1, 1) := by decide +kernel
theorem i_24_65 : kI 24 65 = some (.ireturn, 1) := by decide +kernel
theorem i_25_0 : kI 25 0 = some (.aload_n 0, 1) := by decide +kernel
theorem i_25_1 : kI 25 1 = some (.aload_n 1, 1) := by decide +kernel
theorem i_25_2 : kI 25 2 = some (.invokevirtual 31, 3) := by decide +kernel
theorem i_25_5 : kI 25 5 = some (.ifCond .ne 5, 3) := by decide +kernel
theorem i_25_8 : kI 25 8 = some (.iconst 0, 1) := by decide +kernel
theorem i_25_9 : kI 25 9 = some (.ireturn, 1) := by decide +kernel
theorem i_25_10 : kI 25 10 = some (.aload_n 0, 1) := by decide +kernel
theorem i_25_11 : kI 25 11 = some (.getfield 22, 3) := by decide +kernel
theorem i_25_14 : kI 25 14 = some (.iconst 1, 1) := by decide +kernel
theorem i_25_15 : kI 25 15 = some (.isub, 1) := by decide +kernel
theorem i_25_16 : kI 25 16 = some (.istore 4, 2) := by decide +kernel
theorem i_25_18 : kI 25 18 = some (.iload 4, 2) := by decide +kernel
theorem i_25_20 : kI 25 20 = some (.ifCond .le 68, 3) := by decide +kernel
theorem i_25_23 : kI 25 23 = some (.aload_n 0, 1) := by decide +kernel
theorem i_25_24 : kI 25 24 = some (.iload 4, 2) := by decide +kernel
theorem i_25_26 : kI 25 26 = some (.iconst 1, 1) := by decide +kernel
theorem i_25_27 : kI 25 27 = some (.isub, 1) := by decide +kernel
theorem i_25_28 : kI 25 28 = some (.iload_n 2, 1) := by decide +kernel
theorem i_25_29 : kI 25 29 = some (.invokevirtual 35, 3) := by decide +kernel
theorem i_25_32 : kI 25 32 = some (.aload_n 0, 1) := by decide +kernel
theorem i_25_33 : kI 25 33 = some (.iload 4, 2) := by decide +kernel
theorem i_25_35 : kI 25 35 = some (.iload_n 2, 1) := by decide +kernel
theorem i_25_36 : kI 25 36 = some (.invokevirtual 35, 3) := by decide +kernel
theorem i_25_39 : kI 25 39 = some (.iload_n 3, 1) := by decide +kernel
theorem i_25_40 : kI 25 40 = some (.invokestatic 39, 3) := by decide +kernel
theorem i_25_43 : kI 25 43 = some (.ifCond .eq 45, 3) := by decide +kernel
theorem i_25_46 : kI 25 46 = some (.aload_n 0, 1) := by decide +kernel
theorem i_25_47 : kI 25 47 = some (.getfield 15, 3) := by decide +kernel
theorem i_25_50 : kI 25 50 = some (.iload 4, 2) := by decide +kernel
theorem i_25_52 : kI 25 52 = some (.iaload, 1) := by decide +kernel
theorem i_25_53 : kI 25 53 = some (.istore 5, 2) := by decide +kernel
theorem i_25_55 : kI 25 55 = some (.aload_n 0, 1) := by decide +kernel
theorem i_25_56 : kI 25 56 = some (.getfield 15, 3) := by decide +kernel
theorem i_25_59 : kI 25 59 = some (.iload 4, 2) := by decide +kernel
theorem i_25_61 : kI 25 61 = some (.aload_n 0, 1) := by decide +kernel
theorem i_25_62 : kI 25 62 = some (.getfield 15, 3) := by decide +kernel
theorem i_25_65 : kI 25 65 = some (.iload 4, 2) := by decide +kernel
theorem i_25_67 : kI 25 67 = some (.iconst 1, 1) := by decide +kernel
theorem i_25_68 : kI 25 68 = some (.isub, 1) := by decide +kernel
theorem i_25_69 : kI 25 69 = some (.iaload, 1) := by decide +kernel
theorem i_25_70 : kI 25 70 = some (.iastore, 1) := by decide +kernel
theorem i_25_71 : kI 25 71 = some (.aload_n 0, 1) := by decide +kernel
theorem i_25_72 : kI 25 72 = some (.getfield 15, 3) := by decide +kernel
theorem i_25_75 : kI 25 75 = some (.iload 4, 2) := by decide +kernel
theorem i_25_77 : kI 25 77 = some (.iconst 1, 1) := by decide +kernel
theorem i_25_78 : kI 25 78 = some (.isub, 1) := by decide +kernel
theorem i_25_79 : kI 25 79 = some (.iload 5, 2) := by decide +kernel
theorem i_25_81 : kI 25 81 = some (.iastore, 1) := by decide +kernel
theorem i_25_82 : kI 25 82 = some (.iinc 4 (-1), 3) := by decide +kernel
theorem i_25_85 : kI 25 85 = some (.goto (-67), 3) := by decide +kernel
theorem i_25_88 : kI 25 88 = some (.iconst 1, 1) := by decide +kernel
theorem i_25_89 : kI 25 89 = some (.ireturn, 1) := by decide +kernel
theorem i_26_0 : kI 26 0 = some (.iload_n 2, 1) := by decide +kernel
theorem i_26_1 : kI 26 1 = some (.iconst 1, 1) := by decide +kernel
theorem i_26_2 : kI 26 2 = some (.if_icmp .ne 16, 3) := by decide +kernel
theorem i_26_5 : kI 26 5 = some (.iload_n 0, 1) := by decide +kernel
theorem i_26_6 : kI 26 6 = some (.iload_n 1, 1) := by decide +kernel
theorem i_26_7 : kI 26 7 = some (.if_icmp .ge 7, 3) := by decide +kernel
theorem i_26_10 : kI 26 10 = some (.iconst 1, 1) := by decide +kernel
theorem i_26_11 : kI 26 11 = some (.goto 17, 3) := by decide +kernel
theorem i_26_14 : kI 26 14 = some (.iconst 0, 1) := by decide +kernel
theorem i_26_15 : kI 26 15 = some (.goto 13, 3) := by decide +kernel
theorem i_26_18 : kI 26 18 = some (.iload_n 0, 1) := by decide +kernel
theorem i_26_19 : kI 26 19 = some (.iload_n 1, 1) := by decide +kernel
theorem i_26_20 : kI 26 20 = some (.if_icmp .le 7, 3) := by decide +kernel
theorem i_26_23 : kI 26 23 = some (.iconst 1, 1) := by decide +kernel
theorem i_26_24 : kI 26 24 = some (.goto 4, 3) := by decide +kernel
theorem i_26_27 : kI 26 27 = some (.iconst 0, 1) := by decide +kernel
theorem i_26_28 : kI 26 28 = some (.ireturn, 1) := by decide +kernel
theorem i_27_0 : kI 27 0 = some (.iconst 0, 1) := by decide +kernel
theorem i_27_1 : kI 27 1 = some (.istore_n 2, 1) := by decide +kernel
theorem i_27_2 : kI 27 2 = some (.iload_n 2, 1) := by decide +kernel
theorem i_27_3 : kI 27 3 = some (.aload_n 0, 1) := by decide +kernel
theorem i_27_4 : kI 27 4 = some (.getfield 22, 3) := by decide +kernel
theorem i_27_7 : kI 27 7 = some (.if_icmp .ge 20, 3) := by decide +kernel
theorem i_27_10 : kI 27 10 = some (.aload_n 0, 1) := by decide +kernel
theorem i_27_11 : kI 27 11 = some (.iload_n 2, 1) := by decide +kernel
theorem i_27_12 : kI 27 12 = some (.aload_n 1, 1) := by decide +kernel
theorem i_27_13 : kI 27 13 = some (.invokevirtual 43, 3) := by decide +kernel
theorem i_27_16 : kI 27 16 = some (.ifCond .eq 5, 3) := by decide +kernel
theorem i_27_19 : kI 27 19 = some (.iconst 1, 1) := by decide +kernel
theorem i_27_20 : kI 27 20 = some (.ireturn, 1) := by decide +kernel
theorem i_27_21 : kI 27 21 = some (.iinc 2 1, 3) := by decide +kernel
theorem i_27_24 : kI 27 24 = some (.goto (-22), 3) := by decide +kernel
theorem i_27_27 : kI 27 27 = some (.iconst 0, 1) := by decide +kernel
theorem i_27_28 : kI 27 28 = some (.ireturn, 1) := by decide +kernel
theorem i_28_0 : kI 28 0 = some (.iload_n 1, 1) := by decide +kernel
theorem i_28_1 : kI 28 1 = some (.ifCond .lt 20, 3) := by decide +kernel
theorem i_28_4 : kI 28 4 = some (.iload_n 1, 1) := by decide +kernel
theorem i_28_5 : kI 28 5 = some (.aload_n 0, 1) := by decide +kernel
theorem i_28_6 : kI 28 6 = some (.getfield 22, 3) := by decide +kernel
theorem i_28_9 : kI 28 9 = some (.if_icmp .ge 12, 3) := by decide +kernel
theorem i_28_12 : kI 28 12 = some (.aload_n 2, 1) := by decide +kernel
theorem i_28_13 : kI 28 13 = some (.arraylength, 1) := by decide +kernel
theorem i_28_14 : kI 28 14 = some (.aload_n 0, 1) := by decide +kernel
theorem i_28_15 : kI 28 15 = some (.getfield 18, 3) := by decide +kernel
theorem i_28_18 : kI 28 18 = some (.if_icmp .ge 5, 3) := by decide +kernel
theorem i_28_21 : kI 28 21 = some (.iconst 0, 1) := by decide +kernel
theorem i_28_22 : kI 28 22 = some (.ireturn, 1) := by decide +kernel
theorem i_28_23 : kI 28 23 = some (.aload_n 0, 1) := by decide +kernel
theorem i_28_24 : kI 28 24 = some (.getfield 15, 3) := by decide +kernel
theorem i_28_27 : kI 28 27 = some (.iload_n 1, 1) := by decide +kernel
theorem i_28_28 : kI 28 28 = some (.iaload, 1) := by decide +kernel
theorem i_28_29 : kI 28 29 = some (.bipush 12, 2) := by decide +kernel
theorem i_28_31 : kI 28 31 = some (.imul, 1) := by decide +kernel
theorem i_28_32 : kI 28 32 = some (.istore_n 3, 1) := by decide +kernel
theorem i_28_33 : kI 28 33 = some (.iconst 0, 1) := by decide +kernel
theorem i_28_34 : kI 28 34 = some (.istore 4, 2) := by decide +kernel
theorem i_28_36 : kI 28 36 = some (.iload 4, 2) := by decide +kernel
theorem i_28_38 : kI 28 38 = some (.aload_n 0, 1) := by decide +kernel
theorem i_28_39 : kI 28 39 = some (.getfield 18, 3) := by decide +kernel
theorem i_28_42 : kI 28 42 = some (.if_icmp .ge 27, 3) := by decide +kernel
theorem i_28_45 : kI 28 45 = some (.aload_n 0, 1) := by decide +kernel
theorem i_28_46 : kI 28 46 = some (.getfield 9, 3) := by decide +kernel
theorem i_28_49 : kI 28 49 = some (.iload_n 3, 1) := by decide +kernel
theorem i_28_50 : kI 28 50 = some (.iload 4, 2) := by decide +kernel
theorem i_28_52 : kI 28 52 = some (.iadd, 1) := by decide +kernel
theorem i_28_53 : kI 28 53 = some (.iaload, 1) := by decide +kernel
theorem i_28_54 : kI 28 54 = some (.aload_n 2, 1) := by decide +kernel
theorem i_28_55 : kI 28 55 = some (.iload 4, 2) := by decide +kernel
theorem i_28_57 : kI 28 57 = some (.iaload, 1) := by decide +kernel
theorem i_28_58 : kI 28 58 = some (.if_icmp .eq 5, 3) := by decide +kernel
theorem i_28_61 : kI 28 61 = some (.iconst 0, 1) := by decide +kernel
theorem i_28_62 : kI 28 62 = some (.ireturn, 1) := by decide +kernel
theorem i_28_63 : kI 28 63 = some (.iinc 4 1, 3) := by decide +kernel
theorem i_28_66 : kI 28 66 = some (.goto (-30), 3) := by decide +kernel
theorem i_28_69 : kI 28 69 = some (.iconst 1, 1) := by decide +kernel
theorem i_28_70 : kI 28 70 = some (.ireturn, 1) := by decide +kernel
theorem i_29_0 : kI 29 0 = some (.iconst 0, 1) := by decide +kernel
theorem i_29_1 : kI 29 1 = some (.istore_n 2, 1) := by decide +kernel
theorem i_29_2 : kI 29 2 = some (.iload_n 2, 1) := by decide +kernel
theorem i_29_3 : kI 29 3 = some (.aload_n 0, 1) := by decide +kernel
theorem i_29_4 : kI 29 4 = some (.getfield 22, 3) := by decide +kernel
theorem i_29_7 : kI 29 7 = some (.if_icmp .ge 29, 3) := by decide +kernel
theorem i_29_10 : kI 29 10 = some (.aload_n 0, 1) := by decide +kernel
theorem i_29_11 : kI 29 11 = some (.getfield 9, 3) := by decide +kernel
theorem i_29_14 : kI 29 14 = some (.aload_n 0, 1) := by decide +kernel
theorem i_29_15 : kI 29 15 = some (.getfield 15, 3) := by decide +kernel
theorem i_29_18 : kI 29 18 = some (.iload_n 2, 1) := by decide +kernel
theorem i_29_19 : kI 29 19 = some (.iaload, 1) := by decide +kernel
theorem i_29_20 : kI 29 20 = some (.bipush 12, 2) := by decide +kernel
theorem i_29_22 : kI 29 22 = some (.imul, 1) := by decide +kernel
theorem i_29_23 : kI 29 23 = some (.iaload, 1) := by decide +kernel
theorem i_29_24 : kI 29 24 = some (.iload_n 1, 1) := by decide +kernel
theorem i_29_25 : kI 29 25 = some (.if_icmp .ne 5, 3) := by decide +kernel
theorem i_29_28 : kI 29 28 = some (.iload_n 2, 1) := by decide +kernel
theorem i_29_29 : kI 29 29 = some (.ireturn, 1) := by decide +kernel
theorem i_29_30 : kI 29 30 = some (.iinc 2 1, 3) := by decide +kernel
theorem i_29_33 : kI 29 33 = some (.goto (-31), 3) := by decide +kernel
theorem i_29_36 : kI 29 36 = some (.aload_n 0, 1) := by decide +kernel
theorem i_29_37 : kI 29 37 = some (.getfield 22, 3) := by decide +kernel
theorem i_29_40 : kI 29 40 = some (.ireturn, 1) := by decide +kernel
theorem i_30_0 : kI 30 0 = some (.aload_n 0, 1) := by decide +kernel
theorem i_30_1 : kI 30 1 = some (.invokespecial 3, 3) := by decide +kernel
theorem i_30_4 : kI 30 4 = some (.aload_n 0, 1) := by decide +kernel
theorem i_30_5 : kI 30 5 = some (.bipush 60, 2) := by decide +kernel
theorem i_30_7 : kI 30 7 = some (.newarray .int, 2) := by decide +kernel
theorem i_30_9 : kI 30 9 = some (.putfield 9, 3) := by decide +kernel
theorem i_30_12 : kI 30 12 = some (.aload_n 0, 1) := by decide +kernel
theorem i_30_13 : kI 30 13 = some (.bipush 60, 2) := by decide +kernel
theorem i_30_15 : kI 30 15 = some (.anewarray 15, 3) := by decide +kernel
theorem i_30_18 : kI 30 18 = some (.putfield 17, 3) := by decide +kernel
theorem i_30_21 : kI 30 21 = some (.aload_n 0, 1) := by decide +kernel
theorem i_30_22 : kI 30 22 = some (.iconst (-1), 1) := by decide +kernel
theorem i_30_23 : kI 30 23 = some (.putfield 21, 3) := by decide +kernel
theorem i_30_26 : kI 30 26 = some (.return_, 1) := by decide +kernel
theorem i_31_0 : kI 31 0 = some (.aload_n 0, 1) := by decide +kernel
theorem i_31_1 : kI 31 1 = some (.getfield 25, 3) := by decide +kernel
theorem i_31_4 : kI 31 4 = some (.bipush 60, 2) := by decide +kernel
theorem i_31_6 : kI 31 6 = some (.if_icmp .ge 23, 3) := by decide +kernel
theorem i_31_9 : kI 31 9 = some (.aload_n 0, 1) := by decide +kernel
theorem i_31_10 : kI 31 10 = some (.getfield 9, 3) := by decide +kernel
theorem i_31_13 : kI 31 13 = some (.aload_n 0, 1) := by decide +kernel
theorem i_31_14 : kI 31 14 = some (.getfield 25, 3) := by decide +kernel
theorem i_31_17 : kI 31 17 = some (.iload_n 1, 1) := by decide +kernel
theorem i_31_18 : kI 31 18 = some (.iastore, 1) := by decide +kernel
theorem i_31_19 : kI 31 19 = some (.aload_n 0, 1) := by decide +kernel
theorem i_31_20 : kI 31 20 = some (.dup, 1) := by decide +kernel
theorem i_31_21 : kI 31 21 = some (.getfield 25, 3) := by decide +kernel
theorem i_31_24 : kI 31 24 = some (.iconst 1, 1) := by decide +kernel
theorem i_31_25 : kI 31 25 = some (.iadd, 1) := by decide +kernel
theorem i_31_26 : kI 31 26 = some (.putfield 25, 3) := by decide +kernel
theorem i_31_29 : kI 31 29 = some (.return_, 1) := by decide +kernel
theorem i_32_0 : kI 32 0 = some (.aload_n 0, 1) := by decide +kernel
theorem i_32_1 : kI 32 1 = some (.iconst 0, 1) := by decide +kernel
theorem i_32_2 : kI 32 2 = some (.putfield 28, 3) := by decide +kernel
theorem i_32_5 : kI 32 5 = some (.aload_n 0, 1) := by decide +kernel
theorem i_32_6 : kI 32 6 = some (.iconst 0, 1) := by decide +kernel
theorem i_32_7 : kI 32 7 = some (.putfield 31, 3) := by decide +kernel
theorem i_32_10 : kI 32 10 = some (.aload_n 0, 1) := by decide +kernel
theorem i_32_11 : kI 32 11 = some (.iconst (-1), 1) := by decide +kernel
theorem i_32_12 : kI 32 12 = some (.putfield 21, 3) := by decide +kernel
theorem i_32_15 : kI 32 15 = some (.aload_n 0, 1) := by decide +kernel
theorem i_32_16 : kI 32 16 = some (.aload_n 1, 1) := by decide +kernel
theorem i_32_17 : kI 32 17 = some (.iconst 0, 1) := by decide +kernel
theorem i_32_18 : kI 32 18 = some (.invokevirtual 34, 3) := by decide +kernel
theorem i_32_21 : kI 32 21 = some (.astore_n 2, 1) := by decide +kernel
theorem i_32_22 : kI 32 22 = some (.aload_n 0, 1) := by decide +kernel
theorem i_32_23 : kI 32 23 = some (.getfield 28, 3) := by decide +kernel
theorem i_32_26 : kI 32 26 = some (.aload_n 0, 1) := by decide +kernel
theorem i_32_27 : kI 32 27 = some (.getfield 25, 3) := by decide +kernel
theorem i_32_30 : kI 32 30 = some (.if_icmp .ge 11, 3) := by decide +kernel
theorem i_32_33 : kI 32 33 = some (.aload_n 0, 1) := by decide +kernel
theorem i_32_34 : kI 32 34 = some (.aload_n 0, 1) := by decide +kernel
theorem i_32_35 : kI 32 35 = some (.getfield 28, 3) := by decide +kernel
theorem i_32_38 : kI 32 38 = some (.invokevirtual 38, 3) := by decide +kernel
theorem i_32_41 : kI 32 41 = some (.aload_n 0, 1) := by decide +kernel
theorem i_32_42 : kI 32 42 = some (.iconst 0, 1) := by decide +kernel
theorem i_32_43 : kI 32 43 = some (.putfield 25, 3) := by decide +kernel
theorem i_32_46 : kI 32 46 = some (.aload_n 0, 1) := by decide +kernel
theorem i_32_47 : kI 32 47 = some (.invokevirtual 42, 3) := by decide +kernel
theorem i_32_50 : kI 32 50 = some (.ifCond .eq 7, 3) := by decide +kernel
theorem i_32_53 : kI 32 53 = some (.aconst_null, 1) := by decide +kernel
theorem i_32_54 : kI 32 54 = some (.goto 4, 3) := by decide +kernel
theorem i_32_57 : kI 32 57 = some (.aload_n 2, 1) := by decide +kernel
theorem i_32_58 : kI 32 58 = some (.areturn, 1) := by decide +kernel
theorem i_33_0 : kI 33 0 = some (.aload_n 0, 1) := by decide +kernel
theorem i_33_1 : kI 33 1 = some (.getfield 21, 3) := by decide +kernel
theorem i_33_4 : kI 33 4 = some (.iconst (-1), 1) := by decide +kernel
theorem i_33_5 : kI 33 5 = some (.if_icmp .eq 7, 3) := by decide +kernel
theorem i_33_8 : kI 33 8 = some (.iconst 1, 1) := by decide +kernel
theorem i_33_9 : kI 33 9 = some (.goto 4, 3) := by decide +kernel
theorem i_33_12 : kI 33 12 = some (.iconst 0, 1) := by decide +kernel
theorem i_33_13 : kI 33 13 = some (.ireturn, 1) := by decide +kernel
theorem i_34_0 : kI 34 0 = some (.aload_n 0, 1) := by decide +kernel
theorem i_34_1 : kI 34 1 = some (.getfield 21, 3) := by decide +kernel
theorem i_34_4 : kI 34 4 = some (.iconst (-1), 1) := by decide +kernel
theorem i_34_5 : kI 34 5 = some (.if_icmp .ne 8, 3) := by decide +kernel
theorem i_34_8 : kI 34 8 = some (.aload_n 0, 1) := by decide +kernel
theorem i_34_9 : kI 34 9 = some (.iload_n 1, 1) := by decide +kernel
theorem i_34_10 : kI 34 10 = some (.putfield 21, 3) := by decide +kernel
theorem i_34_13 : kI 34 13 = some (.return_, 1) := by decide +kernel
theorem i_35_0 : kI 35 0 = some (.aload_n 0, 1) := by decide +kernel
theorem i_35_1 : kI 35 1 = some (.invokevirtual 42, 3) := by decide +kernel
theorem i_35_4 : kI 35 4 = some (.ifCond .eq 5, 3) := by decide +kernel
theorem i_35_7 : kI 35 7 = some (.iconst 0, 1) := by decide +kernel
theorem i_35_8 : kI 35 8 = some (.ireturn, 1) := by decide +kernel
theorem i_35_9 : kI 35 9 = some (.aload_n 0, 1) := by decide +kernel
theorem i_35_10 : kI 35 10 = some (.getfield 28, 3) := by decide +kernel
theorem i_35_13 : kI 35 13 = some (.aload_n 0, 1) := by decide +kernel
theorem i_35_14 : kI 35 14 = some (.getfield 25, 3) := by decide +kernel
theorem i_35_17 : kI 35 17 = some (.if_icmp .ge 12, 3) := by decide +kernel
theorem i_35_20 : kI 35 20 = some (.aload_n 0, 1) := by decide +kernel
theorem i_35_21 : kI 35 21 = some (.getfield 28, 3) := by decide +kernel
theorem i_35_24 : kI 35 24 = some (.bipush 60, 2) := by decide +kernel
theorem i_35_26 : kI 35 26 = some (.if_icmp .lt 13, 3) := by decide +kernel
theorem i_35_29 : kI 35 29 = some (.aload_n 0, 1) := by decide +kernel
theorem i_35_30 : kI 35 30 = some (.aload_n 0, 1) := by decide +kernel
theorem i_35_31 : kI 35 31 = some (.getfield 25, 3) := by decide +kernel
theorem i_35_34 : kI 35 34 = some (.invokevirtual 38, 3) := by decide +kernel
theorem i_35_37 : kI 35 37 = some (.iconst 0, 1) := by decide +kernel
theorem i_35_38 : kI 35 38 = some (.ireturn, 1) := by decide +kernel
theorem i_35_39 : kI 35 39 = some (.aload_n 0, 1) := by decide +kernel
theorem i_35_40 : kI 35 40 = some (.getfield 9, 3) := by decide +kernel
theorem i_35_43 : kI 35 43 = some (.aload_n 0, 1) := by decide +kernel
theorem i_35_44 : kI 35 44 = some (.getfield 28, 3) := by decide +kernel
theorem i_35_47 : kI 35 47 = some (.iaload, 1) := by decide +kernel
theorem i_35_48 : kI 35 48 = some (.istore_n 1, 1) := by decide +kernel
theorem i_35_49 : kI 35 49 = some (.aload_n 0, 1) := by decide +kernel
theorem i_35_50 : kI 35 50 = some (.dup, 1) := by decide +kernel
theorem i_35_51 : kI 35 51 = some (.getfield 28, 3) := by decide +kernel
theorem i_35_54 : kI 35 54 = some (.iconst 1, 1) := by decide +kernel
theorem i_35_55 : kI 35 55 = some (.iadd, 1) := by decide +kernel
theorem i_35_56 : kI 35 56 = some (.putfield 28, 3) := by decide +kernel
theorem i_35_59 : kI 35 59 = some (.iload_n 1, 1) := by decide +kernel
theorem i_35_60 : kI 35 60 = some (.ireturn, 1) := by decide +kernel
theorem i_36_0 : kI 36 0 = some (.aload_n 0, 1) := by decide +kernel
theorem i_36_1 : kI 36 1 = some (.getfield 28, 3) := by decide +kernel
theorem i_36_4 : kI 36 4 = some (.istore_n 3, 1) := by decide +kernel
theorem i_36_5 : kI 36 5 = some (.aload_n 0, 1) := by decide +kernel
theorem i_36_6 : kI 36 6 = some (.invokevirtual 46, 3) := by decide +kernel
theorem i_36_9 : kI 36 9 = some (.istore 4, 2) := by decide +kernel
theorem i_36_11 : kI 36 11 = some (.iload 4, 2) := by decide +kernel
theorem i_36_13 : kI 36 13 = some (.iload_n 1, 1) := by decide +kernel
theorem i_36_14 : kI 36 14 = some (.if_icmp .lt 9, 3) := by decide +kernel
theorem i_36_17 : kI 36 17 = some (.iload 4, 2) := by decide +kernel
theorem i_36_19 : kI 36 19 = some (.iload_n 2, 1) := by decide +kernel
theorem i_36_20 : kI 36 20 = some (.if_icmp .le 10, 3) := by decide +kernel
theorem i_36_23 : kI 36 23 = some (.aload_n 0, 1) := by decide +kernel
theorem i_36_24 : kI 36 24 = some (.iload_n 3, 1) := by decide +kernel
theorem i_36_25 : kI 36 25 = some (.invokevirtual 38, 3) := by decide +kernel
theorem i_36_28 : kI 36 28 = some (.iload_n 1, 1) := by decide +kernel
theorem i_36_29 : kI 36 29 = some (.ireturn, 1) := by decide +kernel
theorem i_36_30 : kI 36 30 = some (.iload 4, 2) := by decide +kernel
theorem i_36_32 : kI 36 32 = some (.ireturn, 1) := by decide +kernel
theorem i_37_0 : kI 37 0 = some (.aload_n 0, 1) := by decide +kernel
theorem i_37_1 : kI 37 1 = some (.invokevirtual 42, 3) := by decide +kernel
theorem i_37_4 : kI 37 4 = some (.ifCond .ne 12, 3) := by decide +kernel
theorem i_37_7 : kI 37 7 = some (.aload_n 0, 1) := by decide +kernel
theorem i_37_8 : kI 37 8 = some (.getfield 31, 3) := by decide +kernel
theorem i_37_11 : kI 37 11 = some (.bipush 60, 2) := by decide +kernel
theorem i_37_13 : kI 37 13 = some (.if_icmp .lt 5, 3) := by decide +kernel
theorem i_37_16 : kI 37 16 = some (.aconst_null, 1) := by decide +kernel
theorem i_37_17 : kI 37 17 = some (.areturn, 1) := by decide +kernel
theorem i_37_18 : kI 37 18 = some (.aload_n 0, 1) := by decide +kernel
theorem i_37_19 : kI 37 19 = some (.getfield 17, 3) := by decide +kernel
theorem i_37_22 : kI 37 22 = some (.aload_n 0, 1) := by decide +kernel
theorem i_37_23 : kI 37 23 = some (.getfield 31, 3) := by decide +kernel
theorem i_37_26 : kI 37 26 = some (.aaload, 1) := by decide +kernel
theorem i_37_27 : kI 37 27 = some (.ifnonnull 19, 3) := by decide +kernel
theorem i_37_30 : kI 37 30 = some (.aload_n 0, 1) := by decide +kernel
theorem i_37_31 : kI 37 31 = some (.getfield 17, 3) := by decide +kernel
theorem i_37_34 : kI 37 34 = some (.aload_n 0, 1) := by decide +kernel
theorem i_37_35 : kI 37 35 = some (.getfield 31, 3) := by decide +kernel
theorem i_37_38 : kI 37 38 = some (.new 15, 3) := by decide +kernel
theorem i_37_41 : kI 37 41 = some (.dup, 1) := by decide +kernel
theorem i_37_42 : kI 37 42 = some (.invokespecial 50, 3) := by decide +kernel
theorem i_37_45 : kI 37 45 = some (.aastore, 1) := by decide +kernel
theorem i_37_46 : kI 37 46 = some (.aload_n 0, 1) := by decide +kernel
theorem i_37_47 : kI 37 47 = some (.getfield 17, 3) := by decide +kernel
theorem i_37_50 : kI 37 50 = some (.aload_n 0, 1) := by decide +kernel
theorem i_37_51 : kI 37 51 = some (.getfield 31, 3) := by decide +kernel
theorem i_37_54 : kI 37 54 = some (.aaload, 1) := by decide +kernel
theorem i_37_55 : kI 37 55 = some (.astore_n 2, 1) := by decide +kernel
theorem i_37_56 : kI 37 56 = some (.aload_n 0, 1) := by decide +kernel
theorem i_37_57 : kI 37 57 = some (.dup, 1) := by decide +kernel
theorem i_37_58 : kI 37 58 = some (.getfield 31, 3) := by decide +kernel
theorem i_37_61 : kI 37 61 = some (.iconst 1, 1) := by decide +kernel
theorem i_37_62 : kI 37 62 = some (.iadd, 1) := by decide +kernel
theorem i_37_63 : kI 37 63 = some (.putfield 31, 3) := by decide +kernel
theorem i_37_66 : kI 37 66 = some (.aload_n 2, 1) := by decide +kernel
theorem i_37_67 : kI 37 67 = some (.iload_n 1, 1) := by decide +kernel
theorem i_37_68 : kI 37 68 = some (.invokevirtual 51, 3) := by decide +kernel
theorem i_37_71 : kI 37 71 = some (.aload_n 2, 1) := by decide +kernel
theorem i_37_72 : kI 37 72 = some (.areturn, 1) := by decide +kernel
theorem i_38_0 : kI 38 0 = some (.aload_n 0, 1) := by decide +kernel
theorem i_38_1 : kI 38 1 = some (.getfield 28, 3) := by decide +kernel
theorem i_38_4 : kI 38 4 = some (.istore_n 3, 1) := by decide +kernel
theorem i_38_5 : kI 38 5 = some (.iload_n 2, 1) := by decide +kernel
theorem i_38_6 : kI 38 6 = some (.bipush 10, 2) := by decide +kernel
theorem i_38_8 : kI 38 8 = some (.if_icmp .lt 10, 3) := by decide +kernel
theorem i_38_11 : kI 38 11 = some (.aload_n 0, 1) := by decide +kernel
theorem i_38_12 : kI 38 12 = some (.iload_n 3, 1) := by decide +kernel
theorem i_38_13 : kI 38 13 = some (.invokevirtual 38, 3) := by decide +kernel
theorem i_38_16 : kI 38 16 = some (.aconst_null, 1) := by decide +kernel
theorem i_38_17 : kI 38 17 = some (.areturn, 1) := by decide +kernel
theorem i_38_18 : kI 38 18 = some (.aload_n 0, 1) := by decide +kernel
theorem i_38_19 : kI 38 19 = some (.aload_n 0, 1) := by decide +kernel
theorem i_38_20 : kI 38 20 = some (.iconst 0, 1) := by decide +kernel
theorem i_38_21 : kI 38 21 = some (.bipush 10, 2) := by decide +kernel
theorem i_38_23 : kI 38 23 = some (.invokevirtual 54, 3) := by decide +kernel
theorem i_38_26 : kI 38 26 = some (.invokevirtual 58, 3) := by decide +kernel
theorem i_38_29 : kI 38 29 = some (.astore 4, 2) := by decide +kernel
theorem i_38_31 : kI 38 31 = some (.aload 4, 2) := by decide +kernel
theorem i_38_33 : kI 38 33 = some (.ifnonnull 5, 3) := by decide +kernel
theorem i_38_36 : kI 38 36 = some (.aconst_null, 1) := by decide +kernel
theorem i_38_37 : kI 38 37 = some (.areturn, 1) := by decide +kernel
theorem i_38_38 : kI 38 38 = some (.aload_n 0, 1) := by decide +kernel
theorem i_38_39 : kI 38 39 = some (.aload 4, 2) := by decide +kernel
theorem i_38_41 : kI 38 41 = some (.aload_n 1, 1) := by decide +kernel
theorem i_38_42 : kI 38 42 = some (.invokevirtual 62, 3) := by decide +kernel
theorem i_38_45 : kI 38 45 = some (.aload 4, 2) := by decide +kernel
theorem i_38_47 : kI 38 47 = some (.getfield 66, 3) := by decide +kernel
theorem i_38_50 : kI 38 50 = some (.invokestatic 69, 3) := by decide +kernel
theorem i_38_53 : kI 38 53 = some (.istore 5, 2) := by decide +kernel
theorem i_38_55 : kI 38 55 = some (.iload 5, 2) := by decide +kernel
theorem i_38_57 : kI 38 57 = some (.iconst 1, 1) := by decide +kernel
theorem i_38_58 : kI 38 58 = some (.if_icmp .lt 23, 3) := by decide +kernel
theorem i_38_61 : kI 38 61 = some (.aload_n 0, 1) := by decide +kernel
theorem i_38_62 : kI 38 62 = some (.invokevirtual 42, 3) := by decide +kernel
theorem i_38_65 : kI 38 65 = some (.ifCond .ne 16, 3) := by decide +kernel
theorem i_38_68 : kI 38 68 = some (.aload 4, 2) := by decide +kernel
theorem i_38_70 : kI 38 70 = some (.aload_n 0, 1) := by decide +kernel
theorem i_38_71 : kI 38 71 = some (.aload_n 1, 1) := by decide +kernel
theorem i_38_72 : kI 38 72 = some (.iload_n 2, 1) := by decide +kernel
theorem i_38_73 : kI 38 73 = some (.iconst 1, 1) := by decide +kernel
theorem i_38_74 : kI 38 74 = some (.iadd, 1) := by decide +kernel
theorem i_38_75 : kI 38 75 = some (.invokevirtual 34, 3) := by decide +kernel
theorem i_38_78 : kI 38 78 = some (.putfield 73, 3) := by decide +kernel
theorem i_38_81 : kI 38 81 = some (.iload 5, 2) := by decide +kernel
theorem i_38_83 : kI 38 83 = some (.iconst 2, 1) := by decide +kernel
theorem i_38_84 : kI 38 84 = some (.if_icmp .lt 23, 3) := by decide +kernel
theorem i_38_87 : kI 38 87 = some (.aload_n 0, 1) := by decide +kernel
theorem i_38_88 : kI 38 88 = some (.invokevirtual 42, 3) := by decide +kernel
theorem i_38_91 : kI 38 91 = some (.ifCond .ne 16, 3) := by decide +kernel
theorem i_38_94 : kI 38 94 = some (.aload 4, 2) := by decide +kernel
theorem i_38_96 : kI 38 96 = some (.aload_n 0, 1) := by decide +kernel
theorem i_38_97 : kI 38 97 = some (.aload_n 1, 1) := by decide +kernel
theorem i_38_98 : kI 38 98 = some (.iload_n 2, 1) := by decide +kernel
theorem i_38_99 : kI 38 99 = some (.iconst 1, 1) := by decide +kernel
theorem i_38_100 : kI 38 100 = some (.iadd, 1) := by decide +kernel
theorem i_38_101 : kI 38 101 = some (.invokevirtual 34, 3) := by decide +kernel
theorem i_38_104 : kI 38 104 = some (.putfield 77, 3) := by decide +kernel
theorem i_38_107 : kI 38 107 = some (.aload_n 0, 1) := by decide +kernel
theorem i_38_108 : kI 38 108 = some (.invokevirtual 42, 3) := by decide +kernel
theorem i_38_111 : kI 38 111 = some (.ifCond .eq 5, 3) := by decide +kernel
theorem i_38_114 : kI 38 114 = some (.aconst_null, 1) := by decide +kernel
theorem i_38_115 : kI 38 115 = some (.areturn, 1) := by decide +kernel
theorem i_38_116 : kI 38 116 = some (.aload 4, 2) := by decide +kernel
theorem i_38_118 : kI 38 118 = some (.aload 4, 2) := by decide +kernel
theorem i_38_120 : kI 38 120 = some (.invokestatic 80, 3) := by decide +kernel
theorem i_38_123 : kI 38 123 = some (.putfield 84, 3) := by decide +kernel
theorem i_38_126 : kI 38 126 = some (.aload 4, 2) := by decide +kernel
theorem i_38_128 : kI 38 128 = some (.getfield 84, 3) := by decide +kernel
theorem i_38_131 : kI 38 131 = some (.iconst 1, 1) := by decide +kernel
theorem i_38_132 : kI 38 132 = some (.if_icmp .lt 13, 3) := by decide +kernel
theorem i_38_135 : kI 38 135 = some (.aload 4, 2) := by decide +kernel
theorem i_38_137 : kI 38 137 = some (.getfield 84, 3) := by decide +kernel
theorem i_38_140 : kI 38 140 = some (.bipush 12, 2) := by decide +kernel
theorem i_38_142 : kI 38 142 = some (.if_icmp .le 10, 3) := by decide +kernel
theorem i_38_145 : kI 38 145 = some (.aload_n 0, 1) := by decide +kernel
theorem i_38_146 : kI 38 146 = some (.iload_n 3, 1) := by decide +kernel
theorem i_38_147 : kI 38 147 = some (.invokevirtual 38, 3) := by decide +kernel
theorem i_38_150 : kI 38 150 = some (.aconst_null, 1) := by decide +kernel
theorem i_38_151 : kI 38 151 = some (.areturn, 1) := by decide +kernel
theorem i_38_152 : kI 38 152 = some (.aload 4, 2) := by decide +kernel
theorem i_38_154 : kI 38 154 = some (.invokestatic 87, 3) := by decide +kernel
theorem i_38_157 : kI 38 157 = some (.aload 4, 2) := by decide +kernel
theorem i_38_159 : kI 38 159 = some (.areturn, 1) := by decide +kernel
theorem i_39_0 : kI 39 0 = some (.iload_n 0, 1) := by decide +kernel
theorem i_39_1 : kI 39 1 = some (.ifCond .ne 5, 3) := by decide +kernel
theorem i_39_4 : kI 39 4 = some (.iconst 0, 1) := by decide +kernel
theorem i_39_5 : kI 39 5 = some (.ireturn, 1) := by decide +kernel
theorem i_39_6 : kI 39 6 = some (.iload_n 0, 1) := by decide +kernel
theorem i_39_7 : kI 39 7 = some (.iconst 3, 1) := by decide +kernel
theorem i_39_8 : kI 39 8 = some (.if_icmp .eq 13, 3) := by decide +kernel
theorem i_39_11 : kI 39 11 = some (.iload_n 0, 1) := by decide +kernel
theorem i_39_12 : kI 39 12 = some (.iconst 4, 1) := by decide +kernel
theorem i_39_13 : kI 39 13 = some (.if_icmp .eq 8, 3) := by decide +kernel
theorem i_39_16 : kI 39 16 = some (.iload_n 0, 1) := by decide +kernel
theorem i_39_17 : kI 39 17 = some (.iconst 5, 1) := by decide +kernel
theorem i_39_18 : kI 39 18 = some (.if_icmp .ne 7, 3) := by decide +kernel
theorem i_39_21 : kI 39 21 = some (.iconst 2, 1) := by decide +kernel
theorem i_39_22 : kI 39 22 = some (.goto 4, 3) := by decide +kernel
theorem i_39_25 : kI 39 25 = some (.iconst 1, 1) := by decide +kernel
theorem i_39_26 : kI 39 26 = some (.ireturn, 1) := by decide +kernel
theorem i_40_0 : kI 40 0 = some (.aload_n 1, 1) := by decide +kernel
theorem i_40_1 : kI 40 1 = some (.getfield 66, 3) := by decide +kernel
theorem i_40_4 : kI 40 4 = some (.tableswitch 240 0 10 #[60, 82, 111, 240, 157, 240, 240, 176, 197, 240, 211], 60) := by decide +kernel
theorem i_40_64 : kI 40 64 = some (.aload_n 1, 1) := by decide +kernel
theorem i_40_65 : kI 40 65 = some (.aload_n 2, 1) := by decide +kernel
theorem i_40_66 : kI 40 66 = some (.aload_n 0, 1) := by decide +kernel
theorem i_40_67 : kI 40 67 = some (.iconst 0, 1) := by decide +kernel
theorem i_40_68 : kI 40 68 = some (.aload_n 2, 1) := by decide +kernel
theorem i_40_69 : kI 40 69 = some (.getfield 91, 3) := by decide +kernel
theorem i_40_72 : kI 40 72 = some (.iconst 1, 1) := by decide +kernel
theorem i_40_73 : kI 40 73 = some (.isub, 1) := by decide +kernel
theorem i_40_74 : kI 40 74 = some (.invokevirtual 54, 3) := by decide +kernel
theorem i_40_77 : kI 40 77 = some (.invokevirtual 94, 3) := by decide +kernel
theorem i_40_80 : kI 40 80 = some (.putfield 98, 3) := by decide +kernel
theorem i_40_83 : kI 40 83 = some (.goto 161, 3) := by decide +kernel
theorem i_40_86 : kI 40 86 = some (.aload_n 1, 1) := by decide +kernel
theorem i_40_87 : kI 40 87 = some (.aload_n 0, 1) := by decide +kernel
theorem i_40_88 : kI 40 88 = some (.invokevirtual 46, 3) := by decide +kernel
theorem i_40_91 : kI 40 91 = some (.putfield 102, 3) := by decide +kernel
theorem i_40_94 : kI 40 94 = some (.aload_n 1, 1) := by decide +kernel
theorem i_40_95 : kI 40 95 = some (.aload_n 0, 1) := by decide +kernel
theorem i_40_96 : kI 40 96 = some (.iconst 0, 1) := by decide +kernel
theorem i_40_97 : kI 40 97 = some (.iconst 5, 1) := by decide +kernel
theorem i_40_98 : kI 40 98 = some (.invokevirtual 54, 3) := by decide +kernel
theorem i_40_101 : kI 40 101 = some (.putfield 105, 3) := by decide +kernel
theorem i_40_104 : kI 40 104 = some (.aload_n 1, 1) := by decide +kernel
theorem i_40_105 : kI 40 105 = some (.aload_n 0, 1) := by decide +kernel
theorem i_40_106 : kI 40 106 = some (.invokevirtual 46, 3) := by decide +kernel
theorem i_40_109 : kI 40 109 = some (.putfield 108, 3) := by decide +kernel
theorem i_40_112 : kI 40 112 = some (.goto 132, 3) := by decide +kernel
theorem i_40_115 : kI 40 115 = some (.aload_n 1, 1) := by decide +kernel
theorem i_40_116 : kI 40 116 = some (.aload_n 0, 1) := by decide +kernel
theorem i_40_117 : kI 40 117 = some (.iconst 1, 1) := by decide +kernel
theorem i_40_118 : kI 40 118 = some (.bipush 8, 2) := by decide +kernel
theorem i_40_120 : kI 40 120 = some (.invokevirtual 54, 3) := by decide +kernel
theorem i_40_123 : kI 40 123 = some (.putfield 108, 3) := by decide +kernel
theorem i_40_126 : kI 40 126 = some (.iconst 0, 1) := by decide +kernel
theorem i_40_127 : kI 40 127 = some (.istore_n 3, 1) := by decide +kernel
theorem i_40_128 : kI 40 128 = some (.iload_n 3, 1) := by decide +kernel
theorem i_40_129 : kI 40 129 = some (.aload_n 1, 1) := by decide +kernel
theorem i_40_130 : kI 40 130 = some (.getfield 108, 3) := by decide +kernel
theorem i_40_133 : kI 40 133 = some (.if_icmp .ge 25, 3) := by decide +kernel
theorem i_40_136 : kI 40 136 = some (.iload_n 3, 1) := by decide +kernel
theorem i_40_137 : kI 40 137 = some (.bipush 8, 2) := by decide +kernel
theorem i_40_139 : kI 40 139 = some (.if_icmp .ge 19, 3) := by decide +kernel
theorem i_40_142 : kI 40 142 = some (.aload_n 1, 1) := by decide +kernel
theorem i_40_143 : kI 40 143 = some (.getfield 111, 3) := by decide +kernel
theorem i_40_146 : kI 40 146 = some (.iload_n 3, 1) := by decide +kernel
theorem i_40_147 : kI 40 147 = some (.aload_n 0, 1) := by decide +kernel
theorem i_40_148 : kI 40 148 = some (.invokevirtual 46, 3) := by decide +kernel
theorem i_40_151 : kI 40 151 = some (.iastore, 1) := by decide +kernel
theorem i_40_152 : kI 40 152 = some (.iinc 3 1, 3) := by decide +kernel
theorem i_40_155 : kI 40 155 = some (.goto (-27), 3) := by decide +kernel
theorem i_40_158 : kI 40 158 = some (.goto 86, 3) := by decide +kernel
theorem i_40_161 : kI 40 161 = some (.aload_n 1, 1) := by decide +kernel
theorem i_40_162 : kI 40 162 = some (.aload_n 0, 1) := by decide +kernel
theorem i_40_163 : kI 40 163 = some (.invokevirtual 46, 3) := by decide +kernel
theorem i_40_166 : kI 40 166 = some (.putfield 102, 3) := by decide +kernel
theorem i_40_169 : kI 40 169 = some (.aload_n 1, 1) := by decide +kernel
theorem i_40_170 : kI 40 170 = some (.aload_n 0, 1) := by decide +kernel
theorem i_40_171 : kI 40 171 = some (.invokevirtual 46, 3) := by decide +kernel
theorem i_40_174 : kI 40 174 = some (.putfield 114, 3) := by decide +kernel
theorem i_40_177 : kI 40 177 = some (.goto 67, 3) := by decide +kernel
theorem i_40_180 : kI 40 180 = some (.aload_n 1, 1) := by decide +kernel
theorem i_40_181 : kI 40 181 = some (.aload_n 0, 1) := by decide +kernel
theorem i_40_182 : kI 40 182 = some (.invokevirtual 46, 3) := by decide +kernel
theorem i_40_185 : kI 40 185 = some (.putfield 102, 3) := by decide +kernel
theorem i_40_188 : kI 40 188 = some (.aload_n 1, 1) := by decide +kernel
theorem i_40_189 : kI 40 189 = some (.aload_n 0, 1) := by decide +kernel
theorem i_40_190 : kI 40 190 = some (.iconst 0, 1) := by decide +kernel
theorem i_40_191 : kI 40 191 = some (.iconst 1, 1) := by decide +kernel
theorem i_40_192 : kI 40 192 = some (.invokevirtual 54, 3) := by decide +kernel
theorem i_40_195 : kI 40 195 = some (.putfield 105, 3) := by decide +kernel
theorem i_40_198 : kI 40 198 = some (.goto 46, 3) := by decide +kernel
theorem i_40_201 : kI 40 201 = some (.aload_n 1, 1) := by decide +kernel
theorem i_40_202 : kI 40 202 = some (.aload_n 0, 1) := by decide +kernel
theorem i_40_203 : kI 40 203 = some (.iconst 0, 1) := by decide +kernel
theorem i_40_204 : kI 40 204 = some (.bipush 100, 2) := by decide +kernel
theorem i_40_206 : kI 40 206 = some (.invokevirtual 54, 3) := by decide +kernel
theorem i_40_209 : kI 40 209 = some (.putfield 108, 3) := by decide +kernel
theorem i_40_212 : kI 40 212 = some (.goto 32, 3) := by decide +kernel
theorem i_40_215 : kI 40 215 = some (.aload_n 1, 1) := by decide +kernel
theorem i_40_216 : kI 40 216 = some (.aload_n 0, 1) := by decide +kernel
theorem i_40_217 : kI 40 217 = some (.invokevirtual 46, 3) := by decide +kernel
theorem i_40_220 : kI 40 220 = some (.putfield 102, 3) := by decide +kernel
theorem i_40_223 : kI 40 223 = some (.aload_n 1, 1) := by decide +kernel
theorem i_40_224 : kI 40 224 = some (.aload_n 0, 1) := by decide +kernel
theorem i_40_225 : kI 40 225 = some (.iconst 0, 1) := by decide +kernel
theorem i_40_226 : kI 40 226 = some (.iconst 3, 1) := by decide +kernel
theorem i_40_227 : kI 40 227 = some (.invokevirtual 54, 3) := by decide +kernel
theorem i_40_230 : kI 40 230 = some (.putfield 105, 3) := by decide +kernel
theorem i_40_233 : kI 40 233 = some (.aload_n 1, 1) := by decide +kernel
theorem i_40_234 : kI 40 234 = some (.aload_n 0, 1) := by decide +kernel
theorem i_40_235 : kI 40 235 = some (.invokevirtual 46, 3) := by decide +kernel
theorem i_40_238 : kI 40 238 = some (.putfield 114, 3) := by decide +kernel
theorem i_40_241 : kI 40 241 = some (.goto 3, 3) := by decide +kernel
theorem i_40_244 : kI 40 244 = some (.return_, 1) := by decide +kernel
theorem i_41_0 : kI 41 0 = some (.aload_n 0, 1) := by decide +kernel
theorem i_41_1 : kI 41 1 = some (.getfield 73, 3) := by decide +kernel
theorem i_41_4 : kI 41 4 = some (.invokestatic 117, 3) := by decide +kernel
theorem i_41_7 : kI 41 7 = some (.istore_n 1, 1) := by decide +kernel
theorem i_41_8 : kI 41 8 = some (.aload_n 0, 1) := by decide +kernel
theorem i_41_9 : kI 41 9 = some (.getfield 77, 3) := by decide +kernel
theorem i_41_12 : kI 41 12 = some (.invokestatic 117, 3) := by decide +kernel
theorem i_41_15 : kI 41 15 = some (.istore_n 2, 1) := by decide +kernel
theorem i_41_16 : kI 41 16 = some (.aload_n 0, 1) := by decide +kernel
theorem i_41_17 : kI 41 17 = some (.getfield 66, 3) := by decide +kernel
theorem i_41_20 : kI 41 20 = some (.tableswitch 188 0 10 #[60, 79, 96, 113, 117, 147, 188, 79, 188, 158, 160], 60) := by decide +kernel
theorem i_41_80 : kI 41 80 = some (.aload_n 0, 1) := by decide +kernel
theorem i_41_81 : kI 41 81 = some (.getfield 98, 3) := by decide +kernel
theorem i_41_84 : kI 41 84 = some (.ifnonnull 7, 3) := by decide +kernel
theorem i_41_87 : kI 41 87 = some (.iconst 0, 1) := by decide +kernel
theorem i_41_88 : kI 41 88 = some (.goto 10, 3) := by decide +kernel
theorem i_41_91 : kI 41 91 = some (.aload_n 0, 1) := by decide +kernel
theorem i_41_92 : kI 41 92 = some (.getfield 98, 3) := by decide +kernel
theorem i_41_95 : kI 41 95 = some (.getfield 120, 3) := by decide +kernel
theorem i_41_98 : kI 41 98 = some (.ireturn, 1) := by decide +kernel
theorem i_41_99 : kI 41 99 = some (.aload_n 0, 1) := by decide +kernel
theorem i_41_100 : kI 41 100 = some (.getfield 102, 3) := by decide +kernel
theorem i_41_103 : kI 41 103 = some (.iload_n 1, 1) := by decide +kernel
theorem i_41_104 : kI 41 104 = some (.invokestatic 125, 3) := by decide +kernel
theorem i_41_107 : kI 41 107 = some (.ifCond .eq 7, 3) := by decide +kernel
theorem i_41_110 : kI 41 110 = some (.iload_n 1, 1) := by decide +kernel
theorem i_41_111 : kI 41 111 = some (.goto 4, 3) := by decide +kernel
theorem i_41_114 : kI 41 114 = some (.iconst 0, 1) := by decide +kernel
theorem i_41_115 : kI 41 115 = some (.ireturn, 1) := by decide +kernel
theorem i_41_116 : kI 41 116 = some (.aload_n 0, 1) := by decide +kernel
theorem i_41_117 : kI 41 117 = some (.iload_n 1, 1) := by decide +kernel
theorem i_41_118 : kI 41 118 = some (.invokestatic 129, 3) := by decide +kernel
theorem i_41_121 : kI 41 121 = some (.ifCond .eq 10, 3) := by decide +kernel
theorem i_41_124 : kI 41 124 = some (.aload_n 0, 1) := by decide +kernel
theorem i_41_125 : kI 41 125 = some (.getfield 108, 3) := by decide +kernel
theorem i_41_128 : kI 41 128 = some (.goto 4, 3) := by decide +kernel
theorem i_41_131 : kI 41 131 = some (.iconst 0, 1) := by decide +kernel
theorem i_41_132 : kI 41 132 = some (.ireturn, 1) := by decide +kernel
theorem i_41_133 : kI 41 133 = some (.iload_n 1, 1) := by decide +kernel
theorem i_41_134 : kI 41 134 = some (.iload_n 2, 1) := by decide +kernel
theorem i_41_135 : kI 41 135 = some (.iadd, 1) := by decide +kernel
theorem i_41_136 : kI 41 136 = some (.ireturn, 1) := by decide +kernel
theorem i_41_137 : kI 41 137 = some (.aload_n 0, 1) := by decide +kernel
theorem i_41_138 : kI 41 138 = some (.getfield 102, 3) := by decide +kernel
theorem i_41_141 : kI 41 141 = some (.iload_n 1, 1) := by decide +kernel
theorem i_41_142 : kI 41 142 = some (.invokestatic 125, 3) := by decide +kernel
theorem i_41_145 : kI 41 145 = some (.ifCond .eq 20, 3) := by decide +kernel
theorem i_41_148 : kI 41 148 = some (.aload_n 0, 1) := by decide +kernel
theorem i_41_149 : kI 41 149 = some (.getfield 114, 3) := by decide +kernel
theorem i_41_152 : kI 41 152 = some (.iload_n 2, 1) := by decide +kernel
theorem i_41_153 : kI 41 153 = some (.invokestatic 125, 3) := by decide +kernel
theorem i_41_156 : kI 41 156 = some (.ifCond .eq 9, 3) := by decide +kernel
theorem i_41_159 : kI 41 159 = some (.iload_n 1, 1) := by decide +kernel
theorem i_41_160 : kI 41 160 = some (.iload_n 2, 1) := by decide +kernel
theorem i_41_161 : kI 41 161 = some (.iadd, 1) := by decide +kernel
theorem i_41_162 : kI 41 162 = some (.goto 4, 3) := by decide +kernel
theorem i_41_165 : kI 41 165 = some (.iconst 0, 1) := by decide +kernel
theorem i_41_166 : kI 41 166 = some (.ireturn, 1) := by decide +kernel
theorem i_41_167 : kI 41 167 = some (.iload_n 1, 1) := by decide +kernel
theorem i_41_168 : kI 41 168 = some (.iload_n 2, 1) := by decide +kernel
theorem i_41_169 : kI 41 169 = some (.if_icmp .ne 7, 3) := by decide +kernel
theorem i_41_172 : kI 41 172 = some (.iload_n 1, 1) := by decide +kernel
theorem i_41_173 : kI 41 173 = some (.goto 4, 3) := by decide +kernel
theorem i_41_176 : kI 41 176 = some (.iconst 0, 1) := by decide +kernel
theorem i_41_177 : kI 41 177 = some (.ireturn, 1) := by decide +kernel
theorem i_41_178 : kI 41 178 = some (.iconst 1, 1) := by decide +kernel
theorem i_41_179 : kI 41 179 = some (.ireturn, 1) := by decide +kernel
theorem i_41_180 : kI 41 180 = some (.aload_n 0, 1) := by decide +kernel
theorem i_41_181 : kI 41 181 = some (.getfield 102, 3) := by decide +kernel
theorem i_41_184 : kI 41 184 = some (.iload_n 1, 1) := by decide +kernel
theorem i_41_185 : kI 41 185 = some (.invokestatic 125, 3) := by decide +kernel
theorem i_41_188 : kI 41 188 = some (.ifCond .eq 18, 3) := by decide +kernel
theorem i_41_191 : kI 41 191 = some (.aload_n 0, 1) := by decide +kernel
theorem i_41_192 : kI 41 192 = some (.getfield 114, 3) := by decide +kernel
theorem i_41_195 : kI 41 195 = some (.iload_n 1, 1) := by decide +kernel
theorem i_41_196 : kI 41 196 = some (.invokestatic 125, 3) := by decide +kernel
theorem i_41_199 : kI 41 199 = some (.ifCond .eq 7, 3) := by decide +kernel
theorem i_41_202 : kI 41 202 = some (.iconst 2, 1) := by decide +kernel
theorem i_41_203 : kI 41 203 = some (.goto 4, 3) := by decide +kernel
theorem i_41_206 : kI 41 206 = some (.iconst 0, 1) := by decide +kernel
theorem i_41_207 : kI 41 207 = some (.ireturn, 1) := by decide +kernel
theorem i_41_208 : kI 41 208 = some (.iload_n 1, 1) := by decide +kernel
theorem i_41_209 : kI 41 209 = some (.ireturn, 1) := by decide +kernel
theorem i_42_0 : kI 42 0 = some (.iload_n 0, 1) := by decide +kernel
theorem i_42_1 : kI 42 1 = some (.ifCond .lt 12, 3) := by decide +kernel
theorem i_42_4 : kI 42 4 = some (.iload_n 0, 1) := by decide +kernel
theorem i_42_5 : kI 42 5 = some (.iload_n 1, 1) := by decide +kernel
theorem i_42_6 : kI 42 6 = some (.if_icmp .ge 7, 3) := by decide +kernel
theorem i_42_9 : kI 42 9 = some (.iconst 1, 1) := by decide +kernel
theorem i_42_10 : kI 42 10 = some (.goto 4, 3) := by decide +kernel
theorem i_42_13 : kI 42 13 = some (.iconst 0, 1) := by decide +kernel
theorem i_42_14 : kI 42 14 = some (.ireturn, 1) := by decide +kernel
theorem i_43_0 : kI 43 0 = some (.iconst 0, 1) := by decide +kernel
theorem i_43_1 : kI 43 1 = some (.istore_n 2, 1) := by decide +kernel
theorem i_43_2 : kI 43 2 = some (.iload_n 2, 1) := by decide +kernel
theorem i_43_3 : kI 43 3 = some (.aload_n 0, 1) := by decide +kernel
theorem i_43_4 : kI 43 4 = some (.getfield 108, 3) := by decide +kernel
theorem i_43_7 : kI 43 7 = some (.if_icmp .ge 30, 3) := by decide +kernel
theorem i_43_10 : kI 43 10 = some (.iload_n 2, 1) := by decide +kernel
theorem i_43_11 : kI 43 11 = some (.bipush 8, 2) := by decide +kernel
theorem i_43_13 : kI 43 13 = some (.if_icmp .ge 24, 3) := by decide +kernel
theorem i_43_16 : kI 43 16 = some (.aload_n 0, 1) := by decide +kernel
theorem i_43_17 : kI 43 17 = some (.getfield 111, 3) := by decide +kernel
theorem i_43_20 : kI 43 20 = some (.iload_n 2, 1) := by decide +kernel
theorem i_43_21 : kI 43 21 = some (.iaload, 1) := by decide +kernel
theorem i_43_22 : kI 43 22 = some (.iload_n 1, 1) := by decide +kernel
theorem i_43_23 : kI 43 23 = some (.invokestatic 125, 3) := by decide +kernel
theorem i_43_26 : kI 43 26 = some (.ifCond .ne 5, 3) := by decide +kernel
theorem i_43_29 : kI 43 29 = some (.iconst 0, 1) := by decide +kernel
theorem i_43_30 : kI 43 30 = some (.ireturn, 1) := by decide +kernel
theorem i_43_31 : kI 43 31 = some (.iinc 2 1, 3) := by decide +kernel
theorem i_43_34 : kI 43 34 = some (.goto (-32), 3) := by decide +kernel
theorem i_43_37 : kI 43 37 = some (.iconst 1, 1) := by decide +kernel
theorem i_43_38 : kI 43 38 = some (.ireturn, 1) := by decide +kernel
theorem i_44_0 : kI 44 0 = some (.aload_n 0, 1) := by decide +kernel
theorem i_44_1 : kI 44 1 = some (.getfield 73, 3) := by decide +kernel
theorem i_44_4 : kI 44 4 = some (.astore_n 1, 1) := by decide +kernel
theorem i_44_5 : kI 44 5 = some (.aload_n 0, 1) := by decide +kernel
theorem i_44_6 : kI 44 6 = some (.getfield 66, 3) := by decide +kernel
theorem i_44_9 : kI 44 9 = some (.iconst 1, 1) := by decide +kernel
theorem i_44_10 : kI 44 10 = some (.if_icmp .ne 21, 3) := by decide +kernel
theorem i_44_13 : kI 44 13 = some (.aload_n 0, 1) := by decide +kernel
theorem i_44_14 : kI 44 14 = some (.getfield 105, 3) := by decide +kernel
theorem i_44_17 : kI 44 17 = some (.ifCond .ne 14, 3) := by decide +kernel
theorem i_44_20 : kI 44 20 = some (.aload_n 1, 1) := by decide +kernel
theorem i_44_21 : kI 44 21 = some (.ifnull 10, 3) := by decide +kernel
theorem i_44_24 : kI 44 24 = some (.aload_n 1, 1) := by decide +kernel
theorem i_44_25 : kI 44 25 = some (.getfield 66, 3) := by decide +kernel
theorem i_44_28 : kI 44 28 = some (.ifCond .eq 4, 3) := by decide +kernel
theorem i_44_31 : kI 44 31 = some (.return_, 1) := by decide +kernel
theorem i_44_32 : kI 44 32 = some (.aload_n 1, 1) := by decide +kernel
theorem i_44_33 : kI 44 33 = some (.getfield 98, 3) := by decide +kernel
theorem i_44_36 : kI 44 36 = some (.astore_n 2, 1) := by decide +kernel
theorem i_44_37 : kI 44 37 = some (.aload_n 2, 1) := by decide +kernel
theorem i_44_38 : kI 44 38 = some (.ifnull 31, 3) := by decide +kernel
theorem i_44_41 : kI 44 41 = some (.aload_n 2, 1) := by decide +kernel
theorem i_44_42 : kI 44 42 = some (.aload_n 0, 1) := by decide +kernel
theorem i_44_43 : kI 44 43 = some (.getfield 102, 3) := by decide +kernel
theorem i_44_46 : kI 44 46 = some (.invokevirtual 133, 3) := by decide +kernel
theorem i_44_49 : kI 44 49 = some (.ifCond .eq 20, 3) := by decide +kernel
theorem i_44_52 : kI 44 52 = some (.aload_n 2, 1) := by decide +kernel
theorem i_44_53 : kI 44 53 = some (.getfield 137, 3) := by decide +kernel
theorem i_44_56 : kI 44 56 = some (.aload_n 0, 1) := by decide +kernel
theorem i_44_57 : kI 44 57 = some (.getfield 102, 3) := by decide +kernel
theorem i_44_60 : kI 44 60 = some (.baload, 1) := by decide +kernel
theorem i_44_61 : kI 44 61 = some (.ifCond .eq 8, 3) := by decide +kernel
theorem i_44_64 : kI 44 64 = some (.aload_n 0, 1) := by decide +kernel
theorem i_44_65 : kI 44 65 = some (.aload_n 2, 1) := by decide +kernel
theorem i_44_66 : kI 44 66 = some (.putfield 98, 3) := by decide +kernel
theorem i_44_69 : kI 44 69 = some (.return_, 1) := by decide +kernel
theorem i_45_0 : kI 45 0 = some (.aload_n 0, 1) := by decide +kernel
theorem i_45_1 : kI 45 1 = some (.invokespecial 3, 3) := by decide +kernel
theorem i_45_4 : kI 45 4 = some (.return_, 1) := by decide +kernel
theorem i_46_0 : kI 46 0 = some (.aload_n 0, 1) := by decide +kernel
theorem i_46_1 : kI 46 1 = some (.iconst 0, 1) := by decide +kernel
theorem i_46_2 : kI 46 2 = some (.putfield 9, 3) := by decide +kernel
theorem i_46_5 : kI 46 5 = some (.aload_n 0, 1) := by decide +kernel
theorem i_46_6 : kI 46 6 = some (.aload_n 1, 1) := by decide +kernel
theorem i_46_7 : kI 46 7 = some (.iconst 0, 1) := by decide +kernel
theorem i_46_8 : kI 46 8 = some (.invokevirtual 15, 3) := by decide +kernel
theorem i_46_11 : kI 46 11 = some (.return_, 1) := by decide +kernel
theorem i_47_0 : kI 47 0 = some (.aload_n 0, 1) := by decide +kernel
theorem i_47_1 : kI 47 1 = some (.iload_n 2, 1) := by decide +kernel
theorem i_47_2 : kI 47 2 = some (.putfield 19, 3) := by decide +kernel
theorem i_47_5 : kI 47 5 = some (.aload_n 0, 1) := by decide +kernel
theorem i_47_6 : kI 47 6 = some (.aload_n 1, 1) := by decide +kernel
theorem i_47_7 : kI 47 7 = some (.iconst 0, 1) := by decide +kernel
theorem i_47_8 : kI 47 8 = some (.invokevirtual 22, 3) := by decide +kernel
theorem i_47_11 : kI 47 11 = some (.ireturn, 1) := by decide +kernel
theorem i_48_0 : kI 48 0 = some (.aload_n 1, 1) := by decide +kernel
theorem i_48_1 : kI 48 1 = some (.ifnull 9, 3) := by decide +kernel
theorem i_48_4 : kI 48 4 = some (.iload_n 2, 1) := by decide +kernel
theorem i_48_5 : kI 48 5 = some (.bipush 10, 2) := by decide +kernel
theorem i_48_7 : kI 48 7 = some (.if_icmp .lt 4, 3) := by decide +kernel
theorem i_48_10 : kI 48 10 = some (.return_, 1) := by decide +kernel
theorem i_48_11 : kI 48 11 = some (.aload_n 1, 1) := by decide +kernel
theorem i_48_12 : kI 48 12 = some (.invokevirtual 26, 3) := by decide +kernel
theorem i_48_15 : kI 48 15 = some (.aload_n 0, 1) := by decide +kernel
theorem i_48_16 : kI 48 16 = some (.aload_n 1, 1) := by decide +kernel
theorem i_48_17 : kI 48 17 = some (.getfield 31, 3) := by decide +kernel
theorem i_48_20 : kI 48 20 = some (.iload_n 2, 1) := by decide +kernel
theorem i_48_21 : kI 48 21 = some (.iconst 1, 1) := by decide +kernel
theorem i_48_22 : kI 48 22 = some (.iadd, 1) := by decide +kernel
theorem i_48_23 : kI 48 23 = some (.invokevirtual 15, 3) := by decide +kernel
theorem i_48_26 : kI 48 26 = some (.aload_n 0, 1) := by decide +kernel
theorem i_48_27 : kI 48 27 = some (.aload_n 1, 1) := by decide +kernel
theorem i_48_28 : kI 48 28 = some (.getfield 35, 3) := by decide +kernel
theorem i_48_31 : kI 48 31 = some (.iload_n 2, 1) := by decide +kernel
theorem i_48_32 : kI 48 32 = some (.iconst 1, 1) := by decide +kernel
theorem i_48_33 : kI 48 33 = some (.iadd, 1) := by decide +kernel
theorem i_48_34 : kI 48 34 = some (.invokevirtual 15, 3) := by decide +kernel
theorem i_48_37 : kI 48 37 = some (.return_, 1) := by decide +kernel
theorem i_49_0 : kI 49 0 = some (.aload_n 1, 1) := by decide +kernel
theorem i_49_1 : kI 49 1 = some (.ifnull 9, 3) := by decide +kernel
theorem i_49_4 : kI 49 4 = some (.iload_n 2, 1) := by decide +kernel
theorem i_49_5 : kI 49 5 = some (.bipush 10, 2) := by decide +kernel
theorem i_49_7 : kI 49 7 = some (.if_icmp .lt 5, 3) := by decide +kernel
theorem i_49_10 : kI 49 10 = some (.iconst 0, 1) := by decide +kernel
theorem i_49_11 : kI 49 11 = some (.ireturn, 1) := by decide +kernel
theorem i_49_12 : kI 49 12 = some (.aload_n 1, 1) := by decide +kernel
theorem i_49_13 : kI 49 13 = some (.getfield 38, 3) := by decide +kernel
theorem i_49_16 : kI 49 16 = some (.tableswitch 126 0 9 #[56, 62, 84, 91, 91, 98, 105, 126, 112, 119], 56) := by decide +kernel
theorem i_49_72 : kI 49 72 = some (.aload_n 0, 1) := by decide +kernel
theorem i_49_73 : kI 49 73 = some (.aload_n 1, 1) := by decide +kernel
theorem i_49_74 : kI 49 74 = some (.invokevirtual 41, 3) := by decide +kernel
theorem i_49_77 : kI 49 77 = some (.ireturn, 1) := by decide +kernel
theorem i_49_78 : kI 49 78 = some (.aload_n 1, 1) := by decide +kernel
theorem i_49_79 : kI 49 79 = some (.getfield 45, 3) := by decide +kernel
theorem i_49_82 : kI 49 82 = some (.ifnonnull 12, 3) := by decide +kernel
theorem i_49_85 : kI 49 85 = some (.aload_n 0, 1) := by decide +kernel
theorem i_49_86 : kI 49 86 = some (.aload_n 1, 1) := by decide +kernel
theorem i_49_87 : kI 49 87 = some (.iload_n 2, 1) := by decide +kernel
theorem i_49_88 : kI 49 88 = some (.invokevirtual 49, 3) := by decide +kernel
theorem i_49_91 : kI 49 91 = some (.goto 8, 3) := by decide +kernel
theorem i_49_94 : kI 49 94 = some (.aload_n 0, 1) := by decide +kernel
theorem i_49_95 : kI 49 95 = some (.aload_n 1, 1) := by decide +kernel
theorem i_49_96 : kI 49 96 = some (.invokevirtual 52, 3) := by decide +kernel
theorem i_49_99 : kI 49 99 = some (.ireturn, 1) := by decide +kernel
theorem i_49_100 : kI 49 100 = some (.aload_n 0, 1) := by decide +kernel
theorem i_49_101 : kI 49 101 = some (.aload_n 1, 1) := by decide +kernel
theorem i_49_102 : kI 49 102 = some (.iload_n 2, 1) := by decide +kernel
theorem i_49_103 : kI 49 103 = some (.invokevirtual 55, 3) := by decide +kernel
theorem i_49_106 : kI 49 106 = some (.ireturn, 1) := by decide +kernel
theorem i_49_107 : kI 49 107 = some (.aload_n 0, 1) := by decide +kernel
theorem i_49_108 : kI 49 108 = some (.aload_n 1, 1) := by decide +kernel
theorem i_49_109 : kI 49 109 = some (.iload_n 2, 1) := by decide +kernel
theorem i_49_110 : kI 49 110 = some (.invokevirtual 58, 3) := by decide +kernel
theorem i_49_113 : kI 49 113 = some (.ireturn, 1) := by decide +kernel
theorem i_49_114 : kI 49 114 = some (.aload_n 0, 1) := by decide +kernel
theorem i_49_115 : kI 49 115 = some (.aload_n 1, 1) := by decide +kernel
theorem i_49_116 : kI 49 116 = some (.iload_n 2, 1) := by decide +kernel
theorem i_49_117 : kI 49 117 = some (.invokevirtual 61, 3) := by decide +kernel
theorem i_49_120 : kI 49 120 = some (.ireturn, 1) := by decide +kernel
theorem i_49_121 : kI 49 121 = some (.aload_n 0, 1) := by decide +kernel
theorem i_49_122 : kI 49 122 = some (.aload_n 1, 1) := by decide +kernel
theorem i_49_123 : kI 49 123 = some (.iload_n 2, 1) := by decide +kernel
theorem i_49_124 : kI 49 124 = some (.invokevirtual 64, 3) := by decide +kernel
theorem i_49_127 : kI 49 127 = some (.ireturn, 1) := by decide +kernel
theorem i_49_128 : kI 49 128 = some (.aload_n 0, 1) := by decide +kernel
theorem i_49_129 : kI 49 129 = some (.aload_n 1, 1) := by decide +kernel
theorem i_49_130 : kI 49 130 = some (.iload_n 2, 1) := by decide +kernel
theorem i_49_131 : kI 49 131 = some (.invokevirtual 67, 3) := by decide +kernel
theorem i_49_134 : kI 49 134 = some (.ireturn, 1) := by decide +kernel
theorem i_49_135 : kI 49 135 = some (.aload_n 0, 1) := by decide +kernel
theorem i_49_136 : kI 49 136 = some (.aload_n 1, 1) := by decide +kernel
theorem i_49_137 : kI 49 137 = some (.iload_n 2, 1) := by decide +kernel
theorem i_49_138 : kI 49 138 = some (.invokevirtual 70, 3) := by decide +kernel
theorem i_49_141 : kI 49 141 = some (.ireturn, 1) := by decide +kernel
theorem i_49_142 : kI 49 142 = some (.aload_n 0, 1) := by decide +kernel
theorem i_49_143 : kI 49 143 = some (.aload_n 1, 1) := by decide +kernel
theorem i_49_144 : kI 49 144 = some (.iload_n 2, 1) := by decide +kernel
theorem i_49_145 : kI 49 145 = some (.invokevirtual 73, 3) := by decide +kernel
theorem i_49_148 : kI 49 148 = some (.ireturn, 1) := by decide +kernel
theorem i_50_0 : kI 50 0 = some (.aload_n 1, 1) := by decide +kernel
theorem i_50_1 : kI 50 1 = some (.getfield 45, 3) := by decide +kernel
theorem i_50_4 : kI 50 4 = some (.ifnonnull 7, 3) := by decide +kernel
theorem i_50_7 : kI 50 7 = some (.iconst 0, 1) := by decide +kernel
theorem i_50_8 : kI 50 8 = some (.goto 16, 3) := by decide +kernel
theorem i_50_11 : kI 50 11 = some (.aload_n 0, 1) := by decide +kernel
theorem i_50_12 : kI 50 12 = some (.aload_n 1, 1) := by decide +kernel
theorem i_50_13 : kI 50 13 = some (.aload_n 1, 1) := by decide +kernel
theorem i_50_14 : kI 50 14 = some (.getfield 45, 3) := by decide +kernel
theorem i_50_17 : kI 50 17 = some (.aload_n 1, 1) := by decide +kernel
theorem i_50_18 : kI 50 18 = some (.getfield 76, 3) := by decide +kernel
theorem i_50_21 : kI 50 21 = some (.invokevirtual 79, 3) := by decide +kernel
theorem i_50_24 : kI 50 24 = some (.ireturn, 1) := by decide +kernel
theorem i_51_0 : kI 51 0 = some (.aload_n 1, 1) := by decide +kernel
theorem i_51_1 : kI 51 1 = some (.getfield 45, 3) := by decide +kernel
theorem i_51_4 : kI 51 4 = some (.astore_n 2, 1) := by decide +kernel
theorem i_51_5 : kI 51 5 = some (.aload_n 2, 1) := by decide +kernel
theorem i_51_6 : kI 51 6 = some (.ifnonnull 5, 3) := by decide +kernel
theorem i_51_9 : kI 51 9 = some (.iconst 0, 1) := by decide +kernel
theorem i_51_10 : kI 51 10 = some (.ireturn, 1) := by decide +kernel
theorem i_51_11 : kI 51 11 = some (.aload_n 0, 1) := by decide +kernel
theorem i_51_12 : kI 51 12 = some (.aload_n 1, 1) := by decide +kernel
theorem i_51_13 : kI 51 13 = some (.aload_n 2, 1) := by decide +kernel
theorem i_51_14 : kI 51 14 = some (.aload_n 2, 1) := by decide +kernel
theorem i_51_15 : kI 51 15 = some (.aload_n 1, 1) := by decide +kernel
theorem i_51_16 : kI 51 16 = some (.getfield 76, 3) := by decide +kernel
theorem i_51_19 : kI 51 19 = some (.aload_n 1, 1) := by decide +kernel
theorem i_51_20 : kI 51 20 = some (.getfield 83, 3) := by decide +kernel
theorem i_51_23 : kI 51 23 = some (.aload_n 1, 1) := by decide +kernel
theorem i_51_24 : kI 51 24 = some (.getfield 86, 3) := by decide +kernel
theorem i_51_27 : kI 51 27 = some (.invokevirtual 89, 3) := by decide +kernel
theorem i_51_30 : kI 51 30 = some (.invokevirtual 79, 3) := by decide +kernel
theorem i_51_33 : kI 51 33 = some (.ireturn, 1) := by decide +kernel
theorem i_52_0 : kI 52 0 = some (.aload_n 2, 1) := by decide +kernel
theorem i_52_1 : kI 52 1 = some (.iload_n 3, 1) := by decide +kernel
theorem i_52_2 : kI 52 2 = some (.invokevirtual 95, 3) := by decide +kernel
theorem i_52_5 : kI 52 5 = some (.ifCond .ne 5, 3) := by decide +kernel
theorem i_52_8 : kI 52 8 = some (.iconst 0, 1) := by decide +kernel
theorem i_52_9 : kI 52 9 = some (.ireturn, 1) := by decide +kernel
theorem i_52_10 : kI 52 10 = some (.aload_n 0, 1) := by decide +kernel
theorem i_52_11 : kI 52 11 = some (.getfield 19, 3) := by decide +kernel
theorem i_52_14 : kI 52 14 = some (.iconst 1, 1) := by decide +kernel
theorem i_52_15 : kI 52 15 = some (.if_icmp .ge 5, 3) := by decide +kernel
theorem i_52_18 : kI 52 18 = some (.iconst 2, 1) := by decide +kernel
theorem i_52_19 : kI 52 19 = some (.ireturn, 1) := by decide +kernel
theorem i_52_20 : kI 52 20 = some (.aload_n 0, 1) := by decide +kernel
theorem i_52_21 : kI 52 21 = some (.dup, 1) := by decide +kernel
theorem i_52_22 : kI 52 22 = some (.getfield 19, 3) := by decide +kernel
theorem i_52_25 : kI 52 25 = some (.iconst 1, 1) := by decide +kernel
theorem i_52_26 : kI 52 26 = some (.isub, 1) := by decide +kernel
theorem i_52_27 : kI 52 27 = some (.putfield 19, 3) := by decide +kernel
theorem i_52_30 : kI 52 30 = some (.aload_n 0, 1) := by decide +kernel
theorem i_52_31 : kI 52 31 = some (.dup, 1) := by decide +kernel
theorem i_52_32 : kI 52 32 = some (.getfield 9, 3) := by decide +kernel
theorem i_52_35 : kI 52 35 = some (.iconst 1, 1) := by decide +kernel
theorem i_52_36 : kI 52 36 = some (.iadd, 1) := by decide +kernel
theorem i_52_37 : kI 52 37 = some (.putfield 9, 3) := by decide +kernel
theorem i_52_40 : kI 52 40 = some (.aload_n 2, 1) := by decide +kernel
theorem i_52_41 : kI 52 41 = some (.iload_n 3, 1) := by decide +kernel
theorem i_52_42 : kI 52 42 = some (.aload_n 1, 1) := by decide +kernel
theorem i_52_43 : kI 52 43 = some (.getfield 99, 3) := by decide +kernel
theorem i_52_46 : kI 52 46 = some (.invokevirtual 103, 3) := by decide +kernel
theorem i_52_49 : kI 52 49 = some (.aload_n 1, 1) := by decide +kernel
theorem i_52_50 : kI 52 50 = some (.iload_n 3, 1) := by decide +kernel
theorem i_52_51 : kI 52 51 = some (.iconst 1, 1) := by decide +kernel
theorem i_52_52 : kI 52 52 = some (.iadd, 1) := by decide +kernel
theorem i_52_53 : kI 52 53 = some (.putfield 76, 3) := by decide +kernel
theorem i_52_56 : kI 52 56 = some (.iconst 1, 1) := by decide +kernel
theorem i_52_57 : kI 52 57 = some (.ireturn, 1) := by decide +kernel
theorem i_53_0 : kI 53 0 = some (.iconst 0, 1) := by decide +kernel
theorem i_53_1 : kI 53 1 = some (.istore_n 3, 1) := by decide +kernel
theorem i_53_2 : kI 53 2 = some (.iload_n 3, 1) := by decide +kernel
theorem i_53_3 : kI 53 3 = some (.ldc 107, 2) := by decide +kernel
theorem i_53_5 : kI 53 5 = some (.if_icmp .ge 67, 3) := by decide +kernel
theorem i_53_8 : kI 53 8 = some (.aload_n 0, 1) := by decide +kernel
theorem i_53_9 : kI 53 9 = some (.aload_n 1, 1) := by decide +kernel
theorem i_53_10 : kI 53 10 = some (.getfield 31, 3) := by decide +kernel
theorem i_53_13 : kI 53 13 = some (.iload_n 2, 1) := by decide +kernel
theorem i_53_14 : kI 53 14 = some (.iconst 1, 1) := by decide +kernel
theorem i_53_15 : kI 53 15 = some (.iadd, 1) := by decide +kernel
theorem i_53_16 : kI 53 16 = some (.invokevirtual 22, 3) := by decide +kernel
theorem i_53_19 : kI 53 19 = some (.istore 4, 2) := by decide +kernel
theorem i_53_21 : kI 53 21 = some (.iload 4, 2) := by decide +kernel
theorem i_53_23 : kI 53 23 = some (.iconst 1, 1) := by decide +kernel
theorem i_53_24 : kI 53 24 = some (.if_icmp .eq 6, 3) := by decide +kernel
theorem i_53_27 : kI 53 27 = some (.iload 4, 2) := by decide +kernel
theorem i_53_29 : kI 53 29 = some (.ireturn, 1) := by decide +kernel
theorem i_53_30 : kI 53 30 = some (.aload_n 1, 1) := by decide +kernel
theorem i_53_31 : kI 53 31 = some (.getfield 31, 3) := by decide +kernel
theorem i_53_34 : kI 53 34 = some (.aload_n 1, 1) := by decide +kernel
theorem i_53_35 : kI 53 35 = some (.getfield 83, 3) := by decide +kernel
theorem i_53_38 : kI 53 38 = some (.invokestatic 108, 3) := by decide +kernel
theorem i_53_41 : kI 53 41 = some (.aload_n 1, 1) := by decide +kernel
theorem i_53_42 : kI 53 42 = some (.getfield 111, 3) := by decide +kernel
theorem i_53_45 : kI 53 45 = some (.aload_n 1, 1) := by decide +kernel
theorem i_53_46 : kI 53 46 = some (.getfield 86, 3) := by decide +kernel
theorem i_53_49 : kI 53 49 = some (.invokestatic 114, 3) := by decide +kernel
theorem i_53_52 : kI 53 52 = some (.ifCond .eq 14, 3) := by decide +kernel
theorem i_53_55 : kI 53 55 = some (.aload_n 1, 1) := by decide +kernel
theorem i_53_56 : kI 53 56 = some (.getfield 31, 3) := by decide +kernel
theorem i_53_59 : kI 53 59 = some (.aload_n 1, 1) := by decide +kernel
theorem i_53_60 : kI 53 60 = some (.iconst 0, 1) := by decide +kernel
theorem i_53_61 : kI 53 61 = some (.invokestatic 118, 3) := by decide +kernel
theorem i_53_64 : kI 53 64 = some (.iconst 1, 1) := by decide +kernel
theorem i_53_65 : kI 53 65 = some (.ireturn, 1) := by decide +kernel
theorem i_53_66 : kI 53 66 = some (.iinc 3 1, 3) := by decide +kernel
theorem i_53_69 : kI 53 69 = some (.goto (-67), 3) := by decide +kernel
theorem i_53_72 : kI 53 72 = some (.iconst 2, 1) := by decide +kernel
theorem i_53_73 : kI 53 73 = some (.ireturn, 1) := by decide +kernel
theorem i_54_0 : kI 54 0 = some (.iload_n 1, 1) := by decide +kernel
theorem i_54_1 : kI 54 1 = some (.tableswitch 90 0 4 #[35, 46, 57, 68, 79], 35) := by decide +kernel
theorem i_54_36 : kI 54 36 = some (.iload_n 0, 1) := by decide +kernel
theorem i_54_37 : kI 54 37 = some (.iload_n 2, 1) := by decide +kernel
theorem i_54_38 : kI 54 38 = some (.if_icmp .ne 7, 3) := by decide +kernel
theorem i_54_41 : kI 54 41 = some (.iconst 1, 1) := by decide +kernel
theorem i_54_42 : kI 54 42 = some (.goto 4, 3) := by decide +kernel
theorem i_54_45 : kI 54 45 = some (.iconst 0, 1) := by decide +kernel
theorem i_54_46 : kI 54 46 = some (.ireturn, 1) := by decide +kernel
theorem i_54_47 : kI 54 47 = some (.iload_n 0, 1) := by decide +kernel
theorem i_54_48 : kI 54 48 = some (.iload_n 2, 1) := by decide +kernel
theorem i_54_49 : kI 54 49 = some (.if_icmp .eq 7, 3) := by decide +kernel
theorem i_54_52 : kI 54 52 = some (.iconst 1, 1) := by decide +kernel
theorem i_54_53 : kI 54 53 = some (.goto 4, 3) := by decide +kernel
theorem i_54_56 : kI 54 56 = some (.iconst 0, 1) := by decide +kernel
theorem i_54_57 : kI 54 57 = some (.ireturn, 1) := by decide +kernel
theorem i_54_58 : kI 54 58 = some (.iload_n 0, 1) := by decide +kernel
theorem i_54_59 : kI 54 59 = some (.iload_n 2, 1) := by decide +kernel
theorem i_54_60 : kI 54 60 = some (.if_icmp .ge 7, 3) := by decide +kernel
theorem i_54_63 : kI 54 63 = some (.iconst 1, 1) := by decide +kernel
theorem i_54_64 : kI 54 64 = some (.goto 4, 3) := by decide +kernel
theorem i_54_67 : kI 54 67 = some (.iconst 0, 1) := by decide +kernel
theorem i_54_68 : kI 54 68 = some (.ireturn, 1) := by decide +kernel
theorem i_54_69 : kI 54 69 = some (.iload_n 0, 1) := by decide +kernel
theorem i_54_70 : kI 54 70 = some (.iload_n 2, 1) := by decide +kernel
theorem i_54_71 : kI 54 71 = some (.if_icmp .gt 7, 3) := by decide +kernel
theorem i_54_74 : kI 54 74 = some (.iconst 1, 1) := by decide +kernel
theorem i_54_75 : kI 54 75 = some (.goto 4, 3) := by decide +kernel
theorem i_54_78 : kI 54 78 = some (.iconst 0, 1) := by decide +kernel
theorem i_54_79 : kI 54 79 = some (.ireturn, 1) := by decide +kernel
theorem i_54_80 : kI 54 80 = some (.iload_n 0, 1) := by decide +kernel
theorem i_54_81 : kI 54 81 = some (.iload_n 2, 1) := by decide +kernel
theorem i_54_82 : kI 54 82 = some (.if_icmp .le 7, 3) := by decide +kernel
theorem i_54_85 : kI 54 85 = some (.iconst 1, 1) := by decide +kernel
theorem i_54_86 : kI 54 86 = some (.goto 4, 3) := by decide +kernel
theorem i_54_89 : kI 54 89 = some (.iconst 0, 1) := by decide +kernel
theorem i_54_90 : kI 54 90 = some (.ireturn, 1) := by decide +kernel
theorem i_54_91 : kI 54 91 = some (.iload_n 0, 1) := by decide +kernel
theorem i_54_92 : kI 54 92 = some (.iload_n 2, 1) := by decide +kernel
theorem i_54_93 : kI 54 93 = some (.if_icmp .lt 7, 3) := by decide +kernel
theorem i_54_96 : kI 54 96 = some (.iconst 1, 1) := by decide +kernel
theorem i_54_97 : kI 54 97 = some (.goto 4, 3) := by decide +kernel
theorem i_54_100 : kI 54 100 = some (.iconst 0, 1) := by decide +kernel
theorem i_54_101 : kI 54 101 = some (.ireturn, 1) := by decide +kernel
theorem i_55_0 : kI 55 0 = some (.aload_n 0, 1) := by decide +kernel
theorem i_55_1 : kI 55 1 = some (.aload_n 1, 1) := by decide +kernel
theorem i_55_2 : kI 55 2 = some (.getfield 31, 3) := by decide +kernel
theorem i_55_5 : kI 55 5 = some (.iload_n 2, 1) := by decide +kernel
theorem i_55_6 : kI 55 6 = some (.iconst 1, 1) := by decide +kernel
theorem i_55_7 : kI 55 7 = some (.iadd, 1) := by decide +kernel
theorem i_55_8 : kI 55 8 = some (.invokevirtual 22, 3) := by decide +kernel
theorem i_55_11 : kI 55 11 = some (.istore_n 3, 1) := by decide +kernel
theorem i_55_12 : kI 55 12 = some (.iload_n 3, 1) := by decide +kernel
theorem i_55_13 : kI 55 13 = some (.iconst 1, 1) := by decide +kernel
theorem i_55_14 : kI 55 14 = some (.if_icmp .ne 49, 3) := by decide +kernel
theorem i_55_17 : kI 55 17 = some (.iconst 0, 1) := by decide +kernel
theorem i_55_18 : kI 55 18 = some (.istore 4, 2) := by decide +kernel
theorem i_55_20 : kI 55 20 = some (.iload 4, 2) := by decide +kernel
theorem i_55_22 : kI 55 22 = some (.aload_n 1, 1) := by decide +kernel
theorem i_55_23 : kI 55 23 = some (.getfield 121, 3) := by decide +kernel
theorem i_55_26 : kI 55 26 = some (.if_icmp .ge 37, 3) := by decide +kernel
theorem i_55_29 : kI 55 29 = some (.iload 4, 2) := by decide +kernel
theorem i_55_31 : kI 55 31 = some (.bipush 8, 2) := by decide +kernel
theorem i_55_33 : kI 55 33 = some (.if_icmp .ge 30, 3) := by decide +kernel
theorem i_55_36 : kI 55 36 = some (.aload_n 1, 1) := by decide +kernel
theorem i_55_37 : kI 55 37 = some (.getfield 99, 3) := by decide +kernel
theorem i_55_40 : kI 55 40 = some (.iload 4, 2) := by decide +kernel
theorem i_55_42 : kI 55 42 = some (.aload_n 1, 1) := by decide +kernel
theorem i_55_43 : kI 55 43 = some (.getfield 31, 3) := by decide +kernel
theorem i_55_46 : kI 55 46 = some (.aload_n 1, 1) := by decide +kernel
theorem i_55_47 : kI 55 47 = some (.getfield 124, 3) := by decide +kernel
theorem i_55_50 : kI 55 50 = some (.iload 4, 2) := by decide +kernel
theorem i_55_52 : kI 55 52 = some (.iaload, 1) := by decide +kernel
theorem i_55_53 : kI 55 53 = some (.invokestatic 108, 3) := by decide +kernel
theorem i_55_56 : kI 55 56 = some (.iastore, 1) := by decide +kernel
theorem i_55_57 : kI 55 57 = some (.iinc 4 1, 3) := by decide +kernel
theorem i_55_60 : kI 55 60 = some (.goto (-40), 3) := by decide +kernel
theorem i_55_63 : kI 55 63 = some (.iload_n 3, 1) := by decide +kernel
theorem i_55_64 : kI 55 64 = some (.ireturn, 1) := by decide +kernel
theorem i_56_0 : kI 56 0 = some (.iconst 0, 1) := by decide +kernel
theorem i_56_1 : kI 56 1 = some (.istore_n 3, 1) := by decide +kernel
theorem i_56_2 : kI 56 2 = some (.iload_n 3, 1) := by decide +kernel
theorem i_56_3 : kI 56 3 = some (.ldc 107, 2) := by decide +kernel
theorem i_56_5 : kI 56 5 = some (.if_icmp .ge 122, 3) := by decide +kernel
theorem i_56_8 : kI 56 8 = some (.aload_n 1, 1) := by decide +kernel
theorem i_56_9 : kI 56 9 = some (.getfield 127, 3) := by decide +kernel
theorem i_56_12 : kI 56 12 = some (.ifCond .ne 41, 3) := by decide +kernel
theorem i_56_15 : kI 56 15 = some (.aload_n 0, 1) := by decide +kernel
theorem i_56_16 : kI 56 16 = some (.aload_n 1, 1) := by decide +kernel
theorem i_56_17 : kI 56 17 = some (.getfield 31, 3) := by decide +kernel
theorem i_56_20 : kI 56 20 = some (.iload_n 2, 1) := by decide +kernel
theorem i_56_21 : kI 56 21 = some (.iconst 1, 1) := by decide +kernel
theorem i_56_22 : kI 56 22 = some (.iadd, 1) := by decide +kernel
theorem i_56_23 : kI 56 23 = some (.invokevirtual 22, 3) := by decide +kernel
theorem i_56_26 : kI 56 26 = some (.istore 4, 2) := by decide +kernel
theorem i_56_28 : kI 56 28 = some (.iload 4, 2) := by decide +kernel
theorem i_56_30 : kI 56 30 = some (.iconst 1, 1) := by decide +kernel
theorem i_56_31 : kI 56 31 = some (.if_icmp .eq 6, 3) := by decide +kernel
theorem i_56_34 : kI 56 34 = some (.iload 4, 2) := by decide +kernel
theorem i_56_36 : kI 56 36 = some (.ireturn, 1) := by decide +kernel
theorem i_56_37 : kI 56 37 = some (.aload_n 1, 1) := by decide +kernel
theorem i_56_38 : kI 56 38 = some (.iconst 1, 1) := by decide +kernel
theorem i_56_39 : kI 56 39 = some (.putfield 127, 3) := by decide +kernel
theorem i_56_42 : kI 56 42 = some (.aload_n 0, 1) := by decide +kernel
theorem i_56_43 : kI 56 43 = some (.aload_n 1, 1) := by decide +kernel
theorem i_56_44 : kI 56 44 = some (.getfield 35, 3) := by decide +kernel
theorem i_56_47 : kI 56 47 = some (.iload_n 2, 1) := by decide +kernel
theorem i_56_48 : kI 56 48 = some (.iconst 1, 1) := by decide +kernel
theorem i_56_49 : kI 56 49 = some (.iadd, 1) := by decide +kernel
theorem i_56_50 : kI 56 50 = some (.invokevirtual 15, 3) := by decide +kernel
theorem i_56_53 : kI 56 53 = some (.aload_n 0, 1) := by decide +kernel
theorem i_56_54 : kI 56 54 = some (.aload_n 1, 1) := by decide +kernel
theorem i_56_55 : kI 56 55 = some (.getfield 35, 3) := by decide +kernel
theorem i_56_58 : kI 56 58 = some (.iload_n 2, 1) := by decide +kernel
theorem i_56_59 : kI 56 59 = some (.iconst 1, 1) := by decide +kernel
theorem i_56_60 : kI 56 60 = some (.iadd, 1) := by decide +kernel
theorem i_56_61 : kI 56 61 = some (.invokevirtual 22, 3) := by decide +kernel
theorem i_56_64 : kI 56 64 = some (.istore 4, 2) := by decide +kernel
theorem i_56_66 : kI 56 66 = some (.iload 4, 2) := by decide +kernel
theorem i_56_68 : kI 56 68 = some (.ifCond .ne 11, 3) := by decide +kernel
theorem i_56_71 : kI 56 71 = some (.aload_n 1, 1) := by decide +kernel
theorem i_56_72 : kI 56 72 = some (.iconst 0, 1) := by decide +kernel
theorem i_56_73 : kI 56 73 = some (.putfield 127, 3) := by decide +kernel
theorem i_56_76 : kI 56 76 = some (.goto 45, 3) := by decide +kernel
theorem i_56_79 : kI 56 79 = some (.iload 4, 2) := by decide +kernel
theorem i_56_81 : kI 56 81 = some (.iconst 1, 1) := by decide +kernel
theorem i_56_82 : kI 56 82 = some (.if_icmp .eq 6, 3) := by decide +kernel
theorem i_56_85 : kI 56 85 = some (.iload 4, 2) := by decide +kernel
theorem i_56_87 : kI 56 87 = some (.ireturn, 1) := by decide +kernel
theorem i_56_88 : kI 56 88 = some (.aload_n 1, 1) := by decide +kernel
theorem i_56_89 : kI 56 89 = some (.invokestatic 131, 3) := by decide +kernel
theorem i_56_92 : kI 56 92 = some (.ifCond .eq 29, 3) := by decide +kernel
theorem i_56_95 : kI 56 95 = some (.aload_n 1, 1) := by decide +kernel
theorem i_56_96 : kI 56 96 = some (.getfield 31, 3) := by decide +kernel
theorem i_56_99 : kI 56 99 = some (.aload_n 1, 1) := by decide +kernel
theorem i_56_100 : kI 56 100 = some (.iconst 0, 1) := by decide +kernel
theorem i_56_101 : kI 56 101 = some (.invokestatic 118, 3) := by decide +kernel
theorem i_56_104 : kI 56 104 = some (.aload_n 1, 1) := by decide +kernel
theorem i_56_105 : kI 56 105 = some (.getfield 35, 3) := by decide +kernel
theorem i_56_108 : kI 56 108 = some (.aload_n 1, 1) := by decide +kernel
theorem i_56_109 : kI 56 109 = some (.aload_n 1, 1) := by decide +kernel
theorem i_56_110 : kI 56 110 = some (.getfield 31, 3) := by decide +kernel
theorem i_56_113 : kI 56 113 = some (.invokestatic 135, 3) := by decide +kernel
theorem i_56_116 : kI 56 116 = some (.invokestatic 118, 3) := by decide +kernel
theorem i_56_119 : kI 56 119 = some (.iconst 1, 1) := by decide +kernel
theorem i_56_120 : kI 56 120 = some (.ireturn, 1) := by decide +kernel
theorem i_56_121 : kI 56 121 = some (.iinc 3 1, 3) := by decide +kernel
theorem i_56_124 : kI 56 124 = some (.goto (-122), 3) := by decide +kernel
theorem i_56_127 : kI 56 127 = some (.iconst 2, 1) := by decide +kernel
theorem i_56_128 : kI 56 128 = some (.ireturn, 1) := by decide +kernel
theorem i_57_0 : kI 57 0 = some (.aload_n 0, 1) := by decide +kernel
theorem i_57_1 : kI 57 1 = some (.getfield 38, 3) := by decide +kernel
theorem i_57_4 : kI 57 4 = some (.iconst 3, 1) := by decide +kernel
theorem i_57_5 : kI 57 5 = some (.if_icmp .eq 28, 3) := by decide +kernel
theorem i_57_8 : kI 57 8 = some (.aload_n 0, 1) := by decide +kernel
theorem i_57_9 : kI 57 9 = some (.getfield 31, 3) := by decide +kernel
theorem i_57_12 : kI 57 12 = some (.aload_n 0, 1) := by decide +kernel
theorem i_57_13 : kI 57 13 = some (.getfield 83, 3) := by decide +kernel
theorem i_57_16 : kI 57 16 = some (.invokestatic 108, 3) := by decide +kernel
theorem i_57_19 : kI 57 19 = some (.aload_n 0, 1) := by decide +kernel
theorem i_57_20 : kI 57 20 = some (.getfield 35, 3) := by decide +kernel
theorem i_57_23 : kI 57 23 = some (.aload_n 0, 1) := by decide +kernel
theorem i_57_24 : kI 57 24 = some (.getfield 138, 3) := by decide +kernel
theorem i_57_27 : kI 57 27 = some (.invokestatic 108, 3) := by decide +kernel
theorem i_57_30 : kI 57 30 = some (.if_icmp .ne 7, 3) := by decide +kernel
theorem i_57_33 : kI 57 33 = some (.iconst 1, 1) := by decide +kernel
theorem i_57_34 : kI 57 34 = some (.goto 4, 3) := by decide +kernel
theorem i_57_37 : kI 57 37 = some (.iconst 0, 1) := by decide +kernel
theorem i_57_38 : kI 57 38 = some (.ireturn, 1) := by decide +kernel
theorem i_58_0 : kI 58 0 = some (.aload_n 0, 1) := by decide +kernel
theorem i_58_1 : kI 58 1 = some (.aload_n 2, 1) := by decide +kernel
theorem i_58_2 : kI 58 2 = some (.iload_n 3, 1) := by decide +kernel
theorem i_58_3 : kI 58 3 = some (.iconst 1, 1) := by decide +kernel
theorem i_58_4 : kI 58 4 = some (.iadd, 1) := by decide +kernel
theorem i_58_5 : kI 58 5 = some (.invokevirtual 22, 3) := by decide +kernel
theorem i_58_8 : kI 58 8 = some (.istore 4, 2) := by decide +kernel
theorem i_58_10 : kI 58 10 = some (.iload 4, 2) := by decide +kernel
theorem i_58_12 : kI 58 12 = some (.iconst 1, 1) := by decide +kernel
theorem i_58_13 : kI 58 13 = some (.if_icmp .ne 9, 3) := by decide +kernel
theorem i_58_16 : kI 58 16 = some (.aload_n 2, 1) := by decide +kernel
theorem i_58_17 : kI 58 17 = some (.aload_n 1, 1) := by decide +kernel
theorem i_58_18 : kI 58 18 = some (.iconst 0, 1) := by decide +kernel
theorem i_58_19 : kI 58 19 = some (.invokestatic 118, 3) := by decide +kernel
theorem i_58_22 : kI 58 22 = some (.iload 4, 2) := by decide +kernel
theorem i_58_24 : kI 58 24 = some (.ireturn, 1) := by decide +kernel
theorem i_59_0 : kI 59 0 = some (.aload_n 1, 1) := by decide +kernel
theorem i_59_1 : kI 59 1 = some (.getfield 141, 3) := by decide +kernel
theorem i_59_4 : kI 59 4 = some (.ifCond .ne 25, 3) := by decide +kernel
theorem i_59_7 : kI 59 7 = some (.aload_n 0, 1) := by decide +kernel
theorem i_59_8 : kI 59 8 = some (.aload_n 1, 1) := by decide +kernel
theorem i_59_9 : kI 59 9 = some (.aload_n 1, 1) := by decide +kernel
theorem i_59_10 : kI 59 10 = some (.getfield 31, 3) := by decide +kernel
theorem i_59_13 : kI 59 13 = some (.iload_n 2, 1) := by decide +kernel
theorem i_59_14 : kI 59 14 = some (.invokevirtual 144, 3) := by decide +kernel
theorem i_59_17 : kI 59 17 = some (.istore_n 3, 1) := by decide +kernel
theorem i_59_18 : kI 59 18 = some (.iload_n 3, 1) := by decide +kernel
theorem i_59_19 : kI 59 19 = some (.ifCond .eq 5, 3) := by decide +kernel
theorem i_59_22 : kI 59 22 = some (.iload_n 3, 1) := by decide +kernel
theorem i_59_23 : kI 59 23 = some (.ireturn, 1) := by decide +kernel
theorem i_59_24 : kI 59 24 = some (.aload_n 1, 1) := by decide +kernel
theorem i_59_25 : kI 59 25 = some (.iconst 1, 1) := by decide +kernel
theorem i_59_26 : kI 59 26 = some (.putfield 141, 3) := by decide +kernel
theorem i_59_29 : kI 59 29 = some (.aload_n 0, 1) := by decide +kernel
theorem i_59_30 : kI 59 30 = some (.aload_n 1, 1) := by decide +kernel
theorem i_59_31 : kI 59 31 = some (.aload_n 1, 1) := by decide +kernel
theorem i_59_32 : kI 59 32 = some (.getfield 35, 3) := by decide +kernel
theorem i_59_35 : kI 59 35 = some (.iload_n 2, 1) := by decide +kernel
theorem i_59_36 : kI 59 36 = some (.invokevirtual 144, 3) := by decide +kernel
theorem i_59_39 : kI 59 39 = some (.ireturn, 1) := by decide +kernel
theorem i_60_0 : kI 60 0 = some (.iconst 0, 1) := by decide +kernel
theorem i_60_1 : kI 60 1 = some (.istore_n 3, 1) := by decide +kernel
theorem i_60_2 : kI 60 2 = some (.iload_n 3, 1) := by decide +kernel
theorem i_60_3 : kI 60 3 = some (.ldc 107, 2) := by decide +kernel
theorem i_60_5 : kI 60 5 = some (.if_icmp .ge 64, 3) := by decide +kernel
theorem i_60_8 : kI 60 8 = some (.aload_n 0, 1) := by decide +kernel
theorem i_60_9 : kI 60 9 = some (.aload_n 1, 1) := by decide +kernel
theorem i_60_10 : kI 60 10 = some (.aload_n 1, 1) := by decide +kernel
theorem i_60_11 : kI 60 11 = some (.getfield 31, 3) := by decide +kernel
theorem i_60_14 : kI 60 14 = some (.iload_n 2, 1) := by decide +kernel
theorem i_60_15 : kI 60 15 = some (.invokevirtual 144, 3) := by decide +kernel
theorem i_60_18 : kI 60 18 = some (.istore 4, 2) := by decide +kernel
theorem i_60_20 : kI 60 20 = some (.iload 4, 2) := by decide +kernel
theorem i_60_22 : kI 60 22 = some (.iconst 1, 1) := by decide +kernel
theorem i_60_23 : kI 60 23 = some (.if_icmp .eq 6, 3) := by decide +kernel
theorem i_60_26 : kI 60 26 = some (.iload 4, 2) := by decide +kernel
theorem i_60_28 : kI 60 28 = some (.ireturn, 1) := by decide +kernel
theorem i_60_29 : kI 60 29 = some (.aload_n 1, 1) := by decide +kernel
theorem i_60_30 : kI 60 30 = some (.getfield 148, 3) := by decide +kernel
theorem i_60_33 : kI 60 33 = some (.aload_n 1, 1) := by decide +kernel
theorem i_60_34 : kI 60 34 = some (.getfield 99, 3) := by decide +kernel
theorem i_60_37 : kI 60 37 = some (.invokevirtual 152, 3) := by decide +kernel
theorem i_60_40 : kI 60 40 = some (.ifCond .ne 23, 3) := by decide +kernel
theorem i_60_43 : kI 60 43 = some (.aload_n 1, 1) := by decide +kernel
theorem i_60_44 : kI 60 44 = some (.getfield 148, 3) := by decide +kernel
theorem i_60_47 : kI 60 47 = some (.aload_n 1, 1) := by decide +kernel
theorem i_60_48 : kI 60 48 = some (.getfield 99, 3) := by decide +kernel
theorem i_60_51 : kI 60 51 = some (.invokevirtual 158, 3) := by decide +kernel
theorem i_60_54 : kI 60 54 = some (.ifCond .eq 7, 3) := by decide +kernel
theorem i_60_57 : kI 60 57 = some (.iconst 1, 1) := by decide +kernel
theorem i_60_58 : kI 60 58 = some (.goto 4, 3) := by decide +kernel
theorem i_60_61 : kI 60 61 = some (.iconst 3, 1) := by decide +kernel
theorem i_60_62 : kI 60 62 = some (.ireturn, 1) := by decide +kernel
theorem i_60_63 : kI 60 63 = some (.iinc 3 1, 3) := by decide +kernel
theorem i_60_66 : kI 60 66 = some (.goto (-64), 3) := by decide +kernel
theorem i_60_69 : kI 60 69 = some (.iconst 2, 1) := by decide +kernel
theorem i_60_70 : kI 60 70 = some (.ireturn, 1) := by decide +kernel
theorem i_61_0 : kI 61 0 = some (.aload_n 1, 1) := by decide +kernel
theorem i_61_1 : kI 61 1 = some (.getfield 76, 3) := by decide +kernel
theorem i_61_4 : kI 61 4 = some (.aload_n 1, 1) := by decide +kernel
theorem i_61_5 : kI 61 5 = some (.getfield 86, 3) := by decide +kernel
theorem i_61_8 : kI 61 8 = some (.if_icmp .lt 5, 3) := by decide +kernel
theorem i_61_11 : kI 61 11 = some (.iconst 0, 1) := by decide +kernel
theorem i_61_12 : kI 61 12 = some (.ireturn, 1) := by decide +kernel
theorem i_61_13 : kI 61 13 = some (.aload_n 0, 1) := by decide +kernel
theorem i_61_14 : kI 61 14 = some (.aload_n 1, 1) := by decide +kernel
theorem i_61_15 : kI 61 15 = some (.aload_n 1, 1) := by decide +kernel
theorem i_61_16 : kI 61 16 = some (.getfield 31, 3) := by decide +kernel
theorem i_61_19 : kI 61 19 = some (.iload_n 2, 1) := by decide +kernel
theorem i_61_20 : kI 61 20 = some (.invokevirtual 144, 3) := by decide +kernel
theorem i_61_23 : kI 61 23 = some (.istore_n 3, 1) := by decide +kernel
theorem i_61_24 : kI 61 24 = some (.iload_n 3, 1) := by decide +kernel
theorem i_61_25 : kI 61 25 = some (.iconst 1, 1) := by decide +kernel
theorem i_61_26 : kI 61 26 = some (.if_icmp .ne 13, 3) := by decide +kernel
theorem i_61_29 : kI 61 29 = some (.aload_n 1, 1) := by decide +kernel
theorem i_61_30 : kI 61 30 = some (.dup, 1) := by decide +kernel
theorem i_61_31 : kI 61 31 = some (.getfield 76, 3) := by decide +kernel
theorem i_61_34 : kI 61 34 = some (.iconst 1, 1) := by decide +kernel
theorem i_61_35 : kI 61 35 = some (.iadd, 1) := by decide +kernel
theorem i_61_36 : kI 61 36 = some (.putfield 76, 3) := by decide +kernel
theorem i_61_39 : kI 61 39 = some (.iload_n 3, 1) := by decide +kernel
theorem i_61_40 : kI 61 40 = some (.ireturn, 1) := by decide +kernel
theorem i_62_0 : kI 62 0 = some (.aload_n 1, 1) := by decide +kernel
theorem i_62_1 : kI 62 1 = some (.getfield 161, 3) := by decide +kernel
theorem i_62_4 : kI 62 4 = some (.ifCond .eq 5, 3) := by decide +kernel
theorem i_62_7 : kI 62 7 = some (.iconst 0, 1) := by decide +kernel
theorem i_62_8 : kI 62 8 = some (.ireturn, 1) := by decide +kernel
theorem i_62_9 : kI 62 9 = some (.aload_n 0, 1) := by decide +kernel
theorem i_62_10 : kI 62 10 = some (.aload_n 1, 1) := by decide +kernel
theorem i_62_11 : kI 62 11 = some (.iload_n 2, 1) := by decide +kernel
theorem i_62_12 : kI 62 12 = some (.invokevirtual 164, 3) := by decide +kernel
theorem i_62_15 : kI 62 15 = some (.istore_n 3, 1) := by decide +kernel
theorem i_62_16 : kI 62 16 = some (.iload_n 3, 1) := by decide +kernel
theorem i_62_17 : kI 62 17 = some (.ifCond .eq 5, 3) := by decide +kernel
theorem i_62_20 : kI 62 20 = some (.iload_n 3, 1) := by decide +kernel
theorem i_62_21 : kI 62 21 = some (.ireturn, 1) := by decide +kernel
theorem i_62_22 : kI 62 22 = some (.aload_n 1, 1) := by decide +kernel
theorem i_62_23 : kI 62 23 = some (.iconst 1, 1) := by decide +kernel
theorem i_62_24 : kI 62 24 = some (.putfield 161, 3) := by decide +kernel
theorem i_62_27 : kI 62 27 = some (.aload_n 1, 1) := by decide +kernel
theorem i_62_28 : kI 62 28 = some (.getfield 99, 3) := by decide +kernel
theorem i_62_31 : kI 62 31 = some (.iconst 0, 1) := by decide +kernel
theorem i_62_32 : kI 62 32 = some (.aload_n 1, 1) := by decide +kernel
theorem i_62_33 : kI 62 33 = some (.getfield 76, 3) := by decide +kernel
theorem i_62_36 : kI 62 36 = some (.iastore, 1) := by decide +kernel
theorem i_62_37 : kI 62 37 = some (.iconst 1, 1) := by decide +kernel
theorem i_62_38 : kI 62 38 = some (.ireturn, 1) := by decide +kernel
theorem i_63_0 : kI 63 0 = some (.aload_n 1, 1) := by decide +kernel
theorem i_63_1 : kI 63 1 = some (.getfield 161, 3) := by decide +kernel
theorem i_63_4 : kI 63 4 = some (.ifCond .ne 21, 3) := by decide +kernel
theorem i_63_7 : kI 63 7 = some (.aload_n 0, 1) := by decide +kernel
theorem i_63_8 : kI 63 8 = some (.aload_n 1, 1) := by decide +kernel
theorem i_63_9 : kI 63 9 = some (.iload_n 2, 1) := by decide +kernel
theorem i_63_10 : kI 63 10 = some (.invokevirtual 164, 3) := by decide +kernel
theorem i_63_13 : kI 63 13 = some (.istore_n 3, 1) := by decide +kernel
theorem i_63_14 : kI 63 14 = some (.iload_n 3, 1) := by decide +kernel
theorem i_63_15 : kI 63 15 = some (.ifCond .eq 5, 3) := by decide +kernel
theorem i_63_18 : kI 63 18 = some (.iload_n 3, 1) := by decide +kernel
theorem i_63_19 : kI 63 19 = some (.ireturn, 1) := by decide +kernel
theorem i_63_20 : kI 63 20 = some (.aload_n 1, 1) := by decide +kernel
theorem i_63_21 : kI 63 21 = some (.iconst 1, 1) := by decide +kernel
theorem i_63_22 : kI 63 22 = some (.putfield 161, 3) := by decide +kernel
theorem i_63_25 : kI 63 25 = some (.aload_n 1, 1) := by decide +kernel
theorem i_63_26 : kI 63 26 = some (.getfield 76, 3) := by decide +kernel
theorem i_63_29 : kI 63 29 = some (.aload_n 1, 1) := by decide +kernel
theorem i_63_30 : kI 63 30 = some (.getfield 148, 3) := by decide +kernel
theorem i_63_33 : kI 63 33 = some (.getfield 167, 3) := by decide +kernel
theorem i_63_36 : kI 63 36 = some (.if_icmp .lt 5, 3) := by decide +kernel
theorem i_63_39 : kI 63 39 = some (.iconst 0, 1) := by decide +kernel
theorem i_63_40 : kI 63 40 = some (.ireturn, 1) := by decide +kernel
theorem i_63_41 : kI 63 41 = some (.aload_n 1, 1) := by decide +kernel
theorem i_63_42 : kI 63 42 = some (.getfield 148, 3) := by decide +kernel
theorem i_63_45 : kI 63 45 = some (.aload_n 1, 1) := by decide +kernel
theorem i_63_46 : kI 63 46 = some (.getfield 76, 3) := by decide +kernel
theorem i_63_49 : kI 63 49 = some (.aload_n 1, 1) := by decide +kernel
theorem i_63_50 : kI 63 50 = some (.getfield 99, 3) := by decide +kernel
theorem i_63_53 : kI 63 53 = some (.invokevirtual 170, 3) := by decide +kernel
theorem i_63_56 : kI 63 56 = some (.aload_n 1, 1) := by decide +kernel
theorem i_63_57 : kI 63 57 = some (.dup, 1) := by decide +kernel
theorem i_63_58 : kI 63 58 = some (.getfield 76, 3) := by decide +kernel
theorem i_63_61 : kI 63 61 = some (.iconst 1, 1) := by decide +kernel
theorem i_63_62 : kI 63 62 = some (.iadd, 1) := by decide +kernel
theorem i_63_63 : kI 63 63 = some (.putfield 76, 3) := by decide +kernel
theorem i_63_66 : kI 63 66 = some (.iconst 1, 1) := by decide +kernel
theorem i_63_67 : kI 63 67 = some (.ireturn, 1) := by decide +kernel
theorem i_64_0 : kI 64 0 = some (.iconst 0, 1) := by decide +kernel
theorem i_64_1 : kI 64 1 = some (.istore_n 3, 1) := by decide +kernel
theorem i_64_2 : kI 64 2 = some (.iload_n 3, 1) := by decide +kernel
theorem i_64_3 : kI 64 3 = some (.ldc 107, 2) := by decide +kernel
theorem i_64_5 : kI 64 5 = some (.if_icmp .ge 40, 3) := by decide +kernel
theorem i_64_8 : kI 64 8 = some (.aload_n 0, 1) := by decide +kernel
theorem i_64_9 : kI 64 9 = some (.aload_n 1, 1) := by decide +kernel
theorem i_64_10 : kI 64 10 = some (.getfield 31, 3) := by decide +kernel
theorem i_64_13 : kI 64 13 = some (.iload_n 2, 1) := by decide +kernel
theorem i_64_14 : kI 64 14 = some (.iconst 1, 1) := by decide +kernel
theorem i_64_15 : kI 64 15 = some (.iadd, 1) := by decide +kernel
theorem i_64_16 : kI 64 16 = some (.invokevirtual 22, 3) := by decide +kernel
theorem i_64_19 : kI 64 19 = some (.istore 4, 2) := by decide +kernel
theorem i_64_21 : kI 64 21 = some (.iload 4, 2) := by decide +kernel
theorem i_64_23 : kI 64 23 = some (.iconst 1, 1) := by decide +kernel
theorem i_64_24 : kI 64 24 = some (.if_icmp .eq 6, 3) := by decide +kernel
theorem i_64_27 : kI 64 27 = some (.iload 4, 2) := by decide +kernel
theorem i_64_29 : kI 64 29 = some (.ireturn, 1) := by decide +kernel
theorem i_64_30 : kI 64 30 = some (.aload_n 1, 1) := by decide +kernel
theorem i_64_31 : kI 64 31 = some (.invokestatic 171, 3) := by decide +kernel
theorem i_64_34 : kI 64 34 = some (.ifCond .ne 5, 3) := by decide +kernel
theorem i_64_37 : kI 64 37 = some (.iconst 3, 1) := by decide +kernel
theorem i_64_38 : kI 64 38 = some (.ireturn, 1) := by decide +kernel
theorem i_64_39 : kI 64 39 = some (.iinc 3 1, 3) := by decide +kernel
theorem i_64_42 : kI 64 42 = some (.goto (-40), 3) := by decide +kernel
theorem i_64_45 : kI 64 45 = some (.iconst 2, 1) := by decide +kernel
theorem i_64_46 : kI 64 46 = some (.ireturn, 1) := by decide +kernel
theorem i_65_0 : kI 65 0 = some (.aload_n 0, 1) := by decide +kernel
theorem i_65_1 : kI 65 1 = some (.getfield 38, 3) := by decide +kernel
theorem i_65_4 : kI 65 4 = some (.bipush 10, 2) := by decide +kernel
theorem i_65_6 : kI 65 6 = some (.if_icmp .ne 8, 3) := by decide +kernel
theorem i_65_9 : kI 65 9 = some (.aload_n 0, 1) := by decide +kernel
theorem i_65_10 : kI 65 10 = some (.invokestatic 174, 3) := by decide +kernel
theorem i_65_13 : kI 65 13 = some (.ireturn, 1) := by decide +kernel
theorem i_65_14 : kI 65 14 = some (.aload_n 0, 1) := by decide +kernel
theorem i_65_15 : kI 65 15 = some (.getfield 38, 3) := by decide +kernel
theorem i_65_18 : kI 65 18 = some (.bipush 7, 2) := by decide +kernel
theorem i_65_20 : kI 65 20 = some (.if_icmp .ne 32, 3) := by decide +kernel
theorem i_65_23 : kI 65 23 = some (.aload_n 0, 1) := by decide +kernel
theorem i_65_24 : kI 65 24 = some (.getfield 31, 3) := by decide +kernel
theorem i_65_27 : kI 65 27 = some (.aload_n 0, 1) := by decide +kernel
theorem i_65_28 : kI 65 28 = some (.iconst 0, 1) := by decide +kernel
theorem i_65_29 : kI 65 29 = some (.invokestatic 118, 3) := by decide +kernel
theorem i_65_32 : kI 65 32 = some (.aload_n 0, 1) := by decide +kernel
theorem i_65_33 : kI 65 33 = some (.getfield 148, 3) := by decide +kernel
theorem i_65_36 : kI 65 36 = some (.aload_n 0, 1) := by decide +kernel
theorem i_65_37 : kI 65 37 = some (.getfield 99, 3) := by decide +kernel
theorem i_65_40 : kI 65 40 = some (.aload_n 0, 1) := by decide +kernel
theorem i_65_41 : kI 65 41 = some (.getfield 83, 3) := by decide +kernel
theorem i_65_44 : kI 65 44 = some (.aload_n 0, 1) := by decide +kernel
theorem i_65_45 : kI 65 45 = some (.getfield 111, 3) := by decide +kernel
theorem i_65_48 : kI 65 48 = some (.invokevirtual 177, 3) := by decide +kernel
theorem i_65_51 : kI 65 51 = some (.ireturn, 1) := by decide +kernel
theorem i_65_52 : kI 65 52 = some (.aload_n 0, 1) := by decide +kernel
theorem i_65_53 : kI 65 53 = some (.dup, 1) := by decide +kernel
theorem i_65_54 : kI 65 54 = some (.getfield 76, 3) := by decide +kernel
theorem i_65_57 : kI 65 57 = some (.iconst 1, 1) := by decide +kernel
theorem i_65_58 : kI 65 58 = some (.iadd, 1) := by decide +kernel
theorem i_65_59 : kI 65 59 = some (.putfield 76, 3) := by decide +kernel
theorem i_65_62 : kI 65 62 = some (.iconst 1, 1) := by decide +kernel
theorem i_65_63 : kI 65 63 = some (.ireturn, 1) := by decide +kernel
theorem i_66_0 : kI 66 0 = some (.aload_n 0, 1) := by decide +kernel
theorem i_66_1 : kI 66 1 = some (.getfield 148, 3) := by decide +kernel
theorem i_66_4 : kI 66 4 = some (.astore_n 1, 1) := by decide +kernel
theorem i_66_5 : kI 66 5 = some (.aload_n 0, 1) := by decide +kernel
theorem i_66_6 : kI 66 6 = some (.getfield 31, 3) := by decide +kernel
theorem i_66_9 : kI 66 9 = some (.aload_n 0, 1) := by decide +kernel
theorem i_66_10 : kI 66 10 = some (.getfield 83, 3) := by decide +kernel
theorem i_66_13 : kI 66 13 = some (.invokestatic 108, 3) := by decide +kernel
theorem i_66_16 : kI 66 16 = some (.istore_n 2, 1) := by decide +kernel
theorem i_66_17 : kI 66 17 = some (.aload_n 0, 1) := by decide +kernel
theorem i_66_18 : kI 66 18 = some (.getfield 31, 3) := by decide +kernel
theorem i_66_21 : kI 66 21 = some (.aload_n 0, 1) := by decide +kernel
theorem i_66_22 : kI 66 22 = some (.getfield 138, 3) := by decide +kernel
theorem i_66_25 : kI 66 25 = some (.invokestatic 108, 3) := by decide +kernel
theorem i_66_28 : kI 66 28 = some (.istore_n 3, 1) := by decide +kernel
theorem i_66_29 : kI 66 29 = some (.aload_n 1, 1) := by decide +kernel
theorem i_66_30 : kI 66 30 = some (.iload_n 2, 1) := by decide +kernel
theorem i_66_31 : kI 66 31 = some (.invokevirtual 181, 3) := by decide +kernel
theorem i_66_34 : kI 66 34 = some (.istore 4, 2) := by decide +kernel
theorem i_66_36 : kI 66 36 = some (.iload 4, 2) := by decide +kernel
theorem i_66_38 : kI 66 38 = some (.aload_n 1, 1) := by decide +kernel
theorem i_66_39 : kI 66 39 = some (.getfield 167, 3) := by decide +kernel
theorem i_66_42 : kI 66 42 = some (.if_icmp .ge 27, 3) := by decide +kernel
theorem i_66_45 : kI 66 45 = some (.aload_n 1, 1) := by decide +kernel
theorem i_66_46 : kI 66 46 = some (.iload 4, 2) := by decide +kernel
theorem i_66_48 : kI 66 48 = some (.iconst 1, 1) := by decide +kernel
theorem i_66_49 : kI 66 49 = some (.aload_n 1, 1) := by decide +kernel
theorem i_66_50 : kI 66 50 = some (.iload 4, 2) := by decide +kernel
theorem i_66_52 : kI 66 52 = some (.iconst 1, 1) := by decide +kernel
theorem i_66_53 : kI 66 53 = some (.invokevirtual 185, 3) := by decide +kernel
theorem i_66_56 : kI 66 56 = some (.iload_n 3, 1) := by decide +kernel
theorem i_66_57 : kI 66 57 = some (.aload_n 0, 1) := by decide +kernel
theorem i_66_58 : kI 66 58 = some (.getfield 111, 3) := by decide +kernel
theorem i_66_61 : kI 66 61 = some (.invokestatic 189, 3) := by decide +kernel
theorem i_66_64 : kI 66 64 = some (.invokevirtual 192, 3) := by decide +kernel
theorem i_66_67 : kI 66 67 = some (.iconst 1, 1) := by decide +kernel
theorem i_66_68 : kI 66 68 = some (.ireturn, 1) := by decide +kernel
theorem i_66_69 : kI 66 69 = some (.aload_n 1, 1) := by decide +kernel
theorem i_66_70 : kI 66 70 = some (.getfield 167, 3) := by decide +kernel
theorem i_66_73 : kI 66 73 = some (.bipush 60, 2) := by decide +kernel
theorem i_66_75 : kI 66 75 = some (.if_icmp .lt 5, 3) := by decide +kernel
theorem i_66_78 : kI 66 78 = some (.iconst 0, 1) := by decide +kernel
theorem i_66_79 : kI 66 79 = some (.ireturn, 1) := by decide +kernel
theorem i_66_80 : kI 66 80 = some (.aload_n 0, 1) := by decide +kernel
theorem i_66_81 : kI 66 81 = some (.getfield 99, 3) := by decide +kernel
theorem i_66_84 : kI 66 84 = some (.iconst 0, 1) := by decide +kernel
theorem i_66_85 : kI 66 85 = some (.iload_n 2, 1) := by decide +kernel
theorem i_66_86 : kI 66 86 = some (.iastore, 1) := by decide +kernel
theorem i_66_87 : kI 66 87 = some (.aload_n 0, 1) := by decide +kernel
theorem i_66_88 : kI 66 88 = some (.getfield 99, 3) := by decide +kernel
theorem i_66_91 : kI 66 91 = some (.iconst 1, 1) := by decide +kernel
theorem i_66_92 : kI 66 92 = some (.aload_n 0, 1) := by decide +kernel
theorem i_66_93 : kI 66 93 = some (.getfield 111, 3) := by decide +kernel
theorem i_66_96 : kI 66 96 = some (.ifCond .ne 7, 3) := by decide +kernel
theorem i_66_99 : kI 66 99 = some (.iconst 1, 1) := by decide +kernel
theorem i_66_100 : kI 66 100 = some (.goto 4, 3) := by decide +kernel
theorem i_66_103 : kI 66 103 = some (.iload_n 3, 1) := by decide +kernel
theorem i_66_104 : kI 66 104 = some (.iastore, 1) := by decide +kernel
theorem i_66_105 : kI 66 105 = some (.aload_n 1, 1) := by decide +kernel
theorem i_66_106 : kI 66 106 = some (.aload_n 0, 1) := by decide +kernel
theorem i_66_107 : kI 66 107 = some (.getfield 99, 3) := by decide +kernel
theorem i_66_110 : kI 66 110 = some (.invokevirtual 158, 3) := by decide +kernel
theorem i_66_113 : kI 66 113 = some (.ireturn, 1) := by decide +kernel
theorem i_67_0 : kI 67 0 = some (.iload_n 2, 1) := by decide +kernel
theorem i_67_1 : kI 67 1 = some (.tableswitch 41 0 2 #[27, 31, 35], 27) := by decide +kernel
theorem i_67_28 : kI 67 28 = some (.iload_n 0, 1) := by decide +kernel
theorem i_67_29 : kI 67 29 = some (.iconst 1, 1) := by decide +kernel
theorem i_67_30 : kI 67 30 = some (.iadd, 1) := by decide +kernel
theorem i_67_31 : kI 67 31 = some (.ireturn, 1) := by decide +kernel
theorem i_67_32 : kI 67 32 = some (.iload_n 0, 1) := by decide +kernel
theorem i_67_33 : kI 67 33 = some (.iload_n 1, 1) := by decide +kernel
theorem i_67_34 : kI 67 34 = some (.iadd, 1) := by decide +kernel
theorem i_67_35 : kI 67 35 = some (.ireturn, 1) := by decide +kernel
theorem i_67_36 : kI 67 36 = some (.iload_n 0, 1) := by decide +kernel
theorem i_67_37 : kI 67 37 = some (.iload_n 1, 1) := by decide +kernel
theorem i_67_38 : kI 67 38 = some (.invokestatic 196, 3) := by decide +kernel
theorem i_67_41 : kI 67 41 = some (.ireturn, 1) := by decide +kernel
theorem i_67_42 : kI 67 42 = some (.iload_n 0, 1) := by decide +kernel
theorem i_67_43 : kI 67 43 = some (.iload_n 1, 1) := by decide +kernel
theorem i_67_44 : kI 67 44 = some (.invokestatic 201, 3) := by decide +kernel
theorem i_67_47 : kI 67 47 = some (.ireturn, 1) := by decide +kernel
theorem i_68_0 : kI 68 0 = some (.aload_n 0, 1) := by decide +kernel
theorem i_68_1 : kI 68 1 = some (.ifnull 30, 3) := by decide +kernel
theorem i_68_4 : kI 68 4 = some (.iload_n 1, 1) := by decide +kernel
theorem i_68_5 : kI 68 5 = some (.ifCond .lt 26, 3) := by decide +kernel
theorem i_68_8 : kI 68 8 = some (.iload_n 1, 1) := by decide +kernel
theorem i_68_9 : kI 68 9 = some (.aload_n 0, 1) := by decide +kernel
theorem i_68_10 : kI 68 10 = some (.getfield 121, 3) := by decide +kernel
theorem i_68_13 : kI 68 13 = some (.if_icmp .ge 18, 3) := by decide +kernel
theorem i_68_16 : kI 68 16 = some (.iload_n 1, 1) := by decide +kernel
theorem i_68_17 : kI 68 17 = some (.bipush 12, 2) := by decide +kernel
theorem i_68_19 : kI 68 19 = some (.if_icmp .ge 12, 3) := by decide +kernel
theorem i_68_22 : kI 68 22 = some (.aload_n 0, 1) := by decide +kernel
theorem i_68_23 : kI 68 23 = some (.getfield 99, 3) := by decide +kernel
theorem i_68_26 : kI 68 26 = some (.iload_n 1, 1) := by decide +kernel
theorem i_68_27 : kI 68 27 = some (.iaload, 1) := by decide +kernel
theorem i_68_28 : kI 68 28 = some (.goto 4, 3) := by decide +kernel
theorem i_68_31 : kI 68 31 = some (.iconst 0, 1) := by decide +kernel
theorem i_68_32 : kI 68 32 = some (.ireturn, 1) := by decide +kernel
theorem i_69_0 : kI 69 0 = some (.aload_n 0, 1) := by decide +kernel
theorem i_69_1 : kI 69 1 = some (.ifnull 35, 3) := by decide +kernel
theorem i_69_4 : kI 69 4 = some (.iload_n 2, 1) := by decide +kernel
theorem i_69_5 : kI 69 5 = some (.ifCond .lt 31, 3) := by decide +kernel
theorem i_69_8 : kI 69 8 = some (.iload_n 2, 1) := by decide +kernel
theorem i_69_9 : kI 69 9 = some (.aload_n 0, 1) := by decide +kernel
theorem i_69_10 : kI 69 10 = some (.getfield 121, 3) := by decide +kernel
theorem i_69_13 : kI 69 13 = some (.iadd, 1) := by decide +kernel
theorem i_69_14 : kI 69 14 = some (.bipush 12, 2) := by decide +kernel
theorem i_69_16 : kI 69 16 = some (.if_icmp .gt 20, 3) := by decide +kernel
theorem i_69_19 : kI 69 19 = some (.aload_n 0, 1) := by decide +kernel
theorem i_69_20 : kI 69 20 = some (.getfield 99, 3) := by decide +kernel
theorem i_69_23 : kI 69 23 = some (.iconst 0, 1) := by decide +kernel
theorem i_69_24 : kI 69 24 = some (.aload_n 1, 1) := by decide +kernel
theorem i_69_25 : kI 69 25 = some (.getfield 99, 3) := by decide +kernel
theorem i_69_28 : kI 69 28 = some (.iload_n 2, 1) := by decide +kernel
theorem i_69_29 : kI 69 29 = some (.aload_n 0, 1) := by decide +kernel
theorem i_69_30 : kI 69 30 = some (.getfield 121, 3) := by decide +kernel
theorem i_69_33 : kI 69 33 = some (.invokestatic 204, 3) := by decide +kernel
theorem i_69_36 : kI 69 36 = some (.return_, 1) := by decide +kernel
