theorem d_Ar_fill_0 : decode prog_27_method_109_code 0 = .ok (.iconst 0, 1) := by decide +kernel
theorem d_Ar_fill_1 : decode prog_27_method_109_code 1 = .ok (.istore_n 2, 1) := by decide +kernel
theorem d_Ar_fill_10 : decode prog_27_method_109_code 10 = .ok (.aload_n 0, 1) := by decide +kernel
theorem d_Ar_fill_11 : decode prog_27_method_109_code 11 = .ok (.iload_n 2, 1) := by decide +kernel
theorem d_Ar_fill_12 : decode prog_27_method_109_code 12 = .ok (.iload_n 1, 1) := by decide +kernel
theorem d_Ar_fill_13 : decode prog_27_method_109_code 13 = .ok (.bastore, 1) := by decide +kernel
theorem d_Ar_fill_14 : decode prog_27_method_109_code 14 = .ok (.iinc 2 1, 3) := by decide +kernel
theorem d_Ar_fill_17 : decode prog_27_method_109_code 17 = .ok (.goto (-12), 3) := by decide +kernel
theorem d_Ar_fill_2 : decode prog_27_method_109_code 2 = .ok (.aload_n 0, 1) := by decide +kernel
theorem d_Ar_fill_20 : decode prog_27_method_109_code 20 = .ok (.return_, 1) := by decide +kernel
theorem d_Ar_fill_3 : decode prog_27_method_109_code 3 = .ok (.arraylength, 1) := by decide +kernel
theorem d_Ar_fill_4 : decode prog_27_method_109_code 4 = .ok (.istore_n 3, 1) := by decide +kernel
theorem d_Ar_fill_5 : decode prog_27_method_109_code 5 = .ok (.iload_n 2, 1) := by decide +kernel
theorem d_Ar_fill_6 : decode prog_27_method_109_code 6 = .ok (.iload_n 3, 1) := by decide +kernel
theorem d_Ar_fill_7 : decode prog_27_method_109_code 7 = .ok (.if_icmp .ge 13, 3) := by decide +kernel
theorem d_Ch_forget_0 : decode prog_3_method_2_code 0 = .ok (.aload_n 0, 1) := by decide +kernel
theorem d_Ch_forget_1 : decode prog_3_method_2_code 1 = .ok (.iconst 0, 1) := by decide +kernel
theorem d_Ch_forget_10 : decode prog_3_method_2_code 10 = .ok (.aload_n 0, 1) := by decide +kernel
theorem d_Ch_forget_11 : decode prog_3_method_2_code 11 = .ok (.iconst (-1), 1) := by decide +kernel
theorem d_Ch_forget_12 : decode prog_3_method_2_code 12 = .ok (.putfield 50, 3) := by decide +kernel
theorem d_Ch_forget_15 : decode prog_3_method_2_code 15 = .ok (.return_, 1) := by decide +kernel
theorem d_Ch_forget_2 : decode prog_3_method_2_code 2 = .ok (.putfield 54, 3) := by decide +kernel
theorem d_Ch_forget_5 : decode prog_3_method_2_code 5 = .ok (.aload_n 0, 1) := by decide +kernel
theorem d_Ch_forget_6 : decode prog_3_method_2_code 6 = .ok (.iconst 0, 1) := by decide +kernel
theorem d_Ch_forget_7 : decode prog_3_method_2_code 7 = .ok (.putfield 57, 3) := by decide +kernel
theorem d_Ch_init_0 : decode prog_3_method_1_code 0 = .ok (.aload_n 0, 1) := by decide +kernel
theorem d_Ch_init_1 : decode prog_3_method_1_code 1 = .ok (.invokespecial 3, 3) := by decide +kernel
theorem d_Ch_init_102 : decode prog_3_method_1_code 102 = .ok (.dup, 1) := by decide +kernel
theorem d_Ch_init_103 : decode prog_3_method_1_code 103 = .ok (.invokespecial 11, 3) := by decide +kernel
theorem d_Ch_init_106 : decode prog_3_method_1_code 106 = .ok (.aastore, 1) := by decide +kernel
theorem d_Ch_init_107 : decode prog_3_method_1_code 107 = .ok (.iinc 4 1, 3) := by decide +kernel
theorem d_Ch_init_110 : decode prog_3_method_1_code 110 = .ok (.goto (-24), 3) := by decide +kernel
theorem d_Ch_init_113 : decode prog_3_method_1_code 113 = .ok (.aload_n 0, 1) := by decide +kernel
theorem d_Ch_init_114 : decode prog_3_method_1_code 114 = .ok (.iconst (-1), 1) := by decide +kernel
theorem d_Ch_init_115 : decode prog_3_method_1_code 115 = .ok (.putfield 50, 3) := by decide +kernel
theorem d_Ch_init_118 : decode prog_3_method_1_code 118 = .ok (.return_, 1) := by decide +kernel
theorem d_Ch_init_12 : decode prog_3_method_1_code 12 = .ok (.putfield 12, 3) := by decide +kernel
theorem d_Ch_init_15 : decode prog_3_method_1_code 15 = .ok (.aload_n 0, 1) := by decide +kernel
theorem d_Ch_init_16 : decode prog_3_method_1_code 16 = .ok (.new 9, 3) := by decide +kernel
theorem d_Ch_init_19 : decode prog_3_method_1_code 19 = .ok (.dup, 1) := by decide +kernel
theorem d_Ch_init_20 : decode prog_3_method_1_code 20 = .ok (.invokespecial 11, 3) := by decide +kernel
theorem d_Ch_init_23 : decode prog_3_method_1_code 23 = .ok (.putfield 18, 3) := by decide +kernel
theorem d_Ch_init_26 : decode prog_3_method_1_code 26 = .ok (.aload_n 0, 1) := by decide +kernel
theorem d_Ch_init_27 : decode prog_3_method_1_code 27 = .ok (.bipush 100, 2) := by decide +kernel
theorem d_Ch_init_29 : decode prog_3_method_1_code 29 = .ok (.anewarray 9, 3) := by decide +kernel
theorem d_Ch_init_32 : decode prog_3_method_1_code 32 = .ok (.putfield 21, 3) := by decide +kernel
theorem d_Ch_init_35 : decode prog_3_method_1_code 35 = .ok (.aload_n 0, 1) := by decide +kernel
theorem d_Ch_init_36 : decode prog_3_method_1_code 36 = .ok (.new 25, 3) := by decide +kernel
theorem d_Ch_init_39 : decode prog_3_method_1_code 39 = .ok (.dup, 1) := by decide +kernel
theorem d_Ch_init_4 : decode prog_3_method_1_code 4 = .ok (.aload_n 0, 1) := by decide +kernel
theorem d_Ch_init_40 : decode prog_3_method_1_code 40 = .ok (.invokespecial 27, 3) := by decide +kernel
theorem d_Ch_init_43 : decode prog_3_method_1_code 43 = .ok (.putfield 28, 3) := by decide +kernel
theorem d_Ch_init_46 : decode prog_3_method_1_code 46 = .ok (.aload_n 0, 1) := by decide +kernel
theorem d_Ch_init_47 : decode prog_3_method_1_code 47 = .ok (.new 25, 3) := by decide +kernel
theorem d_Ch_init_5 : decode prog_3_method_1_code 5 = .ok (.new 9, 3) := by decide +kernel
theorem d_Ch_init_50 : decode prog_3_method_1_code 50 = .ok (.dup, 1) := by decide +kernel
theorem d_Ch_init_51 : decode prog_3_method_1_code 51 = .ok (.invokespecial 27, 3) := by decide +kernel
theorem d_Ch_init_54 : decode prog_3_method_1_code 54 = .ok (.putfield 32, 3) := by decide +kernel
theorem d_Ch_init_57 : decode prog_3_method_1_code 57 = .ok (.aload_n 0, 1) := by decide +kernel
theorem d_Ch_init_58 : decode prog_3_method_1_code 58 = .ok (.new 25, 3) := by decide +kernel
theorem d_Ch_init_61 : decode prog_3_method_1_code 61 = .ok (.dup, 1) := by decide +kernel
theorem d_Ch_init_62 : decode prog_3_method_1_code 62 = .ok (.invokespecial 27, 3) := by decide +kernel
theorem d_Ch_init_65 : decode prog_3_method_1_code 65 = .ok (.putfield 35, 3) := by decide +kernel
theorem d_Ch_init_68 : decode prog_3_method_1_code 68 = .ok (.aload_n 0, 1) := by decide +kernel
theorem d_Ch_init_69 : decode prog_3_method_1_code 69 = .ok (.aload_n 1, 1) := by decide +kernel
theorem d_Ch_init_70 : decode prog_3_method_1_code 70 = .ok (.putfield 38, 3) := by decide +kernel
theorem d_Ch_init_73 : decode prog_3_method_1_code 73 = .ok (.aload_n 0, 1) := by decide +kernel
theorem d_Ch_init_74 : decode prog_3_method_1_code 74 = .ok (.aload_n 2, 1) := by decide +kernel
theorem d_Ch_init_75 : decode prog_3_method_1_code 75 = .ok (.putfield 42, 3) := by decide +kernel
theorem d_Ch_init_78 : decode prog_3_method_1_code 78 = .ok (.aload_n 0, 1) := by decide +kernel
theorem d_Ch_init_79 : decode prog_3_method_1_code 79 = .ok (.aload_n 3, 1) := by decide +kernel
theorem d_Ch_init_8 : decode prog_3_method_1_code 8 = .ok (.dup, 1) := by decide +kernel
theorem d_Ch_init_80 : decode prog_3_method_1_code 80 = .ok (.putfield 46, 3) := by decide +kernel
theorem d_Ch_init_83 : decode prog_3_method_1_code 83 = .ok (.iconst 0, 1) := by decide +kernel
theorem d_Ch_init_84 : decode prog_3_method_1_code 84 = .ok (.istore 4, 2) := by decide +kernel
theorem d_Ch_init_86 : decode prog_3_method_1_code 86 = .ok (.iload 4, 2) := by decide +kernel
theorem d_Ch_init_88 : decode prog_3_method_1_code 88 = .ok (.bipush 100, 2) := by decide +kernel
theorem d_Ch_init_9 : decode prog_3_method_1_code 9 = .ok (.invokespecial 11, 3) := by decide +kernel
theorem d_Ch_init_90 : decode prog_3_method_1_code 90 = .ok (.if_icmp .ge 23, 3) := by decide +kernel
theorem d_Ch_init_93 : decode prog_3_method_1_code 93 = .ok (.aload_n 0, 1) := by decide +kernel
theorem d_Ch_init_94 : decode prog_3_method_1_code 94 = .ok (.getfield 21, 3) := by decide +kernel
theorem d_Ch_init_97 : decode prog_3_method_1_code 97 = .ok (.iload 4, 2) := by decide +kernel
theorem d_Ch_init_99 : decode prog_3_method_1_code 99 = .ok (.new 9, 3) := by decide +kernel
theorem d_FG_add_0 : decode prog_1_method_3_code 0 = .ok (.aload_n 0, 1) := by decide +kernel
theorem d_FG_add_1 : decode prog_1_method_3_code 1 = .ok (.getfield 57, 3) := by decide +kernel
theorem d_FG_add_11 : decode prog_1_method_3_code 11 = .ok (.getfield 85, 3) := by decide +kernel
theorem d_FG_add_14 : decode prog_1_method_3_code 14 = .ok (.sipush 200, 3) := by decide +kernel
theorem d_FG_add_17 : decode prog_1_method_3_code 17 = .ok (.if_icmp .lt 13, 3) := by decide +kernel
theorem d_FG_add_30 : decode prog_1_method_3_code 30 = .ok (.aload_n 0, 1) := by decide +kernel
theorem d_FG_add_31 : decode prog_1_method_3_code 31 = .ok (.getfield 12, 3) := by decide +kernel
theorem d_FG_add_34 : decode prog_1_method_3_code 34 = .ok (.iload_n 1, 1) := by decide +kernel
theorem d_FG_add_35 : decode prog_1_method_3_code 35 = .ok (.iload_n 2, 1) := by decide +kernel
theorem d_FG_add_36 : decode prog_1_method_3_code 36 = .ok (.iload_n 3, 1) := by decide +kernel
theorem d_FG_add_37 : decode prog_1_method_3_code 37 = .ok (.iload 4, 2) := by decide +kernel
theorem d_FG_add_39 : decode prog_1_method_3_code 39 = .ok (.iload 5, 2) := by decide +kernel
theorem d_FG_add_4 : decode prog_1_method_3_code 4 = .ok (.ifCond .ne 16, 3) := by decide +kernel
theorem d_FG_add_41 : decode prog_1_method_3_code 41 = .ok (.invokevirtual 88, 3) := by decide +kernel
theorem d_FG_add_44 : decode prog_1_method_3_code 44 = .ok (.ireturn, 1) := by decide +kernel
theorem d_FG_add_7 : decode prog_1_method_3_code 7 = .ok (.aload_n 0, 1) := by decide +kernel
theorem d_FG_add_8 : decode prog_1_method_3_code 8 = .ok (.getfield 12, 3) := by decide +kernel
theorem d_FG_check_0 : decode prog_1_method_4_code 0 = .ok (.aload_n 0, 1) := by decide +kernel
theorem d_FG_check_1 : decode prog_1_method_4_code 1 = .ok (.getfield 57, 3) := by decide +kernel
theorem d_FG_check_11 : decode prog_1_method_4_code 11 = .ok (.getfield 85, 3) := by decide +kernel
theorem d_FG_check_14 : decode prog_1_method_4_code 14 = .ok (.ifCond .ne 13, 3) := by decide +kernel
theorem d_FG_check_17 : decode prog_1_method_4_code 17 = .ok (.new 76, 3) := by decide +kernel
theorem d_FG_check_20 : decode prog_1_method_4_code 20 = .ok (.dup, 1) := by decide +kernel
theorem d_FG_check_21 : decode prog_1_method_4_code 21 = .ok (.ldc 91, 2) := by decide +kernel
theorem d_FG_check_23 : decode prog_1_method_4_code 23 = .ok (.invokespecial 80, 3) := by decide +kernel
theorem d_FG_check_26 : decode prog_1_method_4_code 26 = .ok (.athrow, 1) := by decide +kernel
theorem d_FG_check_4 : decode prog_1_method_4_code 4 = .ok (.ifCond .ne 13, 3) := by decide +kernel
theorem d_FG_check_7 : decode prog_1_method_4_code 7 = .ok (.aload_n 0, 1) := by decide +kernel
theorem d_FG_check_8 : decode prog_1_method_4_code 8 = .ok (.getfield 12, 3) := by decide +kernel
theorem d_FG_clear_0 : decode prog_1_method_5_code 0 = .ok (.aload_n 0, 1) := by decide +kernel
theorem d_FG_clear_1 : decode prog_1_method_5_code 1 = .ok (.getfield 12, 3) := by decide +kernel
theorem d_FG_clear_12 : decode prog_1_method_5_code 12 = .ok (.invokevirtual 97, 3) := by decide +kernel
theorem d_FG_clear_15 : decode prog_1_method_5_code 15 = .ok (.aload_n 0, 1) := by decide +kernel
theorem d_FG_clear_16 : decode prog_1_method_5_code 16 = .ok (.getfield 44, 3) := by decide +kernel
theorem d_FG_clear_19 : decode prog_1_method_5_code 19 = .ok (.invokevirtual 100, 3) := by decide +kernel
theorem d_FG_clear_22 : decode prog_1_method_5_code 22 = .ok (.aload_n 0, 1) := by decide +kernel
theorem d_FG_clear_23 : decode prog_1_method_5_code 23 = .ok (.getfield 53, 3) := by decide +kernel
theorem d_FG_clear_26 : decode prog_1_method_5_code 26 = .ok (.invokevirtual 101, 3) := by decide +kernel
theorem d_FG_clear_29 : decode prog_1_method_5_code 29 = .ok (.aload_n 0, 1) := by decide +kernel
theorem d_FG_clear_30 : decode prog_1_method_5_code 30 = .ok (.iconst 0, 1) := by decide +kernel
theorem d_FG_clear_31 : decode prog_1_method_5_code 31 = .ok (.putfield 57, 3) := by decide +kernel
theorem d_FG_clear_34 : decode prog_1_method_5_code 34 = .ok (.return_, 1) := by decide +kernel
theorem d_FG_clear_4 : decode prog_1_method_5_code 4 = .ok (.iconst 0, 1) := by decide +kernel
theorem d_FG_clear_5 : decode prog_1_method_5_code 5 = .ok (.putfield 85, 3) := by decide +kernel
theorem d_FG_clear_8 : decode prog_1_method_5_code 8 = .ok (.aload_n 0, 1) := by decide +kernel
theorem d_FG_clear_9 : decode prog_1_method_5_code 9 = .ok (.getfield 19, 3) := by decide +kernel
theorem d_FG_count_0 : decode prog_1_method_14_code 0 = .ok (.iload_n 1, 1) := by decide +kernel
theorem d_FG_count_1 : decode prog_1_method_14_code 1 = .ok (.tableswitch 140 0 9 #[55, 63, 71, 79, 87, 100, 108, 116, 124, 132], 55) := by decide +kernel
theorem d_FG_count_100 : decode prog_1_method_14_code 100 = .ok (.ireturn, 1) := by decide +kernel
theorem d_FG_count_101 : decode prog_1_method_14_code 101 = .ok (.aload_n 0, 1) := by decide +kernel
theorem d_FG_count_102 : decode prog_1_method_14_code 102 = .ok (.getfield 44, 3) := by decide +kernel
theorem d_FG_count_105 : decode prog_1_method_14_code 105 = .ok (.getfield 171, 3) := by decide +kernel
theorem d_FG_count_108 : decode prog_1_method_14_code 108 = .ok (.ireturn, 1) := by decide +kernel
theorem d_FG_count_109 : decode prog_1_method_14_code 109 = .ok (.aload_n 0, 1) := by decide +kernel
theorem d_FG_count_110 : decode prog_1_method_14_code 110 = .ok (.getfield 44, 3) := by decide +kernel
theorem d_FG_count_113 : decode prog_1_method_14_code 113 = .ok (.getfield 174, 3) := by decide +kernel
theorem d_FG_count_116 : decode prog_1_method_14_code 116 = .ok (.ireturn, 1) := by decide +kernel
theorem d_FG_count_117 : decode prog_1_method_14_code 117 = .ok (.aload_n 0, 1) := by decide +kernel
theorem d_FG_count_118 : decode prog_1_method_14_code 118 = .ok (.getfield 44, 3) := by decide +kernel
theorem d_FG_count_121 : decode prog_1_method_14_code 121 = .ok (.getfield 177, 3) := by decide +kernel
theorem d_FG_count_124 : decode prog_1_method_14_code 124 = .ok (.ireturn, 1) := by decide +kernel
theorem d_FG_count_125 : decode prog_1_method_14_code 125 = .ok (.aload_n 0, 1) := by decide +kernel
theorem d_FG_count_126 : decode prog_1_method_14_code 126 = .ok (.getfield 53, 3) := by decide +kernel
theorem d_FG_count_129 : decode prog_1_method_14_code 129 = .ok (.getfield 180, 3) := by decide +kernel
theorem d_FG_count_132 : decode prog_1_method_14_code 132 = .ok (.ireturn, 1) := by decide +kernel
theorem d_FG_count_133 : decode prog_1_method_14_code 133 = .ok (.aload_n 0, 1) := by decide +kernel
theorem d_FG_count_134 : decode prog_1_method_14_code 134 = .ok (.getfield 53, 3) := by decide +kernel
theorem d_FG_count_137 : decode prog_1_method_14_code 137 = .ok (.invokevirtual 183, 3) := by decide +kernel
theorem d_FG_count_140 : decode prog_1_method_14_code 140 = .ok (.ireturn, 1) := by decide +kernel
theorem d_FG_count_141 : decode prog_1_method_14_code 141 = .ok (.iconst (-1), 1) := by decide +kernel
theorem d_FG_count_142 : decode prog_1_method_14_code 142 = .ok (.ireturn, 1) := by decide +kernel
theorem d_FG_count_56 : decode prog_1_method_14_code 56 = .ok (.aload_n 0, 1) := by decide +kernel
theorem d_FG_count_57 : decode prog_1_method_14_code 57 = .ok (.getfield 12, 3) := by decide +kernel
theorem d_FG_count_60 : decode prog_1_method_14_code 60 = .ok (.getfield 85, 3) := by decide +kernel
theorem d_FG_count_63 : decode prog_1_method_14_code 63 = .ok (.ireturn, 1) := by decide +kernel
theorem d_FG_count_64 : decode prog_1_method_14_code 64 = .ok (.aload_n 0, 1) := by decide +kernel
theorem d_FG_count_65 : decode prog_1_method_14_code 65 = .ok (.getfield 19, 3) := by decide +kernel
theorem d_FG_count_68 : decode prog_1_method_14_code 68 = .ok (.getfield 72, 3) := by decide +kernel
theorem d_FG_count_71 : decode prog_1_method_14_code 71 = .ok (.ireturn, 1) := by decide +kernel
theorem d_FG_count_72 : decode prog_1_method_14_code 72 = .ok (.aload_n 0, 1) := by decide +kernel
theorem d_FG_count_73 : decode prog_1_method_14_code 73 = .ok (.getfield 28, 3) := by decide +kernel
theorem d_FG_count_76 : decode prog_1_method_14_code 76 = .ok (.getfield 102, 3) := by decide +kernel
theorem d_FG_count_79 : decode prog_1_method_14_code 79 = .ok (.ireturn, 1) := by decide +kernel
theorem d_FG_count_80 : decode prog_1_method_14_code 80 = .ok (.aload_n 0, 1) := by decide +kernel
theorem d_FG_count_81 : decode prog_1_method_14_code 81 = .ok (.getfield 53, 3) := by decide +kernel
theorem d_FG_count_84 : decode prog_1_method_14_code 84 = .ok (.getfield 151, 3) := by decide +kernel
theorem d_FG_count_87 : decode prog_1_method_14_code 87 = .ok (.ireturn, 1) := by decide +kernel
theorem d_FG_count_88 : decode prog_1_method_14_code 88 = .ok (.aload_n 0, 1) := by decide +kernel
theorem d_FG_count_89 : decode prog_1_method_14_code 89 = .ok (.getfield 57, 3) := by decide +kernel
theorem d_FG_count_92 : decode prog_1_method_14_code 92 = .ok (.ifCond .eq 7, 3) := by decide +kernel
theorem d_FG_count_99 : decode prog_1_method_14_code 99 = .ok (.iconst 0, 1) := by decide +kernel
theorem d_FG_end_0 : decode prog_1_method_7_code 0 = .ok (.iload_n 1, 1) := by decide +kernel
theorem d_FG_end_1 : decode prog_1_method_7_code 1 = .ok (.iconst 0, 1) := by decide +kernel
theorem d_FG_end_12 : decode prog_1_method_7_code 12 = .ok (.ifCond .ne 13, 3) := by decide +kernel
theorem d_FG_end_15 : decode prog_1_method_7_code 15 = .ok (.new 65, 3) := by decide +kernel
theorem d_FG_end_18 : decode prog_1_method_7_code 18 = .ok (.dup, 1) := by decide +kernel
theorem d_FG_end_19 : decode prog_1_method_7_code 19 = .ok (.ldc 114, 2) := by decide +kernel
theorem d_FG_end_2 : decode prog_1_method_7_code 2 = .ok (.aload_n 0, 1) := by decide +kernel
theorem d_FG_end_21 : decode prog_1_method_7_code 21 = .ok (.invokespecial 69, 3) := by decide +kernel
theorem d_FG_end_24 : decode prog_1_method_7_code 24 = .ok (.athrow, 1) := by decide +kernel
theorem d_FG_end_25 : decode prog_1_method_7_code 25 = .ok (.aload_n 0, 1) := by decide +kernel
theorem d_FG_end_26 : decode prog_1_method_7_code 26 = .ok (.getfield 28, 3) := by decide +kernel
theorem d_FG_end_29 : decode prog_1_method_7_code 29 = .ok (.dup, 1) := by decide +kernel
theorem d_FG_end_3 : decode prog_1_method_7_code 3 = .ok (.getfield 28, 3) := by decide +kernel
theorem d_FG_end_30 : decode prog_1_method_7_code 30 = .ok (.getfield 102, 3) := by decide +kernel
theorem d_FG_end_33 : decode prog_1_method_7_code 33 = .ok (.iload_n 1, 1) := by decide +kernel
theorem d_FG_end_34 : decode prog_1_method_7_code 34 = .ok (.isub, 1) := by decide +kernel
theorem d_FG_end_35 : decode prog_1_method_7_code 35 = .ok (.putfield 102, 3) := by decide +kernel
theorem d_FG_end_38 : decode prog_1_method_7_code 38 = .ok (.aload_n 0, 1) := by decide +kernel
theorem d_FG_end_39 : decode prog_1_method_7_code 39 = .ok (.getfield 28, 3) := by decide +kernel
theorem d_FG_end_42 : decode prog_1_method_7_code 42 = .ok (.getfield 102, 3) := by decide +kernel
theorem d_FG_end_45 : decode prog_1_method_7_code 45 = .ok (.ireturn, 1) := by decide +kernel
theorem d_FG_end_6 : decode prog_1_method_7_code 6 = .ok (.getfield 102, 3) := by decide +kernel
theorem d_FG_end_9 : decode prog_1_method_7_code 9 = .ok (.invokestatic 61, 3) := by decide +kernel
theorem d_FG_feed_0 : decode prog_1_method_6_code 0 = .ok (.aload_n 0, 1) := by decide +kernel
theorem d_FG_feed_1 : decode prog_1_method_6_code 1 = .ok (.getfield 28, 3) := by decide +kernel
theorem d_FG_feed_10 : decode prog_1_method_6_code 10 = .ok (.sipush 400, 3) := by decide +kernel
theorem d_FG_feed_13 : decode prog_1_method_6_code 13 = .ok (.if_icmp .le 13, 3) := by decide +kernel
theorem d_FG_feed_26 : decode prog_1_method_6_code 26 = .ok (.aload_n 0, 1) := by decide +kernel
theorem d_FG_feed_27 : decode prog_1_method_6_code 27 = .ok (.getfield 28, 3) := by decide +kernel
theorem d_FG_feed_30 : decode prog_1_method_6_code 30 = .ok (.iload_n 1, 1) := by decide +kernel
theorem d_FG_feed_31 : decode prog_1_method_6_code 31 = .ok (.invokevirtual 110, 3) := by decide +kernel
theorem d_FG_feed_34 : decode prog_1_method_6_code 34 = .ok (.aload_n 0, 1) := by decide +kernel
theorem d_FG_feed_35 : decode prog_1_method_6_code 35 = .ok (.getfield 28, 3) := by decide +kernel
theorem d_FG_feed_38 : decode prog_1_method_6_code 38 = .ok (.iload_n 2, 1) := by decide +kernel
theorem d_FG_feed_39 : decode prog_1_method_6_code 39 = .ok (.invokevirtual 110, 3) := by decide +kernel
theorem d_FG_feed_4 : decode prog_1_method_6_code 4 = .ok (.getfield 102, 3) := by decide +kernel
theorem d_FG_feed_42 : decode prog_1_method_6_code 42 = .ok (.aload_n 0, 1) := by decide +kernel
theorem d_FG_feed_43 : decode prog_1_method_6_code 43 = .ok (.getfield 28, 3) := by decide +kernel
theorem d_FG_feed_46 : decode prog_1_method_6_code 46 = .ok (.iload_n 3, 1) := by decide +kernel
theorem d_FG_feed_47 : decode prog_1_method_6_code 47 = .ok (.invokevirtual 110, 3) := by decide +kernel
theorem d_FG_feed_50 : decode prog_1_method_6_code 50 = .ok (.aload_n 0, 1) := by decide +kernel
theorem d_FG_feed_51 : decode prog_1_method_6_code 51 = .ok (.getfield 28, 3) := by decide +kernel
theorem d_FG_feed_54 : decode prog_1_method_6_code 54 = .ok (.iload 4, 2) := by decide +kernel
theorem d_FG_feed_56 : decode prog_1_method_6_code 56 = .ok (.invokevirtual 110, 3) := by decide +kernel
theorem d_FG_feed_59 : decode prog_1_method_6_code 59 = .ok (.aload_n 0, 1) := by decide +kernel
theorem d_FG_feed_60 : decode prog_1_method_6_code 60 = .ok (.getfield 28, 3) := by decide +kernel
theorem d_FG_feed_63 : decode prog_1_method_6_code 63 = .ok (.iload 5, 2) := by decide +kernel
theorem d_FG_feed_65 : decode prog_1_method_6_code 65 = .ok (.invokevirtual 110, 3) := by decide +kernel
theorem d_FG_feed_68 : decode prog_1_method_6_code 68 = .ok (.aload_n 0, 1) := by decide +kernel
theorem d_FG_feed_69 : decode prog_1_method_6_code 69 = .ok (.getfield 28, 3) := by decide +kernel
theorem d_FG_feed_7 : decode prog_1_method_6_code 7 = .ok (.bipush 20, 2) := by decide +kernel
theorem d_FG_feed_72 : decode prog_1_method_6_code 72 = .ok (.getfield 102, 3) := by decide +kernel
theorem d_FG_feed_75 : decode prog_1_method_6_code 75 = .ok (.ireturn, 1) := by decide +kernel
theorem d_FG_feed_9 : decode prog_1_method_6_code 9 = .ok (.iadd, 1) := by decide +kernel
theorem d_FG_init_0 : decode prog_1_method_1_code 0 = .ok (.aload_n 0, 1) := by decide +kernel
theorem d_FG_init_1 : decode prog_1_method_1_code 1 = .ok (.invokespecial 3, 3) := by decide +kernel
theorem d_FG_init_100 : decode prog_1_method_1_code 100 = .ok (.putfield 57, 3) := by decide +kernel
theorem d_FG_init_103 : decode prog_1_method_1_code 103 = .ok (.return_, 1) := by decide +kernel
theorem d_FG_init_12 : decode prog_1_method_1_code 12 = .ok (.putfield 12, 3) := by decide +kernel
theorem d_FG_init_15 : decode prog_1_method_1_code 15 = .ok (.aload_n 0, 1) := by decide +kernel
theorem d_FG_init_16 : decode prog_1_method_1_code 16 = .ok (.new 16, 3) := by decide +kernel
theorem d_FG_init_19 : decode prog_1_method_1_code 19 = .ok (.dup, 1) := by decide +kernel
theorem d_FG_init_20 : decode prog_1_method_1_code 20 = .ok (.invokespecial 18, 3) := by decide +kernel
theorem d_FG_init_23 : decode prog_1_method_1_code 23 = .ok (.putfield 19, 3) := by decide +kernel
theorem d_FG_init_26 : decode prog_1_method_1_code 26 = .ok (.aload_n 0, 1) := by decide +kernel
theorem d_FG_init_27 : decode prog_1_method_1_code 27 = .ok (.new 23, 3) := by decide +kernel
theorem d_FG_init_30 : decode prog_1_method_1_code 30 = .ok (.dup, 1) := by decide +kernel
theorem d_FG_init_31 : decode prog_1_method_1_code 31 = .ok (.aload_n 0, 1) := by decide +kernel
theorem d_FG_init_32 : decode prog_1_method_1_code 32 = .ok (.getfield 19, 3) := by decide +kernel
theorem d_FG_init_35 : decode prog_1_method_1_code 35 = .ok (.invokespecial 25, 3) := by decide +kernel
theorem d_FG_init_38 : decode prog_1_method_1_code 38 = .ok (.putfield 28, 3) := by decide +kernel
theorem d_FG_init_4 : decode prog_1_method_1_code 4 = .ok (.aload_n 0, 1) := by decide +kernel
theorem d_FG_init_41 : decode prog_1_method_1_code 41 = .ok (.aload_n 0, 1) := by decide +kernel
theorem d_FG_init_42 : decode prog_1_method_1_code 42 = .ok (.new 32, 3) := by decide +kernel
theorem d_FG_init_45 : decode prog_1_method_1_code 45 = .ok (.dup, 1) := by decide +kernel
theorem d_FG_init_46 : decode prog_1_method_1_code 46 = .ok (.invokespecial 34, 3) := by decide +kernel
theorem d_FG_init_49 : decode prog_1_method_1_code 49 = .ok (.putfield 35, 3) := by decide +kernel
theorem d_FG_init_5 : decode prog_1_method_1_code 5 = .ok (.new 9, 3) := by decide +kernel
theorem d_FG_init_52 : decode prog_1_method_1_code 52 = .ok (.aload_n 0, 1) := by decide +kernel
theorem d_FG_init_53 : decode prog_1_method_1_code 53 = .ok (.new 39, 3) := by decide +kernel
theorem d_FG_init_56 : decode prog_1_method_1_code 56 = .ok (.dup, 1) := by decide +kernel
theorem d_FG_init_57 : decode prog_1_method_1_code 57 = .ok (.aload_n 0, 1) := by decide +kernel
theorem d_FG_init_58 : decode prog_1_method_1_code 58 = .ok (.getfield 12, 3) := by decide +kernel
theorem d_FG_init_61 : decode prog_1_method_1_code 61 = .ok (.aload_n 0, 1) := by decide +kernel
theorem d_FG_init_62 : decode prog_1_method_1_code 62 = .ok (.getfield 19, 3) := by decide +kernel
theorem d_FG_init_65 : decode prog_1_method_1_code 65 = .ok (.aload_n 0, 1) := by decide +kernel
theorem d_FG_init_66 : decode prog_1_method_1_code 66 = .ok (.getfield 35, 3) := by decide +kernel
theorem d_FG_init_69 : decode prog_1_method_1_code 69 = .ok (.invokespecial 41, 3) := by decide +kernel
theorem d_FG_init_72 : decode prog_1_method_1_code 72 = .ok (.putfield 44, 3) := by decide +kernel
theorem d_FG_init_75 : decode prog_1_method_1_code 75 = .ok (.aload_n 0, 1) := by decide +kernel
theorem d_FG_init_76 : decode prog_1_method_1_code 76 = .ok (.new 48, 3) := by decide +kernel
theorem d_FG_init_79 : decode prog_1_method_1_code 79 = .ok (.dup, 1) := by decide +kernel
theorem d_FG_init_8 : decode prog_1_method_1_code 8 = .ok (.dup, 1) := by decide +kernel
theorem d_FG_init_80 : decode prog_1_method_1_code 80 = .ok (.aload_n 0, 1) := by decide +kernel
theorem d_FG_init_81 : decode prog_1_method_1_code 81 = .ok (.getfield 12, 3) := by decide +kernel
theorem d_FG_init_84 : decode prog_1_method_1_code 84 = .ok (.aload_n 0, 1) := by decide +kernel
theorem d_FG_init_85 : decode prog_1_method_1_code 85 = .ok (.getfield 35, 3) := by decide +kernel
theorem d_FG_init_88 : decode prog_1_method_1_code 88 = .ok (.aload_n 0, 1) := by decide +kernel
theorem d_FG_init_89 : decode prog_1_method_1_code 89 = .ok (.getfield 28, 3) := by decide +kernel
theorem d_FG_init_9 : decode prog_1_method_1_code 9 = .ok (.invokespecial 11, 3) := by decide +kernel
theorem d_FG_init_92 : decode prog_1_method_1_code 92 = .ok (.invokespecial 50, 3) := by decide +kernel
theorem d_FG_init_95 : decode prog_1_method_1_code 95 = .ok (.putfield 53, 3) := by decide +kernel
theorem d_FG_init_98 : decode prog_1_method_1_code 98 = .ok (.aload_n 0, 1) := by decide +kernel
theorem d_FG_init_99 : decode prog_1_method_1_code 99 = .ok (.iconst 0, 1) := by decide +kernel
theorem d_FG_known_0 : decode prog_1_method_13_code 0 = .ok (.iload_n 3, 1) := by decide +kernel
theorem d_FG_known_1 : decode prog_1_method_13_code 1 = .ok (.iconst 0, 1) := by decide +kernel
theorem d_FG_known_12 : decode prog_1_method_13_code 12 = .ok (.dup, 1) := by decide +kernel
theorem d_FG_known_13 : decode prog_1_method_13_code 13 = .ok (.ldc 160, 2) := by decide +kernel
theorem d_FG_known_15 : decode prog_1_method_13_code 15 = .ok (.invokespecial 69, 3) := by decide +kernel
theorem d_FG_known_18 : decode prog_1_method_13_code 18 = .ok (.athrow, 1) := by decide +kernel
theorem d_FG_known_19 : decode prog_1_method_13_code 19 = .ok (.aload_n 0, 1) := by decide +kernel
theorem d_FG_known_2 : decode prog_1_method_13_code 2 = .ok (.iconst 3, 1) := by decide +kernel
theorem d_FG_known_20 : decode prog_1_method_13_code 20 = .ok (.getfield 57, 3) := by decide +kernel
theorem d_FG_known_23 : decode prog_1_method_13_code 23 = .ok (.ifCond .eq 32, 3) := by decide +kernel
theorem d_FG_known_3 : decode prog_1_method_13_code 3 = .ok (.invokestatic 61, 3) := by decide +kernel
theorem d_FG_known_55 : decode prog_1_method_13_code 55 = .ok (.new 126, 3) := by decide +kernel
theorem d_FG_known_58 : decode prog_1_method_13_code 58 = .ok (.dup, 1) := by decide +kernel
theorem d_FG_known_59 : decode prog_1_method_13_code 59 = .ok (.ldc 166, 2) := by decide +kernel
theorem d_FG_known_6 : decode prog_1_method_13_code 6 = .ok (.ifCond .ne 13, 3) := by decide +kernel
theorem d_FG_known_61 : decode prog_1_method_13_code 61 = .ok (.invokespecial 130, 3) := by decide +kernel
theorem d_FG_known_64 : decode prog_1_method_13_code 64 = .ok (.athrow, 1) := by decide +kernel
theorem d_FG_known_9 : decode prog_1_method_13_code 9 = .ok (.new 65, 3) := by decide +kernel
theorem d_FG_letter_0 : decode prog_1_method_10_code 0 = .ok (.iload_n 1, 1) := by decide +kernel
theorem d_FG_letter_1 : decode prog_1_method_10_code 1 = .ok (.iconst 0, 1) := by decide +kernel
theorem d_FG_letter_10 : decode prog_1_method_10_code 10 = .ok (.isub, 1) := by decide +kernel
theorem d_FG_letter_11 : decode prog_1_method_10_code 11 = .ok (.invokestatic 61, 3) := by decide +kernel
theorem d_FG_letter_14 : decode prog_1_method_10_code 14 = .ok (.ifCond .ne 13, 3) := by decide +kernel
theorem d_FG_letter_17 : decode prog_1_method_10_code 17 = .ok (.new 126, 3) := by decide +kernel
theorem d_FG_letter_2 : decode prog_1_method_10_code 2 = .ok (.aload_n 0, 1) := by decide +kernel
theorem d_FG_letter_20 : decode prog_1_method_10_code 20 = .ok (.dup, 1) := by decide +kernel
theorem d_FG_letter_21 : decode prog_1_method_10_code 21 = .ok (.ldc 128, 2) := by decide +kernel
theorem d_FG_letter_23 : decode prog_1_method_10_code 23 = .ok (.invokespecial 130, 3) := by decide +kernel
theorem d_FG_letter_26 : decode prog_1_method_10_code 26 = .ok (.athrow, 1) := by decide +kernel
theorem d_FG_letter_3 : decode prog_1_method_10_code 3 = .ok (.getfield 28, 3) := by decide +kernel
theorem d_FG_letter_6 : decode prog_1_method_10_code 6 = .ok (.getfield 102, 3) := by decide +kernel
theorem d_FG_letter_9 : decode prog_1_method_10_code 9 = .ok (.iconst 1, 1) := by decide +kernel
theorem d_FG_log_0 : decode prog_1_method_12_code 0 = .ok (.iload_n 1, 1) := by decide +kernel
theorem d_FG_log_1 : decode prog_1_method_12_code 1 = .ok (.iconst 0, 1) := by decide +kernel
theorem d_FG_log_10 : decode prog_1_method_12_code 10 = .ok (.isub, 1) := by decide +kernel
theorem d_FG_log_11 : decode prog_1_method_12_code 11 = .ok (.invokestatic 61, 3) := by decide +kernel
theorem d_FG_log_14 : decode prog_1_method_12_code 14 = .ok (.ifCond .ne 13, 3) := by decide +kernel
theorem d_FG_log_17 : decode prog_1_method_12_code 17 = .ok (.new 126, 3) := by decide +kernel
theorem d_FG_log_2 : decode prog_1_method_12_code 2 = .ok (.aload_n 0, 1) := by decide +kernel
theorem d_FG_log_20 : decode prog_1_method_12_code 20 = .ok (.dup, 1) := by decide +kernel
theorem d_FG_log_21 : decode prog_1_method_12_code 21 = .ok (.ldc 154, 2) := by decide +kernel
theorem d_FG_log_23 : decode prog_1_method_12_code 23 = .ok (.invokespecial 130, 3) := by decide +kernel
theorem d_FG_log_26 : decode prog_1_method_12_code 26 = .ok (.athrow, 1) := by decide +kernel
theorem d_FG_log_3 : decode prog_1_method_12_code 3 = .ok (.getfield 53, 3) := by decide +kernel
theorem d_FG_log_6 : decode prog_1_method_12_code 6 = .ok (.getfield 151, 3) := by decide +kernel
theorem d_FG_log_9 : decode prog_1_method_12_code 9 = .ok (.iconst 1, 1) := by decide +kernel
theorem d_FG_map_0 : decode prog_1_method_2_code 0 = .ok (.iload_n 1, 1) := by decide +kernel
theorem d_FG_map_1 : decode prog_1_method_2_code 1 = .ok (.iconst 1, 1) := by decide +kernel
theorem d_FG_map_10 : decode prog_1_method_2_code 10 = .ok (.iload_n 2, 1) := by decide +kernel
theorem d_FG_map_11 : decode prog_1_method_2_code 11 = .ok (.iconst 1, 1) := by decide +kernel
theorem d_FG_map_12 : decode prog_1_method_2_code 12 = .ok (.bipush 64, 2) := by decide +kernel
theorem d_FG_map_14 : decode prog_1_method_2_code 14 = .ok (.invokestatic 61, 3) := by decide +kernel
theorem d_FG_map_17 : decode prog_1_method_2_code 17 = .ok (.ifCond .eq 13, 3) := by decide +kernel
theorem d_FG_map_2 : decode prog_1_method_2_code 2 = .ok (.bipush 8, 2) := by decide +kernel
theorem d_FG_map_20 : decode prog_1_method_2_code 20 = .ok (.iload_n 3, 1) := by decide +kernel
theorem d_FG_map_21 : decode prog_1_method_2_code 21 = .ok (.iconst 1, 1) := by decide +kernel
theorem d_FG_map_22 : decode prog_1_method_2_code 22 = .ok (.bipush 16, 2) := by decide +kernel
theorem d_FG_map_24 : decode prog_1_method_2_code 24 = .ok (.invokestatic 61, 3) := by decide +kernel
theorem d_FG_map_27 : decode prog_1_method_2_code 27 = .ok (.ifCond .ne 13, 3) := by decide +kernel
theorem d_FG_map_30 : decode prog_1_method_2_code 30 = .ok (.new 65, 3) := by decide +kernel
theorem d_FG_map_33 : decode prog_1_method_2_code 33 = .ok (.dup, 1) := by decide +kernel
theorem d_FG_map_34 : decode prog_1_method_2_code 34 = .ok (.ldc 67, 2) := by decide +kernel
theorem d_FG_map_36 : decode prog_1_method_2_code 36 = .ok (.invokespecial 69, 3) := by decide +kernel
theorem d_FG_map_39 : decode prog_1_method_2_code 39 = .ok (.athrow, 1) := by decide +kernel
theorem d_FG_map_4 : decode prog_1_method_2_code 4 = .ok (.invokestatic 61, 3) := by decide +kernel
theorem d_FG_map_40 : decode prog_1_method_2_code 40 = .ok (.aload_n 0, 1) := by decide +kernel
theorem d_FG_map_41 : decode prog_1_method_2_code 41 = .ok (.getfield 57, 3) := by decide +kernel
theorem d_FG_map_44 : decode prog_1_method_2_code 44 = .ok (.ifCond .ne 14, 3) := by decide +kernel
theorem d_FG_map_47 : decode prog_1_method_2_code 47 = .ok (.aload_n 0, 1) := by decide +kernel
theorem d_FG_map_48 : decode prog_1_method_2_code 48 = .ok (.getfield 19, 3) := by decide +kernel
theorem d_FG_map_51 : decode prog_1_method_2_code 51 = .ok (.getfield 72, 3) := by decide +kernel
theorem d_FG_map_54 : decode prog_1_method_2_code 54 = .ok (.iconst 4, 1) := by decide +kernel
theorem d_FG_map_55 : decode prog_1_method_2_code 55 = .ok (.if_icmp .lt 13, 3) := by decide +kernel
theorem d_FG_map_68 : decode prog_1_method_2_code 68 = .ok (.aload_n 0, 1) := by decide +kernel
theorem d_FG_map_69 : decode prog_1_method_2_code 69 = .ok (.getfield 19, 3) := by decide +kernel
theorem d_FG_map_7 : decode prog_1_method_2_code 7 = .ok (.ifCond .eq 23, 3) := by decide +kernel
theorem d_FG_map_72 : decode prog_1_method_2_code 72 = .ok (.iload_n 1, 1) := by decide +kernel
theorem d_FG_map_73 : decode prog_1_method_2_code 73 = .ok (.iload_n 2, 1) := by decide +kernel
theorem d_FG_map_74 : decode prog_1_method_2_code 74 = .ok (.iload_n 3, 1) := by decide +kernel
theorem d_FG_map_75 : decode prog_1_method_2_code 75 = .ok (.invokevirtual 81, 3) := by decide +kernel
theorem d_FG_map_78 : decode prog_1_method_2_code 78 = .ok (.ireturn, 1) := by decide +kernel
theorem d_FG_place_0 : decode prog_1_method_11_code 0 = .ok (.aload_n 0, 1) := by decide +kernel
theorem d_FG_place_1 : decode prog_1_method_11_code 1 = .ok (.getfield 19, 3) := by decide +kernel
theorem d_FG_place_4 : decode prog_1_method_11_code 4 = .ok (.iload_n 1, 1) := by decide +kernel
theorem d_FG_place_41 : decode prog_1_method_11_code 41 = .ok (.new 126, 3) := by decide +kernel
theorem d_FG_place_44 : decode prog_1_method_11_code 44 = .ok (.dup, 1) := by decide +kernel
theorem d_FG_place_45 : decode prog_1_method_11_code 45 = .ok (.ldc 146, 2) := by decide +kernel
theorem d_FG_place_47 : decode prog_1_method_11_code 47 = .ok (.invokespecial 130, 3) := by decide +kernel
theorem d_FG_place_5 : decode prog_1_method_11_code 5 = .ok (.iload_n 2, 1) := by decide +kernel
theorem d_FG_place_50 : decode prog_1_method_11_code 50 = .ok (.athrow, 1) := by decide +kernel
theorem d_FG_place_6 : decode prog_1_method_11_code 6 = .ok (.invokevirtual 135, 3) := by decide +kernel
theorem d_FG_place_9 : decode prog_1_method_11_code 9 = .ok (.ifCond .eq 32, 3) := by decide +kernel
theorem d_FG_run_0 : decode prog_1_method_9_code 0 = .ok (.aload_n 0, 1) := by decide +kernel
theorem d_FG_run_1 : decode prog_1_method_9_code 1 = .ok (.getfield 57, 3) := by decide +kernel
theorem d_FG_run_10 : decode prog_1_method_9_code 10 = .ok (.dup, 1) := by decide +kernel
theorem d_FG_run_11 : decode prog_1_method_9_code 11 = .ok (.ldc 120, 2) := by decide +kernel
theorem d_FG_run_13 : decode prog_1_method_9_code 13 = .ok (.invokespecial 80, 3) := by decide +kernel
theorem d_FG_run_16 : decode prog_1_method_9_code 16 = .ok (.athrow, 1) := by decide +kernel
theorem d_FG_run_4 : decode prog_1_method_9_code 4 = .ok (.ifCond .ne 13, 3) := by decide +kernel
theorem d_FG_run_7 : decode prog_1_method_9_code 7 = .ok (.new 76, 3) := by decide +kernel
theorem d_FG_seed_0 : decode prog_1_method_8_code 0 = .ok (.aload_n 0, 1) := by decide +kernel
theorem d_FG_seed_1 : decode prog_1_method_8_code 1 = .ok (.getfield 53, 3) := by decide +kernel
theorem d_FG_seed_4 : decode prog_1_method_8_code 4 = .ok (.lload_n 1, 1) := by decide +kernel
theorem d_FG_seed_5 : decode prog_1_method_8_code 5 = .ok (.putfield 116, 3) := by decide +kernel
theorem d_FG_seed_8 : decode prog_1_method_8_code 8 = .ok (.return_, 1) := by decide +kernel
theorem d_FG_within_0 : decode prog_1_method_15_code 0 = .ok (.iload_n 0, 1) := by decide +kernel
theorem d_FG_within_1 : decode prog_1_method_15_code 1 = .ok (.iload_n 1, 1) := by decide +kernel
theorem d_FG_within_10 : decode prog_1_method_15_code 10 = .ok (.iconst 1, 1) := by decide +kernel
theorem d_FG_within_11 : decode prog_1_method_15_code 11 = .ok (.goto 4, 3) := by decide +kernel
theorem d_FG_within_14 : decode prog_1_method_15_code 14 = .ok (.iconst 0, 1) := by decide +kernel
theorem d_FG_within_15 : decode prog_1_method_15_code 15 = .ok (.ireturn, 1) := by decide +kernel
theorem d_FG_within_2 : decode prog_1_method_15_code 2 = .ok (.if_icmp .lt 12, 3) := by decide +kernel
theorem d_FG_within_5 : decode prog_1_method_15_code 5 = .ok (.iload_n 0, 1) := by decide +kernel
theorem d_FG_within_6 : decode prog_1_method_15_code 6 = .ok (.iload_n 2, 1) := by decide +kernel
theorem d_FG_within_7 : decode prog_1_method_15_code 7 = .ok (.if_icmp .gt 7, 3) := by decide +kernel
theorem d_Fo_init_0 : decode prog_4_method_1_code 0 = .ok (.aload_n 0, 1) := by decide +kernel
theorem d_Fo_init_1 : decode prog_4_method_1_code 1 = .ok (.invokespecial 3, 3) := by decide +kernel
theorem d_Fo_init_10 : decode prog_4_method_1_code 10 = .ok (.putfield 9, 3) := by decide +kernel
theorem d_Fo_init_13 : decode prog_4_method_1_code 13 = .ok (.aload_n 0, 1) := by decide +kernel
theorem d_Fo_init_14 : decode prog_4_method_1_code 14 = .ok (.sipush 2200, 3) := by decide +kernel
theorem d_Fo_init_17 : decode prog_4_method_1_code 17 = .ok (.newarray .boolean, 2) := by decide +kernel
theorem d_Fo_init_19 : decode prog_4_method_1_code 19 = .ok (.putfield 15, 3) := by decide +kernel
