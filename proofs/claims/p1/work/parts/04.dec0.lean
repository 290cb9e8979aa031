theorem d_Ch_init_0 : decode prog_3_method_1_code 0 = .ok (.aload_n 0, 1) := by decide +kernel
theorem d_Ch_init_1 : decode prog_3_method_1_code 1 = .ok (.invokespecial 3, 3) := by decide +kernel
theorem d_Ch_init_102 : decode prog_3_method_1_code 102 = .ok (.dup, 1) := by decide +kernel
theorem d_Ch_init_103 : decode prog_3_method_1_code 103 = .ok (.invokespecial 11, 3) := by decide +kernel
theorem d_Ch_init_106 : decode prog_3_method_1_code 106 = .ok (.aastore, 1) := by decide +kernel
theorem d_Ch_init_107 : decode prog_3_method_1_code 107 = .ok (.iinc 4 1, 3) := by decide +kernel
theorem d_Ch_init_110 : decode prog_3_method_1_code 110 = .ok (.goto (-24), 3) := by decide +kernel
theorem d_Ch_init_113 : decode prog_3_method_1_code 113 = .ok (.aload_n 0, 1) := by decide +kernel
theorem d_Ch_init_114 : decode prog_3_method_1_code 114 = .ok (.iconst (-1), 1) := by decide +kernel
theorem d_Ch_init_115 : decode prog_3_method_1_code 115 = .ok (.putfield 50, 3) := by decide +kernel
theorem d_Ch_init_118 : decode prog_3_method_1_code 118 = .ok (.return_, 1) := by decide +kernel
theorem d_Ch_init_12 : decode prog_3_method_1_code 12 = .ok (.putfield 12, 3) := by decide +kernel
theorem d_Ch_init_15 : decode prog_3_method_1_code 15 = .ok (.aload_n 0, 1) := by decide +kernel
theorem d_Ch_init_16 : decode prog_3_method_1_code 16 = .ok (.new 9, 3) := by decide +kernel
theorem d_Ch_init_19 : decode prog_3_method_1_code 19 = .ok (.dup, 1) := by decide +kernel
theorem d_Ch_init_20 : decode prog_3_method_1_code 20 = .ok (.invokespecial 11, 3) := by decide +kernel
theorem d_Ch_init_23 : decode prog_3_method_1_code 23 = .ok (.putfield 18, 3) := by decide +kernel
theorem d_Ch_init_26 : decode prog_3_method_1_code 26 = .ok (.aload_n 0, 1) := by decide +kernel
theorem d_Ch_init_27 : decode prog_3_method_1_code 27 = .ok (.bipush 100, 2) := by decide +kernel
theorem d_Ch_init_29 : decode prog_3_method_1_code 29 = .ok (.anewarray 9, 3) := by decide +kernel
theorem d_Ch_init_32 : decode prog_3_method_1_code 32 = .ok (.putfield 21, 3) := by decide +kernel
theorem d_Ch_init_35 : decode prog_3_method_1_code 35 = .ok (.aload_n 0, 1) := by decide +kernel
theorem d_Ch_init_36 : decode prog_3_method_1_code 36 = .ok (.new 25, 3) := by decide +kernel
theorem d_Ch_init_39 : decode prog_3_method_1_code 39 = .ok (.dup, 1) := by decide +kernel
theorem d_Ch_init_4 : decode prog_3_method_1_code 4 = .ok (.aload_n 0, 1) := by decide +kernel
theorem d_Ch_init_40 : decode prog_3_method_1_code 40 = .ok (.invokespecial 27, 3) := by decide +kernel
theorem d_Ch_init_43 : decode prog_3_method_1_code 43 = .ok (.putfield 28, 3) := by decide +kernel
theorem d_Ch_init_46 : decode prog_3_method_1_code 46 = .ok (.aload_n 0, 1) := by decide +kernel
theorem d_Ch_init_47 : decode prog_3_method_1_code 47 = .ok (.new 25, 3) := by decide +kernel
theorem d_Ch_init_5 : decode prog_3_method_1_code 5 = .ok (.new 9, 3) := by decide +kernel
theorem d_Ch_init_50 : decode prog_3_method_1_code 50 = .ok (.dup, 1) := by decide +kernel
theorem d_Ch_init_51 : decode prog_3_method_1_code 51 = .ok (.invokespecial 27, 3) := by decide +kernel
theorem d_Ch_init_54 : decode prog_3_method_1_code 54 = .ok (.putfield 32, 3) := by decide +kernel
theorem d_Ch_init_57 : decode prog_3_method_1_code 57 = .ok (.aload_n 0, 1) := by decide +kernel
theorem d_Ch_init_58 : decode prog_3_method_1_code 58 = .ok (.new 25, 3) := by decide +kernel
theorem d_Ch_init_61 : decode prog_3_method_1_code 61 = .ok (.dup, 1) := by decide +kernel
theorem d_Ch_init_62 : decode prog_3_method_1_code 62 = .ok (.invokespecial 27, 3) := by decide +kernel
theorem d_Ch_init_65 : decode prog_3_method_1_code 65 = .ok (.putfield 35, 3) := by decide +kernel
theorem d_Ch_init_68 : decode prog_3_method_1_code 68 = .ok (.aload_n 0, 1) := by decide +kernel
theorem d_Ch_init_69 : decode prog_3_method_1_code 69 = .ok (.aload_n 1, 1) := by decide +kernel
theorem d_Ch_init_70 : decode prog_3_method_1_code 70 = .ok (.putfield 38, 3) := by decide +kernel
theorem d_Ch_init_73 : decode prog_3_method_1_code 73 = .ok (.aload_n 0, 1) := by decide +kernel
theorem d_Ch_init_74 : decode prog_3_method_1_code 74 = .ok (.aload_n 2, 1) := by decide +kernel
theorem d_Ch_init_75 : decode prog_3_method_1_code 75 = .ok (.putfield 42, 3) := by decide +kernel
theorem d_Ch_init_78 : decode prog_3_method_1_code 78 = .ok (.aload_n 0, 1) := by decide +kernel
theorem d_Ch_init_79 : decode prog_3_method_1_code 79 = .ok (.aload_n 3, 1) := by decide +kernel
theorem d_Ch_init_8 : decode prog_3_method_1_code 8 = .ok (.dup, 1) := by decide +kernel
theorem d_Ch_init_80 : decode prog_3_method_1_code 80 = .ok (.putfield 46, 3) := by decide +kernel
theorem d_Ch_init_83 : decode prog_3_method_1_code 83 = .ok (.iconst 0, 1) := by decide +kernel
theorem d_Ch_init_84 : decode prog_3_method_1_code 84 = .ok (.istore 4, 2) := by decide +kernel
theorem d_Ch_init_86 : decode prog_3_method_1_code 86 = .ok (.iload 4, 2) := by decide +kernel
theorem d_Ch_init_88 : decode prog_3_method_1_code 88 = .ok (.bipush 100, 2) := by decide +kernel
theorem d_Ch_init_9 : decode prog_3_method_1_code 9 = .ok (.invokespecial 11, 3) := by decide +kernel
theorem d_Ch_init_90 : decode prog_3_method_1_code 90 = .ok (.if_icmp .ge 23, 3) := by decide +kernel
theorem d_Ch_init_93 : decode prog_3_method_1_code 93 = .ok (.aload_n 0, 1) := by decide +kernel
theorem d_Ch_init_94 : decode prog_3_method_1_code 94 = .ok (.getfield 21, 3) := by decide +kernel
theorem d_Ch_init_97 : decode prog_3_method_1_code 97 = .ok (.iload 4, 2) := by decide +kernel
theorem d_Ch_init_99 : decode prog_3_method_1_code 99 = .ok (.new 9, 3) := by decide +kernel
theorem d_FG_init_0 : decode prog_1_method_1_code 0 = .ok (.aload_n 0, 1) := by decide +kernel
theorem d_FG_init_1 : decode prog_1_method_1_code 1 = .ok (.invokespecial 3, 3) := by decide +kernel
theorem d_FG_init_100 : decode prog_1_method_1_code 100 = .ok (.putfield 57, 3) := by decide +kernel
theorem d_FG_init_103 : decode prog_1_method_1_code 103 = .ok (.return_, 1) := by decide +kernel
theorem d_FG_init_12 : decode prog_1_method_1_code 12 = .ok (.putfield 12, 3) := by decide +kernel
theorem d_FG_init_15 : decode prog_1_method_1_code 15 = .ok (.aload_n 0, 1) := by decide +kernel
theorem d_FG_init_16 : decode prog_1_method_1_code 16 = .ok (.new 16, 3) := by decide +kernel
theorem d_FG_init_19 : decode prog_1_method_1_code 19 = .ok (.dup, 1) := by decide +kernel
theorem d_FG_init_20 : decode prog_1_method_1_code 20 = .ok (.invokespecial 18, 3) := by decide +kernel
theorem d_FG_init_23 : decode prog_1_method_1_code 23 = .ok (.putfield 19, 3) := by decide +kernel
theorem d_FG_init_26 : decode prog_1_method_1_code 26 = .ok (.aload_n 0, 1) := by decide +kernel
theorem d_FG_init_27 : decode prog_1_method_1_code 27 = .ok (.new 23, 3) := by decide +kernel
theorem d_FG_init_30 : decode prog_1_method_1_code 30 = .ok (.dup, 1) := by decide +kernel
theorem d_FG_init_31 : decode prog_1_method_1_code 31 = .ok (.aload_n 0, 1) := by decide +kernel
theorem d_FG_init_32 : decode prog_1_method_1_code 32 = .ok (.getfield 19, 3) := by decide +kernel
theorem d_FG_init_35 : decode prog_1_method_1_code 35 = .ok (.invokespecial 25, 3) := by decide +kernel
theorem d_FG_init_38 : decode prog_1_method_1_code 38 = .ok (.putfield 28, 3) := by decide +kernel
theorem d_FG_init_4 : decode prog_1_method_1_code 4 = .ok (.aload_n 0, 1) := by decide +kernel
theorem d_FG_init_41 : decode prog_1_method_1_code 41 = .ok (.aload_n 0, 1) := by decide +kernel
theorem d_FG_init_42 : decode prog_1_method_1_code 42 = .ok (.new 32, 3) := by decide +kernel
theorem d_FG_init_45 : decode prog_1_method_1_code 45 = .ok (.dup, 1) := by decide +kernel
theorem d_FG_init_46 : decode prog_1_method_1_code 46 = .ok (.invokespecial 34, 3) := by decide +kernel
theorem d_FG_init_49 : decode prog_1_method_1_code 49 = .ok (.putfield 35, 3) := by decide +kernel
theorem d_FG_init_5 : decode prog_1_method_1_code 5 = .ok (.new 9, 3) := by decide +kernel
theorem d_FG_init_52 : decode prog_1_method_1_code 52 = .ok (.aload_n 0, 1) := by decide +kernel
theorem d_FG_init_53 : decode prog_1_method_1_code 53 = .ok (.new 39, 3) := by decide +kernel
theorem d_FG_init_56 : decode prog_1_method_1_code 56 = .ok (.dup, 1) := by decide +kernel
theorem d_FG_init_57 : decode prog_1_method_1_code 57 = .ok (.aload_n 0, 1) := by decide +kernel
theorem d_FG_init_58 : decode prog_1_method_1_code 58 = .ok (.getfield 12, 3) := by decide +kernel
theorem d_FG_init_61 : decode prog_1_method_1_code 61 = .ok (.aload_n 0, 1) := by decide +kernel
theorem d_FG_init_62 : decode prog_1_method_1_code 62 = .ok (.getfield 19, 3) := by decide +kernel
theorem d_FG_init_65 : decode prog_1_method_1_code 65 = .ok (.aload_n 0, 1) := by decide +kernel
theorem d_FG_init_66 : decode prog_1_method_1_code 66 = .ok (.getfield 35, 3) := by decide +kernel
theorem d_FG_init_69 : decode prog_1_method_1_code 69 = .ok (.invokespecial 41, 3) := by decide +kernel
theorem d_FG_init_72 : decode prog_1_method_1_code 72 = .ok (.putfield 44, 3) := by decide +kernel
theorem d_FG_init_75 : decode prog_1_method_1_code 75 = .ok (.aload_n 0, 1) := by decide +kernel
theorem d_FG_init_76 : decode prog_1_method_1_code 76 = .ok (.new 48, 3) := by decide +kernel
theorem d_FG_init_79 : decode prog_1_method_1_code 79 = .ok (.dup, 1) := by decide +kernel
theorem d_FG_init_8 : decode prog_1_method_1_code 8 = .ok (.dup, 1) := by decide +kernel
theorem d_FG_init_80 : decode prog_1_method_1_code 80 = .ok (.aload_n 0, 1) := by decide +kernel
theorem d_FG_init_81 : decode prog_1_method_1_code 81 = .ok (.getfield 12, 3) := by decide +kernel
theorem d_FG_init_84 : decode prog_1_method_1_code 84 = .ok (.aload_n 0, 1) := by decide +kernel
theorem d_FG_init_85 : decode prog_1_method_1_code 85 = .ok (.getfield 35, 3) := by decide +kernel
theorem d_FG_init_88 : decode prog_1_method_1_code 88 = .ok (.aload_n 0, 1) := by decide +kernel
theorem d_FG_init_89 : decode prog_1_method_1_code 89 = .ok (.getfield 28, 3) := by decide +kernel
theorem d_FG_init_9 : decode prog_1_method_1_code 9 = .ok (.invokespecial 11, 3) := by decide +kernel
theorem d_FG_init_92 : decode prog_1_method_1_code 92 = .ok (.invokespecial 50, 3) := by decide +kernel
theorem d_FG_init_95 : decode prog_1_method_1_code 95 = .ok (.putfield 53, 3) := by decide +kernel
theorem d_FG_init_98 : decode prog_1_method_1_code 98 = .ok (.aload_n 0, 1) := by decide +kernel
theorem d_FG_init_99 : decode prog_1_method_1_code 99 = .ok (.iconst 0, 1) := by decide +kernel
theorem d_FG_within_0 : decode prog_1_method_15_code 0 = .ok (.iload_n 0, 1) := by decide +kernel
theorem d_FG_within_1 : decode prog_1_method_15_code 1 = .ok (.iload_n 1, 1) := by decide +kernel
theorem d_FG_within_10 : decode prog_1_method_15_code 10 = .ok (.iconst 1, 1) := by decide +kernel
theorem d_FG_within_11 : decode prog_1_method_15_code 11 = .ok (.goto 4, 3) := by decide +kernel
theorem d_FG_within_14 : decode prog_1_method_15_code 14 = .ok (.iconst 0, 1) := by decide +kernel
theorem d_FG_within_15 : decode prog_1_method_15_code 15 = .ok (.ireturn, 1) := by decide +kernel
theorem d_FG_within_2 : decode prog_1_method_15_code 2 = .ok (.if_icmp .lt 12, 3) := by decide +kernel
theorem d_FG_within_5 : decode prog_1_method_15_code 5 = .ok (.iload_n 0, 1) := by decide +kernel
theorem d_FG_within_6 : decode prog_1_method_15_code 6 = .ok (.iload_n 2, 1) := by decide +kernel
theorem d_FG_within_7 : decode prog_1_method_15_code 7 = .ok (.if_icmp .gt 7, 3) := by decide +kernel
theorem d_Fo_init_0 : decode prog_4_method_1_code 0 = .ok (.aload_n 0, 1) := by decide +kernel
theorem d_Fo_init_1 : decode prog_4_method_1_code 1 = .ok (.invokespecial 3, 3) := by decide +kernel
theorem d_Fo_init_10 : decode prog_4_method_1_code 10 = .ok (.putfield 9, 3) := by decide +kernel
theorem d_Fo_init_13 : decode prog_4_method_1_code 13 = .ok (.aload_n 0, 1) := by decide +kernel
theorem d_Fo_init_14 : decode prog_4_method_1_code 14 = .ok (.sipush 2200, 3) := by decide +kernel
theorem d_Fo_init_17 : decode prog_4_method_1_code 17 = .ok (.newarray .boolean, 2) := by decide +kernel
theorem d_Fo_init_19 : decode prog_4_method_1_code 19 = .ok (.putfield 15, 3) := by decide +kernel
theorem d_Fo_init_22 : decode prog_4_method_1_code 22 = .ok (.aload_n 0, 1) := by decide +kernel
theorem d_Fo_init_23 : decode prog_4_method_1_code 23 = .ok (.sipush 2200, 3) := by decide +kernel
theorem d_Fo_init_26 : decode prog_4_method_1_code 26 = .ok (.newarray .long, 2) := by decide +kernel
theorem d_Fo_init_28 : decode prog_4_method_1_code 28 = .ok (.putfield 19, 3) := by decide +kernel
theorem d_Fo_init_31 : decode prog_4_method_1_code 31 = .ok (.aload_n 0, 1) := by decide +kernel
theorem d_Fo_init_32 : decode prog_4_method_1_code 32 = .ok (.sipush 2200, 3) := by decide +kernel
theorem d_Fo_init_35 : decode prog_4_method_1_code 35 = .ok (.newarray .long, 2) := by decide +kernel
theorem d_Fo_init_37 : decode prog_4_method_1_code 37 = .ok (.putfield 23, 3) := by decide +kernel
theorem d_Fo_init_4 : decode prog_4_method_1_code 4 = .ok (.aload_n 0, 1) := by decide +kernel
theorem d_Fo_init_40 : decode prog_4_method_1_code 40 = .ok (.return_, 1) := by decide +kernel
theorem d_Fo_init_5 : decode prog_4_method_1_code 5 = .ok (.sipush 200, 3) := by decide +kernel
theorem d_Fo_init_8 : decode prog_4_method_1_code 8 = .ok (.newarray .int, 2) := by decide +kernel
theorem d_Ma_init_0 : decode prog_5_method_1_code 0 = .ok (.aload_n 0, 1) := by decide +kernel
theorem d_Ma_init_1 : decode prog_5_method_1_code 1 = .ok (.invokespecial 3, 3) := by decide +kernel
theorem d_Ma_init_11 : decode prog_5_method_1_code 11 = .ok (.aload_n 0, 1) := by decide +kernel
theorem d_Ma_init_12 : decode prog_5_method_1_code 12 = .ok (.iconst 4, 1) := by decide +kernel
theorem d_Ma_init_13 : decode prog_5_method_1_code 13 = .ok (.newarray .int, 2) := by decide +kernel
theorem d_Ma_init_15 : decode prog_5_method_1_code 15 = .ok (.putfield 15, 3) := by decide +kernel
theorem d_Ma_init_18 : decode prog_5_method_1_code 18 = .ok (.aload_n 0, 1) := by decide +kernel
theorem d_Ma_init_19 : decode prog_5_method_1_code 19 = .ok (.sipush 4096, 3) := by decide +kernel
theorem d_Ma_init_22 : decode prog_5_method_1_code 22 = .ok (.newarray .byte, 2) := by decide +kernel
theorem d_Ma_init_24 : decode prog_5_method_1_code 24 = .ok (.putfield 18, 3) := by decide +kernel
theorem d_Ma_init_27 : decode prog_5_method_1_code 27 = .ok (.aload_n 0, 1) := by decide +kernel
theorem d_Ma_init_28 : decode prog_5_method_1_code 28 = .ok (.bipush 8, 2) := by decide +kernel
theorem d_Ma_init_30 : decode prog_5_method_1_code 30 = .ok (.newarray .byte, 2) := by decide +kernel
theorem d_Ma_init_32 : decode prog_5_method_1_code 32 = .ok (.putfield 22, 3) := by decide +kernel
theorem d_Ma_init_35 : decode prog_5_method_1_code 35 = .ok (.aload_n 0, 1) := by decide +kernel
theorem d_Ma_init_36 : decode prog_5_method_1_code 36 = .ok (.iconst 4, 1) := by decide +kernel
theorem d_Ma_init_37 : decode prog_5_method_1_code 37 = .ok (.newarray .int, 2) := by decide +kernel
theorem d_Ma_init_39 : decode prog_5_method_1_code 39 = .ok (.putfield 25, 3) := by decide +kernel
theorem d_Ma_init_4 : decode prog_5_method_1_code 4 = .ok (.aload_n 0, 1) := by decide +kernel
theorem d_Ma_init_42 : decode prog_5_method_1_code 42 = .ok (.aload_n 0, 1) := by decide +kernel
theorem d_Ma_init_43 : decode prog_5_method_1_code 43 = .ok (.bipush 64, 2) := by decide +kernel
theorem d_Ma_init_45 : decode prog_5_method_1_code 45 = .ok (.newarray .boolean, 2) := by decide +kernel
theorem d_Ma_init_47 : decode prog_5_method_1_code 47 = .ok (.putfield 28, 3) := by decide +kernel
theorem d_Ma_init_5 : decode prog_5_method_1_code 5 = .ok (.iconst 4, 1) := by decide +kernel
theorem d_Ma_init_50 : decode prog_5_method_1_code 50 = .ok (.aload_n 0, 1) := by decide +kernel
theorem d_Ma_init_51 : decode prog_5_method_1_code 51 = .ok (.sipush 512, 3) := by decide +kernel
theorem d_Ma_init_54 : decode prog_5_method_1_code 54 = .ok (.newarray .byte, 2) := by decide +kernel
theorem d_Ma_init_56 : decode prog_5_method_1_code 56 = .ok (.putfield 32, 3) := by decide +kernel
theorem d_Ma_init_59 : decode prog_5_method_1_code 59 = .ok (.return_, 1) := by decide +kernel
theorem d_Ma_init_6 : decode prog_5_method_1_code 6 = .ok (.newarray .int, 2) := by decide +kernel
theorem d_Ma_init_8 : decode prog_5_method_1_code 8 = .ok (.putfield 9, 3) := by decide +kernel
theorem d_Me_init_0 : decode prog_6_method_1_code 0 = .ok (.aload_n 0, 1) := by decide +kernel
theorem d_Me_init_1 : decode prog_6_method_1_code 1 = .ok (.invokespecial 3, 3) := by decide +kernel
theorem d_Me_init_10 : decode prog_6_method_1_code 10 = .ok (.putfield 9, 3) := by decide +kernel
theorem d_Me_init_13 : decode prog_6_method_1_code 13 = .ok (.aload_n 0, 1) := by decide +kernel
theorem d_Me_init_14 : decode prog_6_method_1_code 14 = .ok (.bipush 64, 2) := by decide +kernel
theorem d_Me_init_16 : decode prog_6_method_1_code 16 = .ok (.newarray .byte, 2) := by decide +kernel
theorem d_Me_init_18 : decode prog_6_method_1_code 18 = .ok (.putfield 15, 3) := by decide +kernel
theorem d_Me_init_21 : decode prog_6_method_1_code 21 = .ok (.aload_n 0, 1) := by decide +kernel
theorem d_Me_init_22 : decode prog_6_method_1_code 22 = .ok (.aload_n 1, 1) := by decide +kernel
theorem d_Me_init_23 : decode prog_6_method_1_code 23 = .ok (.putfield 18, 3) := by decide +kernel
theorem d_Me_init_26 : decode prog_6_method_1_code 26 = .ok (.return_, 1) := by decide +kernel
theorem d_Me_init_4 : decode prog_6_method_1_code 4 = .ok (.aload_n 0, 1) := by decide +kernel
theorem d_Me_init_5 : decode prog_6_method_1_code 5 = .ok (.sipush 400, 3) := by decide +kernel
theorem d_Me_init_8 : decode prog_6_method_1_code 8 = .ok (.newarray .byte, 2) := by decide +kernel
theorem d_Pr_init_0 : decode prog_7_method_1_code 0 = .ok (.aload_n 0, 1) := by decide +kernel
theorem d_Pr_init_1 : decode prog_7_method_1_code 1 = .ok (.invokespecial 3, 3) := by decide +kernel
theorem d_Pr_init_10 : decode prog_7_method_1_code 10 = .ok (.putfield 9, 3) := by decide +kernel
theorem d_Pr_init_13 : decode prog_7_method_1_code 13 = .ok (.aload_n 0, 1) := by decide +kernel
theorem d_Pr_init_14 : decode prog_7_method_1_code 14 = .ok (.sipush 200, 3) := by decide +kernel
theorem d_Pr_init_17 : decode prog_7_method_1_code 17 = .ok (.newarray .int, 2) := by decide +kernel
theorem d_Pr_init_19 : decode prog_7_method_1_code 19 = .ok (.putfield 15, 3) := by decide +kernel
theorem d_Pr_init_22 : decode prog_7_method_1_code 22 = .ok (.aload_n 0, 1) := by decide +kernel
theorem d_Pr_init_23 : decode prog_7_method_1_code 23 = .ok (.sipush 200, 3) := by decide +kernel
theorem d_Pr_init_26 : decode prog_7_method_1_code 26 = .ok (.newarray .int, 2) := by decide +kernel
theorem d_Pr_init_28 : decode prog_7_method_1_code 28 = .ok (.putfield 18, 3) := by decide +kernel
theorem d_Pr_init_31 : decode prog_7_method_1_code 31 = .ok (.aload_n 0, 1) := by decide +kernel
theorem d_Pr_init_32 : decode prog_7_method_1_code 32 = .ok (.sipush 200, 3) := by decide +kernel
theorem d_Pr_init_35 : decode prog_7_method_1_code 35 = .ok (.newarray .int, 2) := by decide +kernel
theorem d_Pr_init_37 : decode prog_7_method_1_code 37 = .ok (.putfield 21, 3) := by decide +kernel
theorem d_Pr_init_4 : decode prog_7_method_1_code 4 = .ok (.aload_n 0, 1) := by decide +kernel
theorem d_Pr_init_40 : decode prog_7_method_1_code 40 = .ok (.aload_n 0, 1) := by decide +kernel
theorem d_Pr_init_41 : decode prog_7_method_1_code 41 = .ok (.sipush 200, 3) := by decide +kernel
theorem d_Pr_init_44 : decode prog_7_method_1_code 44 = .ok (.newarray .int, 2) := by decide +kernel
theorem d_Pr_init_46 : decode prog_7_method_1_code 46 = .ok (.putfield 24, 3) := by decide +kernel
theorem d_Pr_init_49 : decode prog_7_method_1_code 49 = .ok (.return_, 1) := by decide +kernel
theorem d_Pr_init_5 : decode prog_7_method_1_code 5 = .ok (.sipush 200, 3) := by decide +kernel
theorem d_Pr_init_8 : decode prog_7_method_1_code 8 = .ok (.newarray .int, 2) := by decide +kernel
theorem d_Ra_init_0 : decode prog_8_method_1_code 0 = .ok (.aload_n 0, 1) := by decide +kernel
theorem d_Ra_init_1 : decode prog_8_method_1_code 1 = .ok (.invokespecial 3, 3) := by decide +kernel
theorem d_Ra_init_4 : decode prog_8_method_1_code 4 = .ok (.return_, 1) := by decide +kernel
theorem d_Ru_init_0 : decode prog_10_method_1_code 0 = .ok (.aload_n 0, 1) := by decide +kernel
theorem d_Ru_init_1 : decode prog_10_method_1_code 1 = .ok (.invokespecial 3, 3) := by decide +kernel
theorem d_Ru_init_12 : decode prog_10_method_1_code 12 = .ok (.aload_n 0, 1) := by decide +kernel
theorem d_Ru_init_13 : decode prog_10_method_1_code 13 = .ok (.bipush 19, 2) := by decide +kernel
theorem d_Ru_init_15 : decode prog_10_method_1_code 15 = .ok (.newarray .int, 2) := by decide +kernel
theorem d_Ru_init_17 : decode prog_10_method_1_code 17 = .ok (.putfield 15, 3) := by decide +kernel
theorem d_Ru_init_20 : decode prog_10_method_1_code 20 = .ok (.aload_n 0, 1) := by decide +kernel
theorem d_Ru_init_21 : decode prog_10_method_1_code 21 = .ok (.bipush 100, 2) := by decide +kernel
theorem d_Ru_init_23 : decode prog_10_method_1_code 23 = .ok (.newarray .long, 2) := by decide +kernel
theorem d_Ru_init_25 : decode prog_10_method_1_code 25 = .ok (.putfield 19, 3) := by decide +kernel
theorem d_Ru_init_28 : decode prog_10_method_1_code 28 = .ok (.aload_n 0, 1) := by decide +kernel
theorem d_Ru_init_29 : decode prog_10_method_1_code 29 = .ok (.aload_n 1, 1) := by decide +kernel
theorem d_Ru_init_30 : decode prog_10_method_1_code 30 = .ok (.putfield 22, 3) := by decide +kernel
theorem d_Ru_init_33 : decode prog_10_method_1_code 33 = .ok (.aload_n 0, 1) := by decide +kernel
theorem d_Ru_init_34 : decode prog_10_method_1_code 34 = .ok (.aload_n 2, 1) := by decide +kernel
theorem d_Ru_init_35 : decode prog_10_method_1_code 35 = .ok (.putfield 26, 3) := by decide +kernel
theorem d_Ru_init_38 : decode prog_10_method_1_code 38 = .ok (.aload_n 0, 1) := by decide +kernel
theorem d_Ru_init_39 : decode prog_10_method_1_code 39 = .ok (.aload_n 3, 1) := by decide +kernel
theorem d_Ru_init_4 : decode prog_10_method_1_code 4 = .ok (.aload_n 0, 1) := by decide +kernel
theorem d_Ru_init_40 : decode prog_10_method_1_code 40 = .ok (.putfield 30, 3) := by decide +kernel
theorem d_Ru_init_43 : decode prog_10_method_1_code 43 = .ok (.return_, 1) := by decide +kernel
theorem d_Ru_init_5 : decode prog_10_method_1_code 5 = .ok (.bipush 11, 2) := by decide +kernel
theorem d_Ru_init_7 : decode prog_10_method_1_code 7 = .ok (.newarray .long, 2) := by decide +kernel
theorem d_Ru_init_9 : decode prog_10_method_1_code 9 = .ok (.putfield 9, 3) := by decide +kernel
theorem d_St_init_0 : decode prog_12_method_1_code 0 = .ok (.aload_n 0, 1) := by decide +kernel
theorem d_St_init_1 : decode prog_12_method_1_code 1 = .ok (.invokespecial 3, 3) := by decide +kernel
theorem d_St_init_12 : decode prog_12_method_1_code 12 = .ok (.aload_n 0, 1) := by decide +kernel
theorem d_St_init_13 : decode prog_12_method_1_code 13 = .ok (.bipush 19, 2) := by decide +kernel
theorem d_St_init_15 : decode prog_12_method_1_code 15 = .ok (.newarray .int, 2) := by decide +kernel
theorem d_St_init_17 : decode prog_12_method_1_code 17 = .ok (.putfield 15, 3) := by decide +kernel
theorem d_St_init_20 : decode prog_12_method_1_code 20 = .ok (.aload_n 0, 1) := by decide +kernel
theorem d_St_init_21 : decode prog_12_method_1_code 21 = .ok (.bipush 19, 2) := by decide +kernel
theorem d_St_init_23 : decode prog_12_method_1_code 23 = .ok (.newarray .int, 2) := by decide +kernel
theorem d_St_init_25 : decode prog_12_method_1_code 25 = .ok (.putfield 18, 3) := by decide +kernel
theorem d_St_init_28 : decode prog_12_method_1_code 28 = .ok (.aload_n 0, 1) := by decide +kernel
theorem d_St_init_29 : decode prog_12_method_1_code 29 = .ok (.bipush 19, 2) := by decide +kernel
theorem d_St_init_31 : decode prog_12_method_1_code 31 = .ok (.newarray .long, 2) := by decide +kernel
theorem d_St_init_33 : decode prog_12_method_1_code 33 = .ok (.putfield 21, 3) := by decide +kernel
theorem d_St_init_36 : decode prog_12_method_1_code 36 = .ok (.aload_n 0, 1) := by decide +kernel
theorem d_St_init_37 : decode prog_12_method_1_code 37 = .ok (.bipush 19, 2) := by decide +kernel
theorem d_St_init_39 : decode prog_12_method_1_code 39 = .ok (.newarray .long, 2) := by decide +kernel
theorem d_St_init_4 : decode prog_12_method_1_code 4 = .ok (.aload_n 0, 1) := by decide +kernel
theorem d_St_init_41 : decode prog_12_method_1_code 41 = .ok (.putfield 25, 3) := by decide +kernel
theorem d_St_init_44 : decode prog_12_method_1_code 44 = .ok (.aload_n 0, 1) := by decide +kernel
theorem d_St_init_45 : decode prog_12_method_1_code 45 = .ok (.bipush 8, 2) := by decide +kernel
theorem d_St_init_47 : decode prog_12_method_1_code 47 = .ok (.newarray .int, 2) := by decide +kernel
theorem d_St_init_49 : decode prog_12_method_1_code 49 = .ok (.putfield 28, 3) := by decide +kernel
theorem d_St_init_5 : decode prog_12_method_1_code 5 = .ok (.bipush 19, 2) := by decide +kernel
theorem d_St_init_52 : decode prog_12_method_1_code 52 = .ok (.return_, 1) := by decide +kernel
theorem d_St_init_7 : decode prog_12_method_1_code 7 = .ok (.newarray .int, 2) := by decide +kernel
theorem d_St_init_9 : decode prog_12_method_1_code 9 = .ok (.putfield 9, 3) := by decide +kernel
