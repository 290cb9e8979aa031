theorem d_Mo_place_4 : decode prog_14_method_74_code 4 = .ok (.iload_n 1, 1) := by decide +kernel
theorem d_Mo_place_48 : decode prog_14_method_74_code 48 = .ok (.aload_n 0, 1) := by decide +kernel
theorem d_Mo_place_49 : decode prog_14_method_74_code 49 = .ok (.iconst 1, 1) := by decide +kernel
theorem d_Mo_place_5 : decode prog_14_method_74_code 5 = .ok (.aload_n 0, 1) := by decide +kernel
theorem d_Mo_place_50 : decode prog_14_method_74_code 50 = .ok (.invokevirtual 112, 3) := by decide +kernel
theorem d_Mo_place_53 : decode prog_14_method_74_code 53 = .ok (.ireturn, 1) := by decide +kernel
theorem d_Mo_place_6 : decode prog_14_method_74_code 6 = .ok (.getfield 116, 3) := by decide +kernel
theorem d_Mo_place_9 : decode prog_14_method_74_code 9 = .ok (.if_icmp .ge 39, 3) := by decide +kernel
theorem d_Mo_run_0 : decode prog_14_method_68_code 0 = .ok (.aload_n 0, 1) := by decide +kernel
theorem d_Mo_run_1 : decode prog_14_method_68_code 1 = .ok (.getfield 119, 3) := by decide +kernel
theorem d_Mo_run_12 : decode prog_14_method_68_code 12 = .ok (.i2l, 1) := by decide +kernel
theorem d_Mo_run_13 : decode prog_14_method_68_code 13 = .ok (.lreturn, 1) := by decide +kernel
theorem d_Mo_run_4 : decode prog_14_method_68_code 4 = .ok (.ifCond .ne 10, 3) := by decide +kernel
theorem d_Mo_run_7 : decode prog_14_method_68_code 7 = .ok (.aload_n 0, 1) := by decide +kernel
theorem d_Mo_run_8 : decode prog_14_method_68_code 8 = .ok (.iconst 1, 1) := by decide +kernel
theorem d_Mo_run_9 : decode prog_14_method_68_code 9 = .ok (.invokevirtual 112, 3) := by decide +kernel
theorem d_Mo_seed_0 : decode prog_14_method_72_code 0 = .ok (.aload_n 0, 1) := by decide +kernel
theorem d_Mo_seed_1 : decode prog_14_method_72_code 1 = .ok (.iconst 0, 1) := by decide +kernel
theorem d_Mo_seed_10 : decode prog_14_method_72_code 10 = .ok (.return_, 1) := by decide +kernel
theorem d_Mo_seed_2 : decode prog_14_method_72_code 2 = .ok (.putfield 109, 3) := by decide +kernel
theorem d_Mo_seed_5 : decode prog_14_method_72_code 5 = .ok (.aload_n 0, 1) := by decide +kernel
theorem d_Mo_seed_6 : decode prog_14_method_72_code 6 = .ok (.lload_n 1, 1) := by decide +kernel
theorem d_Mo_seed_7 : decode prog_14_method_72_code 7 = .ok (.putfield 434, 3) := by decide +kernel
theorem d_Mo_thrown_0 : decode prog_14_method_2_code 0 = .ok (.aload_n 0, 1) := by decide +kernel
theorem d_Mo_thrown_1 : decode prog_14_method_2_code 1 = .ok (.getfield 109, 3) := by decide +kernel
theorem d_Mo_thrown_4 : decode prog_14_method_2_code 4 = .ok (.ireturn, 1) := by decide +kernel
theorem d_Pr_append_0 : decode prog_7_method_2_code 0 = .ok (.aload_n 0, 1) := by decide +kernel
theorem d_Pr_append_1 : decode prog_7_method_2_code 1 = .ok (.getfield 9, 3) := by decide +kernel
theorem d_Pr_append_10 : decode prog_7_method_2_code 10 = .ok (.aload_n 0, 1) := by decide +kernel
theorem d_Pr_append_11 : decode prog_7_method_2_code 11 = .ok (.getfield 15, 3) := by decide +kernel
theorem d_Pr_append_14 : decode prog_7_method_2_code 14 = .ok (.aload_n 0, 1) := by decide +kernel
theorem d_Pr_append_15 : decode prog_7_method_2_code 15 = .ok (.getfield 27, 3) := by decide +kernel
theorem d_Pr_append_18 : decode prog_7_method_2_code 18 = .ok (.iload_n 2, 1) := by decide +kernel
theorem d_Pr_append_19 : decode prog_7_method_2_code 19 = .ok (.iastore, 1) := by decide +kernel
theorem d_Pr_append_20 : decode prog_7_method_2_code 20 = .ok (.aload_n 0, 1) := by decide +kernel
theorem d_Pr_append_21 : decode prog_7_method_2_code 21 = .ok (.getfield 18, 3) := by decide +kernel
theorem d_Pr_append_24 : decode prog_7_method_2_code 24 = .ok (.aload_n 0, 1) := by decide +kernel
theorem d_Pr_append_25 : decode prog_7_method_2_code 25 = .ok (.getfield 27, 3) := by decide +kernel
theorem d_Pr_append_28 : decode prog_7_method_2_code 28 = .ok (.iload_n 3, 1) := by decide +kernel
theorem d_Pr_append_29 : decode prog_7_method_2_code 29 = .ok (.iastore, 1) := by decide +kernel
theorem d_Pr_append_30 : decode prog_7_method_2_code 30 = .ok (.aload_n 0, 1) := by decide +kernel
theorem d_Pr_append_31 : decode prog_7_method_2_code 31 = .ok (.getfield 21, 3) := by decide +kernel
theorem d_Pr_append_34 : decode prog_7_method_2_code 34 = .ok (.aload_n 0, 1) := by decide +kernel
theorem d_Pr_append_35 : decode prog_7_method_2_code 35 = .ok (.getfield 27, 3) := by decide +kernel
theorem d_Pr_append_38 : decode prog_7_method_2_code 38 = .ok (.iload 4, 2) := by decide +kernel
theorem d_Pr_append_4 : decode prog_7_method_2_code 4 = .ok (.aload_n 0, 1) := by decide +kernel
theorem d_Pr_append_40 : decode prog_7_method_2_code 40 = .ok (.iastore, 1) := by decide +kernel
theorem d_Pr_append_41 : decode prog_7_method_2_code 41 = .ok (.aload_n 0, 1) := by decide +kernel
theorem d_Pr_append_42 : decode prog_7_method_2_code 42 = .ok (.getfield 24, 3) := by decide +kernel
theorem d_Pr_append_45 : decode prog_7_method_2_code 45 = .ok (.aload_n 0, 1) := by decide +kernel
theorem d_Pr_append_46 : decode prog_7_method_2_code 46 = .ok (.getfield 27, 3) := by decide +kernel
theorem d_Pr_append_49 : decode prog_7_method_2_code 49 = .ok (.iload 5, 2) := by decide +kernel
theorem d_Pr_append_5 : decode prog_7_method_2_code 5 = .ok (.getfield 27, 3) := by decide +kernel
theorem d_Pr_append_51 : decode prog_7_method_2_code 51 = .ok (.iastore, 1) := by decide +kernel
theorem d_Pr_append_52 : decode prog_7_method_2_code 52 = .ok (.aload_n 0, 1) := by decide +kernel
theorem d_Pr_append_53 : decode prog_7_method_2_code 53 = .ok (.dup, 1) := by decide +kernel
theorem d_Pr_append_54 : decode prog_7_method_2_code 54 = .ok (.getfield 27, 3) := by decide +kernel
theorem d_Pr_append_57 : decode prog_7_method_2_code 57 = .ok (.iconst 1, 1) := by decide +kernel
theorem d_Pr_append_58 : decode prog_7_method_2_code 58 = .ok (.iadd, 1) := by decide +kernel
theorem d_Pr_append_59 : decode prog_7_method_2_code 59 = .ok (.putfield 27, 3) := by decide +kernel
theorem d_Pr_append_62 : decode prog_7_method_2_code 62 = .ok (.aload_n 0, 1) := by decide +kernel
theorem d_Pr_append_63 : decode prog_7_method_2_code 63 = .ok (.getfield 27, 3) := by decide +kernel
theorem d_Pr_append_66 : decode prog_7_method_2_code 66 = .ok (.iconst 1, 1) := by decide +kernel
theorem d_Pr_append_67 : decode prog_7_method_2_code 67 = .ok (.isub, 1) := by decide +kernel
theorem d_Pr_append_68 : decode prog_7_method_2_code 68 = .ok (.ireturn, 1) := by decide +kernel
theorem d_Pr_append_8 : decode prog_7_method_2_code 8 = .ok (.iload_n 1, 1) := by decide +kernel
theorem d_Pr_append_9 : decode prog_7_method_2_code 9 = .ok (.iastore, 1) := by decide +kernel
theorem d_Pr_init_0 : decode prog_7_method_1_code 0 = .ok (.aload_n 0, 1) := by decide +kernel
theorem d_Pr_init_1 : decode prog_7_method_1_code 1 = .ok (.invokespecial 3, 3) := by decide +kernel
theorem d_Pr_init_10 : decode prog_7_method_1_code 10 = .ok (.putfield 9, 3) := by decide +kernel
theorem d_Pr_init_13 : decode prog_7_method_1_code 13 = .ok (.aload_n 0, 1) := by decide +kernel
theorem d_Pr_init_14 : decode prog_7_method_1_code 14 = .ok (.sipush 200, 3) := by decide +kernel
theorem d_Pr_init_17 : decode prog_7_method_1_code 17 = .ok (.newarray .int, 2) := by decide +kernel
theorem d_Pr_init_19 : decode prog_7_method_1_code 19 = .ok (.putfield 15, 3) := by decide +kernel
theorem d_Pr_init_22 : decode prog_7_method_1_code 22 = .ok (.aload_n 0, 1) := by decide +kernel
theorem d_Pr_init_23 : decode prog_7_method_1_code 23 = .ok (.sipush 200, 3) := by decide +kernel
theorem d_Pr_init_26 : decode prog_7_method_1_code 26 = .ok (.newarray .int, 2) := by decide +kernel
theorem d_Pr_init_28 : decode prog_7_method_1_code 28 = .ok (.putfield 18, 3) := by decide +kernel
theorem d_Pr_init_31 : decode prog_7_method_1_code 31 = .ok (.aload_n 0, 1) := by decide +kernel
theorem d_Pr_init_32 : decode prog_7_method_1_code 32 = .ok (.sipush 200, 3) := by decide +kernel
theorem d_Pr_init_35 : decode prog_7_method_1_code 35 = .ok (.newarray .int, 2) := by decide +kernel
theorem d_Pr_init_37 : decode prog_7_method_1_code 37 = .ok (.putfield 21, 3) := by decide +kernel
theorem d_Pr_init_4 : decode prog_7_method_1_code 4 = .ok (.aload_n 0, 1) := by decide +kernel
theorem d_Pr_init_40 : decode prog_7_method_1_code 40 = .ok (.aload_n 0, 1) := by decide +kernel
theorem d_Pr_init_41 : decode prog_7_method_1_code 41 = .ok (.sipush 200, 3) := by decide +kernel
theorem d_Pr_init_44 : decode prog_7_method_1_code 44 = .ok (.newarray .int, 2) := by decide +kernel
theorem d_Pr_init_46 : decode prog_7_method_1_code 46 = .ok (.putfield 24, 3) := by decide +kernel
theorem d_Pr_init_49 : decode prog_7_method_1_code 49 = .ok (.return_, 1) := by decide +kernel
theorem d_Pr_init_5 : decode prog_7_method_1_code 5 = .ok (.sipush 200, 3) := by decide +kernel
theorem d_Pr_init_8 : decode prog_7_method_1_code 8 = .ok (.newarray .int, 2) := by decide +kernel
theorem d_Ra_init_0 : decode prog_8_method_1_code 0 = .ok (.aload_n 0, 1) := by decide +kernel
theorem d_Ra_init_1 : decode prog_8_method_1_code 1 = .ok (.invokespecial 3, 3) := by decide +kernel
theorem d_Ra_init_4 : decode prog_8_method_1_code 4 = .ok (.return_, 1) := by decide +kernel
theorem d_Ru_forget_0 : decode prog_10_method_2_code 0 = .ok (.aload_n 0, 1) := by decide +kernel
theorem d_Ru_forget_1 : decode prog_10_method_2_code 1 = .ok (.iconst 0, 1) := by decide +kernel
theorem d_Ru_forget_10 : decode prog_10_method_2_code 10 = .ok (.aload_n 0, 1) := by decide +kernel
theorem d_Ru_forget_11 : decode prog_10_method_2_code 11 = .ok (.iconst 0, 1) := by decide +kernel
theorem d_Ru_forget_12 : decode prog_10_method_2_code 12 = .ok (.putfield 41, 3) := by decide +kernel
theorem d_Ru_forget_15 : decode prog_10_method_2_code 15 = .ok (.aload_n 0, 1) := by decide +kernel
theorem d_Ru_forget_16 : decode prog_10_method_2_code 16 = .ok (.getfield 30, 3) := by decide +kernel
theorem d_Ru_forget_19 : decode prog_10_method_2_code 19 = .ok (.iconst 0, 1) := by decide +kernel
theorem d_Ru_forget_2 : decode prog_10_method_2_code 2 = .ok (.putfield 34, 3) := by decide +kernel
theorem d_Ru_forget_20 : decode prog_10_method_2_code 20 = .ok (.putfield 44, 3) := by decide +kernel
theorem d_Ru_forget_23 : decode prog_10_method_2_code 23 = .ok (.return_, 1) := by decide +kernel
theorem d_Ru_forget_5 : decode prog_10_method_2_code 5 = .ok (.aload_n 0, 1) := by decide +kernel
theorem d_Ru_forget_6 : decode prog_10_method_2_code 6 = .ok (.iconst 0, 1) := by decide +kernel
theorem d_Ru_forget_7 : decode prog_10_method_2_code 7 = .ok (.putfield 38, 3) := by decide +kernel
theorem d_Ru_init_0 : decode prog_10_method_1_code 0 = .ok (.aload_n 0, 1) := by decide +kernel
theorem d_Ru_init_1 : decode prog_10_method_1_code 1 = .ok (.invokespecial 3, 3) := by decide +kernel
theorem d_Ru_init_12 : decode prog_10_method_1_code 12 = .ok (.aload_n 0, 1) := by decide +kernel
theorem d_Ru_init_13 : decode prog_10_method_1_code 13 = .ok (.bipush 19, 2) := by decide +kernel
theorem d_Ru_init_15 : decode prog_10_method_1_code 15 = .ok (.newarray .int, 2) := by decide +kernel
theorem d_Ru_init_17 : decode prog_10_method_1_code 17 = .ok (.putfield 15, 3) := by decide +kernel
theorem d_Ru_init_20 : decode prog_10_method_1_code 20 = .ok (.aload_n 0, 1) := by decide +kernel
theorem d_Ru_init_21 : decode prog_10_method_1_code 21 = .ok (.bipush 100, 2) := by decide +kernel
theorem d_Ru_init_23 : decode prog_10_method_1_code 23 = .ok (.newarray .long, 2) := by decide +kernel
theorem d_Ru_init_25 : decode prog_10_method_1_code 25 = .ok (.putfield 19, 3) := by decide +kernel
theorem d_Ru_init_28 : decode prog_10_method_1_code 28 = .ok (.aload_n 0, 1) := by decide +kernel
theorem d_Ru_init_29 : decode prog_10_method_1_code 29 = .ok (.aload_n 1, 1) := by decide +kernel
theorem d_Ru_init_30 : decode prog_10_method_1_code 30 = .ok (.putfield 22, 3) := by decide +kernel
theorem d_Ru_init_33 : decode prog_10_method_1_code 33 = .ok (.aload_n 0, 1) := by decide +kernel
theorem d_Ru_init_34 : decode prog_10_method_1_code 34 = .ok (.aload_n 2, 1) := by decide +kernel
theorem d_Ru_init_35 : decode prog_10_method_1_code 35 = .ok (.putfield 26, 3) := by decide +kernel
theorem d_Ru_init_38 : decode prog_10_method_1_code 38 = .ok (.aload_n 0, 1) := by decide +kernel
theorem d_Ru_init_39 : decode prog_10_method_1_code 39 = .ok (.aload_n 3, 1) := by decide +kernel
theorem d_Ru_init_4 : decode prog_10_method_1_code 4 = .ok (.aload_n 0, 1) := by decide +kernel
theorem d_Ru_init_40 : decode prog_10_method_1_code 40 = .ok (.putfield 30, 3) := by decide +kernel
theorem d_Ru_init_43 : decode prog_10_method_1_code 43 = .ok (.return_, 1) := by decide +kernel
theorem d_Ru_init_5 : decode prog_10_method_1_code 5 = .ok (.bipush 11, 2) := by decide +kernel
theorem d_Ru_init_7 : decode prog_10_method_1_code 7 = .ok (.newarray .long, 2) := by decide +kernel
theorem d_Ru_init_9 : decode prog_10_method_1_code 9 = .ok (.putfield 9, 3) := by decide +kernel
theorem d_Ru_strays_0 : decode prog_10_method_3_code 0 = .ok (.aload_n 0, 1) := by decide +kernel
theorem d_Ru_strays_1 : decode prog_10_method_3_code 1 = .ok (.getfield 41, 3) := by decide +kernel
theorem d_Ru_strays_11 : decode prog_10_method_3_code 11 = .ok (.iadd, 1) := by decide +kernel
theorem d_Ru_strays_12 : decode prog_10_method_3_code 12 = .ok (.ireturn, 1) := by decide +kernel
theorem d_Ru_strays_4 : decode prog_10_method_3_code 4 = .ok (.aload_n 0, 1) := by decide +kernel
theorem d_Ru_strays_5 : decode prog_10_method_3_code 5 = .ok (.getfield 30, 3) := by decide +kernel
theorem d_Ru_strays_8 : decode prog_10_method_3_code 8 = .ok (.getfield 44, 3) := by decide +kernel
theorem d_St_init_0 : decode prog_12_method_1_code 0 = .ok (.aload_n 0, 1) := by decide +kernel
theorem d_St_init_1 : decode prog_12_method_1_code 1 = .ok (.invokespecial 3, 3) := by decide +kernel
theorem d_St_init_12 : decode prog_12_method_1_code 12 = .ok (.aload_n 0, 1) := by decide +kernel
theorem d_St_init_13 : decode prog_12_method_1_code 13 = .ok (.bipush 19, 2) := by decide +kernel
theorem d_St_init_15 : decode prog_12_method_1_code 15 = .ok (.newarray .int, 2) := by decide +kernel
theorem d_St_init_17 : decode prog_12_method_1_code 17 = .ok (.putfield 15, 3) := by decide +kernel
theorem d_St_init_20 : decode prog_12_method_1_code 20 = .ok (.aload_n 0, 1) := by decide +kernel
theorem d_St_init_21 : decode prog_12_method_1_code 21 = .ok (.bipush 19, 2) := by decide +kernel
theorem d_St_init_23 : decode prog_12_method_1_code 23 = .ok (.newarray .int, 2) := by decide +kernel
theorem d_St_init_25 : decode prog_12_method_1_code 25 = .ok (.putfield 18, 3) := by decide +kernel
theorem d_St_init_28 : decode prog_12_method_1_code 28 = .ok (.aload_n 0, 1) := by decide +kernel
theorem d_St_init_29 : decode prog_12_method_1_code 29 = .ok (.bipush 19, 2) := by decide +kernel
theorem d_St_init_31 : decode prog_12_method_1_code 31 = .ok (.newarray .long, 2) := by decide +kernel
theorem d_St_init_33 : decode prog_12_method_1_code 33 = .ok (.putfield 21, 3) := by decide +kernel
theorem d_St_init_36 : decode prog_12_method_1_code 36 = .ok (.aload_n 0, 1) := by decide +kernel
theorem d_St_init_37 : decode prog_12_method_1_code 37 = .ok (.bipush 19, 2) := by decide +kernel
theorem d_St_init_39 : decode prog_12_method_1_code 39 = .ok (.newarray .long, 2) := by decide +kernel
theorem d_St_init_4 : decode prog_12_method_1_code 4 = .ok (.aload_n 0, 1) := by decide +kernel
theorem d_St_init_41 : decode prog_12_method_1_code 41 = .ok (.putfield 25, 3) := by decide +kernel
theorem d_St_init_44 : decode prog_12_method_1_code 44 = .ok (.aload_n 0, 1) := by decide +kernel
theorem d_St_init_45 : decode prog_12_method_1_code 45 = .ok (.bipush 8, 2) := by decide +kernel
theorem d_St_init_47 : decode prog_12_method_1_code 47 = .ok (.newarray .int, 2) := by decide +kernel
theorem d_St_init_49 : decode prog_12_method_1_code 49 = .ok (.putfield 28, 3) := by decide +kernel
theorem d_St_init_5 : decode prog_12_method_1_code 5 = .ok (.bipush 19, 2) := by decide +kernel
theorem d_St_init_52 : decode prog_12_method_1_code 52 = .ok (.return_, 1) := by decide +kernel
theorem d_St_init_7 : decode prog_12_method_1_code 7 = .ok (.newarray .int, 2) := by decide +kernel
theorem d_St_init_9 : decode prog_12_method_1_code 9 = .ok (.putfield 9, 3) := by decide +kernel
