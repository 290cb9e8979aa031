theorem d_Mo_clear_26 : decode prog_14_method_69_code 26 = .ok (.iconst (-1), 1) := by decide +kernel
theorem d_Mo_clear_27 : decode prog_14_method_69_code 27 = .ok (.putfield 36, 3) := by decide +kernel
theorem d_Mo_clear_30 : decode prog_14_method_69_code 30 = .ok (.aload_n 0, 1) := by decide +kernel
theorem d_Mo_clear_31 : decode prog_14_method_69_code 31 = .ok (.iconst 0, 1) := by decide +kernel
theorem d_Mo_clear_32 : decode prog_14_method_69_code 32 = .ok (.putfield 342, 3) := by decide +kernel
theorem d_Mo_clear_35 : decode prog_14_method_69_code 35 = .ok (.aload_n 0, 1) := by decide +kernel
theorem d_Mo_clear_36 : decode prog_14_method_69_code 36 = .ok (.iconst 0, 1) := by decide +kernel
theorem d_Mo_clear_37 : decode prog_14_method_69_code 37 = .ok (.putfield 441, 3) := by decide +kernel
theorem d_Mo_clear_40 : decode prog_14_method_69_code 40 = .ok (.aload_n 0, 1) := by decide +kernel
theorem d_Mo_clear_41 : decode prog_14_method_69_code 41 = .ok (.iconst 0, 1) := by decide +kernel
theorem d_Mo_clear_42 : decode prog_14_method_69_code 42 = .ok (.putfield 387, 3) := by decide +kernel
theorem d_Mo_clear_45 : decode prog_14_method_69_code 45 = .ok (.aload_n 0, 1) := by decide +kernel
theorem d_Mo_clear_46 : decode prog_14_method_69_code 46 = .ok (.iconst 0, 1) := by decide +kernel
theorem d_Mo_clear_47 : decode prog_14_method_69_code 47 = .ok (.putfield 431, 3) := by decide +kernel
theorem d_Mo_clear_5 : decode prog_14_method_69_code 5 = .ok (.aload_n 0, 1) := by decide +kernel
theorem d_Mo_clear_50 : decode prog_14_method_69_code 50 = .ok (.iconst 0, 1) := by decide +kernel
theorem d_Mo_clear_51 : decode prog_14_method_69_code 51 = .ok (.istore_n 1, 1) := by decide +kernel
theorem d_Mo_clear_52 : decode prog_14_method_69_code 52 = .ok (.iload_n 1, 1) := by decide +kernel
theorem d_Mo_clear_53 : decode prog_14_method_69_code 53 = .ok (.bipush 64, 2) := by decide +kernel
theorem d_Mo_clear_55 : decode prog_14_method_69_code 55 = .ok (.if_icmp .ge 16, 3) := by decide +kernel
theorem d_Mo_clear_58 : decode prog_14_method_69_code 58 = .ok (.aload_n 0, 1) := by decide +kernel
theorem d_Mo_clear_59 : decode prog_14_method_69_code 59 = .ok (.getfield 84, 3) := by decide +kernel
theorem d_Mo_clear_6 : decode prog_14_method_69_code 6 = .ok (.iconst 0, 1) := by decide +kernel
theorem d_Mo_clear_62 : decode prog_14_method_69_code 62 = .ok (.iload_n 1, 1) := by decide +kernel
theorem d_Mo_clear_63 : decode prog_14_method_69_code 63 = .ok (.iconst 0, 1) := by decide +kernel
theorem d_Mo_clear_64 : decode prog_14_method_69_code 64 = .ok (.bastore, 1) := by decide +kernel
theorem d_Mo_clear_65 : decode prog_14_method_69_code 65 = .ok (.iinc 1 1, 3) := by decide +kernel
theorem d_Mo_clear_68 : decode prog_14_method_69_code 68 = .ok (.goto (-16), 3) := by decide +kernel
theorem d_Mo_clear_7 : decode prog_14_method_69_code 7 = .ok (.putfield 123, 3) := by decide +kernel
theorem d_Mo_clear_71 : decode prog_14_method_69_code 71 = .ok (.iconst 0, 1) := by decide +kernel
theorem d_Mo_clear_72 : decode prog_14_method_69_code 72 = .ok (.istore_n 1, 1) := by decide +kernel
theorem d_Mo_clear_73 : decode prog_14_method_69_code 73 = .ok (.iload_n 1, 1) := by decide +kernel
theorem d_Mo_clear_74 : decode prog_14_method_69_code 74 = .ok (.sipush 4608, 3) := by decide +kernel
theorem d_Mo_clear_77 : decode prog_14_method_69_code 77 = .ok (.if_icmp .ge 16, 3) := by decide +kernel
theorem d_Mo_clear_80 : decode prog_14_method_69_code 80 = .ok (.aload_n 0, 1) := by decide +kernel
theorem d_Mo_clear_81 : decode prog_14_method_69_code 81 = .ok (.getfield 81, 3) := by decide +kernel
theorem d_Mo_clear_84 : decode prog_14_method_69_code 84 = .ok (.iload_n 1, 1) := by decide +kernel
theorem d_Mo_clear_85 : decode prog_14_method_69_code 85 = .ok (.iconst 0, 1) := by decide +kernel
theorem d_Mo_clear_86 : decode prog_14_method_69_code 86 = .ok (.bastore, 1) := by decide +kernel
theorem d_Mo_clear_87 : decode prog_14_method_69_code 87 = .ok (.iinc 1 1, 3) := by decide +kernel
theorem d_Mo_clear_90 : decode prog_14_method_69_code 90 = .ok (.goto (-17), 3) := by decide +kernel
theorem d_Mo_clear_93 : decode prog_14_method_69_code 93 = .ok (.return_, 1) := by decide +kernel
theorem d_Mo_count_0 : decode prog_14_method_77_code 0 = .ok (.aload_n 0, 1) := by decide +kernel
theorem d_Mo_count_1 : decode prog_14_method_77_code 1 = .ok (.iconst 0, 1) := by decide +kernel
theorem d_Mo_count_102 : decode prog_14_method_77_code 102 = .ok (.ireturn, 1) := by decide +kernel
theorem d_Mo_count_103 : decode prog_14_method_77_code 103 = .ok (.aload_n 0, 1) := by decide +kernel
theorem d_Mo_count_104 : decode prog_14_method_77_code 104 = .ok (.getfield 342, 3) := by decide +kernel
theorem d_Mo_count_107 : decode prog_14_method_77_code 107 = .ok (.ireturn, 1) := by decide +kernel
theorem d_Mo_count_108 : decode prog_14_method_77_code 108 = .ok (.aload_n 0, 1) := by decide +kernel
theorem d_Mo_count_109 : decode prog_14_method_77_code 109 = .ok (.getfield 441, 3) := by decide +kernel
theorem d_Mo_count_112 : decode prog_14_method_77_code 112 = .ok (.ireturn, 1) := by decide +kernel
theorem d_Mo_count_113 : decode prog_14_method_77_code 113 = .ok (.aload_n 0, 1) := by decide +kernel
theorem d_Mo_count_114 : decode prog_14_method_77_code 114 = .ok (.getfield 387, 3) := by decide +kernel
theorem d_Mo_count_117 : decode prog_14_method_77_code 117 = .ok (.ireturn, 1) := by decide +kernel
theorem d_Mo_count_118 : decode prog_14_method_77_code 118 = .ok (.iconst (-1), 1) := by decide +kernel
theorem d_Mo_count_119 : decode prog_14_method_77_code 119 = .ok (.ireturn, 1) := by decide +kernel
theorem d_Mo_count_2 : decode prog_14_method_77_code 2 = .ok (.putfield 109, 3) := by decide +kernel
theorem d_Mo_count_5 : decode prog_14_method_77_code 5 = .ok (.iload_n 1, 1) := by decide +kernel
theorem d_Mo_count_6 : decode prog_14_method_77_code 6 = .ok (.tableswitch 112 0 9 #[54, 59, 64, 69, 74, 87, 92, 97, 102, 107], 54) := by decide +kernel
theorem d_Mo_count_60 : decode prog_14_method_77_code 60 = .ok (.aload_n 0, 1) := by decide +kernel
theorem d_Mo_count_61 : decode prog_14_method_77_code 61 = .ok (.getfield 123, 3) := by decide +kernel
theorem d_Mo_count_64 : decode prog_14_method_77_code 64 = .ok (.ireturn, 1) := by decide +kernel
theorem d_Mo_count_65 : decode prog_14_method_77_code 65 = .ok (.aload_n 0, 1) := by decide +kernel
theorem d_Mo_count_66 : decode prog_14_method_77_code 66 = .ok (.getfield 116, 3) := by decide +kernel
theorem d_Mo_count_69 : decode prog_14_method_77_code 69 = .ok (.ireturn, 1) := by decide +kernel
theorem d_Mo_count_70 : decode prog_14_method_77_code 70 = .ok (.aload_n 0, 1) := by decide +kernel
theorem d_Mo_count_71 : decode prog_14_method_77_code 71 = .ok (.getfield 390, 3) := by decide +kernel
theorem d_Mo_count_74 : decode prog_14_method_77_code 74 = .ok (.ireturn, 1) := by decide +kernel
theorem d_Mo_count_75 : decode prog_14_method_77_code 75 = .ok (.aload_n 0, 1) := by decide +kernel
theorem d_Mo_count_76 : decode prog_14_method_77_code 76 = .ok (.getfield 431, 3) := by decide +kernel
theorem d_Mo_count_79 : decode prog_14_method_77_code 79 = .ok (.ireturn, 1) := by decide +kernel
theorem d_Mo_count_80 : decode prog_14_method_77_code 80 = .ok (.aload_n 0, 1) := by decide +kernel
theorem d_Mo_count_81 : decode prog_14_method_77_code 81 = .ok (.getfield 119, 3) := by decide +kernel
theorem d_Mo_count_84 : decode prog_14_method_77_code 84 = .ok (.ifCond .eq 7, 3) := by decide +kernel
theorem d_Mo_count_91 : decode prog_14_method_77_code 91 = .ok (.iconst 0, 1) := by decide +kernel
theorem d_Mo_count_92 : decode prog_14_method_77_code 92 = .ok (.ireturn, 1) := by decide +kernel
theorem d_Mo_count_93 : decode prog_14_method_77_code 93 = .ok (.aload_n 0, 1) := by decide +kernel
theorem d_Mo_count_94 : decode prog_14_method_77_code 94 = .ok (.getfield 339, 3) := by decide +kernel
theorem d_Mo_count_97 : decode prog_14_method_77_code 97 = .ok (.ireturn, 1) := by decide +kernel
theorem d_Mo_count_98 : decode prog_14_method_77_code 98 = .ok (.aload_n 0, 1) := by decide +kernel
theorem d_Mo_count_99 : decode prog_14_method_77_code 99 = .ok (.getfield 36, 3) := by decide +kernel
theorem d_Mo_end_0 : decode prog_14_method_71_code 0 = .ok (.iload_n 1, 1) := by decide +kernel
theorem d_Mo_end_1 : decode prog_14_method_71_code 1 = .ok (.ifCond .lt 11, 3) := by decide +kernel
theorem d_Mo_end_12 : decode prog_14_method_71_code 12 = .ok (.aload_n 0, 1) := by decide +kernel
theorem d_Mo_end_13 : decode prog_14_method_71_code 13 = .ok (.iconst 1, 1) := by decide +kernel
theorem d_Mo_end_14 : decode prog_14_method_71_code 14 = .ok (.invokevirtual 112, 3) := by decide +kernel
theorem d_Mo_end_17 : decode prog_14_method_71_code 17 = .ok (.ireturn, 1) := by decide +kernel
theorem d_Mo_end_18 : decode prog_14_method_71_code 18 = .ok (.aload_n 0, 1) := by decide +kernel
theorem d_Mo_end_19 : decode prog_14_method_71_code 19 = .ok (.iconst 0, 1) := by decide +kernel
theorem d_Mo_end_20 : decode prog_14_method_71_code 20 = .ok (.putfield 109, 3) := by decide +kernel
theorem d_Mo_end_23 : decode prog_14_method_71_code 23 = .ok (.aload_n 0, 1) := by decide +kernel
theorem d_Mo_end_24 : decode prog_14_method_71_code 24 = .ok (.dup, 1) := by decide +kernel
theorem d_Mo_end_25 : decode prog_14_method_71_code 25 = .ok (.getfield 390, 3) := by decide +kernel
theorem d_Mo_end_28 : decode prog_14_method_71_code 28 = .ok (.iload_n 1, 1) := by decide +kernel
theorem d_Mo_end_29 : decode prog_14_method_71_code 29 = .ok (.isub, 1) := by decide +kernel
theorem d_Mo_end_30 : decode prog_14_method_71_code 30 = .ok (.putfield 390, 3) := by decide +kernel
theorem d_Mo_end_33 : decode prog_14_method_71_code 33 = .ok (.aload_n 0, 1) := by decide +kernel
theorem d_Mo_end_34 : decode prog_14_method_71_code 34 = .ok (.getfield 390, 3) := by decide +kernel
theorem d_Mo_end_37 : decode prog_14_method_71_code 37 = .ok (.ireturn, 1) := by decide +kernel
theorem d_Mo_end_4 : decode prog_14_method_71_code 4 = .ok (.iload_n 1, 1) := by decide +kernel
theorem d_Mo_end_5 : decode prog_14_method_71_code 5 = .ok (.aload_n 0, 1) := by decide +kernel
theorem d_Mo_end_6 : decode prog_14_method_71_code 6 = .ok (.getfield 390, 3) := by decide +kernel
theorem d_Mo_end_9 : decode prog_14_method_71_code 9 = .ok (.if_icmp .le 9, 3) := by decide +kernel
theorem d_Mo_feed_0 : decode prog_14_method_70_code 0 = .ok (.aload_n 0, 1) := by decide +kernel
theorem d_Mo_feed_1 : decode prog_14_method_70_code 1 = .ok (.getfield 390, 3) := by decide +kernel
theorem d_Mo_feed_10 : decode prog_14_method_70_code 10 = .ok (.if_icmp .le 9, 3) := by decide +kernel
theorem d_Mo_feed_100 : decode prog_14_method_70_code 100 = .ok (.iconst 4, 1) := by decide +kernel
theorem d_Mo_feed_101 : decode prog_14_method_70_code 101 = .ok (.irem, 1) := by decide +kernel
theorem d_Mo_feed_102 : decode prog_14_method_70_code 102 = .ok (.isub, 1) := by decide +kernel
theorem d_Mo_feed_103 : decode prog_14_method_70_code 103 = .ok (.imul, 1) := by decide +kernel
theorem d_Mo_feed_104 : decode prog_14_method_70_code 104 = .ok (.ishr, 1) := by decide +kernel
theorem d_Mo_feed_105 : decode prog_14_method_70_code 105 = .ok (.i2b, 1) := by decide +kernel
theorem d_Mo_feed_106 : decode prog_14_method_70_code 106 = .ok (.bastore, 1) := by decide +kernel
theorem d_Mo_feed_107 : decode prog_14_method_70_code 107 = .ok (.iinc 6 1, 3) := by decide +kernel
theorem d_Mo_feed_110 : decode prog_14_method_70_code 110 = .ok (.goto (-83), 3) := by decide +kernel
theorem d_Mo_feed_113 : decode prog_14_method_70_code 113 = .ok (.aload_n 0, 1) := by decide +kernel
theorem d_Mo_feed_114 : decode prog_14_method_70_code 114 = .ok (.dup, 1) := by decide +kernel
theorem d_Mo_feed_115 : decode prog_14_method_70_code 115 = .ok (.getfield 390, 3) := by decide +kernel
theorem d_Mo_feed_118 : decode prog_14_method_70_code 118 = .ok (.bipush 20, 2) := by decide +kernel
theorem d_Mo_feed_120 : decode prog_14_method_70_code 120 = .ok (.iadd, 1) := by decide +kernel
theorem d_Mo_feed_121 : decode prog_14_method_70_code 121 = .ok (.putfield 390, 3) := by decide +kernel
theorem d_Mo_feed_124 : decode prog_14_method_70_code 124 = .ok (.aload_n 0, 1) := by decide +kernel
theorem d_Mo_feed_125 : decode prog_14_method_70_code 125 = .ok (.getfield 390, 3) := by decide +kernel
theorem d_Mo_feed_128 : decode prog_14_method_70_code 128 = .ok (.ireturn, 1) := by decide +kernel
theorem d_Mo_feed_19 : decode prog_14_method_70_code 19 = .ok (.aload_n 0, 1) := by decide +kernel
theorem d_Mo_feed_20 : decode prog_14_method_70_code 20 = .ok (.iconst 0, 1) := by decide +kernel
theorem d_Mo_feed_21 : decode prog_14_method_70_code 21 = .ok (.putfield 109, 3) := by decide +kernel
theorem d_Mo_feed_24 : decode prog_14_method_70_code 24 = .ok (.iconst 0, 1) := by decide +kernel
theorem d_Mo_feed_25 : decode prog_14_method_70_code 25 = .ok (.istore 6, 2) := by decide +kernel
theorem d_Mo_feed_27 : decode prog_14_method_70_code 27 = .ok (.iload 6, 2) := by decide +kernel
theorem d_Mo_feed_29 : decode prog_14_method_70_code 29 = .ok (.bipush 20, 2) := by decide +kernel
theorem d_Mo_feed_31 : decode prog_14_method_70_code 31 = .ok (.if_icmp .ge 82, 3) := by decide +kernel
theorem d_Mo_feed_34 : decode prog_14_method_70_code 34 = .ok (.iload 6, 2) := by decide +kernel
theorem d_Mo_feed_36 : decode prog_14_method_70_code 36 = .ok (.iconst 4, 1) := by decide +kernel
theorem d_Mo_feed_37 : decode prog_14_method_70_code 37 = .ok (.if_icmp .ge 7, 3) := by decide +kernel
theorem d_Mo_feed_4 : decode prog_14_method_70_code 4 = .ok (.bipush 20, 2) := by decide +kernel
theorem d_Mo_feed_40 : decode prog_14_method_70_code 40 = .ok (.iload_n 1, 1) := by decide +kernel
theorem d_Mo_feed_41 : decode prog_14_method_70_code 41 = .ok (.goto 39, 3) := by decide +kernel
theorem d_Mo_feed_44 : decode prog_14_method_70_code 44 = .ok (.iload 6, 2) := by decide +kernel
theorem d_Mo_feed_46 : decode prog_14_method_70_code 46 = .ok (.bipush 8, 2) := by decide +kernel
theorem d_Mo_feed_48 : decode prog_14_method_70_code 48 = .ok (.if_icmp .ge 7, 3) := by decide +kernel
theorem d_Mo_feed_51 : decode prog_14_method_70_code 51 = .ok (.iload_n 2, 1) := by decide +kernel
theorem d_Mo_feed_52 : decode prog_14_method_70_code 52 = .ok (.goto 28, 3) := by decide +kernel
theorem d_Mo_feed_55 : decode prog_14_method_70_code 55 = .ok (.iload 6, 2) := by decide +kernel
theorem d_Mo_feed_57 : decode prog_14_method_70_code 57 = .ok (.bipush 12, 2) := by decide +kernel
theorem d_Mo_feed_59 : decode prog_14_method_70_code 59 = .ok (.if_icmp .ge 7, 3) := by decide +kernel
theorem d_Mo_feed_6 : decode prog_14_method_70_code 6 = .ok (.iadd, 1) := by decide +kernel
theorem d_Mo_feed_62 : decode prog_14_method_70_code 62 = .ok (.iload_n 3, 1) := by decide +kernel
theorem d_Mo_feed_63 : decode prog_14_method_70_code 63 = .ok (.goto 17, 3) := by decide +kernel
theorem d_Mo_feed_66 : decode prog_14_method_70_code 66 = .ok (.iload 6, 2) := by decide +kernel
theorem d_Mo_feed_68 : decode prog_14_method_70_code 68 = .ok (.bipush 16, 2) := by decide +kernel
theorem d_Mo_feed_7 : decode prog_14_method_70_code 7 = .ok (.sipush 400, 3) := by decide +kernel
theorem d_Mo_feed_70 : decode prog_14_method_70_code 70 = .ok (.if_icmp .ge 8, 3) := by decide +kernel
theorem d_Mo_feed_73 : decode prog_14_method_70_code 73 = .ok (.iload 4, 2) := by decide +kernel
theorem d_Mo_feed_75 : decode prog_14_method_70_code 75 = .ok (.goto 5, 3) := by decide +kernel
theorem d_Mo_feed_78 : decode prog_14_method_70_code 78 = .ok (.iload 5, 2) := by decide +kernel
theorem d_Mo_feed_80 : decode prog_14_method_70_code 80 = .ok (.istore 7, 2) := by decide +kernel
theorem d_Mo_feed_82 : decode prog_14_method_70_code 82 = .ok (.aload_n 0, 1) := by decide +kernel
theorem d_Mo_feed_83 : decode prog_14_method_70_code 83 = .ok (.getfield 77, 3) := by decide +kernel
theorem d_Mo_feed_86 : decode prog_14_method_70_code 86 = .ok (.aload_n 0, 1) := by decide +kernel
theorem d_Mo_feed_87 : decode prog_14_method_70_code 87 = .ok (.getfield 390, 3) := by decide +kernel
theorem d_Mo_feed_90 : decode prog_14_method_70_code 90 = .ok (.iload 6, 2) := by decide +kernel
theorem d_Mo_feed_92 : decode prog_14_method_70_code 92 = .ok (.iadd, 1) := by decide +kernel
theorem d_Mo_feed_93 : decode prog_14_method_70_code 93 = .ok (.iload 7, 2) := by decide +kernel
theorem d_Mo_feed_95 : decode prog_14_method_70_code 95 = .ok (.bipush 8, 2) := by decide +kernel
theorem d_Mo_feed_97 : decode prog_14_method_70_code 97 = .ok (.iconst 3, 1) := by decide +kernel
theorem d_Mo_feed_98 : decode prog_14_method_70_code 98 = .ok (.iload 6, 2) := by decide +kernel
theorem d_Mo_init_0 : decode prog_14_method_1_code 0 = .ok (.aload_n 0, 1) := by decide +kernel
theorem d_Mo_init_1 : decode prog_14_method_1_code 1 = .ok (.invokespecial 5, 3) := by decide +kernel
theorem d_Mo_init_10 : decode prog_14_method_1_code 10 = .ok (.putfield 11, 3) := by decide +kernel
theorem d_Mo_init_102 : decode prog_14_method_1_code 102 = .ok (.aload_n 0, 1) := by decide +kernel
theorem d_Mo_init_103 : decode prog_14_method_1_code 103 = .ok (.sipush 1938, 3) := by decide +kernel
theorem d_Mo_init_106 : decode prog_14_method_1_code 106 = .ok (.newarray .long, 2) := by decide +kernel
theorem d_Mo_init_108 : decode prog_14_method_1_code 108 = .ok (.putfield 49, 3) := by decide +kernel
theorem d_Mo_init_111 : decode prog_14_method_1_code 111 = .ok (.aload_n 0, 1) := by decide +kernel
theorem d_Mo_init_112 : decode prog_14_method_1_code 112 = .ok (.sipush 1938, 3) := by decide +kernel
theorem d_Mo_init_115 : decode prog_14_method_1_code 115 = .ok (.newarray .long, 2) := by decide +kernel
theorem d_Mo_init_117 : decode prog_14_method_1_code 117 = .ok (.putfield 53, 3) := by decide +kernel
theorem d_Mo_init_120 : decode prog_14_method_1_code 120 = .ok (.aload_n 0, 1) := by decide +kernel
theorem d_Mo_init_121 : decode prog_14_method_1_code 121 = .ok (.sipush 6528, 3) := by decide +kernel
theorem d_Mo_init_124 : decode prog_14_method_1_code 124 = .ok (.newarray .int, 2) := by decide +kernel
theorem d_Mo_init_126 : decode prog_14_method_1_code 126 = .ok (.putfield 56, 3) := by decide +kernel
theorem d_Mo_init_129 : decode prog_14_method_1_code 129 = .ok (.aload_n 0, 1) := by decide +kernel
theorem d_Mo_init_13 : decode prog_14_method_1_code 13 = .ok (.aload_n 0, 1) := by decide +kernel
theorem d_Mo_init_130 : decode prog_14_method_1_code 130 = .ok (.bipush 102, 2) := by decide +kernel
theorem d_Mo_init_132 : decode prog_14_method_1_code 132 = .ok (.newarray .int, 2) := by decide +kernel
theorem d_Mo_init_134 : decode prog_14_method_1_code 134 = .ok (.putfield 59, 3) := by decide +kernel
theorem d_Mo_init_137 : decode prog_14_method_1_code 137 = .ok (.aload_n 0, 1) := by decide +kernel
theorem d_Mo_init_138 : decode prog_14_method_1_code 138 = .ok (.bipush 102, 2) := by decide +kernel
theorem d_Mo_init_14 : decode prog_14_method_1_code 14 = .ok (.sipush 200, 3) := by decide +kernel
theorem d_Mo_init_140 : decode prog_14_method_1_code 140 = .ok (.newarray .int, 2) := by decide +kernel
theorem d_Mo_init_142 : decode prog_14_method_1_code 142 = .ok (.putfield 62, 3) := by decide +kernel
theorem d_Mo_init_145 : decode prog_14_method_1_code 145 = .ok (.aload_n 0, 1) := by decide +kernel
theorem d_Mo_init_146 : decode prog_14_method_1_code 146 = .ok (.sipush 200, 3) := by decide +kernel
theorem d_Mo_init_149 : decode prog_14_method_1_code 149 = .ok (.newarray .int, 2) := by decide +kernel
theorem d_Mo_init_151 : decode prog_14_method_1_code 151 = .ok (.putfield 65, 3) := by decide +kernel
theorem d_Mo_init_154 : decode prog_14_method_1_code 154 = .ok (.aload_n 0, 1) := by decide +kernel
theorem d_Mo_init_155 : decode prog_14_method_1_code 155 = .ok (.sipush 2200, 3) := by decide +kernel
theorem d_Mo_init_158 : decode prog_14_method_1_code 158 = .ok (.newarray .int, 2) := by decide +kernel
theorem d_Mo_init_160 : decode prog_14_method_1_code 160 = .ok (.putfield 68, 3) := by decide +kernel
theorem d_Mo_init_163 : decode prog_14_method_1_code 163 = .ok (.aload_n 0, 1) := by decide +kernel
theorem d_Mo_init_164 : decode prog_14_method_1_code 164 = .ok (.sipush 2200, 3) := by decide +kernel
theorem d_Mo_init_167 : decode prog_14_method_1_code 167 = .ok (.newarray .long, 2) := by decide +kernel
theorem d_Mo_init_169 : decode prog_14_method_1_code 169 = .ok (.putfield 71, 3) := by decide +kernel
theorem d_Mo_init_17 : decode prog_14_method_1_code 17 = .ok (.newarray .int, 2) := by decide +kernel
theorem d_Mo_init_172 : decode prog_14_method_1_code 172 = .ok (.aload_n 0, 1) := by decide +kernel
theorem d_Mo_init_173 : decode prog_14_method_1_code 173 = .ok (.sipush 2200, 3) := by decide +kernel
theorem d_Mo_init_176 : decode prog_14_method_1_code 176 = .ok (.newarray .long, 2) := by decide +kernel
theorem d_Mo_init_178 : decode prog_14_method_1_code 178 = .ok (.putfield 74, 3) := by decide +kernel
theorem d_Mo_init_181 : decode prog_14_method_1_code 181 = .ok (.aload_n 0, 1) := by decide +kernel
theorem d_Mo_init_182 : decode prog_14_method_1_code 182 = .ok (.sipush 400, 3) := by decide +kernel
theorem d_Mo_init_185 : decode prog_14_method_1_code 185 = .ok (.newarray .byte, 2) := by decide +kernel
theorem d_Mo_init_187 : decode prog_14_method_1_code 187 = .ok (.putfield 77, 3) := by decide +kernel
theorem d_Mo_init_19 : decode prog_14_method_1_code 19 = .ok (.putfield 15, 3) := by decide +kernel
theorem d_Mo_init_190 : decode prog_14_method_1_code 190 = .ok (.aload_n 0, 1) := by decide +kernel
theorem d_Mo_init_191 : decode prog_14_method_1_code 191 = .ok (.sipush 4608, 3) := by decide +kernel
theorem d_Mo_init_194 : decode prog_14_method_1_code 194 = .ok (.newarray .byte, 2) := by decide +kernel
theorem d_Mo_init_196 : decode prog_14_method_1_code 196 = .ok (.putfield 81, 3) := by decide +kernel
theorem d_Mo_init_199 : decode prog_14_method_1_code 199 = .ok (.aload_n 0, 1) := by decide +kernel
theorem d_Mo_init_200 : decode prog_14_method_1_code 200 = .ok (.bipush 64, 2) := by decide +kernel
theorem d_Mo_init_202 : decode prog_14_method_1_code 202 = .ok (.newarray .boolean, 2) := by decide +kernel
theorem d_Mo_init_204 : decode prog_14_method_1_code 204 = .ok (.putfield 84, 3) := by decide +kernel
theorem d_Mo_init_207 : decode prog_14_method_1_code 207 = .ok (.aload_n 0, 1) := by decide +kernel
theorem d_Mo_init_208 : decode prog_14_method_1_code 208 = .ok (.bipush 100, 2) := by decide +kernel
theorem d_Mo_init_210 : decode prog_14_method_1_code 210 = .ok (.newarray .long, 2) := by decide +kernel
theorem d_Mo_init_212 : decode prog_14_method_1_code 212 = .ok (.putfield 88, 3) := by decide +kernel
theorem d_Mo_init_215 : decode prog_14_method_1_code 215 = .ok (.aload_n 0, 1) := by decide +kernel
theorem d_Mo_init_216 : decode prog_14_method_1_code 216 = .ok (.bipush 19, 2) := by decide +kernel
theorem d_Mo_init_218 : decode prog_14_method_1_code 218 = .ok (.newarray .int, 2) := by decide +kernel
theorem d_Mo_init_22 : decode prog_14_method_1_code 22 = .ok (.aload_n 0, 1) := by decide +kernel
theorem d_Mo_init_220 : decode prog_14_method_1_code 220 = .ok (.putfield 91, 3) := by decide +kernel
theorem d_Mo_init_223 : decode prog_14_method_1_code 223 = .ok (.aload_n 0, 1) := by decide +kernel
theorem d_Mo_init_224 : decode prog_14_method_1_code 224 = .ok (.bipush 19, 2) := by decide +kernel
theorem d_Mo_init_226 : decode prog_14_method_1_code 226 = .ok (.newarray .int, 2) := by decide +kernel
theorem d_Mo_init_228 : decode prog_14_method_1_code 228 = .ok (.putfield 94, 3) := by decide +kernel
theorem d_Mo_init_23 : decode prog_14_method_1_code 23 = .ok (.sipush 200, 3) := by decide +kernel
theorem d_Mo_init_231 : decode prog_14_method_1_code 231 = .ok (.aload_n 0, 1) := by decide +kernel
theorem d_Mo_init_232 : decode prog_14_method_1_code 232 = .ok (.bipush 19, 2) := by decide +kernel
theorem d_Mo_init_234 : decode prog_14_method_1_code 234 = .ok (.newarray .int, 2) := by decide +kernel
theorem d_Mo_init_236 : decode prog_14_method_1_code 236 = .ok (.putfield 97, 3) := by decide +kernel
theorem d_Mo_init_239 : decode prog_14_method_1_code 239 = .ok (.aload_n 0, 1) := by decide +kernel
theorem d_Mo_init_240 : decode prog_14_method_1_code 240 = .ok (.bipush 19, 2) := by decide +kernel
theorem d_Mo_init_242 : decode prog_14_method_1_code 242 = .ok (.newarray .int, 2) := by decide +kernel
theorem d_Mo_init_244 : decode prog_14_method_1_code 244 = .ok (.putfield 100, 3) := by decide +kernel
theorem d_Mo_init_247 : decode prog_14_method_1_code 247 = .ok (.aload_n 0, 1) := by decide +kernel
theorem d_Mo_init_248 : decode prog_14_method_1_code 248 = .ok (.bipush 19, 2) := by decide +kernel
theorem d_Mo_init_250 : decode prog_14_method_1_code 250 = .ok (.newarray .long, 2) := by decide +kernel
theorem d_Mo_init_252 : decode prog_14_method_1_code 252 = .ok (.putfield 103, 3) := by decide +kernel
theorem d_Mo_init_255 : decode prog_14_method_1_code 255 = .ok (.aload_n 0, 1) := by decide +kernel
theorem d_Mo_init_256 : decode prog_14_method_1_code 256 = .ok (.bipush 64, 2) := by decide +kernel
theorem d_Mo_init_258 : decode prog_14_method_1_code 258 = .ok (.newarray .byte, 2) := by decide +kernel
theorem d_Mo_init_26 : decode prog_14_method_1_code 26 = .ok (.newarray .int, 2) := by decide +kernel
theorem d_Mo_init_260 : decode prog_14_method_1_code 260 = .ok (.putfield 106, 3) := by decide +kernel
theorem d_Mo_init_263 : decode prog_14_method_1_code 263 = .ok (.return_, 1) := by decide +kernel
theorem d_Mo_init_28 : decode prog_14_method_1_code 28 = .ok (.putfield 18, 3) := by decide +kernel
theorem d_Mo_init_31 : decode prog_14_method_1_code 31 = .ok (.aload_n 0, 1) := by decide +kernel
theorem d_Mo_init_32 : decode prog_14_method_1_code 32 = .ok (.sipush 200, 3) := by decide +kernel
theorem d_Mo_init_35 : decode prog_14_method_1_code 35 = .ok (.newarray .int, 2) := by decide +kernel
theorem d_Mo_init_37 : decode prog_14_method_1_code 37 = .ok (.putfield 21, 3) := by decide +kernel
theorem d_Mo_init_4 : decode prog_14_method_1_code 4 = .ok (.aload_n 0, 1) := by decide +kernel
theorem d_Mo_init_40 : decode prog_14_method_1_code 40 = .ok (.aload_n 0, 1) := by decide +kernel
theorem d_Mo_init_41 : decode prog_14_method_1_code 41 = .ok (.sipush 200, 3) := by decide +kernel
theorem d_Mo_init_44 : decode prog_14_method_1_code 44 = .ok (.newarray .int, 2) := by decide +kernel
theorem d_Mo_init_46 : decode prog_14_method_1_code 46 = .ok (.putfield 24, 3) := by decide +kernel
theorem d_Mo_init_49 : decode prog_14_method_1_code 49 = .ok (.aload_n 0, 1) := by decide +kernel
theorem d_Mo_init_5 : decode prog_14_method_1_code 5 = .ok (.sipush 200, 3) := by decide +kernel
theorem d_Mo_init_50 : decode prog_14_method_1_code 50 = .ok (.iconst 4, 1) := by decide +kernel
theorem d_Mo_init_51 : decode prog_14_method_1_code 51 = .ok (.newarray .int, 2) := by decide +kernel
theorem d_Mo_init_53 : decode prog_14_method_1_code 53 = .ok (.putfield 27, 3) := by decide +kernel
theorem d_Mo_init_56 : decode prog_14_method_1_code 56 = .ok (.aload_n 0, 1) := by decide +kernel
theorem d_Mo_init_57 : decode prog_14_method_1_code 57 = .ok (.iconst 4, 1) := by decide +kernel
theorem d_Mo_init_58 : decode prog_14_method_1_code 58 = .ok (.newarray .int, 2) := by decide +kernel
theorem d_Mo_init_60 : decode prog_14_method_1_code 60 = .ok (.putfield 30, 3) := by decide +kernel
theorem d_Mo_init_63 : decode prog_14_method_1_code 63 = .ok (.aload_n 0, 1) := by decide +kernel
theorem d_Mo_init_64 : decode prog_14_method_1_code 64 = .ok (.iconst 4, 1) := by decide +kernel
theorem d_Mo_init_65 : decode prog_14_method_1_code 65 = .ok (.newarray .int, 2) := by decide +kernel
theorem d_Mo_init_67 : decode prog_14_method_1_code 67 = .ok (.putfield 33, 3) := by decide +kernel
theorem d_Mo_init_70 : decode prog_14_method_1_code 70 = .ok (.aload_n 0, 1) := by decide +kernel
theorem d_Mo_init_71 : decode prog_14_method_1_code 71 = .ok (.iconst (-1), 1) := by decide +kernel
theorem d_Mo_init_72 : decode prog_14_method_1_code 72 = .ok (.putfield 36, 3) := by decide +kernel
theorem d_Mo_init_75 : decode prog_14_method_1_code 75 = .ok (.aload_n 0, 1) := by decide +kernel
theorem d_Mo_init_76 : decode prog_14_method_1_code 76 = .ok (.sipush 1938, 3) := by decide +kernel
theorem d_Mo_init_79 : decode prog_14_method_1_code 79 = .ok (.newarray .int, 2) := by decide +kernel
theorem d_Mo_init_8 : decode prog_14_method_1_code 8 = .ok (.newarray .int, 2) := by decide +kernel
theorem d_Mo_init_81 : decode prog_14_method_1_code 81 = .ok (.putfield 40, 3) := by decide +kernel
theorem d_Mo_init_84 : decode prog_14_method_1_code 84 = .ok (.aload_n 0, 1) := by decide +kernel
theorem d_Mo_init_85 : decode prog_14_method_1_code 85 = .ok (.sipush 1938, 3) := by decide +kernel
theorem d_Mo_init_88 : decode prog_14_method_1_code 88 = .ok (.newarray .int, 2) := by decide +kernel
theorem d_Mo_init_90 : decode prog_14_method_1_code 90 = .ok (.putfield 43, 3) := by decide +kernel
theorem d_Mo_init_93 : decode prog_14_method_1_code 93 = .ok (.aload_n 0, 1) := by decide +kernel
theorem d_Mo_init_94 : decode prog_14_method_1_code 94 = .ok (.sipush 1938, 3) := by decide +kernel
theorem d_Mo_init_97 : decode prog_14_method_1_code 97 = .ok (.newarray .int, 2) := by decide +kernel
theorem d_Mo_init_99 : decode prog_14_method_1_code 99 = .ok (.putfield 46, 3) := by decide +kernel
theorem d_Mo_known_0 : decode prog_14_method_76_code 0 = .ok (.iload_n 3, 1) := by decide +kernel
theorem d_Mo_known_1 : decode prog_14_method_76_code 1 = .ok (.ifCond .lt 8, 3) := by decide +kernel
theorem d_Mo_known_10 : decode prog_14_method_76_code 10 = .ok (.iconst 1, 1) := by decide +kernel
theorem d_Mo_known_11 : decode prog_14_method_76_code 11 = .ok (.invokevirtual 112, 3) := by decide +kernel
theorem d_Mo_known_14 : decode prog_14_method_76_code 14 = .ok (.i2l, 1) := by decide +kernel
theorem d_Mo_known_15 : decode prog_14_method_76_code 15 = .ok (.lreturn, 1) := by decide +kernel
theorem d_Mo_known_16 : decode prog_14_method_76_code 16 = .ok (.aload_n 0, 1) := by decide +kernel
theorem d_Mo_known_17 : decode prog_14_method_76_code 17 = .ok (.getfield 119, 3) := by decide +kernel
theorem d_Mo_known_20 : decode prog_14_method_76_code 20 = .ok (.ifCond .eq 30, 3) := by decide +kernel
theorem d_Mo_known_4 : decode prog_14_method_76_code 4 = .ok (.iload_n 3, 1) := by decide +kernel
theorem d_Mo_known_5 : decode prog_14_method_76_code 5 = .ok (.iconst 3, 1) := by decide +kernel
theorem d_Mo_known_50 : decode prog_14_method_76_code 50 = .ok (.aload_n 0, 1) := by decide +kernel
theorem d_Mo_known_51 : decode prog_14_method_76_code 51 = .ok (.iconst 2, 1) := by decide +kernel
theorem d_Mo_known_52 : decode prog_14_method_76_code 52 = .ok (.invokevirtual 112, 3) := by decide +kernel
theorem d_Mo_known_55 : decode prog_14_method_76_code 55 = .ok (.i2l, 1) := by decide +kernel
theorem d_Mo_known_56 : decode prog_14_method_76_code 56 = .ok (.lreturn, 1) := by decide +kernel
theorem d_Mo_known_6 : decode prog_14_method_76_code 6 = .ok (.if_icmp .le 10, 3) := by decide +kernel
theorem d_Mo_known_9 : decode prog_14_method_76_code 9 = .ok (.aload_n 0, 1) := by decide +kernel
theorem d_Mo_letter_0 : decode prog_14_method_73_code 0 = .ok (.iload_n 1, 1) := by decide +kernel
theorem d_Mo_letter_1 : decode prog_14_method_73_code 1 = .ok (.ifCond .lt 11, 3) := by decide +kernel
theorem d_Mo_letter_12 : decode prog_14_method_73_code 12 = .ok (.aload_n 0, 1) := by decide +kernel
theorem d_Mo_letter_13 : decode prog_14_method_73_code 13 = .ok (.iconst 1, 1) := by decide +kernel
theorem d_Mo_letter_14 : decode prog_14_method_73_code 14 = .ok (.invokevirtual 112, 3) := by decide +kernel
theorem d_Mo_letter_17 : decode prog_14_method_73_code 17 = .ok (.ireturn, 1) := by decide +kernel
theorem d_Mo_letter_4 : decode prog_14_method_73_code 4 = .ok (.iload_n 1, 1) := by decide +kernel
theorem d_Mo_letter_5 : decode prog_14_method_73_code 5 = .ok (.aload_n 0, 1) := by decide +kernel
theorem d_Mo_letter_6 : decode prog_14_method_73_code 6 = .ok (.getfield 390, 3) := by decide +kernel
theorem d_Mo_letter_9 : decode prog_14_method_73_code 9 = .ok (.if_icmp .lt 9, 3) := by decide +kernel
theorem d_Mo_log_0 : decode prog_14_method_75_code 0 = .ok (.iload_n 1, 1) := by decide +kernel
theorem d_Mo_log_1 : decode prog_14_method_75_code 1 = .ok (.ifCond .lt 11, 3) := by decide +kernel
theorem d_Mo_log_12 : decode prog_14_method_75_code 12 = .ok (.aload_n 0, 1) := by decide +kernel
theorem d_Mo_log_13 : decode prog_14_method_75_code 13 = .ok (.iconst 1, 1) := by decide +kernel
theorem d_Mo_log_14 : decode prog_14_method_75_code 14 = .ok (.invokevirtual 112, 3) := by decide +kernel
theorem d_Mo_log_17 : decode prog_14_method_75_code 17 = .ok (.i2l, 1) := by decide +kernel
theorem d_Mo_log_18 : decode prog_14_method_75_code 18 = .ok (.lreturn, 1) := by decide +kernel
theorem d_Mo_log_4 : decode prog_14_method_75_code 4 = .ok (.iload_n 1, 1) := by decide +kernel
theorem d_Mo_log_5 : decode prog_14_method_75_code 5 = .ok (.aload_n 0, 1) := by decide +kernel
theorem d_Mo_log_6 : decode prog_14_method_75_code 6 = .ok (.getfield 431, 3) := by decide +kernel
theorem d_Mo_log_9 : decode prog_14_method_75_code 9 = .ok (.if_icmp .lt 10, 3) := by decide +kernel
theorem d_Mo_map_0 : decode prog_14_method_4_code 0 = .ok (.iload_n 1, 1) := by decide +kernel
theorem d_Mo_map_1 : decode prog_14_method_4_code 1 = .ok (.iconst 1, 1) := by decide +kernel
theorem d_Mo_map_100 : decode prog_14_method_4_code 100 = .ok (.iconst 1, 1) := by decide +kernel
theorem d_Mo_map_101 : decode prog_14_method_4_code 101 = .ok (.iadd, 1) := by decide +kernel
theorem d_Mo_map_102 : decode prog_14_method_4_code 102 = .ok (.putfield 116, 3) := by decide +kernel
theorem d_Mo_map_105 : decode prog_14_method_4_code 105 = .ok (.aload_n 0, 1) := by decide +kernel
theorem d_Mo_map_106 : decode prog_14_method_4_code 106 = .ok (.getfield 116, 3) := by decide +kernel
theorem d_Mo_map_109 : decode prog_14_method_4_code 109 = .ok (.iconst 1, 1) := by decide +kernel
theorem d_Mo_map_11 : decode prog_14_method_4_code 11 = .ok (.iload_n 2, 1) := by decide +kernel
theorem d_Mo_map_110 : decode prog_14_method_4_code 110 = .ok (.isub, 1) := by decide +kernel
theorem d_Mo_map_111 : decode prog_14_method_4_code 111 = .ok (.ireturn, 1) := by decide +kernel
theorem d_Mo_map_12 : decode prog_14_method_4_code 12 = .ok (.iconst 1, 1) := by decide +kernel
theorem d_Mo_map_13 : decode prog_14_method_4_code 13 = .ok (.if_icmp .lt 20, 3) := by decide +kernel
theorem d_Mo_map_16 : decode prog_14_method_4_code 16 = .ok (.iload_n 2, 1) := by decide +kernel
theorem d_Mo_map_17 : decode prog_14_method_4_code 17 = .ok (.bipush 64, 2) := by decide +kernel
theorem d_Mo_map_19 : decode prog_14_method_4_code 19 = .ok (.if_icmp .gt 14, 3) := by decide +kernel
theorem d_Mo_map_2 : decode prog_14_method_4_code 2 = .ok (.if_icmp .lt 31, 3) := by decide +kernel
theorem d_Mo_map_22 : decode prog_14_method_4_code 22 = .ok (.iload_n 3, 1) := by decide +kernel
theorem d_Mo_map_23 : decode prog_14_method_4_code 23 = .ok (.iconst 1, 1) := by decide +kernel
theorem d_Mo_map_24 : decode prog_14_method_4_code 24 = .ok (.if_icmp .lt 9, 3) := by decide +kernel
theorem d_Mo_map_27 : decode prog_14_method_4_code 27 = .ok (.iload_n 3, 1) := by decide +kernel
theorem d_Mo_map_28 : decode prog_14_method_4_code 28 = .ok (.bipush 16, 2) := by decide +kernel
theorem d_Mo_map_30 : decode prog_14_method_4_code 30 = .ok (.if_icmp .le 9, 3) := by decide +kernel
theorem d_Mo_map_33 : decode prog_14_method_4_code 33 = .ok (.aload_n 0, 1) := by decide +kernel
theorem d_Mo_map_34 : decode prog_14_method_4_code 34 = .ok (.iconst 1, 1) := by decide +kernel
theorem d_Mo_map_35 : decode prog_14_method_4_code 35 = .ok (.invokevirtual 112, 3) := by decide +kernel
theorem d_Mo_map_38 : decode prog_14_method_4_code 38 = .ok (.ireturn, 1) := by decide +kernel
theorem d_Mo_map_39 : decode prog_14_method_4_code 39 = .ok (.aload_n 0, 1) := by decide +kernel
theorem d_Mo_map_40 : decode prog_14_method_4_code 40 = .ok (.getfield 116, 3) := by decide +kernel
theorem d_Mo_map_43 : decode prog_14_method_4_code 43 = .ok (.iconst 4, 1) := by decide +kernel
theorem d_Mo_map_44 : decode prog_14_method_4_code 44 = .ok (.if_icmp .eq 10, 3) := by decide +kernel
theorem d_Mo_map_47 : decode prog_14_method_4_code 47 = .ok (.aload_n 0, 1) := by decide +kernel
theorem d_Mo_map_48 : decode prog_14_method_4_code 48 = .ok (.getfield 119, 3) := by decide +kernel
theorem d_Mo_map_5 : decode prog_14_method_4_code 5 = .ok (.iload_n 1, 1) := by decide +kernel
theorem d_Mo_map_51 : decode prog_14_method_4_code 51 = .ok (.ifCond .eq 9, 3) := by decide +kernel
theorem d_Mo_map_6 : decode prog_14_method_4_code 6 = .ok (.bipush 8, 2) := by decide +kernel
theorem d_Mo_map_60 : decode prog_14_method_4_code 60 = .ok (.aload_n 0, 1) := by decide +kernel
theorem d_Mo_map_61 : decode prog_14_method_4_code 61 = .ok (.iconst 0, 1) := by decide +kernel
theorem d_Mo_map_62 : decode prog_14_method_4_code 62 = .ok (.putfield 109, 3) := by decide +kernel
theorem d_Mo_map_65 : decode prog_14_method_4_code 65 = .ok (.aload_n 0, 1) := by decide +kernel
theorem d_Mo_map_66 : decode prog_14_method_4_code 66 = .ok (.getfield 27, 3) := by decide +kernel
theorem d_Mo_map_69 : decode prog_14_method_4_code 69 = .ok (.aload_n 0, 1) := by decide +kernel
theorem d_Mo_map_70 : decode prog_14_method_4_code 70 = .ok (.getfield 116, 3) := by decide +kernel
theorem d_Mo_map_73 : decode prog_14_method_4_code 73 = .ok (.iload_n 1, 1) := by decide +kernel
theorem d_Mo_map_74 : decode prog_14_method_4_code 74 = .ok (.iastore, 1) := by decide +kernel
theorem d_Mo_map_75 : decode prog_14_method_4_code 75 = .ok (.aload_n 0, 1) := by decide +kernel
theorem d_Mo_map_76 : decode prog_14_method_4_code 76 = .ok (.getfield 30, 3) := by decide +kernel
theorem d_Mo_map_79 : decode prog_14_method_4_code 79 = .ok (.aload_n 0, 1) := by decide +kernel
theorem d_Mo_map_8 : decode prog_14_method_4_code 8 = .ok (.if_icmp .gt 25, 3) := by decide +kernel
theorem d_Mo_map_80 : decode prog_14_method_4_code 80 = .ok (.getfield 116, 3) := by decide +kernel
theorem d_Mo_map_83 : decode prog_14_method_4_code 83 = .ok (.iload_n 2, 1) := by decide +kernel
theorem d_Mo_map_84 : decode prog_14_method_4_code 84 = .ok (.iastore, 1) := by decide +kernel
theorem d_Mo_map_85 : decode prog_14_method_4_code 85 = .ok (.aload_n 0, 1) := by decide +kernel
theorem d_Mo_map_86 : decode prog_14_method_4_code 86 = .ok (.getfield 33, 3) := by decide +kernel
theorem d_Mo_map_89 : decode prog_14_method_4_code 89 = .ok (.aload_n 0, 1) := by decide +kernel
theorem d_Mo_map_90 : decode prog_14_method_4_code 90 = .ok (.getfield 116, 3) := by decide +kernel
theorem d_Mo_map_93 : decode prog_14_method_4_code 93 = .ok (.iload_n 3, 1) := by decide +kernel
theorem d_Mo_map_94 : decode prog_14_method_4_code 94 = .ok (.iastore, 1) := by decide +kernel
theorem d_Mo_map_95 : decode prog_14_method_4_code 95 = .ok (.aload_n 0, 1) := by decide +kernel
theorem d_Mo_map_96 : decode prog_14_method_4_code 96 = .ok (.dup, 1) := by decide +kernel
theorem d_Mo_map_97 : decode prog_14_method_4_code 97 = .ok (.getfield 116, 3) := by decide +kernel
theorem d_Mo_no_0 : decode prog_14_method_3_code 0 = .ok (.aload_n 0, 1) := by decide +kernel
theorem d_Mo_no_1 : decode prog_14_method_3_code 1 = .ok (.iload_n 1, 1) := by decide +kernel
theorem d_Mo_no_2 : decode prog_14_method_3_code 2 = .ok (.putfield 109, 3) := by decide +kernel
theorem d_Mo_no_5 : decode prog_14_method_3_code 5 = .ok (.iconst 0, 1) := by decide +kernel
theorem d_Mo_no_6 : decode prog_14_method_3_code 6 = .ok (.ireturn, 1) := by decide +kernel
theorem d_Mo_place_0 : decode prog_14_method_74_code 0 = .ok (.iload_n 1, 1) := by decide +kernel
theorem d_Mo_place_1 : decode prog_14_method_74_code 1 = .ok (.ifCond .lt 47, 3) := by decide +kernel
