theorem d_M_init_0 : decode b_M_init 0 = .ok (.aload_n 0, 1) := by decide +kernel
theorem d_M_init_1 : decode b_M_init 1 = .ok (.invokespecial 1, 3) := by decide +kernel
theorem d_M_init_4 : decode b_M_init 4 = .ok (.aload_n 0, 1) := by decide +kernel
theorem d_M_init_5 : decode b_M_init 5 = .ok (.sipush 1000, 3) := by decide +kernel
theorem d_M_init_8 : decode b_M_init 8 = .ok (.newarray .int, 2) := by decide +kernel
theorem d_M_init_10 : decode b_M_init 10 = .ok (.putfield 7, 3) := by decide +kernel
theorem d_M_init_13 : decode b_M_init 13 = .ok (.aload_n 0, 1) := by decide +kernel
theorem d_M_init_14 : decode b_M_init 14 = .ok (.sipush 17696, 3) := by decide +kernel
theorem d_M_init_17 : decode b_M_init 17 = .ok (.newarray .long, 2) := by decide +kernel
theorem d_M_init_19 : decode b_M_init 19 = .ok (.putfield 13, 3) := by decide +kernel
theorem d_M_init_22 : decode b_M_init 22 = .ok (.aload_n 0, 1) := by decide +kernel
theorem d_M_init_23 : decode b_M_init 23 = .ok (.sipush 17696, 3) := by decide +kernel
theorem d_M_init_26 : decode b_M_init 26 = .ok (.newarray .int, 2) := by decide +kernel
theorem d_M_init_28 : decode b_M_init 28 = .ok (.putfield 17, 3) := by decide +kernel
theorem d_M_init_31 : decode b_M_init 31 = .ok (.aload_n 0, 1) := by decide +kernel
theorem d_M_init_32 : decode b_M_init 32 = .ok (.sipush 17696, 3) := by decide +kernel
theorem d_M_init_35 : decode b_M_init 35 = .ok (.newarray .int, 2) := by decide +kernel
theorem d_M_init_37 : decode b_M_init 37 = .ok (.putfield 20, 3) := by decide +kernel
theorem d_M_init_40 : decode b_M_init 40 = .ok (.aload_n 0, 1) := by decide +kernel
theorem d_M_init_41 : decode b_M_init 41 = .ok (.ldc 23, 2) := by decide +kernel
theorem d_M_init_43 : decode b_M_init 43 = .ok (.newarray .int, 2) := by decide +kernel
theorem d_M_init_45 : decode b_M_init 45 = .ok (.putfield 24, 3) := by decide +kernel
theorem d_M_init_48 : decode b_M_init 48 = .ok (.aload_n 0, 1) := by decide +kernel
theorem d_M_init_49 : decode b_M_init 49 = .ok (.bipush 16, 2) := by decide +kernel
theorem d_M_init_51 : decode b_M_init 51 = .ok (.newarray .int, 2) := by decide +kernel
theorem d_M_init_53 : decode b_M_init 53 = .ok (.putfield 27, 3) := by decide +kernel
theorem d_M_init_56 : decode b_M_init 56 = .ok (.aload_n 0, 1) := by decide +kernel
theorem d_M_init_57 : decode b_M_init 57 = .ok (.bipush 16, 2) := by decide +kernel
theorem d_M_init_59 : decode b_M_init 59 = .ok (.newarray .int, 2) := by decide +kernel
theorem d_M_init_61 : decode b_M_init 61 = .ok (.putfield 30, 3) := by decide +kernel
theorem d_M_init_64 : decode b_M_init 64 = .ok (.aload_n 0, 1) := by decide +kernel
theorem d_M_init_65 : decode b_M_init 65 = .ok (.bipush 16, 2) := by decide +kernel
theorem d_M_init_67 : decode b_M_init 67 = .ok (.newarray .int, 2) := by decide +kernel
theorem d_M_init_69 : decode b_M_init 69 = .ok (.putfield 33, 3) := by decide +kernel
theorem d_M_init_72 : decode b_M_init 72 = .ok (.aload_n 0, 1) := by decide +kernel
theorem d_M_init_73 : decode b_M_init 73 = .ok (.bipush 16, 2) := by decide +kernel
theorem d_M_init_75 : decode b_M_init 75 = .ok (.newarray .int, 2) := by decide +kernel
theorem d_M_init_77 : decode b_M_init 77 = .ok (.putfield 36, 3) := by decide +kernel
theorem d_M_init_80 : decode b_M_init 80 = .ok (.aload_n 0, 1) := by decide +kernel
theorem d_M_init_81 : decode b_M_init 81 = .ok (.bipush 16, 2) := by decide +kernel
theorem d_M_init_83 : decode b_M_init 83 = .ok (.newarray .int, 2) := by decide +kernel
theorem d_M_init_85 : decode b_M_init 85 = .ok (.putfield 39, 3) := by decide +kernel
theorem d_M_init_88 : decode b_M_init 88 = .ok (.aload_n 0, 1) := by decide +kernel
theorem d_M_init_89 : decode b_M_init 89 = .ok (.bipush 16, 2) := by decide +kernel
theorem d_M_init_91 : decode b_M_init 91 = .ok (.newarray .int, 2) := by decide +kernel
theorem d_M_init_93 : decode b_M_init 93 = .ok (.putfield 42, 3) := by decide +kernel
theorem d_M_init_96 : decode b_M_init 96 = .ok (.aload_n 0, 1) := by decide +kernel
theorem d_M_init_97 : decode b_M_init 97 = .ok (.bipush 16, 2) := by decide +kernel
theorem d_M_init_99 : decode b_M_init 99 = .ok (.newarray .boolean, 2) := by decide +kernel
theorem d_M_init_101 : decode b_M_init 101 = .ok (.putfield 45, 3) := by decide +kernel
theorem d_M_init_104 : decode b_M_init 104 = .ok (.aload_n 0, 1) := by decide +kernel
theorem d_M_init_105 : decode b_M_init 105 = .ok (.bipush 16, 2) := by decide +kernel
theorem d_M_init_107 : decode b_M_init 107 = .ok (.newarray .boolean, 2) := by decide +kernel
theorem d_M_init_109 : decode b_M_init 109 = .ok (.putfield 49, 3) := by decide +kernel
theorem d_M_init_112 : decode b_M_init 112 = .ok (.aload_n 0, 1) := by decide +kernel
theorem d_M_init_113 : decode b_M_init 113 = .ok (.sipush 16000, 3) := by decide +kernel
theorem d_M_init_116 : decode b_M_init 116 = .ok (.newarray .boolean, 2) := by decide +kernel
theorem d_M_init_118 : decode b_M_init 118 = .ok (.putfield 52, 3) := by decide +kernel
theorem d_M_init_121 : decode b_M_init 121 = .ok (.aload_n 0, 1) := by decide +kernel
theorem d_M_init_122 : decode b_M_init 122 = .ok (.bipush 64, 2) := by decide +kernel
theorem d_M_init_124 : decode b_M_init 124 = .ok (.newarray .int, 2) := by decide +kernel
theorem d_M_init_126 : decode b_M_init 126 = .ok (.putfield 55, 3) := by decide +kernel
theorem d_M_init_129 : decode b_M_init 129 = .ok (.aload_n 0, 1) := by decide +kernel
theorem d_M_init_130 : decode b_M_init 130 = .ok (.bipush 64, 2) := by decide +kernel
theorem d_M_init_132 : decode b_M_init 132 = .ok (.newarray .int, 2) := by decide +kernel
theorem d_M_init_134 : decode b_M_init 134 = .ok (.putfield 58, 3) := by decide +kernel
theorem d_M_init_137 : decode b_M_init 137 = .ok (.aload_n 0, 1) := by decide +kernel
theorem d_M_init_138 : decode b_M_init 138 = .ok (.bipush 64, 2) := by decide +kernel
theorem d_M_init_140 : decode b_M_init 140 = .ok (.newarray .int, 2) := by decide +kernel
theorem d_M_init_142 : decode b_M_init 142 = .ok (.putfield 61, 3) := by decide +kernel
theorem d_M_init_145 : decode b_M_init 145 = .ok (.aload_n 0, 1) := by decide +kernel
theorem d_M_init_146 : decode b_M_init 146 = .ok (.bipush 64, 2) := by decide +kernel
theorem d_M_init_148 : decode b_M_init 148 = .ok (.newarray .int, 2) := by decide +kernel
theorem d_M_init_150 : decode b_M_init 150 = .ok (.putfield 64, 3) := by decide +kernel
theorem d_M_init_153 : decode b_M_init 153 = .ok (.aload_n 0, 1) := by decide +kernel
theorem d_M_init_154 : decode b_M_init 154 = .ok (.bipush 64, 2) := by decide +kernel
theorem d_M_init_156 : decode b_M_init 156 = .ok (.newarray .int, 2) := by decide +kernel
theorem d_M_init_158 : decode b_M_init 158 = .ok (.putfield 67, 3) := by decide +kernel
theorem d_M_init_161 : decode b_M_init 161 = .ok (.aload_n 0, 1) := by decide +kernel
theorem d_M_init_162 : decode b_M_init 162 = .ok (.bipush 64, 2) := by decide +kernel
theorem d_M_init_164 : decode b_M_init 164 = .ok (.newarray .int, 2) := by decide +kernel
theorem d_M_init_166 : decode b_M_init 166 = .ok (.putfield 70, 3) := by decide +kernel
theorem d_M_init_169 : decode b_M_init 169 = .ok (.aload_n 0, 1) := by decide +kernel
theorem d_M_init_170 : decode b_M_init 170 = .ok (.sipush 1000, 3) := by decide +kernel
theorem d_M_init_173 : decode b_M_init 173 = .ok (.newarray .int, 2) := by decide +kernel
theorem d_M_init_175 : decode b_M_init 175 = .ok (.putfield 73, 3) := by decide +kernel
theorem d_M_init_178 : decode b_M_init 178 = .ok (.aload_n 0, 1) := by decide +kernel
theorem d_M_init_179 : decode b_M_init 179 = .ok (.bipush 64, 2) := by decide +kernel
theorem d_M_init_181 : decode b_M_init 181 = .ok (.newarray .int, 2) := by decide +kernel
theorem d_M_init_183 : decode b_M_init 183 = .ok (.putfield 76, 3) := by decide +kernel
theorem d_M_init_186 : decode b_M_init 186 = .ok (.return_, 1) := by decide +kernel
theorem d_M_feed_0 : decode b_M_feed 0 = .ok (.aload_n 0, 1) := by decide +kernel
theorem d_M_feed_1 : decode b_M_feed 1 = .ok (.iconst 0, 1) := by decide +kernel
theorem d_M_feed_2 : decode b_M_feed 2 = .ok (.putfield 79, 3) := by decide +kernel
theorem d_M_feed_5 : decode b_M_feed 5 = .ok (.aload_n 0, 1) := by decide +kernel
theorem d_M_feed_6 : decode b_M_feed 6 = .ok (.getfield 83, 3) := by decide +kernel
theorem d_M_feed_9 : decode b_M_feed 9 = .ok (.bipush 20, 2) := by decide +kernel
theorem d_M_feed_11 : decode b_M_feed 11 = .ok (.iadd, 1) := by decide +kernel
theorem d_M_feed_12 : decode b_M_feed 12 = .ok (.sipush 1000, 3) := by decide +kernel
theorem d_M_feed_15 : decode b_M_feed 15 = .ok (.if_icmp .le 5, 3) := by decide +kernel
theorem d_M_feed_18 : decode b_M_feed 18 = .ok (.iconst 0, 1) := by decide +kernel
theorem d_M_feed_19 : decode b_M_feed 19 = .ok (.ireturn, 1) := by decide +kernel
theorem d_M_feed_20 : decode b_M_feed 20 = .ok (.iconst 0, 1) := by decide +kernel
theorem d_M_feed_21 : decode b_M_feed 21 = .ok (.istore 6, 2) := by decide +kernel
theorem d_M_feed_23 : decode b_M_feed 23 = .ok (.iload 6, 2) := by decide +kernel
theorem d_M_feed_25 : decode b_M_feed 25 = .ok (.bipush 20, 2) := by decide +kernel
theorem d_M_feed_27 : decode b_M_feed 27 = .ok (.if_icmp .ge 86, 3) := by decide +kernel
theorem d_M_feed_30 : decode b_M_feed 30 = .ok (.iload 6, 2) := by decide +kernel
theorem d_M_feed_32 : decode b_M_feed 32 = .ok (.iconst 4, 1) := by decide +kernel
theorem d_M_feed_33 : decode b_M_feed 33 = .ok (.if_icmp .ge 7, 3) := by decide +kernel
theorem d_M_feed_36 : decode b_M_feed 36 = .ok (.iload_n 1, 1) := by decide +kernel
theorem d_M_feed_37 : decode b_M_feed 37 = .ok (.goto 39, 3) := by decide +kernel
theorem d_M_feed_40 : decode b_M_feed 40 = .ok (.iload 6, 2) := by decide +kernel
theorem d_M_feed_42 : decode b_M_feed 42 = .ok (.bipush 8, 2) := by decide +kernel
theorem d_M_feed_44 : decode b_M_feed 44 = .ok (.if_icmp .ge 7, 3) := by decide +kernel
theorem d_M_feed_47 : decode b_M_feed 47 = .ok (.iload_n 2, 1) := by decide +kernel
theorem d_M_feed_48 : decode b_M_feed 48 = .ok (.goto 28, 3) := by decide +kernel
theorem d_M_feed_51 : decode b_M_feed 51 = .ok (.iload 6, 2) := by decide +kernel
theorem d_M_feed_53 : decode b_M_feed 53 = .ok (.bipush 12, 2) := by decide +kernel
theorem d_M_feed_55 : decode b_M_feed 55 = .ok (.if_icmp .ge 7, 3) := by decide +kernel
theorem d_M_feed_58 : decode b_M_feed 58 = .ok (.iload_n 3, 1) := by decide +kernel
theorem d_M_feed_59 : decode b_M_feed 59 = .ok (.goto 17, 3) := by decide +kernel
theorem d_M_feed_62 : decode b_M_feed 62 = .ok (.iload 6, 2) := by decide +kernel
theorem d_M_feed_64 : decode b_M_feed 64 = .ok (.bipush 16, 2) := by decide +kernel
theorem d_M_feed_66 : decode b_M_feed 66 = .ok (.if_icmp .ge 8, 3) := by decide +kernel
theorem d_M_feed_69 : decode b_M_feed 69 = .ok (.iload 4, 2) := by decide +kernel
theorem d_M_feed_71 : decode b_M_feed 71 = .ok (.goto 5, 3) := by decide +kernel
theorem d_M_feed_74 : decode b_M_feed 74 = .ok (.iload 5, 2) := by decide +kernel
theorem d_M_feed_76 : decode b_M_feed 76 = .ok (.istore 7, 2) := by decide +kernel
theorem d_M_feed_78 : decode b_M_feed 78 = .ok (.aload_n 0, 1) := by decide +kernel
theorem d_M_feed_79 : decode b_M_feed 79 = .ok (.getfield 7, 3) := by decide +kernel
theorem d_M_feed_82 : decode b_M_feed 82 = .ok (.aload_n 0, 1) := by decide +kernel
theorem d_M_feed_83 : decode b_M_feed 83 = .ok (.getfield 83, 3) := by decide +kernel
theorem d_M_feed_86 : decode b_M_feed 86 = .ok (.iload 6, 2) := by decide +kernel
theorem d_M_feed_88 : decode b_M_feed 88 = .ok (.iadd, 1) := by decide +kernel
theorem d_M_feed_89 : decode b_M_feed 89 = .ok (.iload 7, 2) := by decide +kernel
theorem d_M_feed_91 : decode b_M_feed 91 = .ok (.bipush 24, 2) := by decide +kernel
theorem d_M_feed_93 : decode b_M_feed 93 = .ok (.bipush 8, 2) := by decide +kernel
theorem d_M_feed_95 : decode b_M_feed 95 = .ok (.iload 6, 2) := by decide +kernel
theorem d_M_feed_97 : decode b_M_feed 97 = .ok (.iconst 4, 1) := by decide +kernel
theorem d_M_feed_98 : decode b_M_feed 98 = .ok (.irem, 1) := by decide +kernel
theorem d_M_feed_99 : decode b_M_feed 99 = .ok (.imul, 1) := by decide +kernel
theorem d_M_feed_100 : decode b_M_feed 100 = .ok (.isub, 1) := by decide +kernel
theorem d_M_feed_101 : decode b_M_feed 101 = .ok (.ishr, 1) := by decide +kernel
theorem d_M_feed_102 : decode b_M_feed 102 = .ok (.sipush 255, 3) := by decide +kernel
theorem d_M_feed_105 : decode b_M_feed 105 = .ok (.iand, 1) := by decide +kernel
theorem d_M_feed_106 : decode b_M_feed 106 = .ok (.iastore, 1) := by decide +kernel
theorem d_M_feed_107 : decode b_M_feed 107 = .ok (.iinc 6 1, 3) := by decide +kernel
theorem d_M_feed_110 : decode b_M_feed 110 = .ok (.goto (-87), 3) := by decide +kernel
theorem d_M_feed_113 : decode b_M_feed 113 = .ok (.aload_n 0, 1) := by decide +kernel
theorem d_M_feed_114 : decode b_M_feed 114 = .ok (.dup, 1) := by decide +kernel
theorem d_M_feed_115 : decode b_M_feed 115 = .ok (.getfield 83, 3) := by decide +kernel
theorem d_M_feed_118 : decode b_M_feed 118 = .ok (.bipush 20, 2) := by decide +kernel
theorem d_M_feed_120 : decode b_M_feed 120 = .ok (.iadd, 1) := by decide +kernel
theorem d_M_feed_121 : decode b_M_feed 121 = .ok (.putfield 83, 3) := by decide +kernel
theorem d_M_feed_124 : decode b_M_feed 124 = .ok (.iconst 1, 1) := by decide +kernel
theorem d_M_feed_125 : decode b_M_feed 125 = .ok (.ireturn, 1) := by decide +kernel
theorem d_M_compare_0 : decode b_M_compare 0 = .ok (.iload_n 1, 1) := by decide +kernel
theorem d_M_compare_1 : decode b_M_compare 1 = .ok (.iconst 2, 1) := by decide +kernel
theorem d_M_compare_2 : decode b_M_compare 2 = .ok (.if_icmp .eq 45, 3) := by decide +kernel
theorem d_M_compare_5 : decode b_M_compare 5 = .ok (.aload_n 0, 1) := by decide +kernel
theorem d_M_compare_6 : decode b_M_compare 6 = .ok (.getfield 13, 3) := by decide +kernel
theorem d_M_compare_9 : decode b_M_compare 9 = .ok (.iload_n 2, 1) := by decide +kernel
theorem d_M_compare_10 : decode b_M_compare 10 = .ok (.laload, 1) := by decide +kernel
theorem d_M_compare_11 : decode b_M_compare 11 = .ok (.aload_n 0, 1) := by decide +kernel
theorem d_M_compare_12 : decode b_M_compare 12 = .ok (.getfield 13, 3) := by decide +kernel
theorem d_M_compare_15 : decode b_M_compare 15 = .ok (.iload_n 3, 1) := by decide +kernel
theorem d_M_compare_16 : decode b_M_compare 16 = .ok (.laload, 1) := by decide +kernel
theorem d_M_compare_17 : decode b_M_compare 17 = .ok (.lcmp, 1) := by decide +kernel
theorem d_M_compare_18 : decode b_M_compare 18 = .ok (.ifCond .ge 7, 3) := by decide +kernel
theorem d_M_compare_21 : decode b_M_compare 21 = .ok (.iconst (-1), 1) := by decide +kernel
theorem d_M_compare_22 : decode b_M_compare 22 = .ok (.goto 24, 3) := by decide +kernel
theorem d_M_compare_25 : decode b_M_compare 25 = .ok (.aload_n 0, 1) := by decide +kernel
theorem d_M_compare_26 : decode b_M_compare 26 = .ok (.getfield 13, 3) := by decide +kernel
theorem d_M_compare_29 : decode b_M_compare 29 = .ok (.iload_n 2, 1) := by decide +kernel
theorem d_M_compare_30 : decode b_M_compare 30 = .ok (.laload, 1) := by decide +kernel
theorem d_M_compare_31 : decode b_M_compare 31 = .ok (.aload_n 0, 1) := by decide +kernel
theorem d_M_compare_32 : decode b_M_compare 32 = .ok (.getfield 13, 3) := by decide +kernel
theorem d_M_compare_35 : decode b_M_compare 35 = .ok (.iload_n 3, 1) := by decide +kernel
theorem d_M_compare_36 : decode b_M_compare 36 = .ok (.laload, 1) := by decide +kernel
theorem d_M_compare_37 : decode b_M_compare 37 = .ok (.lcmp, 1) := by decide +kernel
theorem d_M_compare_38 : decode b_M_compare 38 = .ok (.ifCond .le 7, 3) := by decide +kernel
theorem d_M_compare_41 : decode b_M_compare 41 = .ok (.iconst 1, 1) := by decide +kernel
theorem d_M_compare_42 : decode b_M_compare 42 = .ok (.goto 4, 3) := by decide +kernel
theorem d_M_compare_45 : decode b_M_compare 45 = .ok (.iconst 0, 1) := by decide +kernel
theorem d_M_compare_46 : decode b_M_compare 46 = .ok (.ireturn, 1) := by decide +kernel
theorem d_M_compare_47 : decode b_M_compare 47 = .ok (.iconst 0, 1) := by decide +kernel
theorem d_M_compare_48 : decode b_M_compare 48 = .ok (.istore 4, 2) := by decide +kernel
theorem d_M_compare_50 : decode b_M_compare 50 = .ok (.iload 4, 2) := by decide +kernel
theorem d_M_compare_52 : decode b_M_compare 52 = .ok (.aload_n 0, 1) := by decide +kernel
theorem d_M_compare_53 : decode b_M_compare 53 = .ok (.getfield 20, 3) := by decide +kernel
theorem d_M_compare_56 : decode b_M_compare 56 = .ok (.iload_n 2, 1) := by decide +kernel
theorem d_M_compare_57 : decode b_M_compare 57 = .ok (.iaload, 1) := by decide +kernel
theorem d_M_compare_58 : decode b_M_compare 58 = .ok (.if_icmp .ge 51, 3) := by decide +kernel
theorem d_M_compare_61 : decode b_M_compare 61 = .ok (.iload 4, 2) := by decide +kernel
theorem d_M_compare_63 : decode b_M_compare 63 = .ok (.aload_n 0, 1) := by decide +kernel
theorem d_M_compare_64 : decode b_M_compare 64 = .ok (.getfield 20, 3) := by decide +kernel
theorem d_M_compare_67 : decode b_M_compare 67 = .ok (.iload_n 3, 1) := by decide +kernel
theorem d_M_compare_68 : decode b_M_compare 68 = .ok (.iaload, 1) := by decide +kernel
theorem d_M_compare_69 : decode b_M_compare 69 = .ok (.if_icmp .ge 40, 3) := by decide +kernel
theorem d_M_compare_72 : decode b_M_compare 72 = .ok (.aload_n 0, 1) := by decide +kernel
theorem d_M_compare_73 : decode b_M_compare 73 = .ok (.getfield 24, 3) := by decide +kernel
theorem d_M_compare_76 : decode b_M_compare 76 = .ok (.aload_n 0, 1) := by decide +kernel
theorem d_M_compare_77 : decode b_M_compare 77 = .ok (.getfield 17, 3) := by decide +kernel
theorem d_M_compare_80 : decode b_M_compare 80 = .ok (.iload_n 2, 1) := by decide +kernel
theorem d_M_compare_81 : decode b_M_compare 81 = .ok (.iaload, 1) := by decide +kernel
theorem d_M_compare_82 : decode b_M_compare 82 = .ok (.iload 4, 2) := by decide +kernel
theorem d_M_compare_84 : decode b_M_compare 84 = .ok (.iadd, 1) := by decide +kernel
theorem d_M_compare_85 : decode b_M_compare 85 = .ok (.iaload, 1) := by decide +kernel
theorem d_M_compare_86 : decode b_M_compare 86 = .ok (.aload_n 0, 1) := by decide +kernel
theorem d_M_compare_87 : decode b_M_compare 87 = .ok (.getfield 24, 3) := by decide +kernel
theorem d_M_compare_90 : decode b_M_compare 90 = .ok (.aload_n 0, 1) := by decide +kernel
theorem d_M_compare_91 : decode b_M_compare 91 = .ok (.getfield 17, 3) := by decide +kernel
theorem d_M_compare_94 : decode b_M_compare 94 = .ok (.iload_n 3, 1) := by decide +kernel
theorem d_M_compare_95 : decode b_M_compare 95 = .ok (.iaload, 1) := by decide +kernel
theorem d_M_compare_96 : decode b_M_compare 96 = .ok (.iload 4, 2) := by decide +kernel
theorem d_M_compare_98 : decode b_M_compare 98 = .ok (.iadd, 1) := by decide +kernel
theorem d_M_compare_99 : decode b_M_compare 99 = .ok (.iaload, 1) := by decide +kernel
theorem d_M_compare_100 : decode b_M_compare 100 = .ok (.if_icmp .ne 9, 3) := by decide +kernel
theorem d_M_compare_103 : decode b_M_compare 103 = .ok (.iinc 4 1, 3) := by decide +kernel
theorem d_M_compare_106 : decode b_M_compare 106 = .ok (.goto (-56), 3) := by decide +kernel
theorem d_M_compare_109 : decode b_M_compare 109 = .ok (.iload 4, 2) := by decide +kernel
theorem d_M_compare_111 : decode b_M_compare 111 = .ok (.aload_n 0, 1) := by decide +kernel
theorem d_M_compare_112 : decode b_M_compare 112 = .ok (.getfield 20, 3) := by decide +kernel
theorem d_M_compare_115 : decode b_M_compare 115 = .ok (.iload_n 2, 1) := by decide +kernel
theorem d_M_compare_116 : decode b_M_compare 116 = .ok (.iaload, 1) := by decide +kernel
theorem d_M_compare_117 : decode b_M_compare 117 = .ok (.if_icmp .ge 44, 3) := by decide +kernel
theorem d_M_compare_120 : decode b_M_compare 120 = .ok (.iload 4, 2) := by decide +kernel
theorem d_M_compare_122 : decode b_M_compare 122 = .ok (.aload_n 0, 1) := by decide +kernel
theorem d_M_compare_123 : decode b_M_compare 123 = .ok (.getfield 20, 3) := by decide +kernel
theorem d_M_compare_126 : decode b_M_compare 126 = .ok (.iload_n 3, 1) := by decide +kernel
theorem d_M_compare_127 : decode b_M_compare 127 = .ok (.iaload, 1) := by decide +kernel
theorem d_M_compare_128 : decode b_M_compare 128 = .ok (.if_icmp .ge 33, 3) := by decide +kernel
theorem d_M_compare_131 : decode b_M_compare 131 = .ok (.aload_n 0, 1) := by decide +kernel
theorem d_M_compare_132 : decode b_M_compare 132 = .ok (.getfield 24, 3) := by decide +kernel
theorem d_M_compare_135 : decode b_M_compare 135 = .ok (.aload_n 0, 1) := by decide +kernel
theorem d_M_compare_136 : decode b_M_compare 136 = .ok (.getfield 17, 3) := by decide +kernel
theorem d_M_compare_139 : decode b_M_compare 139 = .ok (.iload_n 2, 1) := by decide +kernel
theorem d_M_compare_140 : decode b_M_compare 140 = .ok (.iaload, 1) := by decide +kernel
theorem d_M_compare_141 : decode b_M_compare 141 = .ok (.iload 4, 2) := by decide +kernel
theorem d_M_compare_143 : decode b_M_compare 143 = .ok (.iadd, 1) := by decide +kernel
theorem d_M_compare_144 : decode b_M_compare 144 = .ok (.iaload, 1) := by decide +kernel
theorem d_M_compare_145 : decode b_M_compare 145 = .ok (.aload_n 0, 1) := by decide +kernel
theorem d_M_compare_146 : decode b_M_compare 146 = .ok (.getfield 24, 3) := by decide +kernel
theorem d_M_compare_149 : decode b_M_compare 149 = .ok (.aload_n 0, 1) := by decide +kernel
theorem d_M_compare_150 : decode b_M_compare 150 = .ok (.getfield 17, 3) := by decide +kernel
theorem d_M_compare_153 : decode b_M_compare 153 = .ok (.iload_n 3, 1) := by decide +kernel
theorem d_M_compare_154 : decode b_M_compare 154 = .ok (.iaload, 1) := by decide +kernel
theorem d_M_compare_155 : decode b_M_compare 155 = .ok (.iload 4, 2) := by decide +kernel
theorem d_M_compare_157 : decode b_M_compare 157 = .ok (.iadd, 1) := by decide +kernel
theorem d_M_compare_158 : decode b_M_compare 158 = .ok (.iaload, 1) := by decide +kernel
theorem d_M_compare_159 : decode b_M_compare 159 = .ok (.isub, 1) := by decide +kernel
theorem d_M_compare_160 : decode b_M_compare 160 = .ok (.ireturn, 1) := by decide +kernel
theorem d_M_compare_161 : decode b_M_compare 161 = .ok (.aload_n 0, 1) := by decide +kernel
theorem d_M_compare_162 : decode b_M_compare 162 = .ok (.getfield 20, 3) := by decide +kernel
theorem d_M_compare_165 : decode b_M_compare 165 = .ok (.iload_n 2, 1) := by decide +kernel
theorem d_M_compare_166 : decode b_M_compare 166 = .ok (.iaload, 1) := by decide +kernel
theorem d_M_compare_167 : decode b_M_compare 167 = .ok (.aload_n 0, 1) := by decide +kernel
theorem d_M_compare_168 : decode b_M_compare 168 = .ok (.getfield 20, 3) := by decide +kernel
theorem d_M_compare_171 : decode b_M_compare 171 = .ok (.iload_n 3, 1) := by decide +kernel
theorem d_M_compare_172 : decode b_M_compare 172 = .ok (.iaload, 1) := by decide +kernel
theorem d_M_compare_173 : decode b_M_compare 173 = .ok (.isub, 1) := by decide +kernel
theorem d_M_compare_174 : decode b_M_compare 174 = .ok (.ireturn, 1) := by decide +kernel
theorem d_M_copy_0 : decode b_M_copy 0 = .ok (.aload_n 0, 1) := by decide +kernel
theorem d_M_copy_1 : decode b_M_copy 1 = .ok (.getfield 13, 3) := by decide +kernel
theorem d_M_copy_4 : decode b_M_copy 4 = .ok (.iload_n 1, 1) := by decide +kernel
theorem d_M_copy_5 : decode b_M_copy 5 = .ok (.aload_n 0, 1) := by decide +kernel
theorem d_M_copy_6 : decode b_M_copy 6 = .ok (.getfield 13, 3) := by decide +kernel
theorem d_M_copy_9 : decode b_M_copy 9 = .ok (.iload_n 2, 1) := by decide +kernel
theorem d_M_copy_10 : decode b_M_copy 10 = .ok (.laload, 1) := by decide +kernel
theorem d_M_copy_11 : decode b_M_copy 11 = .ok (.lastore, 1) := by decide +kernel
theorem d_M_copy_12 : decode b_M_copy 12 = .ok (.aload_n 0, 1) := by decide +kernel
theorem d_M_copy_13 : decode b_M_copy 13 = .ok (.getfield 20, 3) := by decide +kernel
theorem d_M_copy_16 : decode b_M_copy 16 = .ok (.iload_n 1, 1) := by decide +kernel
theorem d_M_copy_17 : decode b_M_copy 17 = .ok (.aload_n 0, 1) := by decide +kernel
theorem d_M_copy_18 : decode b_M_copy 18 = .ok (.getfield 20, 3) := by decide +kernel
theorem d_M_copy_21 : decode b_M_copy 21 = .ok (.iload_n 2, 1) := by decide +kernel
theorem d_M_copy_22 : decode b_M_copy 22 = .ok (.iaload, 1) := by decide +kernel
theorem d_M_copy_23 : decode b_M_copy 23 = .ok (.iastore, 1) := by decide +kernel
theorem d_M_copy_24 : decode b_M_copy 24 = .ok (.aload_n 0, 1) := by decide +kernel
theorem d_M_copy_25 : decode b_M_copy 25 = .ok (.getfield 17, 3) := by decide +kernel
theorem d_M_copy_28 : decode b_M_copy 28 = .ok (.iload_n 1, 1) := by decide +kernel
theorem d_M_copy_29 : decode b_M_copy 29 = .ok (.iload_n 3, 1) := by decide +kernel
theorem d_M_copy_30 : decode b_M_copy 30 = .ok (.iastore, 1) := by decide +kernel
theorem d_M_copy_31 : decode b_M_copy 31 = .ok (.iconst 0, 1) := by decide +kernel
theorem d_M_copy_32 : decode b_M_copy 32 = .ok (.istore 4, 2) := by decide +kernel
theorem d_M_copy_34 : decode b_M_copy 34 = .ok (.iload 4, 2) := by decide +kernel
theorem d_M_copy_36 : decode b_M_copy 36 = .ok (.aload_n 0, 1) := by decide +kernel
theorem d_M_copy_37 : decode b_M_copy 37 = .ok (.getfield 20, 3) := by decide +kernel
theorem d_M_copy_40 : decode b_M_copy 40 = .ok (.iload_n 2, 1) := by decide +kernel
theorem d_M_copy_41 : decode b_M_copy 41 = .ok (.iaload, 1) := by decide +kernel
theorem d_M_copy_42 : decode b_M_copy 42 = .ok (.if_icmp .ge 32, 3) := by decide +kernel
theorem d_M_copy_45 : decode b_M_copy 45 = .ok (.aload_n 0, 1) := by decide +kernel
theorem d_M_copy_46 : decode b_M_copy 46 = .ok (.getfield 24, 3) := by decide +kernel
theorem d_M_copy_49 : decode b_M_copy 49 = .ok (.iload_n 3, 1) := by decide +kernel
theorem d_M_copy_50 : decode b_M_copy 50 = .ok (.iload 4, 2) := by decide +kernel
theorem d_M_copy_52 : decode b_M_copy 52 = .ok (.iadd, 1) := by decide +kernel
theorem d_M_copy_53 : decode b_M_copy 53 = .ok (.aload_n 0, 1) := by decide +kernel
theorem d_M_copy_54 : decode b_M_copy 54 = .ok (.getfield 24, 3) := by decide +kernel
theorem d_M_copy_57 : decode b_M_copy 57 = .ok (.aload_n 0, 1) := by decide +kernel
theorem d_M_copy_58 : decode b_M_copy 58 = .ok (.getfield 17, 3) := by decide +kernel
theorem d_M_copy_61 : decode b_M_copy 61 = .ok (.iload_n 2, 1) := by decide +kernel
theorem d_M_copy_62 : decode b_M_copy 62 = .ok (.iaload, 1) := by decide +kernel
theorem d_M_copy_63 : decode b_M_copy 63 = .ok (.iload 4, 2) := by decide +kernel
theorem d_M_copy_65 : decode b_M_copy 65 = .ok (.iadd, 1) := by decide +kernel
theorem d_M_copy_66 : decode b_M_copy 66 = .ok (.iaload, 1) := by decide +kernel
theorem d_M_copy_67 : decode b_M_copy 67 = .ok (.iastore, 1) := by decide +kernel
theorem d_M_copy_68 : decode b_M_copy 68 = .ok (.iinc 4 1, 3) := by decide +kernel
theorem d_M_copy_71 : decode b_M_copy 71 = .ok (.goto (-37), 3) := by decide +kernel
theorem d_M_copy_74 : decode b_M_copy 74 = .ok (.return_, 1) := by decide +kernel
theorem d_M_fromTape_0 : decode b_M_fromTape 0 = .ok (.aload_n 0, 1) := by decide +kernel
theorem d_M_fromTape_1 : decode b_M_fromTape 1 = .ok (.getfield 13, 3) := by decide +kernel
theorem d_M_fromTape_4 : decode b_M_fromTape 4 = .ok (.iload_n 1, 1) := by decide +kernel
theorem d_M_fromTape_5 : decode b_M_fromTape 5 = .ok (.lconst 0, 1) := by decide +kernel
theorem d_M_fromTape_6 : decode b_M_fromTape 6 = .ok (.lastore, 1) := by decide +kernel
theorem d_M_fromTape_7 : decode b_M_fromTape 7 = .ok (.aload_n 0, 1) := by decide +kernel
theorem d_M_fromTape_8 : decode b_M_fromTape 8 = .ok (.getfield 20, 3) := by decide +kernel
theorem d_M_fromTape_11 : decode b_M_fromTape 11 = .ok (.iload_n 1, 1) := by decide +kernel
theorem d_M_fromTape_12 : decode b_M_fromTape 12 = .ok (.iload_n 2, 1) := by decide +kernel
theorem d_M_fromTape_13 : decode b_M_fromTape 13 = .ok (.iastore, 1) := by decide +kernel
theorem d_M_fromTape_14 : decode b_M_fromTape 14 = .ok (.aload_n 0, 1) := by decide +kernel
theorem d_M_fromTape_15 : decode b_M_fromTape 15 = .ok (.getfield 17, 3) := by decide +kernel
theorem d_M_fromTape_18 : decode b_M_fromTape 18 = .ok (.iload_n 1, 1) := by decide +kernel
theorem d_M_fromTape_19 : decode b_M_fromTape 19 = .ok (.iload_n 3, 1) := by decide +kernel
theorem d_M_fromTape_20 : decode b_M_fromTape 20 = .ok (.iastore, 1) := by decide +kernel
theorem d_M_fromTape_21 : decode b_M_fromTape 21 = .ok (.iconst 0, 1) := by decide +kernel
theorem d_M_fromTape_22 : decode b_M_fromTape 22 = .ok (.istore 4, 2) := by decide +kernel
theorem d_M_fromTape_24 : decode b_M_fromTape 24 = .ok (.iload 4, 2) := by decide +kernel
theorem d_M_fromTape_26 : decode b_M_fromTape 26 = .ok (.iload_n 2, 1) := by decide +kernel
theorem d_M_fromTape_27 : decode b_M_fromTape 27 = .ok (.if_icmp .ge 25, 3) := by decide +kernel
theorem d_M_fromTape_30 : decode b_M_fromTape 30 = .ok (.aload_n 0, 1) := by decide +kernel
theorem d_M_fromTape_31 : decode b_M_fromTape 31 = .ok (.getfield 24, 3) := by decide +kernel
theorem d_M_fromTape_34 : decode b_M_fromTape 34 = .ok (.iload_n 3, 1) := by decide +kernel
theorem d_M_fromTape_35 : decode b_M_fromTape 35 = .ok (.iload 4, 2) := by decide +kernel
theorem d_M_fromTape_37 : decode b_M_fromTape 37 = .ok (.iadd, 1) := by decide +kernel
theorem d_M_fromTape_38 : decode b_M_fromTape 38 = .ok (.aload_n 0, 1) := by decide +kernel
theorem d_M_fromTape_39 : decode b_M_fromTape 39 = .ok (.getfield 7, 3) := by decide +kernel
theorem d_M_fromTape_42 : decode b_M_fromTape 42 = .ok (.iload 4, 2) := by decide +kernel
theorem d_M_fromTape_44 : decode b_M_fromTape 44 = .ok (.iaload, 1) := by decide +kernel
theorem d_M_fromTape_45 : decode b_M_fromTape 45 = .ok (.iastore, 1) := by decide +kernel
theorem d_M_fromTape_46 : decode b_M_fromTape 46 = .ok (.iinc 4 1, 3) := by decide +kernel
theorem d_M_fromTape_49 : decode b_M_fromTape 49 = .ok (.goto (-25), 3) := by decide +kernel
theorem d_M_fromTape_52 : decode b_M_fromTape 52 = .ok (.return_, 1) := by decide +kernel
theorem d_M_isColumn_0 : decode b_M_isColumn 0 = .ok (.iload_n 1, 1) := by decide +kernel
theorem d_M_isColumn_1 : decode b_M_isColumn 1 = .ok (.ifCond .lt 15, 3) := by decide +kernel
theorem d_M_isColumn_4 : decode b_M_isColumn 4 = .ok (.iload_n 1, 1) := by decide +kernel
theorem d_M_isColumn_5 : decode b_M_isColumn 5 = .ok (.aload_n 0, 1) := by decide +kernel
theorem d_M_isColumn_6 : decode b_M_isColumn 6 = .ok (.getfield 86, 3) := by decide +kernel
theorem d_M_isColumn_9 : decode b_M_isColumn 9 = .ok (.if_icmp .ge 7, 3) := by decide +kernel
theorem d_M_isColumn_12 : decode b_M_isColumn 12 = .ok (.iconst 1, 1) := by decide +kernel
theorem d_M_isColumn_13 : decode b_M_isColumn 13 = .ok (.goto 4, 3) := by decide +kernel
theorem d_M_isColumn_16 : decode b_M_isColumn 16 = .ok (.iconst 0, 1) := by decide +kernel
theorem d_M_isColumn_17 : decode b_M_isColumn 17 = .ok (.ireturn, 1) := by decide +kernel
theorem d_M_isValue_0 : decode b_M_isValue 0 = .ok (.iload_n 0, 1) := by decide +kernel
theorem d_M_isValue_1 : decode b_M_isValue 1 = .ok (.ifCond .ne 23, 3) := by decide +kernel
theorem d_M_isValue_4 : decode b_M_isValue 4 = .ok (.lload_n 1, 1) := by decide +kernel
theorem d_M_isValue_5 : decode b_M_isValue 5 = .ok (.lconst 0, 1) := by decide +kernel
theorem d_M_isValue_6 : decode b_M_isValue 6 = .ok (.lcmp, 1) := by decide +kernel
theorem d_M_isValue_7 : decode b_M_isValue 7 = .ok (.ifCond .eq 9, 3) := by decide +kernel
theorem d_M_isValue_10 : decode b_M_isValue 10 = .ok (.lload_n 1, 1) := by decide +kernel
theorem d_M_isValue_11 : decode b_M_isValue 11 = .ok (.lconst 1, 1) := by decide +kernel
theorem d_M_isValue_12 : decode b_M_isValue 12 = .ok (.lcmp, 1) := by decide +kernel
theorem d_M_isValue_13 : decode b_M_isValue 13 = .ok (.ifCond .ne 7, 3) := by decide +kernel
theorem d_M_isValue_16 : decode b_M_isValue 16 = .ok (.iconst 1, 1) := by decide +kernel
theorem d_M_isValue_17 : decode b_M_isValue 17 = .ok (.goto 17, 3) := by decide +kernel
theorem d_M_isValue_20 : decode b_M_isValue 20 = .ok (.iconst 0, 1) := by decide +kernel
theorem d_M_isValue_21 : decode b_M_isValue 21 = .ok (.goto 13, 3) := by decide +kernel
theorem d_M_isValue_24 : decode b_M_isValue 24 = .ok (.iload_n 0, 1) := by decide +kernel
theorem d_M_isValue_25 : decode b_M_isValue 25 = .ok (.iconst 1, 1) := by decide +kernel
theorem d_M_isValue_26 : decode b_M_isValue 26 = .ok (.if_icmp .ne 7, 3) := by decide +kernel
theorem d_M_isValue_29 : decode b_M_isValue 29 = .ok (.iconst 1, 1) := by decide +kernel
theorem d_M_isValue_30 : decode b_M_isValue 30 = .ok (.goto 4, 3) := by decide +kernel
theorem d_M_isValue_33 : decode b_M_isValue 33 = .ok (.iconst 0, 1) := by decide +kernel
theorem d_M_isValue_34 : decode b_M_isValue 34 = .ok (.ireturn, 1) := by decide +kernel
theorem d_M_column_0 : decode b_M_column 0 = .ok (.aload_n 0, 1) := by decide +kernel
theorem d_M_column_1 : decode b_M_column 1 = .ok (.iconst 0, 1) := by decide +kernel
theorem d_M_column_2 : decode b_M_column 2 = .ok (.putfield 79, 3) := by decide +kernel
theorem d_M_column_5 : decode b_M_column 5 = .ok (.aload_n 0, 1) := by decide +kernel
theorem d_M_column_6 : decode b_M_column 6 = .ok (.getfield 86, 3) := by decide +kernel
theorem d_M_column_9 : decode b_M_column 9 = .ok (.bipush 16, 2) := by decide +kernel
theorem d_M_column_11 : decode b_M_column 11 = .ok (.if_icmp .eq 12, 3) := by decide +kernel
theorem d_M_column_14 : decode b_M_column 14 = .ok (.iload_n 1, 1) := by decide +kernel
theorem d_M_column_15 : decode b_M_column 15 = .ok (.ifCond .lt 8, 3) := by decide +kernel
theorem d_M_column_18 : decode b_M_column 18 = .ok (.iload_n 1, 1) := by decide +kernel
theorem d_M_column_19 : decode b_M_column 19 = .ok (.iconst 2, 1) := by decide +kernel
theorem d_M_column_20 : decode b_M_column 20 = .ok (.if_icmp .le 5, 3) := by decide +kernel
theorem d_M_column_23 : decode b_M_column 23 = .ok (.iconst (-1), 1) := by decide +kernel
theorem d_M_column_24 : decode b_M_column 24 = .ok (.ireturn, 1) := by decide +kernel
theorem d_M_column_25 : decode b_M_column 25 = .ok (.aload_n 0, 1) := by decide +kernel
theorem d_M_column_26 : decode b_M_column 26 = .ok (.getfield 27, 3) := by decide +kernel
theorem d_M_column_29 : decode b_M_column 29 = .ok (.aload_n 0, 1) := by decide +kernel
theorem d_M_column_30 : decode b_M_column 30 = .ok (.getfield 86, 3) := by decide +kernel
theorem d_M_column_33 : decode b_M_column 33 = .ok (.iload_n 1, 1) := by decide +kernel
theorem d_M_column_34 : decode b_M_column 34 = .ok (.iastore, 1) := by decide +kernel
theorem d_M_column_35 : decode b_M_column 35 = .ok (.aload_n 0, 1) := by decide +kernel
theorem d_M_column_36 : decode b_M_column 36 = .ok (.dup, 1) := by decide +kernel
theorem d_M_column_37 : decode b_M_column 37 = .ok (.getfield 86, 3) := by decide +kernel
theorem d_M_column_40 : decode b_M_column 40 = .ok (.iconst 1, 1) := by decide +kernel
theorem d_M_column_41 : decode b_M_column 41 = .ok (.iadd, 1) := by decide +kernel
theorem d_M_column_42 : decode b_M_column 42 = .ok (.putfield 86, 3) := by decide +kernel
theorem d_M_column_45 : decode b_M_column 45 = .ok (.aload_n 0, 1) := by decide +kernel
theorem d_M_column_46 : decode b_M_column 46 = .ok (.getfield 86, 3) := by decide +kernel
theorem d_M_column_49 : decode b_M_column 49 = .ok (.iconst 1, 1) := by decide +kernel
theorem d_M_column_50 : decode b_M_column 50 = .ok (.isub, 1) := by decide +kernel
theorem d_M_column_51 : decode b_M_column 51 = .ok (.ireturn, 1) := by decide +kernel
theorem d_M_add_0 : decode b_M_add 0 = .ok (.aload_n 0, 1) := by decide +kernel
theorem d_M_add_1 : decode b_M_add 1 = .ok (.iconst 0, 1) := by decide +kernel
theorem d_M_add_2 : decode b_M_add 2 = .ok (.putfield 79, 3) := by decide +kernel
theorem d_M_add_5 : decode b_M_add 5 = .ok (.aload_n 0, 1) := by decide +kernel
theorem d_M_add_6 : decode b_M_add 6 = .ok (.iload_n 1, 1) := by decide +kernel
theorem d_M_add_7 : decode b_M_add 7 = .ok (.invokevirtual 89, 3) := by decide +kernel
theorem d_M_add_10 : decode b_M_add 10 = .ok (.ifCond .eq 37, 3) := by decide +kernel
theorem d_M_add_13 : decode b_M_add 13 = .ok (.iload 4, 2) := by decide +kernel
theorem d_M_add_15 : decode b_M_add 15 = .ok (.iconst 1, 1) := by decide +kernel
theorem d_M_add_16 : decode b_M_add 16 = .ok (.if_icmp .lt 31, 3) := by decide +kernel
theorem d_M_add_19 : decode b_M_add 19 = .ok (.iload 4, 2) := by decide +kernel
theorem d_M_add_21 : decode b_M_add 21 = .ok (.sipush 1000, 3) := by decide +kernel
theorem d_M_add_24 : decode b_M_add 24 = .ok (.aload_n 0, 1) := by decide +kernel
theorem d_M_add_25 : decode b_M_add 25 = .ok (.getfield 30, 3) := by decide +kernel
theorem d_M_add_28 : decode b_M_add 28 = .ok (.iload_n 1, 1) := by decide +kernel
theorem d_M_add_29 : decode b_M_add 29 = .ok (.iaload, 1) := by decide +kernel
theorem d_M_add_30 : decode b_M_add 30 = .ok (.isub, 1) := by decide +kernel
theorem d_M_add_31 : decode b_M_add 31 = .ok (.if_icmp .gt 16, 3) := by decide +kernel
theorem d_M_add_34 : decode b_M_add 34 = .ok (.aload_n 0, 1) := by decide +kernel
theorem d_M_add_35 : decode b_M_add 35 = .ok (.getfield 27, 3) := by decide +kernel
theorem d_M_add_38 : decode b_M_add 38 = .ok (.iload_n 1, 1) := by decide +kernel
theorem d_M_add_39 : decode b_M_add 39 = .ok (.iaload, 1) := by decide +kernel
theorem d_M_add_40 : decode b_M_add 40 = .ok (.lload_n 2, 1) := by decide +kernel
theorem d_M_add_41 : decode b_M_add 41 = .ok (.invokestatic 93, 3) := by decide +kernel
theorem d_M_add_44 : decode b_M_add 44 = .ok (.ifCond .ne 5, 3) := by decide +kernel
theorem d_M_add_47 : decode b_M_add 47 = .ok (.iconst 0, 1) := by decide +kernel
theorem d_M_add_48 : decode b_M_add 48 = .ok (.ireturn, 1) := by decide +kernel
theorem d_M_add_49 : decode b_M_add 49 = .ok (.iconst 0, 1) := by decide +kernel
theorem d_M_add_50 : decode b_M_add 50 = .ok (.istore 5, 2) := by decide +kernel
theorem d_M_add_52 : decode b_M_add 52 = .ok (.iload 5, 2) := by decide +kernel
theorem d_M_add_54 : decode b_M_add 54 = .ok (.iload 4, 2) := by decide +kernel
theorem d_M_add_56 : decode b_M_add 56 = .ok (.if_icmp .ge 55, 3) := by decide +kernel
theorem d_M_add_59 : decode b_M_add 59 = .ok (.aload_n 0, 1) := by decide +kernel
theorem d_M_add_60 : decode b_M_add 60 = .ok (.getfield 13, 3) := by decide +kernel
theorem d_M_add_63 : decode b_M_add 63 = .ok (.sipush 1000, 3) := by decide +kernel
theorem d_M_add_66 : decode b_M_add 66 = .ok (.iload_n 1, 1) := by decide +kernel
theorem d_M_add_67 : decode b_M_add 67 = .ok (.imul, 1) := by decide +kernel
theorem d_M_add_68 : decode b_M_add 68 = .ok (.aload_n 0, 1) := by decide +kernel
theorem d_M_add_69 : decode b_M_add 69 = .ok (.getfield 30, 3) := by decide +kernel
theorem d_M_add_72 : decode b_M_add 72 = .ok (.iload_n 1, 1) := by decide +kernel
theorem d_M_add_73 : decode b_M_add 73 = .ok (.iaload, 1) := by decide +kernel
theorem d_M_add_74 : decode b_M_add 74 = .ok (.iadd, 1) := by decide +kernel
theorem d_M_add_75 : decode b_M_add 75 = .ok (.lload_n 2, 1) := by decide +kernel
theorem d_M_add_76 : decode b_M_add 76 = .ok (.lastore, 1) := by decide +kernel
theorem d_M_add_77 : decode b_M_add 77 = .ok (.aload_n 0, 1) := by decide +kernel
theorem d_M_add_78 : decode b_M_add 78 = .ok (.getfield 52, 3) := by decide +kernel
theorem d_M_add_81 : decode b_M_add 81 = .ok (.sipush 1000, 3) := by decide +kernel
theorem d_M_add_84 : decode b_M_add 84 = .ok (.iload_n 1, 1) := by decide +kernel
theorem d_M_add_85 : decode b_M_add 85 = .ok (.imul, 1) := by decide +kernel
theorem d_M_add_86 : decode b_M_add 86 = .ok (.aload_n 0, 1) := by decide +kernel
theorem d_M_add_87 : decode b_M_add 87 = .ok (.getfield 30, 3) := by decide +kernel
theorem d_M_add_90 : decode b_M_add 90 = .ok (.iload_n 1, 1) := by decide +kernel
theorem d_M_add_91 : decode b_M_add 91 = .ok (.iaload, 1) := by decide +kernel
theorem d_M_add_92 : decode b_M_add 92 = .ok (.iadd, 1) := by decide +kernel
theorem d_M_add_93 : decode b_M_add 93 = .ok (.iconst 1, 1) := by decide +kernel
theorem d_M_add_94 : decode b_M_add 94 = .ok (.bastore, 1) := by decide +kernel
theorem d_M_add_95 : decode b_M_add 95 = .ok (.aload_n 0, 1) := by decide +kernel
theorem d_M_add_96 : decode b_M_add 96 = .ok (.getfield 30, 3) := by decide +kernel
theorem d_M_add_99 : decode b_M_add 99 = .ok (.iload_n 1, 1) := by decide +kernel
theorem d_M_add_100 : decode b_M_add 100 = .ok (.dup2, 1) := by decide +kernel
theorem d_M_add_101 : decode b_M_add 101 = .ok (.iaload, 1) := by decide +kernel
theorem d_M_add_102 : decode b_M_add 102 = .ok (.iconst 1, 1) := by decide +kernel
theorem d_M_add_103 : decode b_M_add 103 = .ok (.iadd, 1) := by decide +kernel
theorem d_M_add_104 : decode b_M_add 104 = .ok (.iastore, 1) := by decide +kernel
theorem d_M_add_105 : decode b_M_add 105 = .ok (.iinc 5 1, 3) := by decide +kernel
theorem d_M_add_108 : decode b_M_add 108 = .ok (.goto (-56), 3) := by decide +kernel
theorem d_M_add_111 : decode b_M_add 111 = .ok (.iconst 1, 1) := by decide +kernel
theorem d_M_add_112 : decode b_M_add 112 = .ok (.ireturn, 1) := by decide +kernel
theorem d_M_addText_0 : decode b_M_addText 0 = .ok (.aload_n 0, 1) := by decide +kernel
theorem d_M_addText_1 : decode b_M_addText 1 = .ok (.iconst 0, 1) := by decide +kernel
theorem d_M_addText_2 : decode b_M_addText 2 = .ok (.putfield 79, 3) := by decide +kernel
theorem d_M_addText_5 : decode b_M_addText 5 = .ok (.iload_n 2, 1) := by decide +kernel
theorem d_M_addText_6 : decode b_M_addText 6 = .ok (.ifCond .lt 11, 3) := by decide +kernel
theorem d_M_addText_9 : decode b_M_addText 9 = .ok (.iload_n 2, 1) := by decide +kernel
theorem d_M_addText_10 : decode b_M_addText 10 = .ok (.aload_n 0, 1) := by decide +kernel
theorem d_M_addText_11 : decode b_M_addText 11 = .ok (.getfield 83, 3) := by decide +kernel
theorem d_M_addText_14 : decode b_M_addText 14 = .ok (.if_icmp .le 5, 3) := by decide +kernel
theorem d_M_addText_17 : decode b_M_addText 17 = .ok (.iconst 0, 1) := by decide +kernel
theorem d_M_addText_18 : decode b_M_addText 18 = .ok (.ireturn, 1) := by decide +kernel
theorem d_M_addText_19 : decode b_M_addText 19 = .ok (.aload_n 0, 1) := by decide +kernel
theorem d_M_addText_20 : decode b_M_addText 20 = .ok (.iconst 0, 1) := by decide +kernel
theorem d_M_addText_21 : decode b_M_addText 21 = .ok (.putfield 83, 3) := by decide +kernel
theorem d_M_addText_24 : decode b_M_addText 24 = .ok (.aload_n 0, 1) := by decide +kernel
theorem d_M_addText_25 : decode b_M_addText 25 = .ok (.iload_n 1, 1) := by decide +kernel
theorem d_M_addText_26 : decode b_M_addText 26 = .ok (.invokevirtual 89, 3) := by decide +kernel
theorem d_M_addText_29 : decode b_M_addText 29 = .ok (.ifCond .eq 46, 3) := by decide +kernel
theorem d_M_addText_32 : decode b_M_addText 32 = .ok (.aload_n 0, 1) := by decide +kernel
theorem d_M_addText_33 : decode b_M_addText 33 = .ok (.getfield 27, 3) := by decide +kernel
theorem d_M_addText_36 : decode b_M_addText 36 = .ok (.iload_n 1, 1) := by decide +kernel
theorem d_M_addText_37 : decode b_M_addText 37 = .ok (.iaload, 1) := by decide +kernel
theorem d_M_addText_38 : decode b_M_addText 38 = .ok (.iconst 2, 1) := by decide +kernel
theorem d_M_addText_39 : decode b_M_addText 39 = .ok (.if_icmp .ne 36, 3) := by decide +kernel
theorem d_M_addText_42 : decode b_M_addText 42 = .ok (.iload_n 2, 1) := by decide +kernel
theorem d_M_addText_43 : decode b_M_addText 43 = .ok (.sipush 255, 3) := by decide +kernel
theorem d_M_addText_46 : decode b_M_addText 46 = .ok (.if_icmp .gt 29, 3) := by decide +kernel
