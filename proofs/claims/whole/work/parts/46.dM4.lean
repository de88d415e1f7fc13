theorem d_M_known_7 : decode b_M_known 7 = .ok (.invokevirtual 89, 3) := by decide +kernel
theorem d_M_known_10 : decode b_M_known 10 = .ok (.ifCond .eq 18, 3) := by decide +kernel
theorem d_M_known_13 : decode b_M_known 13 = .ok (.iload_n 3, 1) := by decide +kernel
theorem d_M_known_14 : decode b_M_known 14 = .ok (.ifCond .lt 14, 3) := by decide +kernel
theorem d_M_known_17 : decode b_M_known 17 = .ok (.iload_n 2, 1) := by decide +kernel
theorem d_M_known_18 : decode b_M_known 18 = .ok (.iload_n 3, 1) := by decide +kernel
theorem d_M_known_19 : decode b_M_known 19 = .ok (.if_icmp .lt 9, 3) := by decide +kernel
theorem d_M_known_22 : decode b_M_known 22 = .ok (.iload_n 2, 1) := by decide +kernel
theorem d_M_known_23 : decode b_M_known 23 = .ok (.ldc 148, 2) := by decide +kernel
theorem d_M_known_25 : decode b_M_known 25 = .ok (.if_icmp .le 5, 3) := by decide +kernel
theorem d_M_known_28 : decode b_M_known 28 = .ok (.iconst 0, 1) := by decide +kernel
theorem d_M_known_29 : decode b_M_known 29 = .ok (.ireturn, 1) := by decide +kernel
theorem d_M_known_30 : decode b_M_known 30 = .ok (.aload_n 0, 1) := by decide +kernel
theorem d_M_known_31 : decode b_M_known 31 = .ok (.iload_n 1, 1) := by decide +kernel
theorem d_M_known_32 : decode b_M_known 32 = .ok (.iconst (-1), 1) := by decide +kernel
theorem d_M_known_33 : decode b_M_known 33 = .ok (.invokevirtual 149, 3) := by decide +kernel
theorem d_M_known_36 : decode b_M_known 36 = .ok (.istore 4, 2) := by decide +kernel
theorem d_M_known_38 : decode b_M_known 38 = .ok (.iload 4, 2) := by decide +kernel
theorem d_M_known_40 : decode b_M_known 40 = .ok (.iconst (-1), 1) := by decide +kernel
theorem d_M_known_41 : decode b_M_known 41 = .ok (.if_icmp .ne 10, 3) := by decide +kernel
theorem d_M_known_44 : decode b_M_known 44 = .ok (.iload_n 3, 1) := by decide +kernel
theorem d_M_known_45 : decode b_M_known 45 = .ok (.iload_n 2, 1) := by decide +kernel
theorem d_M_known_46 : decode b_M_known 46 = .ok (.if_icmp .ge 5, 3) := by decide +kernel
theorem d_M_known_49 : decode b_M_known 49 = .ok (.iconst 0, 1) := by decide +kernel
theorem d_M_known_50 : decode b_M_known 50 = .ok (.ireturn, 1) := by decide +kernel
theorem d_M_known_51 : decode b_M_known 51 = .ok (.aload_n 0, 1) := by decide +kernel
theorem d_M_known_52 : decode b_M_known 52 = .ok (.getfield 45, 3) := by decide +kernel
theorem d_M_known_55 : decode b_M_known 55 = .ok (.iload_n 1, 1) := by decide +kernel
theorem d_M_known_56 : decode b_M_known 56 = .ok (.iconst 1, 1) := by decide +kernel
theorem d_M_known_57 : decode b_M_known 57 = .ok (.bastore, 1) := by decide +kernel
theorem d_M_known_58 : decode b_M_known 58 = .ok (.aload_n 0, 1) := by decide +kernel
theorem d_M_known_59 : decode b_M_known 59 = .ok (.getfield 49, 3) := by decide +kernel
theorem d_M_known_62 : decode b_M_known 62 = .ok (.iload_n 1, 1) := by decide +kernel
theorem d_M_known_63 : decode b_M_known 63 = .ok (.iload 4, 2) := by decide +kernel
theorem d_M_known_65 : decode b_M_known 65 = .ok (.iconst (-1), 1) := by decide +kernel
theorem d_M_known_66 : decode b_M_known 66 = .ok (.if_icmp .eq 7, 3) := by decide +kernel
theorem d_M_known_69 : decode b_M_known 69 = .ok (.iconst 1, 1) := by decide +kernel
theorem d_M_known_70 : decode b_M_known 70 = .ok (.goto 4, 3) := by decide +kernel
theorem d_M_known_73 : decode b_M_known 73 = .ok (.iconst 0, 1) := by decide +kernel
theorem d_M_known_74 : decode b_M_known 74 = .ok (.bastore, 1) := by decide +kernel
theorem d_M_known_75 : decode b_M_known 75 = .ok (.aload_n 0, 1) := by decide +kernel
theorem d_M_known_76 : decode b_M_known 76 = .ok (.getfield 36, 3) := by decide +kernel
theorem d_M_known_79 : decode b_M_known 79 = .ok (.iload_n 1, 1) := by decide +kernel
theorem d_M_known_80 : decode b_M_known 80 = .ok (.iload_n 2, 1) := by decide +kernel
theorem d_M_known_81 : decode b_M_known 81 = .ok (.iastore, 1) := by decide +kernel
theorem d_M_known_82 : decode b_M_known 82 = .ok (.aload_n 0, 1) := by decide +kernel
theorem d_M_known_83 : decode b_M_known 83 = .ok (.getfield 39, 3) := by decide +kernel
theorem d_M_known_86 : decode b_M_known 86 = .ok (.iload_n 1, 1) := by decide +kernel
theorem d_M_known_87 : decode b_M_known 87 = .ok (.iload_n 3, 1) := by decide +kernel
theorem d_M_known_88 : decode b_M_known 88 = .ok (.iastore, 1) := by decide +kernel
theorem d_M_known_89 : decode b_M_known 89 = .ok (.aload_n 0, 1) := by decide +kernel
theorem d_M_known_90 : decode b_M_known 90 = .ok (.getfield 42, 3) := by decide +kernel
theorem d_M_known_93 : decode b_M_known 93 = .ok (.iload_n 1, 1) := by decide +kernel
theorem d_M_known_94 : decode b_M_known 94 = .ok (.iconst 0, 1) := by decide +kernel
theorem d_M_known_95 : decode b_M_known 95 = .ok (.iastore, 1) := by decide +kernel
theorem d_M_known_96 : decode b_M_known 96 = .ok (.iload 4, 2) := by decide +kernel
theorem d_M_known_98 : decode b_M_known 98 = .ok (.iconst (-1), 1) := by decide +kernel
theorem d_M_known_99 : decode b_M_known 99 = .ok (.if_icmp .ne 5, 3) := by decide +kernel
theorem d_M_known_102 : decode b_M_known 102 = .ok (.iconst 1, 1) := by decide +kernel
theorem d_M_known_103 : decode b_M_known 103 = .ok (.ireturn, 1) := by decide +kernel
theorem d_M_known_104 : decode b_M_known 104 = .ok (.aload_n 0, 1) := by decide +kernel
theorem d_M_known_105 : decode b_M_known 105 = .ok (.sipush 16000, 3) := by decide +kernel
theorem d_M_known_108 : decode b_M_known 108 = .ok (.iload_n 1, 1) := by decide +kernel
theorem d_M_known_109 : decode b_M_known 109 = .ok (.iadd, 1) := by decide +kernel
theorem d_M_known_110 : decode b_M_known 110 = .ok (.sipush 1000, 3) := by decide +kernel
theorem d_M_known_113 : decode b_M_known 113 = .ok (.iload_n 1, 1) := by decide +kernel
theorem d_M_known_114 : decode b_M_known 114 = .ok (.imul, 1) := by decide +kernel
theorem d_M_known_115 : decode b_M_known 115 = .ok (.iload 4, 2) := by decide +kernel
theorem d_M_known_117 : decode b_M_known 117 = .ok (.iadd, 1) := by decide +kernel
theorem d_M_known_118 : decode b_M_known 118 = .ok (.ldc 152, 2) := by decide +kernel
theorem d_M_known_120 : decode b_M_known 120 = .ok (.sipush 512, 3) := by decide +kernel
theorem d_M_known_123 : decode b_M_known 123 = .ok (.iload_n 1, 1) := by decide +kernel
theorem d_M_known_124 : decode b_M_known 124 = .ok (.imul, 1) := by decide +kernel
theorem d_M_known_125 : decode b_M_known 125 = .ok (.iadd, 1) := by decide +kernel
theorem d_M_known_126 : decode b_M_known 126 = .ok (.invokevirtual 153, 3) := by decide +kernel
theorem d_M_known_129 : decode b_M_known 129 = .ok (.aload_n 0, 1) := by decide +kernel
theorem d_M_known_130 : decode b_M_known 130 = .ok (.sipush 16016, 3) := by decide +kernel
theorem d_M_known_133 : decode b_M_known 133 = .ok (.iload_n 1, 1) := by decide +kernel
theorem d_M_known_134 : decode b_M_known 134 = .ok (.iadd, 1) := by decide +kernel
theorem d_M_known_135 : decode b_M_known 135 = .ok (.sipush 1000, 3) := by decide +kernel
theorem d_M_known_138 : decode b_M_known 138 = .ok (.iload_n 1, 1) := by decide +kernel
theorem d_M_known_139 : decode b_M_known 139 = .ok (.imul, 1) := by decide +kernel
theorem d_M_known_140 : decode b_M_known 140 = .ok (.aload_n 0, 1) := by decide +kernel
theorem d_M_known_141 : decode b_M_known 141 = .ok (.iload_n 1, 1) := by decide +kernel
theorem d_M_known_142 : decode b_M_known 142 = .ok (.iconst 1, 1) := by decide +kernel
theorem d_M_known_143 : decode b_M_known 143 = .ok (.invokevirtual 149, 3) := by decide +kernel
theorem d_M_known_146 : decode b_M_known 146 = .ok (.iadd, 1) := by decide +kernel
theorem d_M_known_147 : decode b_M_known 147 = .ok (.ldc 152, 2) := by decide +kernel
theorem d_M_known_149 : decode b_M_known 149 = .ok (.sipush 512, 3) := by decide +kernel
theorem d_M_known_152 : decode b_M_known 152 = .ok (.iload_n 1, 1) := by decide +kernel
theorem d_M_known_153 : decode b_M_known 153 = .ok (.imul, 1) := by decide +kernel
theorem d_M_known_154 : decode b_M_known 154 = .ok (.iadd, 1) := by decide +kernel
theorem d_M_known_155 : decode b_M_known 155 = .ok (.sipush 256, 3) := by decide +kernel
theorem d_M_known_158 : decode b_M_known 158 = .ok (.iadd, 1) := by decide +kernel
theorem d_M_known_159 : decode b_M_known 159 = .ok (.invokevirtual 153, 3) := by decide +kernel
theorem d_M_known_162 : decode b_M_known 162 = .ok (.iconst 1, 1) := by decide +kernel
theorem d_M_known_163 : decode b_M_known 163 = .ok (.ireturn, 1) := by decide +kernel
theorem d_M_isFirst_0 : decode b_M_isFirst 0 = .ok (.aload_n 0, 1) := by decide +kernel
theorem d_M_isFirst_1 : decode b_M_isFirst 1 = .ok (.getfield 52, 3) := by decide +kernel
theorem d_M_isFirst_4 : decode b_M_isFirst 4 = .ok (.sipush 1000, 3) := by decide +kernel
theorem d_M_isFirst_7 : decode b_M_isFirst 7 = .ok (.iload_n 1, 1) := by decide +kernel
theorem d_M_isFirst_8 : decode b_M_isFirst 8 = .ok (.imul, 1) := by decide +kernel
theorem d_M_isFirst_9 : decode b_M_isFirst 9 = .ok (.iload_n 2, 1) := by decide +kernel
theorem d_M_isFirst_10 : decode b_M_isFirst 10 = .ok (.iadd, 1) := by decide +kernel
theorem d_M_isFirst_11 : decode b_M_isFirst 11 = .ok (.baload, 1) := by decide +kernel
theorem d_M_isFirst_12 : decode b_M_isFirst 12 = .ok (.istore_n 3, 1) := by decide +kernel
theorem d_M_isFirst_13 : decode b_M_isFirst 13 = .ok (.iconst 0, 1) := by decide +kernel
theorem d_M_isFirst_14 : decode b_M_isFirst 14 = .ok (.istore 4, 2) := by decide +kernel
theorem d_M_isFirst_16 : decode b_M_isFirst 16 = .ok (.iload 4, 2) := by decide +kernel
theorem d_M_isFirst_18 : decode b_M_isFirst 18 = .ok (.iload_n 2, 1) := by decide +kernel
theorem d_M_isFirst_19 : decode b_M_isFirst 19 = .ok (.if_icmp .ge 63, 3) := by decide +kernel
theorem d_M_isFirst_22 : decode b_M_isFirst 22 = .ok (.iload_n 3, 1) := by decide +kernel
theorem d_M_isFirst_23 : decode b_M_isFirst 23 = .ok (.ifCond .eq 59, 3) := by decide +kernel
theorem d_M_isFirst_26 : decode b_M_isFirst 26 = .ok (.aload_n 0, 1) := by decide +kernel
theorem d_M_isFirst_27 : decode b_M_isFirst 27 = .ok (.getfield 52, 3) := by decide +kernel
theorem d_M_isFirst_30 : decode b_M_isFirst 30 = .ok (.sipush 1000, 3) := by decide +kernel
theorem d_M_isFirst_33 : decode b_M_isFirst 33 = .ok (.iload_n 1, 1) := by decide +kernel
theorem d_M_isFirst_34 : decode b_M_isFirst 34 = .ok (.imul, 1) := by decide +kernel
theorem d_M_isFirst_35 : decode b_M_isFirst 35 = .ok (.iload 4, 2) := by decide +kernel
theorem d_M_isFirst_37 : decode b_M_isFirst 37 = .ok (.iadd, 1) := by decide +kernel
theorem d_M_isFirst_38 : decode b_M_isFirst 38 = .ok (.baload, 1) := by decide +kernel
theorem d_M_isFirst_39 : decode b_M_isFirst 39 = .ok (.ifCond .eq 31, 3) := by decide +kernel
theorem d_M_isFirst_42 : decode b_M_isFirst 42 = .ok (.aload_n 0, 1) := by decide +kernel
theorem d_M_isFirst_43 : decode b_M_isFirst 43 = .ok (.aload_n 0, 1) := by decide +kernel
theorem d_M_isFirst_44 : decode b_M_isFirst 44 = .ok (.getfield 27, 3) := by decide +kernel
theorem d_M_isFirst_47 : decode b_M_isFirst 47 = .ok (.iload_n 1, 1) := by decide +kernel
theorem d_M_isFirst_48 : decode b_M_isFirst 48 = .ok (.iaload, 1) := by decide +kernel
theorem d_M_isFirst_49 : decode b_M_isFirst 49 = .ok (.sipush 1000, 3) := by decide +kernel
theorem d_M_isFirst_52 : decode b_M_isFirst 52 = .ok (.iload_n 1, 1) := by decide +kernel
theorem d_M_isFirst_53 : decode b_M_isFirst 53 = .ok (.imul, 1) := by decide +kernel
theorem d_M_isFirst_54 : decode b_M_isFirst 54 = .ok (.iload 4, 2) := by decide +kernel
theorem d_M_isFirst_56 : decode b_M_isFirst 56 = .ok (.iadd, 1) := by decide +kernel
theorem d_M_isFirst_57 : decode b_M_isFirst 57 = .ok (.sipush 1000, 3) := by decide +kernel
theorem d_M_isFirst_60 : decode b_M_isFirst 60 = .ok (.iload_n 1, 1) := by decide +kernel
theorem d_M_isFirst_61 : decode b_M_isFirst 61 = .ok (.imul, 1) := by decide +kernel
theorem d_M_isFirst_62 : decode b_M_isFirst 62 = .ok (.iload_n 2, 1) := by decide +kernel
theorem d_M_isFirst_63 : decode b_M_isFirst 63 = .ok (.iadd, 1) := by decide +kernel
theorem d_M_isFirst_64 : decode b_M_isFirst 64 = .ok (.invokevirtual 116, 3) := by decide +kernel
theorem d_M_isFirst_67 : decode b_M_isFirst 67 = .ok (.ifCond .eq 7, 3) := by decide +kernel
theorem d_M_isFirst_70 : decode b_M_isFirst 70 = .ok (.iconst 1, 1) := by decide +kernel
theorem d_M_isFirst_71 : decode b_M_isFirst 71 = .ok (.goto 4, 3) := by decide +kernel
theorem d_M_isFirst_74 : decode b_M_isFirst 74 = .ok (.iconst 0, 1) := by decide +kernel
theorem d_M_isFirst_75 : decode b_M_isFirst 75 = .ok (.istore_n 3, 1) := by decide +kernel
theorem d_M_isFirst_76 : decode b_M_isFirst 76 = .ok (.iinc 4 1, 3) := by decide +kernel
theorem d_M_isFirst_79 : decode b_M_isFirst 79 = .ok (.goto (-63), 3) := by decide +kernel
theorem d_M_isFirst_82 : decode b_M_isFirst 82 = .ok (.iload_n 3, 1) := by decide +kernel
theorem d_M_isFirst_83 : decode b_M_isFirst 83 = .ok (.ireturn, 1) := by decide +kernel
theorem d_M_dictionary_0 : decode b_M_dictionary 0 = .ok (.aload_n 0, 1) := by decide +kernel
theorem d_M_dictionary_1 : decode b_M_dictionary 1 = .ok (.iconst 0, 1) := by decide +kernel
theorem d_M_dictionary_2 : decode b_M_dictionary 2 = .ok (.putfield 79, 3) := by decide +kernel
theorem d_M_dictionary_5 : decode b_M_dictionary 5 = .ok (.aload_n 0, 1) := by decide +kernel
theorem d_M_dictionary_6 : decode b_M_dictionary 6 = .ok (.iload_n 1, 1) := by decide +kernel
theorem d_M_dictionary_7 : decode b_M_dictionary 7 = .ok (.invokevirtual 89, 3) := by decide +kernel
theorem d_M_dictionary_10 : decode b_M_dictionary 10 = .ok (.ifCond .eq 31, 3) := by decide +kernel
theorem d_M_dictionary_13 : decode b_M_dictionary 13 = .ok (.aload_n 0, 1) := by decide +kernel
theorem d_M_dictionary_14 : decode b_M_dictionary 14 = .ok (.getfield 45, 3) := by decide +kernel
theorem d_M_dictionary_17 : decode b_M_dictionary 17 = .ok (.iload_n 1, 1) := by decide +kernel
theorem d_M_dictionary_18 : decode b_M_dictionary 18 = .ok (.baload, 1) := by decide +kernel
theorem d_M_dictionary_19 : decode b_M_dictionary 19 = .ok (.ifCond .eq 22, 3) := by decide +kernel
theorem d_M_dictionary_22 : decode b_M_dictionary 22 = .ok (.aload_n 0, 1) := by decide +kernel
theorem d_M_dictionary_23 : decode b_M_dictionary 23 = .ok (.getfield 49, 3) := by decide +kernel
theorem d_M_dictionary_26 : decode b_M_dictionary 26 = .ok (.iload_n 1, 1) := by decide +kernel
theorem d_M_dictionary_27 : decode b_M_dictionary 27 = .ok (.baload, 1) := by decide +kernel
theorem d_M_dictionary_28 : decode b_M_dictionary 28 = .ok (.ifCond .eq 13, 3) := by decide +kernel
theorem d_M_dictionary_31 : decode b_M_dictionary 31 = .ok (.aload_n 0, 1) := by decide +kernel
theorem d_M_dictionary_32 : decode b_M_dictionary 32 = .ok (.iload_n 1, 1) := by decide +kernel
theorem d_M_dictionary_33 : decode b_M_dictionary 33 = .ok (.iconst 1, 1) := by decide +kernel
theorem d_M_dictionary_34 : decode b_M_dictionary 34 = .ok (.invokevirtual 149, 3) := by decide +kernel
theorem d_M_dictionary_37 : decode b_M_dictionary 37 = .ok (.iconst (-1), 1) := by decide +kernel
theorem d_M_dictionary_38 : decode b_M_dictionary 38 = .ok (.if_icmp .ne 5, 3) := by decide +kernel
theorem d_M_dictionary_41 : decode b_M_dictionary 41 = .ok (.iconst 0, 1) := by decide +kernel
theorem d_M_dictionary_42 : decode b_M_dictionary 42 = .ok (.ireturn, 1) := by decide +kernel
theorem d_M_dictionary_43 : decode b_M_dictionary 43 = .ok (.iconst 0, 1) := by decide +kernel
theorem d_M_dictionary_44 : decode b_M_dictionary 44 = .ok (.istore_n 2, 1) := by decide +kernel
theorem d_M_dictionary_45 : decode b_M_dictionary 45 = .ok (.iconst 0, 1) := by decide +kernel
theorem d_M_dictionary_46 : decode b_M_dictionary 46 = .ok (.istore_n 3, 1) := by decide +kernel
theorem d_M_dictionary_47 : decode b_M_dictionary 47 = .ok (.iload_n 3, 1) := by decide +kernel
theorem d_M_dictionary_48 : decode b_M_dictionary 48 = .ok (.aload_n 0, 1) := by decide +kernel
theorem d_M_dictionary_49 : decode b_M_dictionary 49 = .ok (.getfield 30, 3) := by decide +kernel
theorem d_M_dictionary_52 : decode b_M_dictionary 52 = .ok (.iload_n 1, 1) := by decide +kernel
theorem d_M_dictionary_53 : decode b_M_dictionary 53 = .ok (.iaload, 1) := by decide +kernel
theorem d_M_dictionary_54 : decode b_M_dictionary 54 = .ok (.if_icmp .ge 87, 3) := by decide +kernel
theorem d_M_dictionary_57 : decode b_M_dictionary 57 = .ok (.sipush 1000, 3) := by decide +kernel
theorem d_M_dictionary_60 : decode b_M_dictionary 60 = .ok (.iload_n 1, 1) := by decide +kernel
theorem d_M_dictionary_61 : decode b_M_dictionary 61 = .ok (.imul, 1) := by decide +kernel
theorem d_M_dictionary_62 : decode b_M_dictionary 62 = .ok (.iload_n 3, 1) := by decide +kernel
theorem d_M_dictionary_63 : decode b_M_dictionary 63 = .ok (.iadd, 1) := by decide +kernel
theorem d_M_dictionary_64 : decode b_M_dictionary 64 = .ok (.istore 4, 2) := by decide +kernel
theorem d_M_dictionary_66 : decode b_M_dictionary 66 = .ok (.aload_n 0, 1) := by decide +kernel
theorem d_M_dictionary_67 : decode b_M_dictionary 67 = .ok (.getfield 52, 3) := by decide +kernel
theorem d_M_dictionary_70 : decode b_M_dictionary 70 = .ok (.iload 4, 2) := by decide +kernel
theorem d_M_dictionary_72 : decode b_M_dictionary 72 = .ok (.baload, 1) := by decide +kernel
theorem d_M_dictionary_73 : decode b_M_dictionary 73 = .ok (.ifCond .eq 45, 3) := by decide +kernel
theorem d_M_dictionary_76 : decode b_M_dictionary 76 = .ok (.aload_n 0, 1) := by decide +kernel
theorem d_M_dictionary_77 : decode b_M_dictionary 77 = .ok (.aload_n 0, 1) := by decide +kernel
theorem d_M_dictionary_78 : decode b_M_dictionary 78 = .ok (.getfield 27, 3) := by decide +kernel
theorem d_M_dictionary_81 : decode b_M_dictionary 81 = .ok (.iload_n 1, 1) := by decide +kernel
theorem d_M_dictionary_82 : decode b_M_dictionary 82 = .ok (.iaload, 1) := by decide +kernel
theorem d_M_dictionary_83 : decode b_M_dictionary 83 = .ok (.iload 4, 2) := by decide +kernel
theorem d_M_dictionary_85 : decode b_M_dictionary 85 = .ok (.sipush 16000, 3) := by decide +kernel
theorem d_M_dictionary_88 : decode b_M_dictionary 88 = .ok (.iload_n 1, 1) := by decide +kernel
theorem d_M_dictionary_89 : decode b_M_dictionary 89 = .ok (.iadd, 1) := by decide +kernel
theorem d_M_dictionary_90 : decode b_M_dictionary 90 = .ok (.invokevirtual 116, 3) := by decide +kernel
theorem d_M_dictionary_93 : decode b_M_dictionary 93 = .ok (.ifCond .lt 23, 3) := by decide +kernel
theorem d_M_dictionary_96 : decode b_M_dictionary 96 = .ok (.aload_n 0, 1) := by decide +kernel
theorem d_M_dictionary_97 : decode b_M_dictionary 97 = .ok (.aload_n 0, 1) := by decide +kernel
theorem d_M_dictionary_98 : decode b_M_dictionary 98 = .ok (.getfield 27, 3) := by decide +kernel
theorem d_M_dictionary_101 : decode b_M_dictionary 101 = .ok (.iload_n 1, 1) := by decide +kernel
theorem d_M_dictionary_102 : decode b_M_dictionary 102 = .ok (.iaload, 1) := by decide +kernel
theorem d_M_dictionary_103 : decode b_M_dictionary 103 = .ok (.iload 4, 2) := by decide +kernel
theorem d_M_dictionary_105 : decode b_M_dictionary 105 = .ok (.sipush 16016, 3) := by decide +kernel
theorem d_M_dictionary_108 : decode b_M_dictionary 108 = .ok (.iload_n 1, 1) := by decide +kernel
theorem d_M_dictionary_109 : decode b_M_dictionary 109 = .ok (.iadd, 1) := by decide +kernel
theorem d_M_dictionary_110 : decode b_M_dictionary 110 = .ok (.invokevirtual 116, 3) := by decide +kernel
theorem d_M_dictionary_113 : decode b_M_dictionary 113 = .ok (.ifCond .le 5, 3) := by decide +kernel
theorem d_M_dictionary_116 : decode b_M_dictionary 116 = .ok (.iconst 0, 1) := by decide +kernel
theorem d_M_dictionary_117 : decode b_M_dictionary 117 = .ok (.ireturn, 1) := by decide +kernel
theorem d_M_dictionary_118 : decode b_M_dictionary 118 = .ok (.iload_n 2, 1) := by decide +kernel
theorem d_M_dictionary_119 : decode b_M_dictionary 119 = .ok (.aload_n 0, 1) := by decide +kernel
theorem d_M_dictionary_120 : decode b_M_dictionary 120 = .ok (.iload_n 1, 1) := by decide +kernel
theorem d_M_dictionary_121 : decode b_M_dictionary 121 = .ok (.iload_n 3, 1) := by decide +kernel
theorem d_M_dictionary_122 : decode b_M_dictionary 122 = .ok (.invokevirtual 156, 3) := by decide +kernel
theorem d_M_dictionary_125 : decode b_M_dictionary 125 = .ok (.ifCond .eq 7, 3) := by decide +kernel
theorem d_M_dictionary_128 : decode b_M_dictionary 128 = .ok (.iconst 1, 1) := by decide +kernel
theorem d_M_dictionary_129 : decode b_M_dictionary 129 = .ok (.goto 4, 3) := by decide +kernel
theorem d_M_dictionary_132 : decode b_M_dictionary 132 = .ok (.iconst 0, 1) := by decide +kernel
theorem d_M_dictionary_133 : decode b_M_dictionary 133 = .ok (.iadd, 1) := by decide +kernel
theorem d_M_dictionary_134 : decode b_M_dictionary 134 = .ok (.istore_n 2, 1) := by decide +kernel
theorem d_M_dictionary_135 : decode b_M_dictionary 135 = .ok (.iinc 3 1, 3) := by decide +kernel
theorem d_M_dictionary_138 : decode b_M_dictionary 138 = .ok (.goto (-91), 3) := by decide +kernel
theorem d_M_dictionary_141 : decode b_M_dictionary 141 = .ok (.iload_n 2, 1) := by decide +kernel
theorem d_M_dictionary_142 : decode b_M_dictionary 142 = .ok (.bipush 100, 2) := by decide +kernel
theorem d_M_dictionary_144 : decode b_M_dictionary 144 = .ok (.if_icmp .le 5, 3) := by decide +kernel
theorem d_M_dictionary_147 : decode b_M_dictionary 147 = .ok (.iconst 0, 1) := by decide +kernel
theorem d_M_dictionary_148 : decode b_M_dictionary 148 = .ok (.ireturn, 1) := by decide +kernel
theorem d_M_dictionary_149 : decode b_M_dictionary 149 = .ok (.aload_n 0, 1) := by decide +kernel
theorem d_M_dictionary_150 : decode b_M_dictionary 150 = .ok (.getfield 42, 3) := by decide +kernel
theorem d_M_dictionary_153 : decode b_M_dictionary 153 = .ok (.iload_n 1, 1) := by decide +kernel
theorem d_M_dictionary_154 : decode b_M_dictionary 154 = .ok (.iconst 0, 1) := by decide +kernel
theorem d_M_dictionary_155 : decode b_M_dictionary 155 = .ok (.iastore, 1) := by decide +kernel
theorem d_M_dictionary_156 : decode b_M_dictionary 156 = .ok (.ldc 159, 2) := by decide +kernel
theorem d_M_dictionary_158 : decode b_M_dictionary 158 = .ok (.sipush 8000, 3) := by decide +kernel
theorem d_M_dictionary_161 : decode b_M_dictionary 161 = .ok (.iload_n 1, 1) := by decide +kernel
theorem d_M_dictionary_162 : decode b_M_dictionary 162 = .ok (.imul, 1) := by decide +kernel
theorem d_M_dictionary_163 : decode b_M_dictionary 163 = .ok (.iadd, 1) := by decide +kernel
theorem d_M_dictionary_164 : decode b_M_dictionary 164 = .ok (.istore_n 3, 1) := by decide +kernel
theorem d_M_dictionary_165 : decode b_M_dictionary 165 = .ok (.iconst 0, 1) := by decide +kernel
theorem d_M_dictionary_166 : decode b_M_dictionary 166 = .ok (.istore 4, 2) := by decide +kernel
theorem d_M_dictionary_168 : decode b_M_dictionary 168 = .ok (.iload 4, 2) := by decide +kernel
theorem d_M_dictionary_170 : decode b_M_dictionary 170 = .ok (.aload_n 0, 1) := by decide +kernel
theorem d_M_dictionary_171 : decode b_M_dictionary 171 = .ok (.getfield 30, 3) := by decide +kernel
theorem d_M_dictionary_174 : decode b_M_dictionary 174 = .ok (.iload_n 1, 1) := by decide +kernel
theorem d_M_dictionary_175 : decode b_M_dictionary 175 = .ok (.iaload, 1) := by decide +kernel
theorem d_M_dictionary_176 : decode b_M_dictionary 176 = .ok (.if_icmp .ge 90, 3) := by decide +kernel
theorem d_M_dictionary_179 : decode b_M_dictionary 179 = .ok (.aload_n 0, 1) := by decide +kernel
theorem d_M_dictionary_180 : decode b_M_dictionary 180 = .ok (.iload_n 1, 1) := by decide +kernel
theorem d_M_dictionary_181 : decode b_M_dictionary 181 = .ok (.iload 4, 2) := by decide +kernel
theorem d_M_dictionary_183 : decode b_M_dictionary 183 = .ok (.invokevirtual 156, 3) := by decide +kernel
theorem d_M_dictionary_186 : decode b_M_dictionary 186 = .ok (.ifCond .ne 6, 3) := by decide +kernel
theorem d_M_dictionary_189 : decode b_M_dictionary 189 = .ok (.goto 71, 3) := by decide +kernel
theorem d_M_dictionary_192 : decode b_M_dictionary 192 = .ok (.aload_n 0, 1) := by decide +kernel
theorem d_M_dictionary_193 : decode b_M_dictionary 193 = .ok (.sipush 16032, 3) := by decide +kernel
theorem d_M_dictionary_196 : decode b_M_dictionary 196 = .ok (.bipush 100, 2) := by decide +kernel
theorem d_M_dictionary_198 : decode b_M_dictionary 198 = .ok (.iload_n 1, 1) := by decide +kernel
theorem d_M_dictionary_199 : decode b_M_dictionary 199 = .ok (.imul, 1) := by decide +kernel
theorem d_M_dictionary_200 : decode b_M_dictionary 200 = .ok (.iadd, 1) := by decide +kernel
theorem d_M_dictionary_201 : decode b_M_dictionary 201 = .ok (.aload_n 0, 1) := by decide +kernel
theorem d_M_dictionary_202 : decode b_M_dictionary 202 = .ok (.getfield 42, 3) := by decide +kernel
theorem d_M_dictionary_205 : decode b_M_dictionary 205 = .ok (.iload_n 1, 1) := by decide +kernel
theorem d_M_dictionary_206 : decode b_M_dictionary 206 = .ok (.iaload, 1) := by decide +kernel
theorem d_M_dictionary_207 : decode b_M_dictionary 207 = .ok (.iadd, 1) := by decide +kernel
theorem d_M_dictionary_208 : decode b_M_dictionary 208 = .ok (.sipush 1000, 3) := by decide +kernel
theorem d_M_dictionary_211 : decode b_M_dictionary 211 = .ok (.iload_n 1, 1) := by decide +kernel
theorem d_M_dictionary_212 : decode b_M_dictionary 212 = .ok (.imul, 1) := by decide +kernel
theorem d_M_dictionary_213 : decode b_M_dictionary 213 = .ok (.iload 4, 2) := by decide +kernel
theorem d_M_dictionary_215 : decode b_M_dictionary 215 = .ok (.iadd, 1) := by decide +kernel
theorem d_M_dictionary_216 : decode b_M_dictionary 216 = .ok (.iload_n 3, 1) := by decide +kernel
theorem d_M_dictionary_217 : decode b_M_dictionary 217 = .ok (.invokevirtual 153, 3) := by decide +kernel
theorem d_M_dictionary_220 : decode b_M_dictionary 220 = .ok (.iload_n 3, 1) := by decide +kernel
theorem d_M_dictionary_221 : decode b_M_dictionary 221 = .ok (.aload_n 0, 1) := by decide +kernel
theorem d_M_dictionary_222 : decode b_M_dictionary 222 = .ok (.getfield 27, 3) := by decide +kernel
theorem d_M_dictionary_225 : decode b_M_dictionary 225 = .ok (.iload_n 1, 1) := by decide +kernel
theorem d_M_dictionary_226 : decode b_M_dictionary 226 = .ok (.iaload, 1) := by decide +kernel
theorem d_M_dictionary_227 : decode b_M_dictionary 227 = .ok (.iconst 2, 1) := by decide +kernel
theorem d_M_dictionary_228 : decode b_M_dictionary 228 = .ok (.if_icmp .ne 19, 3) := by decide +kernel
theorem d_M_dictionary_231 : decode b_M_dictionary 231 = .ok (.aload_n 0, 1) := by decide +kernel
theorem d_M_dictionary_232 : decode b_M_dictionary 232 = .ok (.getfield 20, 3) := by decide +kernel
theorem d_M_dictionary_235 : decode b_M_dictionary 235 = .ok (.sipush 1000, 3) := by decide +kernel
theorem d_M_dictionary_238 : decode b_M_dictionary 238 = .ok (.iload_n 1, 1) := by decide +kernel
theorem d_M_dictionary_239 : decode b_M_dictionary 239 = .ok (.imul, 1) := by decide +kernel
theorem d_M_dictionary_240 : decode b_M_dictionary 240 = .ok (.iload 4, 2) := by decide +kernel
theorem d_M_dictionary_242 : decode b_M_dictionary 242 = .ok (.iadd, 1) := by decide +kernel
theorem d_M_dictionary_243 : decode b_M_dictionary 243 = .ok (.iaload, 1) := by decide +kernel
theorem d_M_dictionary_244 : decode b_M_dictionary 244 = .ok (.goto 4, 3) := by decide +kernel
theorem d_M_dictionary_247 : decode b_M_dictionary 247 = .ok (.iconst 0, 1) := by decide +kernel
theorem d_M_dictionary_248 : decode b_M_dictionary 248 = .ok (.iadd, 1) := by decide +kernel
theorem d_M_dictionary_249 : decode b_M_dictionary 249 = .ok (.istore_n 3, 1) := by decide +kernel
theorem d_M_dictionary_250 : decode b_M_dictionary 250 = .ok (.aload_n 0, 1) := by decide +kernel
theorem d_M_dictionary_251 : decode b_M_dictionary 251 = .ok (.getfield 42, 3) := by decide +kernel
theorem d_M_dictionary_254 : decode b_M_dictionary 254 = .ok (.iload_n 1, 1) := by decide +kernel
theorem d_M_dictionary_255 : decode b_M_dictionary 255 = .ok (.dup2, 1) := by decide +kernel
theorem d_M_dictionary_256 : decode b_M_dictionary 256 = .ok (.iaload, 1) := by decide +kernel
theorem d_M_dictionary_257 : decode b_M_dictionary 257 = .ok (.iconst 1, 1) := by decide +kernel
theorem d_M_dictionary_258 : decode b_M_dictionary 258 = .ok (.iadd, 1) := by decide +kernel
theorem d_M_dictionary_259 : decode b_M_dictionary 259 = .ok (.iastore, 1) := by decide +kernel
theorem d_M_dictionary_260 : decode b_M_dictionary 260 = .ok (.iinc 4 1, 3) := by decide +kernel
theorem d_M_dictionary_263 : decode b_M_dictionary 263 = .ok (.goto (-95), 3) := by decide +kernel
theorem d_M_dictionary_266 : decode b_M_dictionary 266 = .ok (.iconst 1, 1) := by decide +kernel
theorem d_M_dictionary_267 : decode b_M_dictionary 267 = .ok (.ireturn, 1) := by decide +kernel
theorem d_M_unknown_0 : decode b_M_unknown 0 = .ok (.aload_n 0, 1) := by decide +kernel
theorem d_M_unknown_1 : decode b_M_unknown 1 = .ok (.iconst 0, 1) := by decide +kernel
theorem d_M_unknown_2 : decode b_M_unknown 2 = .ok (.putfield 79, 3) := by decide +kernel
theorem d_M_unknown_5 : decode b_M_unknown 5 = .ok (.aload_n 0, 1) := by decide +kernel
theorem d_M_unknown_6 : decode b_M_unknown 6 = .ok (.iload_n 1, 1) := by decide +kernel
theorem d_M_unknown_7 : decode b_M_unknown 7 = .ok (.invokevirtual 89, 3) := by decide +kernel
theorem d_M_unknown_10 : decode b_M_unknown 10 = .ok (.ifCond .ne 5, 3) := by decide +kernel
theorem d_M_unknown_13 : decode b_M_unknown 13 = .ok (.iconst 0, 1) := by decide +kernel
theorem d_M_unknown_14 : decode b_M_unknown 14 = .ok (.ireturn, 1) := by decide +kernel
theorem d_M_unknown_15 : decode b_M_unknown 15 = .ok (.aload_n 0, 1) := by decide +kernel
theorem d_M_unknown_16 : decode b_M_unknown 16 = .ok (.getfield 45, 3) := by decide +kernel
theorem d_M_unknown_19 : decode b_M_unknown 19 = .ok (.iload_n 1, 1) := by decide +kernel
theorem d_M_unknown_20 : decode b_M_unknown 20 = .ok (.iconst 0, 1) := by decide +kernel
theorem d_M_unknown_21 : decode b_M_unknown 21 = .ok (.bastore, 1) := by decide +kernel
theorem d_M_unknown_22 : decode b_M_unknown 22 = .ok (.aload_n 0, 1) := by decide +kernel
theorem d_M_unknown_23 : decode b_M_unknown 23 = .ok (.getfield 42, 3) := by decide +kernel
theorem d_M_unknown_26 : decode b_M_unknown 26 = .ok (.iload_n 1, 1) := by decide +kernel
theorem d_M_unknown_27 : decode b_M_unknown 27 = .ok (.iconst 0, 1) := by decide +kernel
theorem d_M_unknown_28 : decode b_M_unknown 28 = .ok (.iastore, 1) := by decide +kernel
theorem d_M_unknown_29 : decode b_M_unknown 29 = .ok (.iconst 1, 1) := by decide +kernel
theorem d_M_unknown_30 : decode b_M_unknown 30 = .ok (.ireturn, 1) := by decide +kernel
theorem d_M_may_0 : decode b_M_may 0 = .ok (.iconst 0, 1) := by decide +kernel
theorem d_M_may_1 : decode b_M_may 1 = .ok (.istore 4, 2) := by decide +kernel
theorem d_M_may_3 : decode b_M_may 3 = .ok (.iconst 0, 1) := by decide +kernel
theorem d_M_may_4 : decode b_M_may 4 = .ok (.istore 5, 2) := by decide +kernel
theorem d_M_may_6 : decode b_M_may 6 = .ok (.iload 5, 2) := by decide +kernel
theorem d_M_may_8 : decode b_M_may 8 = .ok (.aload_n 0, 1) := by decide +kernel
theorem d_M_may_9 : decode b_M_may 9 = .ok (.getfield 42, 3) := by decide +kernel
theorem d_M_may_12 : decode b_M_may 12 = .ok (.iload_n 1, 1) := by decide +kernel
theorem d_M_may_13 : decode b_M_may 13 = .ok (.iaload, 1) := by decide +kernel
theorem d_M_may_14 : decode b_M_may 14 = .ok (.if_icmp .ge 50, 3) := by decide +kernel
theorem d_M_may_17 : decode b_M_may 17 = .ok (.iload 4, 2) := by decide +kernel
theorem d_M_may_19 : decode b_M_may 19 = .ok (.ifCond .ne 32, 3) := by decide +kernel
theorem d_M_may_22 : decode b_M_may 22 = .ok (.iload_n 2, 1) := by decide +kernel
theorem d_M_may_23 : decode b_M_may 23 = .ok (.aload_n 0, 1) := by decide +kernel
theorem d_M_may_24 : decode b_M_may 24 = .ok (.aload_n 0, 1) := by decide +kernel
theorem d_M_may_25 : decode b_M_may 25 = .ok (.getfield 27, 3) := by decide +kernel
theorem d_M_may_28 : decode b_M_may 28 = .ok (.iload_n 1, 1) := by decide +kernel
theorem d_M_may_29 : decode b_M_may 29 = .ok (.iaload, 1) := by decide +kernel
theorem d_M_may_30 : decode b_M_may 30 = .ok (.sipush 16032, 3) := by decide +kernel
theorem d_M_may_33 : decode b_M_may 33 = .ok (.bipush 100, 2) := by decide +kernel
theorem d_M_may_35 : decode b_M_may 35 = .ok (.iload_n 1, 1) := by decide +kernel
theorem d_M_may_36 : decode b_M_may 36 = .ok (.imul, 1) := by decide +kernel
theorem d_M_may_37 : decode b_M_may 37 = .ok (.iadd, 1) := by decide +kernel
theorem d_M_may_38 : decode b_M_may 38 = .ok (.iload 5, 2) := by decide +kernel
theorem d_M_may_40 : decode b_M_may 40 = .ok (.iadd, 1) := by decide +kernel
theorem d_M_may_41 : decode b_M_may 41 = .ok (.iload_n 3, 1) := by decide +kernel
theorem d_M_may_42 : decode b_M_may 42 = .ok (.invokevirtual 116, 3) := by decide +kernel
theorem d_M_may_45 : decode b_M_may 45 = .ok (.invokestatic 120, 3) := by decide +kernel
theorem d_M_may_48 : decode b_M_may 48 = .ok (.ifCond .eq 7, 3) := by decide +kernel
theorem d_M_may_51 : decode b_M_may 51 = .ok (.iconst 1, 1) := by decide +kernel
theorem d_M_may_52 : decode b_M_may 52 = .ok (.goto 4, 3) := by decide +kernel
theorem d_M_may_55 : decode b_M_may 55 = .ok (.iconst 0, 1) := by decide +kernel
theorem d_M_may_56 : decode b_M_may 56 = .ok (.istore 4, 2) := by decide +kernel
theorem d_M_may_58 : decode b_M_may 58 = .ok (.iinc 5 1, 3) := by decide +kernel
theorem d_M_may_61 : decode b_M_may 61 = .ok (.goto (-55), 3) := by decide +kernel
theorem d_M_may_64 : decode b_M_may 64 = .ok (.aload_n 0, 1) := by decide +kernel
theorem d_M_may_65 : decode b_M_may 65 = .ok (.getfield 42, 3) := by decide +kernel
theorem d_M_may_68 : decode b_M_may 68 = .ok (.iload_n 1, 1) := by decide +kernel
theorem d_M_may_69 : decode b_M_may 69 = .ok (.iaload, 1) := by decide +kernel
theorem d_M_may_70 : decode b_M_may 70 = .ok (.ifCond .le 6, 3) := by decide +kernel
theorem d_M_may_73 : decode b_M_may 73 = .ok (.iload 4, 2) := by decide +kernel
theorem d_M_may_75 : decode b_M_may 75 = .ok (.ireturn, 1) := by decide +kernel
theorem d_M_may_76 : decode b_M_may 76 = .ok (.aload_n 0, 1) := by decide +kernel
theorem d_M_may_77 : decode b_M_may 77 = .ok (.aload_n 0, 1) := by decide +kernel
theorem d_M_may_78 : decode b_M_may 78 = .ok (.getfield 27, 3) := by decide +kernel
theorem d_M_may_81 : decode b_M_may 81 = .ok (.iload_n 1, 1) := by decide +kernel
theorem d_M_may_82 : decode b_M_may 82 = .ok (.iaload, 1) := by decide +kernel
theorem d_M_may_83 : decode b_M_may 83 = .ok (.sipush 16000, 3) := by decide +kernel
theorem d_M_may_86 : decode b_M_may 86 = .ok (.iload_n 1, 1) := by decide +kernel
theorem d_M_may_87 : decode b_M_may 87 = .ok (.iadd, 1) := by decide +kernel
theorem d_M_may_88 : decode b_M_may 88 = .ok (.iload_n 3, 1) := by decide +kernel
theorem d_M_may_89 : decode b_M_may 89 = .ok (.invokevirtual 116, 3) := by decide +kernel
theorem d_M_may_92 : decode b_M_may 92 = .ok (.istore 5, 2) := by decide +kernel
theorem d_M_may_94 : decode b_M_may 94 = .ok (.aload_n 0, 1) := by decide +kernel
theorem d_M_may_95 : decode b_M_may 95 = .ok (.aload_n 0, 1) := by decide +kernel
theorem d_M_may_96 : decode b_M_may 96 = .ok (.getfield 27, 3) := by decide +kernel
theorem d_M_may_99 : decode b_M_may 99 = .ok (.iload_n 1, 1) := by decide +kernel
theorem d_M_may_100 : decode b_M_may 100 = .ok (.iaload, 1) := by decide +kernel
theorem d_M_may_101 : decode b_M_may 101 = .ok (.sipush 16016, 3) := by decide +kernel
theorem d_M_may_104 : decode b_M_may 104 = .ok (.iload_n 1, 1) := by decide +kernel
theorem d_M_may_105 : decode b_M_may 105 = .ok (.iadd, 1) := by decide +kernel
theorem d_M_may_106 : decode b_M_may 106 = .ok (.iload_n 3, 1) := by decide +kernel
theorem d_M_may_107 : decode b_M_may 107 = .ok (.invokevirtual 116, 3) := by decide +kernel
theorem d_M_may_110 : decode b_M_may 110 = .ok (.istore 6, 2) := by decide +kernel
theorem d_M_may_112 : decode b_M_may 112 = .ok (.iload_n 2, 1) := by decide +kernel
theorem d_M_may_113 : decode b_M_may 113 = .ok (.ifCond .ne 19, 3) := by decide +kernel
theorem d_M_may_116 : decode b_M_may 116 = .ok (.iload 5, 2) := by decide +kernel
theorem d_M_may_118 : decode b_M_may 118 = .ok (.ifCond .gt 12, 3) := by decide +kernel
theorem d_M_may_121 : decode b_M_may 121 = .ok (.iload 6, 2) := by decide +kernel
theorem d_M_may_123 : decode b_M_may 123 = .ok (.ifCond .lt 7, 3) := by decide +kernel
theorem d_M_may_126 : decode b_M_may 126 = .ok (.iconst 1, 1) := by decide +kernel
theorem d_M_may_127 : decode b_M_may 127 = .ok (.goto 4, 3) := by decide +kernel
theorem d_M_may_130 : decode b_M_may 130 = .ok (.iconst 0, 1) := by decide +kernel
theorem d_M_may_131 : decode b_M_may 131 = .ok (.ireturn, 1) := by decide +kernel
theorem d_M_may_132 : decode b_M_may 132 = .ok (.iload_n 2, 1) := by decide +kernel
theorem d_M_may_133 : decode b_M_may 133 = .ok (.iconst 1, 1) := by decide +kernel
theorem d_M_may_134 : decode b_M_may 134 = .ok (.if_icmp .ne 21, 3) := by decide +kernel
theorem d_M_may_137 : decode b_M_may 137 = .ok (.iload 5, 2) := by decide +kernel
theorem d_M_may_139 : decode b_M_may 139 = .ok (.ifCond .ne 8, 3) := by decide +kernel
theorem d_M_may_142 : decode b_M_may 142 = .ok (.iload 6, 2) := by decide +kernel
theorem d_M_may_144 : decode b_M_may 144 = .ok (.ifCond .eq 7, 3) := by decide +kernel
theorem d_M_may_147 : decode b_M_may 147 = .ok (.iconst 1, 1) := by decide +kernel
theorem d_M_may_148 : decode b_M_may 148 = .ok (.goto 23, 3) := by decide +kernel
theorem d_M_may_151 : decode b_M_may 151 = .ok (.iconst 0, 1) := by decide +kernel
theorem d_M_may_152 : decode b_M_may 152 = .ok (.goto 19, 3) := by decide +kernel
theorem d_M_may_155 : decode b_M_may 155 = .ok (.iload_n 2, 1) := by decide +kernel
theorem d_M_may_156 : decode b_M_may 156 = .ok (.iload_n 2, 1) := by decide +kernel
theorem d_M_may_157 : decode b_M_may 157 = .ok (.iconst 4, 1) := by decide +kernel
theorem d_M_may_158 : decode b_M_may 158 = .ok (.if_icmp .ge 8, 3) := by decide +kernel
theorem d_M_may_161 : decode b_M_may 161 = .ok (.iload 5, 2) := by decide +kernel
theorem d_M_may_163 : decode b_M_may 163 = .ok (.goto 5, 3) := by decide +kernel
theorem d_M_may_166 : decode b_M_may 166 = .ok (.iload 6, 2) := by decide +kernel
theorem d_M_may_168 : decode b_M_may 168 = .ok (.invokestatic 120, 3) := by decide +kernel
theorem d_M_may_171 : decode b_M_may 171 = .ok (.ireturn, 1) := by decide +kernel
theorem d_M_mayMeet_0 : decode b_M_mayMeet 0 = .ok (.aload_n 0, 1) := by decide +kernel
theorem d_M_mayMeet_1 : decode b_M_mayMeet 1 = .ok (.aload_n 0, 1) := by decide +kernel
theorem d_M_mayMeet_2 : decode b_M_mayMeet 2 = .ok (.getfield 27, 3) := by decide +kernel
theorem d_M_mayMeet_5 : decode b_M_mayMeet 5 = .ok (.iload_n 1, 1) := by decide +kernel
theorem d_M_mayMeet_6 : decode b_M_mayMeet 6 = .ok (.iaload, 1) := by decide +kernel
theorem d_M_mayMeet_7 : decode b_M_mayMeet 7 = .ok (.sipush 16000, 3) := by decide +kernel
theorem d_M_mayMeet_10 : decode b_M_mayMeet 10 = .ok (.iload_n 1, 1) := by decide +kernel
theorem d_M_mayMeet_11 : decode b_M_mayMeet 11 = .ok (.iadd, 1) := by decide +kernel
theorem d_M_mayMeet_12 : decode b_M_mayMeet 12 = .ok (.sipush 16016, 3) := by decide +kernel
theorem d_M_mayMeet_15 : decode b_M_mayMeet 15 = .ok (.iload_n 3, 1) := by decide +kernel
theorem d_M_mayMeet_16 : decode b_M_mayMeet 16 = .ok (.iadd, 1) := by decide +kernel
theorem d_M_mayMeet_17 : decode b_M_mayMeet 17 = .ok (.invokevirtual 116, 3) := by decide +kernel
theorem d_M_mayMeet_20 : decode b_M_mayMeet 20 = .ok (.istore 4, 2) := by decide +kernel
theorem d_M_mayMeet_22 : decode b_M_mayMeet 22 = .ok (.aload_n 0, 1) := by decide +kernel
theorem d_M_mayMeet_23 : decode b_M_mayMeet 23 = .ok (.aload_n 0, 1) := by decide +kernel
theorem d_M_mayMeet_24 : decode b_M_mayMeet 24 = .ok (.getfield 27, 3) := by decide +kernel
theorem d_M_mayMeet_27 : decode b_M_mayMeet 27 = .ok (.iload_n 1, 1) := by decide +kernel
theorem d_M_mayMeet_28 : decode b_M_mayMeet 28 = .ok (.iaload, 1) := by decide +kernel
theorem d_M_mayMeet_29 : decode b_M_mayMeet 29 = .ok (.sipush 16016, 3) := by decide +kernel
theorem d_M_mayMeet_32 : decode b_M_mayMeet 32 = .ok (.iload_n 1, 1) := by decide +kernel
theorem d_M_mayMeet_33 : decode b_M_mayMeet 33 = .ok (.iadd, 1) := by decide +kernel
theorem d_M_mayMeet_34 : decode b_M_mayMeet 34 = .ok (.sipush 16000, 3) := by decide +kernel
theorem d_M_mayMeet_37 : decode b_M_mayMeet 37 = .ok (.iload_n 3, 1) := by decide +kernel
theorem d_M_mayMeet_38 : decode b_M_mayMeet 38 = .ok (.iadd, 1) := by decide +kernel
theorem d_M_mayMeet_39 : decode b_M_mayMeet 39 = .ok (.invokevirtual 116, 3) := by decide +kernel
theorem d_M_mayMeet_42 : decode b_M_mayMeet 42 = .ok (.istore 5, 2) := by decide +kernel
theorem d_M_mayMeet_44 : decode b_M_mayMeet 44 = .ok (.iload_n 2, 1) := by decide +kernel
theorem d_M_mayMeet_45 : decode b_M_mayMeet 45 = .ok (.ifCond .ne 19, 3) := by decide +kernel
theorem d_M_mayMeet_48 : decode b_M_mayMeet 48 = .ok (.iload 4, 2) := by decide +kernel
theorem d_M_mayMeet_50 : decode b_M_mayMeet 50 = .ok (.ifCond .gt 12, 3) := by decide +kernel
theorem d_M_mayMeet_53 : decode b_M_mayMeet 53 = .ok (.iload 5, 2) := by decide +kernel
theorem d_M_mayMeet_55 : decode b_M_mayMeet 55 = .ok (.ifCond .lt 7, 3) := by decide +kernel
theorem d_M_mayMeet_58 : decode b_M_mayMeet 58 = .ok (.iconst 1, 1) := by decide +kernel
theorem d_M_mayMeet_59 : decode b_M_mayMeet 59 = .ok (.goto 4, 3) := by decide +kernel
theorem d_M_mayMeet_62 : decode b_M_mayMeet 62 = .ok (.iconst 0, 1) := by decide +kernel
theorem d_M_mayMeet_63 : decode b_M_mayMeet 63 = .ok (.ireturn, 1) := by decide +kernel
theorem d_M_mayMeet_64 : decode b_M_mayMeet 64 = .ok (.iload_n 2, 1) := by decide +kernel
theorem d_M_mayMeet_65 : decode b_M_mayMeet 65 = .ok (.iconst 1, 1) := by decide +kernel
theorem d_M_mayMeet_66 : decode b_M_mayMeet 66 = .ok (.if_icmp .ne 21, 3) := by decide +kernel
theorem d_M_mayMeet_69 : decode b_M_mayMeet 69 = .ok (.iload 4, 2) := by decide +kernel
theorem d_M_mayMeet_71 : decode b_M_mayMeet 71 = .ok (.ifCond .ne 8, 3) := by decide +kernel
theorem d_M_mayMeet_74 : decode b_M_mayMeet 74 = .ok (.iload 5, 2) := by decide +kernel
theorem d_M_mayMeet_76 : decode b_M_mayMeet 76 = .ok (.ifCond .eq 7, 3) := by decide +kernel
theorem d_M_mayMeet_79 : decode b_M_mayMeet 79 = .ok (.iconst 1, 1) := by decide +kernel
theorem d_M_mayMeet_80 : decode b_M_mayMeet 80 = .ok (.goto 23, 3) := by decide +kernel
theorem d_M_mayMeet_83 : decode b_M_mayMeet 83 = .ok (.iconst 0, 1) := by decide +kernel
theorem d_M_mayMeet_84 : decode b_M_mayMeet 84 = .ok (.goto 19, 3) := by decide +kernel
theorem d_M_mayMeet_87 : decode b_M_mayMeet 87 = .ok (.iload_n 2, 1) := by decide +kernel
theorem d_M_mayMeet_88 : decode b_M_mayMeet 88 = .ok (.iload_n 2, 1) := by decide +kernel
theorem d_M_mayMeet_89 : decode b_M_mayMeet 89 = .ok (.iconst 4, 1) := by decide +kernel
theorem d_M_mayMeet_90 : decode b_M_mayMeet 90 = .ok (.if_icmp .ge 8, 3) := by decide +kernel
theorem d_M_mayMeet_93 : decode b_M_mayMeet 93 = .ok (.iload 4, 2) := by decide +kernel
theorem d_M_mayMeet_95 : decode b_M_mayMeet 95 = .ok (.goto 5, 3) := by decide +kernel
theorem d_M_mayMeet_98 : decode b_M_mayMeet 98 = .ok (.iload 5, 2) := by decide +kernel
theorem d_M_mayMeet_100 : decode b_M_mayMeet 100 = .ok (.invokestatic 120, 3) := by decide +kernel
theorem d_M_mayMeet_103 : decode b_M_mayMeet 103 = .ok (.ireturn, 1) := by decide +kernel
theorem d_M_isIn_0 : decode b_M_isIn 0 = .ok (.iconst 0, 1) := by decide +kernel
theorem d_M_isIn_1 : decode b_M_isIn 1 = .ok (.istore_n 3, 1) := by decide +kernel
theorem d_M_isIn_2 : decode b_M_isIn 2 = .ok (.iconst 0, 1) := by decide +kernel
theorem d_M_isIn_3 : decode b_M_isIn 3 = .ok (.istore 4, 2) := by decide +kernel
theorem d_M_isIn_5 : decode b_M_isIn 5 = .ok (.iload 4, 2) := by decide +kernel
theorem d_M_isIn_7 : decode b_M_isIn 7 = .ok (.aload_n 0, 1) := by decide +kernel
theorem d_M_isIn_8 : decode b_M_isIn 8 = .ok (.getfield 70, 3) := by decide +kernel
theorem d_M_isIn_11 : decode b_M_isIn 11 = .ok (.iload_n 1, 1) := by decide +kernel
theorem d_M_isIn_12 : decode b_M_isIn 12 = .ok (.iaload, 1) := by decide +kernel
theorem d_M_isIn_13 : decode b_M_isIn 13 = .ok (.if_icmp .ge 51, 3) := by decide +kernel
theorem d_M_isIn_16 : decode b_M_isIn 16 = .ok (.iload_n 3, 1) := by decide +kernel
theorem d_M_isIn_17 : decode b_M_isIn 17 = .ok (.ifCond .ne 35, 3) := by decide +kernel
theorem d_M_isIn_20 : decode b_M_isIn 20 = .ok (.aload_n 0, 1) := by decide +kernel
theorem d_M_isIn_21 : decode b_M_isIn 21 = .ok (.aload_n 0, 1) := by decide +kernel
theorem d_M_isIn_22 : decode b_M_isIn 22 = .ok (.getfield 27, 3) := by decide +kernel
theorem d_M_isIn_25 : decode b_M_isIn 25 = .ok (.aload_n 0, 1) := by decide +kernel
theorem d_M_isIn_26 : decode b_M_isIn 26 = .ok (.getfield 61, 3) := by decide +kernel
theorem d_M_isIn_29 : decode b_M_isIn 29 = .ok (.iload_n 1, 1) := by decide +kernel
theorem d_M_isIn_30 : decode b_M_isIn 30 = .ok (.iaload, 1) := by decide +kernel
theorem d_M_isIn_31 : decode b_M_isIn 31 = .ok (.iaload, 1) := by decide +kernel
