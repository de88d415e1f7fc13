theorem d_M_addText_49 : decode b_M_addText 49 = .ok (.aload_n 0, 1) := by decide +kernel
theorem d_M_addText_50 : decode b_M_addText 50 = .ok (.getfield 30, 3) := by decide +kernel
theorem d_M_addText_53 : decode b_M_addText 53 = .ok (.iload_n 1, 1) := by decide +kernel
theorem d_M_addText_54 : decode b_M_addText 54 = .ok (.iaload, 1) := by decide +kernel
theorem d_M_addText_55 : decode b_M_addText 55 = .ok (.sipush 1000, 3) := by decide +kernel
theorem d_M_addText_58 : decode b_M_addText 58 = .ok (.if_icmp .eq 17, 3) := by decide +kernel
theorem d_M_addText_61 : decode b_M_addText 61 = .ok (.aload_n 0, 1) := by decide +kernel
theorem d_M_addText_62 : decode b_M_addText 62 = .ok (.getfield 33, 3) := by decide +kernel
theorem d_M_addText_65 : decode b_M_addText 65 = .ok (.iload_n 1, 1) := by decide +kernel
theorem d_M_addText_66 : decode b_M_addText 66 = .ok (.iaload, 1) := by decide +kernel
theorem d_M_addText_67 : decode b_M_addText 67 = .ok (.iload_n 2, 1) := by decide +kernel
theorem d_M_addText_68 : decode b_M_addText 68 = .ok (.iadd, 1) := by decide +kernel
theorem d_M_addText_69 : decode b_M_addText 69 = .ok (.sipush 8000, 3) := by decide +kernel
theorem d_M_addText_72 : decode b_M_addText 72 = .ok (.if_icmp .le 5, 3) := by decide +kernel
theorem d_M_addText_75 : decode b_M_addText 75 = .ok (.iconst 0, 1) := by decide +kernel
theorem d_M_addText_76 : decode b_M_addText 76 = .ok (.ireturn, 1) := by decide +kernel
theorem d_M_addText_77 : decode b_M_addText 77 = .ok (.aload_n 0, 1) := by decide +kernel
theorem d_M_addText_78 : decode b_M_addText 78 = .ok (.sipush 1000, 3) := by decide +kernel
theorem d_M_addText_81 : decode b_M_addText 81 = .ok (.iload_n 1, 1) := by decide +kernel
theorem d_M_addText_82 : decode b_M_addText 82 = .ok (.imul, 1) := by decide +kernel
theorem d_M_addText_83 : decode b_M_addText 83 = .ok (.aload_n 0, 1) := by decide +kernel
theorem d_M_addText_84 : decode b_M_addText 84 = .ok (.getfield 30, 3) := by decide +kernel
theorem d_M_addText_87 : decode b_M_addText 87 = .ok (.iload_n 1, 1) := by decide +kernel
theorem d_M_addText_88 : decode b_M_addText 88 = .ok (.iaload, 1) := by decide +kernel
theorem d_M_addText_89 : decode b_M_addText 89 = .ok (.iadd, 1) := by decide +kernel
theorem d_M_addText_90 : decode b_M_addText 90 = .ok (.iload_n 2, 1) := by decide +kernel
theorem d_M_addText_91 : decode b_M_addText 91 = .ok (.sipush 8000, 3) := by decide +kernel
theorem d_M_addText_94 : decode b_M_addText 94 = .ok (.iload_n 1, 1) := by decide +kernel
theorem d_M_addText_95 : decode b_M_addText 95 = .ok (.imul, 1) := by decide +kernel
theorem d_M_addText_96 : decode b_M_addText 96 = .ok (.aload_n 0, 1) := by decide +kernel
theorem d_M_addText_97 : decode b_M_addText 97 = .ok (.getfield 33, 3) := by decide +kernel
theorem d_M_addText_100 : decode b_M_addText 100 = .ok (.iload_n 1, 1) := by decide +kernel
theorem d_M_addText_101 : decode b_M_addText 101 = .ok (.iaload, 1) := by decide +kernel
theorem d_M_addText_102 : decode b_M_addText 102 = .ok (.iadd, 1) := by decide +kernel
theorem d_M_addText_103 : decode b_M_addText 103 = .ok (.invokevirtual 97, 3) := by decide +kernel
theorem d_M_addText_106 : decode b_M_addText 106 = .ok (.aload_n 0, 1) := by decide +kernel
theorem d_M_addText_107 : decode b_M_addText 107 = .ok (.getfield 52, 3) := by decide +kernel
theorem d_M_addText_110 : decode b_M_addText 110 = .ok (.sipush 1000, 3) := by decide +kernel
theorem d_M_addText_113 : decode b_M_addText 113 = .ok (.iload_n 1, 1) := by decide +kernel
theorem d_M_addText_114 : decode b_M_addText 114 = .ok (.imul, 1) := by decide +kernel
theorem d_M_addText_115 : decode b_M_addText 115 = .ok (.aload_n 0, 1) := by decide +kernel
theorem d_M_addText_116 : decode b_M_addText 116 = .ok (.getfield 30, 3) := by decide +kernel
theorem d_M_addText_119 : decode b_M_addText 119 = .ok (.iload_n 1, 1) := by decide +kernel
theorem d_M_addText_120 : decode b_M_addText 120 = .ok (.iaload, 1) := by decide +kernel
theorem d_M_addText_121 : decode b_M_addText 121 = .ok (.iadd, 1) := by decide +kernel
theorem d_M_addText_122 : decode b_M_addText 122 = .ok (.iconst 1, 1) := by decide +kernel
theorem d_M_addText_123 : decode b_M_addText 123 = .ok (.bastore, 1) := by decide +kernel
theorem d_M_addText_124 : decode b_M_addText 124 = .ok (.aload_n 0, 1) := by decide +kernel
theorem d_M_addText_125 : decode b_M_addText 125 = .ok (.getfield 30, 3) := by decide +kernel
theorem d_M_addText_128 : decode b_M_addText 128 = .ok (.iload_n 1, 1) := by decide +kernel
theorem d_M_addText_129 : decode b_M_addText 129 = .ok (.dup2, 1) := by decide +kernel
theorem d_M_addText_130 : decode b_M_addText 130 = .ok (.iaload, 1) := by decide +kernel
theorem d_M_addText_131 : decode b_M_addText 131 = .ok (.iconst 1, 1) := by decide +kernel
theorem d_M_addText_132 : decode b_M_addText 132 = .ok (.iadd, 1) := by decide +kernel
theorem d_M_addText_133 : decode b_M_addText 133 = .ok (.iastore, 1) := by decide +kernel
theorem d_M_addText_134 : decode b_M_addText 134 = .ok (.aload_n 0, 1) := by decide +kernel
theorem d_M_addText_135 : decode b_M_addText 135 = .ok (.getfield 33, 3) := by decide +kernel
theorem d_M_addText_138 : decode b_M_addText 138 = .ok (.iload_n 1, 1) := by decide +kernel
theorem d_M_addText_139 : decode b_M_addText 139 = .ok (.dup2, 1) := by decide +kernel
theorem d_M_addText_140 : decode b_M_addText 140 = .ok (.iaload, 1) := by decide +kernel
theorem d_M_addText_141 : decode b_M_addText 141 = .ok (.iload_n 2, 1) := by decide +kernel
theorem d_M_addText_142 : decode b_M_addText 142 = .ok (.iadd, 1) := by decide +kernel
theorem d_M_addText_143 : decode b_M_addText 143 = .ok (.iastore, 1) := by decide +kernel
theorem d_M_addText_144 : decode b_M_addText 144 = .ok (.iconst 1, 1) := by decide +kernel
theorem d_M_addText_145 : decode b_M_addText 145 = .ok (.ireturn, 1) := by decide +kernel
theorem d_M_miss_0 : decode b_M_miss 0 = .ok (.aload_n 0, 1) := by decide +kernel
theorem d_M_miss_1 : decode b_M_miss 1 = .ok (.iconst 0, 1) := by decide +kernel
theorem d_M_miss_2 : decode b_M_miss 2 = .ok (.putfield 79, 3) := by decide +kernel
theorem d_M_miss_5 : decode b_M_miss 5 = .ok (.aload_n 0, 1) := by decide +kernel
theorem d_M_miss_6 : decode b_M_miss 6 = .ok (.iload_n 1, 1) := by decide +kernel
theorem d_M_miss_7 : decode b_M_miss 7 = .ok (.invokevirtual 89, 3) := by decide +kernel
theorem d_M_miss_10 : decode b_M_miss 10 = .ok (.ifCond .eq 22, 3) := by decide +kernel
theorem d_M_miss_13 : decode b_M_miss 13 = .ok (.iload_n 2, 1) := by decide +kernel
theorem d_M_miss_14 : decode b_M_miss 14 = .ok (.iconst 1, 1) := by decide +kernel
theorem d_M_miss_15 : decode b_M_miss 15 = .ok (.if_icmp .lt 17, 3) := by decide +kernel
theorem d_M_miss_18 : decode b_M_miss 18 = .ok (.iload_n 2, 1) := by decide +kernel
theorem d_M_miss_19 : decode b_M_miss 19 = .ok (.sipush 1000, 3) := by decide +kernel
theorem d_M_miss_22 : decode b_M_miss 22 = .ok (.aload_n 0, 1) := by decide +kernel
theorem d_M_miss_23 : decode b_M_miss 23 = .ok (.getfield 30, 3) := by decide +kernel
theorem d_M_miss_26 : decode b_M_miss 26 = .ok (.iload_n 1, 1) := by decide +kernel
theorem d_M_miss_27 : decode b_M_miss 27 = .ok (.iaload, 1) := by decide +kernel
theorem d_M_miss_28 : decode b_M_miss 28 = .ok (.isub, 1) := by decide +kernel
theorem d_M_miss_29 : decode b_M_miss 29 = .ok (.if_icmp .le 5, 3) := by decide +kernel
theorem d_M_miss_32 : decode b_M_miss 32 = .ok (.iconst 0, 1) := by decide +kernel
theorem d_M_miss_33 : decode b_M_miss 33 = .ok (.ireturn, 1) := by decide +kernel
theorem d_M_miss_34 : decode b_M_miss 34 = .ok (.iconst 0, 1) := by decide +kernel
theorem d_M_miss_35 : decode b_M_miss 35 = .ok (.istore_n 3, 1) := by decide +kernel
theorem d_M_miss_36 : decode b_M_miss 36 = .ok (.iload_n 3, 1) := by decide +kernel
theorem d_M_miss_37 : decode b_M_miss 37 = .ok (.iload_n 2, 1) := by decide +kernel
theorem d_M_miss_38 : decode b_M_miss 38 = .ok (.if_icmp .ge 37, 3) := by decide +kernel
theorem d_M_miss_41 : decode b_M_miss 41 = .ok (.aload_n 0, 1) := by decide +kernel
theorem d_M_miss_42 : decode b_M_miss 42 = .ok (.getfield 52, 3) := by decide +kernel
theorem d_M_miss_45 : decode b_M_miss 45 = .ok (.sipush 1000, 3) := by decide +kernel
theorem d_M_miss_48 : decode b_M_miss 48 = .ok (.iload_n 1, 1) := by decide +kernel
theorem d_M_miss_49 : decode b_M_miss 49 = .ok (.imul, 1) := by decide +kernel
theorem d_M_miss_50 : decode b_M_miss 50 = .ok (.aload_n 0, 1) := by decide +kernel
theorem d_M_miss_51 : decode b_M_miss 51 = .ok (.getfield 30, 3) := by decide +kernel
theorem d_M_miss_54 : decode b_M_miss 54 = .ok (.iload_n 1, 1) := by decide +kernel
theorem d_M_miss_55 : decode b_M_miss 55 = .ok (.iaload, 1) := by decide +kernel
theorem d_M_miss_56 : decode b_M_miss 56 = .ok (.iadd, 1) := by decide +kernel
theorem d_M_miss_57 : decode b_M_miss 57 = .ok (.iconst 0, 1) := by decide +kernel
theorem d_M_miss_58 : decode b_M_miss 58 = .ok (.bastore, 1) := by decide +kernel
theorem d_M_miss_59 : decode b_M_miss 59 = .ok (.aload_n 0, 1) := by decide +kernel
theorem d_M_miss_60 : decode b_M_miss 60 = .ok (.getfield 30, 3) := by decide +kernel
theorem d_M_miss_63 : decode b_M_miss 63 = .ok (.iload_n 1, 1) := by decide +kernel
theorem d_M_miss_64 : decode b_M_miss 64 = .ok (.dup2, 1) := by decide +kernel
theorem d_M_miss_65 : decode b_M_miss 65 = .ok (.iaload, 1) := by decide +kernel
theorem d_M_miss_66 : decode b_M_miss 66 = .ok (.iconst 1, 1) := by decide +kernel
theorem d_M_miss_67 : decode b_M_miss 67 = .ok (.iadd, 1) := by decide +kernel
theorem d_M_miss_68 : decode b_M_miss 68 = .ok (.iastore, 1) := by decide +kernel
theorem d_M_miss_69 : decode b_M_miss 69 = .ok (.iinc 3 1, 3) := by decide +kernel
theorem d_M_miss_72 : decode b_M_miss 72 = .ok (.goto (-36), 3) := by decide +kernel
theorem d_M_miss_75 : decode b_M_miss 75 = .ok (.iconst 1, 1) := by decide +kernel
theorem d_M_miss_76 : decode b_M_miss 76 = .ok (.ireturn, 1) := by decide +kernel
theorem d_M_clear_0 : decode b_M_clear 0 = .ok (.aload_n 0, 1) := by decide +kernel
theorem d_M_clear_1 : decode b_M_clear 1 = .ok (.iconst 0, 1) := by decide +kernel
theorem d_M_clear_2 : decode b_M_clear 2 = .ok (.putfield 79, 3) := by decide +kernel
theorem d_M_clear_5 : decode b_M_clear 5 = .ok (.aload_n 0, 1) := by decide +kernel
theorem d_M_clear_6 : decode b_M_clear 6 = .ok (.iload_n 1, 1) := by decide +kernel
theorem d_M_clear_7 : decode b_M_clear 7 = .ok (.invokevirtual 89, 3) := by decide +kernel
theorem d_M_clear_10 : decode b_M_clear 10 = .ok (.ifCond .ne 5, 3) := by decide +kernel
theorem d_M_clear_13 : decode b_M_clear 13 = .ok (.iconst 0, 1) := by decide +kernel
theorem d_M_clear_14 : decode b_M_clear 14 = .ok (.ireturn, 1) := by decide +kernel
theorem d_M_clear_15 : decode b_M_clear 15 = .ok (.aload_n 0, 1) := by decide +kernel
theorem d_M_clear_16 : decode b_M_clear 16 = .ok (.getfield 30, 3) := by decide +kernel
theorem d_M_clear_19 : decode b_M_clear 19 = .ok (.iload_n 1, 1) := by decide +kernel
theorem d_M_clear_20 : decode b_M_clear 20 = .ok (.iconst 0, 1) := by decide +kernel
theorem d_M_clear_21 : decode b_M_clear 21 = .ok (.iastore, 1) := by decide +kernel
theorem d_M_clear_22 : decode b_M_clear 22 = .ok (.aload_n 0, 1) := by decide +kernel
theorem d_M_clear_23 : decode b_M_clear 23 = .ok (.getfield 33, 3) := by decide +kernel
theorem d_M_clear_26 : decode b_M_clear 26 = .ok (.iload_n 1, 1) := by decide +kernel
theorem d_M_clear_27 : decode b_M_clear 27 = .ok (.iconst 0, 1) := by decide +kernel
theorem d_M_clear_28 : decode b_M_clear 28 = .ok (.iastore, 1) := by decide +kernel
theorem d_M_clear_29 : decode b_M_clear 29 = .ok (.iconst 1, 1) := by decide +kernel
theorem d_M_clear_30 : decode b_M_clear 30 = .ok (.ireturn, 1) := by decide +kernel
theorem d_M_literal_0 : decode b_M_literal 0 = .ok (.aload_n 0, 1) := by decide +kernel
theorem d_M_literal_1 : decode b_M_literal 1 = .ok (.iconst 0, 1) := by decide +kernel
theorem d_M_literal_2 : decode b_M_literal 2 = .ok (.putfield 79, 3) := by decide +kernel
theorem d_M_literal_5 : decode b_M_literal 5 = .ok (.aload_n 0, 1) := by decide +kernel
theorem d_M_literal_6 : decode b_M_literal 6 = .ok (.getfield 101, 3) := by decide +kernel
theorem d_M_literal_9 : decode b_M_literal 9 = .ok (.bipush 64, 2) := by decide +kernel
theorem d_M_literal_11 : decode b_M_literal 11 = .ok (.if_icmp .eq 11, 3) := by decide +kernel
theorem d_M_literal_14 : decode b_M_literal 14 = .ok (.iload_n 1, 1) := by decide +kernel
theorem d_M_literal_15 : decode b_M_literal 15 = .ok (.lload_n 2, 1) := by decide +kernel
theorem d_M_literal_16 : decode b_M_literal 16 = .ok (.invokestatic 93, 3) := by decide +kernel
theorem d_M_literal_19 : decode b_M_literal 19 = .ok (.ifCond .ne 5, 3) := by decide +kernel
theorem d_M_literal_22 : decode b_M_literal 22 = .ok (.iconst (-1), 1) := by decide +kernel
theorem d_M_literal_23 : decode b_M_literal 23 = .ok (.ireturn, 1) := by decide +kernel
theorem d_M_literal_24 : decode b_M_literal 24 = .ok (.aload_n 0, 1) := by decide +kernel
theorem d_M_literal_25 : decode b_M_literal 25 = .ok (.getfield 55, 3) := by decide +kernel
theorem d_M_literal_28 : decode b_M_literal 28 = .ok (.aload_n 0, 1) := by decide +kernel
theorem d_M_literal_29 : decode b_M_literal 29 = .ok (.getfield 101, 3) := by decide +kernel
theorem d_M_literal_32 : decode b_M_literal 32 = .ok (.iload_n 1, 1) := by decide +kernel
theorem d_M_literal_33 : decode b_M_literal 33 = .ok (.iastore, 1) := by decide +kernel
theorem d_M_literal_34 : decode b_M_literal 34 = .ok (.aload_n 0, 1) := by decide +kernel
theorem d_M_literal_35 : decode b_M_literal 35 = .ok (.getfield 13, 3) := by decide +kernel
theorem d_M_literal_38 : decode b_M_literal 38 = .ok (.sipush 17632, 3) := by decide +kernel
theorem d_M_literal_41 : decode b_M_literal 41 = .ok (.aload_n 0, 1) := by decide +kernel
theorem d_M_literal_42 : decode b_M_literal 42 = .ok (.getfield 101, 3) := by decide +kernel
theorem d_M_literal_45 : decode b_M_literal 45 = .ok (.iadd, 1) := by decide +kernel
theorem d_M_literal_46 : decode b_M_literal 46 = .ok (.lload_n 2, 1) := by decide +kernel
theorem d_M_literal_47 : decode b_M_literal 47 = .ok (.lastore, 1) := by decide +kernel
theorem d_M_literal_48 : decode b_M_literal 48 = .ok (.aload_n 0, 1) := by decide +kernel
theorem d_M_literal_49 : decode b_M_literal 49 = .ok (.dup, 1) := by decide +kernel
theorem d_M_literal_50 : decode b_M_literal 50 = .ok (.getfield 101, 3) := by decide +kernel
theorem d_M_literal_53 : decode b_M_literal 53 = .ok (.iconst 1, 1) := by decide +kernel
theorem d_M_literal_54 : decode b_M_literal 54 = .ok (.iadd, 1) := by decide +kernel
theorem d_M_literal_55 : decode b_M_literal 55 = .ok (.putfield 101, 3) := by decide +kernel
theorem d_M_literal_58 : decode b_M_literal 58 = .ok (.aload_n 0, 1) := by decide +kernel
theorem d_M_literal_59 : decode b_M_literal 59 = .ok (.getfield 101, 3) := by decide +kernel
theorem d_M_literal_62 : decode b_M_literal 62 = .ok (.iconst 1, 1) := by decide +kernel
theorem d_M_literal_63 : decode b_M_literal 63 = .ok (.isub, 1) := by decide +kernel
theorem d_M_literal_64 : decode b_M_literal 64 = .ok (.ireturn, 1) := by decide +kernel
theorem d_M_literalText_0 : decode b_M_literalText 0 = .ok (.aload_n 0, 1) := by decide +kernel
theorem d_M_literalText_1 : decode b_M_literalText 1 = .ok (.iconst 0, 1) := by decide +kernel
theorem d_M_literalText_2 : decode b_M_literalText 2 = .ok (.putfield 79, 3) := by decide +kernel
theorem d_M_literalText_5 : decode b_M_literalText 5 = .ok (.iload_n 1, 1) := by decide +kernel
theorem d_M_literalText_6 : decode b_M_literalText 6 = .ok (.ifCond .lt 11, 3) := by decide +kernel
theorem d_M_literalText_9 : decode b_M_literalText 9 = .ok (.iload_n 1, 1) := by decide +kernel
theorem d_M_literalText_10 : decode b_M_literalText 10 = .ok (.aload_n 0, 1) := by decide +kernel
theorem d_M_literalText_11 : decode b_M_literalText 11 = .ok (.getfield 83, 3) := by decide +kernel
theorem d_M_literalText_14 : decode b_M_literalText 14 = .ok (.if_icmp .le 5, 3) := by decide +kernel
theorem d_M_literalText_17 : decode b_M_literalText 17 = .ok (.iconst (-1), 1) := by decide +kernel
theorem d_M_literalText_18 : decode b_M_literalText 18 = .ok (.ireturn, 1) := by decide +kernel
theorem d_M_literalText_19 : decode b_M_literalText 19 = .ok (.aload_n 0, 1) := by decide +kernel
theorem d_M_literalText_20 : decode b_M_literalText 20 = .ok (.iconst 0, 1) := by decide +kernel
theorem d_M_literalText_21 : decode b_M_literalText 21 = .ok (.putfield 83, 3) := by decide +kernel
theorem d_M_literalText_24 : decode b_M_literalText 24 = .ok (.aload_n 0, 1) := by decide +kernel
theorem d_M_literalText_25 : decode b_M_literalText 25 = .ok (.getfield 101, 3) := by decide +kernel
theorem d_M_literalText_28 : decode b_M_literalText 28 = .ok (.bipush 64, 2) := by decide +kernel
theorem d_M_literalText_30 : decode b_M_literalText 30 = .ok (.if_icmp .eq 10, 3) := by decide +kernel
theorem d_M_literalText_33 : decode b_M_literalText 33 = .ok (.iload_n 1, 1) := by decide +kernel
theorem d_M_literalText_34 : decode b_M_literalText 34 = .ok (.sipush 255, 3) := by decide +kernel
theorem d_M_literalText_37 : decode b_M_literalText 37 = .ok (.if_icmp .le 5, 3) := by decide +kernel
theorem d_M_literalText_40 : decode b_M_literalText 40 = .ok (.iconst (-1), 1) := by decide +kernel
theorem d_M_literalText_41 : decode b_M_literalText 41 = .ok (.ireturn, 1) := by decide +kernel
theorem d_M_literalText_42 : decode b_M_literalText 42 = .ok (.aload_n 0, 1) := by decide +kernel
theorem d_M_literalText_43 : decode b_M_literalText 43 = .ok (.getfield 55, 3) := by decide +kernel
theorem d_M_literalText_46 : decode b_M_literalText 46 = .ok (.aload_n 0, 1) := by decide +kernel
theorem d_M_literalText_47 : decode b_M_literalText 47 = .ok (.getfield 101, 3) := by decide +kernel
theorem d_M_literalText_50 : decode b_M_literalText 50 = .ok (.iconst 2, 1) := by decide +kernel
theorem d_M_literalText_51 : decode b_M_literalText 51 = .ok (.iastore, 1) := by decide +kernel
theorem d_M_literalText_52 : decode b_M_literalText 52 = .ok (.aload_n 0, 1) := by decide +kernel
theorem d_M_literalText_53 : decode b_M_literalText 53 = .ok (.sipush 17632, 3) := by decide +kernel
theorem d_M_literalText_56 : decode b_M_literalText 56 = .ok (.aload_n 0, 1) := by decide +kernel
theorem d_M_literalText_57 : decode b_M_literalText 57 = .ok (.getfield 101, 3) := by decide +kernel
theorem d_M_literalText_60 : decode b_M_literalText 60 = .ok (.iadd, 1) := by decide +kernel
theorem d_M_literalText_61 : decode b_M_literalText 61 = .ok (.iload_n 1, 1) := by decide +kernel
theorem d_M_literalText_62 : decode b_M_literalText 62 = .ok (.ldc 104, 2) := by decide +kernel
theorem d_M_literalText_64 : decode b_M_literalText 64 = .ok (.sipush 256, 3) := by decide +kernel
theorem d_M_literalText_67 : decode b_M_literalText 67 = .ok (.aload_n 0, 1) := by decide +kernel
theorem d_M_literalText_68 : decode b_M_literalText 68 = .ok (.getfield 101, 3) := by decide +kernel
theorem d_M_literalText_71 : decode b_M_literalText 71 = .ok (.imul, 1) := by decide +kernel
theorem d_M_literalText_72 : decode b_M_literalText 72 = .ok (.iadd, 1) := by decide +kernel
theorem d_M_literalText_73 : decode b_M_literalText 73 = .ok (.invokevirtual 97, 3) := by decide +kernel
theorem d_M_literalText_76 : decode b_M_literalText 76 = .ok (.aload_n 0, 1) := by decide +kernel
theorem d_M_literalText_77 : decode b_M_literalText 77 = .ok (.dup, 1) := by decide +kernel
theorem d_M_literalText_78 : decode b_M_literalText 78 = .ok (.getfield 101, 3) := by decide +kernel
theorem d_M_literalText_81 : decode b_M_literalText 81 = .ok (.iconst 1, 1) := by decide +kernel
theorem d_M_literalText_82 : decode b_M_literalText 82 = .ok (.iadd, 1) := by decide +kernel
theorem d_M_literalText_83 : decode b_M_literalText 83 = .ok (.putfield 101, 3) := by decide +kernel
theorem d_M_literalText_86 : decode b_M_literalText 86 = .ok (.aload_n 0, 1) := by decide +kernel
theorem d_M_literalText_87 : decode b_M_literalText 87 = .ok (.getfield 101, 3) := by decide +kernel
theorem d_M_literalText_90 : decode b_M_literalText 90 = .ok (.iconst 1, 1) := by decide +kernel
theorem d_M_literalText_91 : decode b_M_literalText 91 = .ok (.isub, 1) := by decide +kernel
theorem d_M_literalText_92 : decode b_M_literalText 92 = .ok (.ireturn, 1) := by decide +kernel
theorem d_M_areLiterals_0 : decode b_M_areLiterals 0 = .ok (.iload_n 1, 1) := by decide +kernel
theorem d_M_areLiterals_1 : decode b_M_areLiterals 1 = .ok (.ifCond .lt 21, 3) := by decide +kernel
theorem d_M_areLiterals_4 : decode b_M_areLiterals 4 = .ok (.iload_n 2, 1) := by decide +kernel
theorem d_M_areLiterals_5 : decode b_M_areLiterals 5 = .ok (.ifCond .le 17, 3) := by decide +kernel
theorem d_M_areLiterals_8 : decode b_M_areLiterals 8 = .ok (.iload_n 2, 1) := by decide +kernel
theorem d_M_areLiterals_9 : decode b_M_areLiterals 9 = .ok (.aload_n 0, 1) := by decide +kernel
theorem d_M_areLiterals_10 : decode b_M_areLiterals 10 = .ok (.getfield 101, 3) := by decide +kernel
theorem d_M_areLiterals_13 : decode b_M_areLiterals 13 = .ok (.iload_n 1, 1) := by decide +kernel
theorem d_M_areLiterals_14 : decode b_M_areLiterals 14 = .ok (.isub, 1) := by decide +kernel
theorem d_M_areLiterals_15 : decode b_M_areLiterals 15 = .ok (.if_icmp .gt 7, 3) := by decide +kernel
theorem d_M_areLiterals_18 : decode b_M_areLiterals 18 = .ok (.iconst 1, 1) := by decide +kernel
theorem d_M_areLiterals_19 : decode b_M_areLiterals 19 = .ok (.goto 4, 3) := by decide +kernel
theorem d_M_areLiterals_22 : decode b_M_areLiterals 22 = .ok (.iconst 0, 1) := by decide +kernel
theorem d_M_areLiterals_23 : decode b_M_areLiterals 23 = .ok (.istore 4, 2) := by decide +kernel
theorem d_M_areLiterals_25 : decode b_M_areLiterals 25 = .ok (.iconst 0, 1) := by decide +kernel
theorem d_M_areLiterals_26 : decode b_M_areLiterals 26 = .ok (.istore 5, 2) := by decide +kernel
theorem d_M_areLiterals_28 : decode b_M_areLiterals 28 = .ok (.iload 4, 2) := by decide +kernel
theorem d_M_areLiterals_30 : decode b_M_areLiterals 30 = .ok (.ifCond .eq 35, 3) := by decide +kernel
theorem d_M_areLiterals_33 : decode b_M_areLiterals 33 = .ok (.iload 5, 2) := by decide +kernel
theorem d_M_areLiterals_35 : decode b_M_areLiterals 35 = .ok (.iload_n 2, 1) := by decide +kernel
theorem d_M_areLiterals_36 : decode b_M_areLiterals 36 = .ok (.if_icmp .ge 29, 3) := by decide +kernel
theorem d_M_areLiterals_39 : decode b_M_areLiterals 39 = .ok (.aload_n 0, 1) := by decide +kernel
theorem d_M_areLiterals_40 : decode b_M_areLiterals 40 = .ok (.getfield 55, 3) := by decide +kernel
theorem d_M_areLiterals_43 : decode b_M_areLiterals 43 = .ok (.iload_n 1, 1) := by decide +kernel
theorem d_M_areLiterals_44 : decode b_M_areLiterals 44 = .ok (.iload 5, 2) := by decide +kernel
theorem d_M_areLiterals_46 : decode b_M_areLiterals 46 = .ok (.iadd, 1) := by decide +kernel
theorem d_M_areLiterals_47 : decode b_M_areLiterals 47 = .ok (.iaload, 1) := by decide +kernel
theorem d_M_areLiterals_48 : decode b_M_areLiterals 48 = .ok (.iload_n 3, 1) := by decide +kernel
theorem d_M_areLiterals_49 : decode b_M_areLiterals 49 = .ok (.if_icmp .ne 7, 3) := by decide +kernel
theorem d_M_areLiterals_52 : decode b_M_areLiterals 52 = .ok (.iconst 1, 1) := by decide +kernel
theorem d_M_areLiterals_53 : decode b_M_areLiterals 53 = .ok (.goto 4, 3) := by decide +kernel
theorem d_M_areLiterals_56 : decode b_M_areLiterals 56 = .ok (.iconst 0, 1) := by decide +kernel
theorem d_M_areLiterals_57 : decode b_M_areLiterals 57 = .ok (.istore 4, 2) := by decide +kernel
theorem d_M_areLiterals_59 : decode b_M_areLiterals 59 = .ok (.iinc 5 1, 3) := by decide +kernel
theorem d_M_areLiterals_62 : decode b_M_areLiterals 62 = .ok (.goto (-34), 3) := by decide +kernel
theorem d_M_areLiterals_65 : decode b_M_areLiterals 65 = .ok (.iload 4, 2) := by decide +kernel
theorem d_M_areLiterals_67 : decode b_M_areLiterals 67 = .ok (.ireturn, 1) := by decide +kernel
theorem d_M_isTest_0 : decode b_M_isTest 0 = .ok (.aload_n 0, 1) := by decide +kernel
theorem d_M_isTest_1 : decode b_M_isTest 1 = .ok (.iload_n 2, 1) := by decide +kernel
theorem d_M_isTest_2 : decode b_M_isTest 2 = .ok (.invokevirtual 89, 3) := by decide +kernel
theorem d_M_isTest_5 : decode b_M_isTest 5 = .ok (.ifCond .ne 5, 3) := by decide +kernel
theorem d_M_isTest_8 : decode b_M_isTest 8 = .ok (.iconst 0, 1) := by decide +kernel
theorem d_M_isTest_9 : decode b_M_isTest 9 = .ok (.ireturn, 1) := by decide +kernel
theorem d_M_isTest_10 : decode b_M_isTest 10 = .ok (.iload_n 1, 1) := by decide +kernel
theorem d_M_isTest_11 : decode b_M_isTest 11 = .ok (.iconst 2, 1) := by decide +kernel
theorem d_M_isTest_12 : decode b_M_isTest 12 = .ok (.if_icmp .ge 5, 3) := by decide +kernel
theorem d_M_isTest_15 : decode b_M_isTest 15 = .ok (.iconst 1, 1) := by decide +kernel
theorem d_M_isTest_16 : decode b_M_isTest 16 = .ok (.ireturn, 1) := by decide +kernel
theorem d_M_isTest_17 : decode b_M_isTest 17 = .ok (.iload_n 1, 1) := by decide +kernel
theorem d_M_isTest_18 : decode b_M_isTest 18 = .ok (.iconst 2, 1) := by decide +kernel
theorem d_M_isTest_19 : decode b_M_isTest 19 = .ok (.if_icmp .ne 18, 3) := by decide +kernel
theorem d_M_isTest_22 : decode b_M_isTest 22 = .ok (.aload_n 0, 1) := by decide +kernel
theorem d_M_isTest_23 : decode b_M_isTest 23 = .ok (.iload 4, 2) := by decide +kernel
theorem d_M_isTest_25 : decode b_M_isTest 25 = .ok (.iload 5, 2) := by decide +kernel
theorem d_M_isTest_27 : decode b_M_isTest 27 = .ok (.aload_n 0, 1) := by decide +kernel
theorem d_M_isTest_28 : decode b_M_isTest 28 = .ok (.getfield 27, 3) := by decide +kernel
theorem d_M_isTest_31 : decode b_M_isTest 31 = .ok (.iload_n 2, 1) := by decide +kernel
theorem d_M_isTest_32 : decode b_M_isTest 32 = .ok (.iaload, 1) := by decide +kernel
theorem d_M_isTest_33 : decode b_M_isTest 33 = .ok (.invokevirtual 105, 3) := by decide +kernel
theorem d_M_isTest_36 : decode b_M_isTest 36 = .ok (.ireturn, 1) := by decide +kernel
theorem d_M_isTest_37 : decode b_M_isTest 37 = .ok (.iload_n 3, 1) := by decide +kernel
theorem d_M_isTest_38 : decode b_M_isTest 38 = .ok (.ifCond .lt 8, 3) := by decide +kernel
theorem d_M_isTest_41 : decode b_M_isTest 41 = .ok (.iload_n 3, 1) := by decide +kernel
theorem d_M_isTest_42 : decode b_M_isTest 42 = .ok (.iconst 5, 1) := by decide +kernel
theorem d_M_isTest_43 : decode b_M_isTest 43 = .ok (.if_icmp .le 5, 3) := by decide +kernel
theorem d_M_isTest_46 : decode b_M_isTest 46 = .ok (.iconst 0, 1) := by decide +kernel
theorem d_M_isTest_47 : decode b_M_isTest 47 = .ok (.ireturn, 1) := by decide +kernel
theorem d_M_isTest_48 : decode b_M_isTest 48 = .ok (.iload_n 1, 1) := by decide +kernel
theorem d_M_isTest_49 : decode b_M_isTest 49 = .ok (.iconst 3, 1) := by decide +kernel
theorem d_M_isTest_50 : decode b_M_isTest 50 = .ok (.if_icmp .ne 19, 3) := by decide +kernel
theorem d_M_isTest_53 : decode b_M_isTest 53 = .ok (.aload_n 0, 1) := by decide +kernel
theorem d_M_isTest_54 : decode b_M_isTest 54 = .ok (.iload 4, 2) := by decide +kernel
theorem d_M_isTest_56 : decode b_M_isTest 56 = .ok (.iconst 1, 1) := by decide +kernel
theorem d_M_isTest_57 : decode b_M_isTest 57 = .ok (.aload_n 0, 1) := by decide +kernel
theorem d_M_isTest_58 : decode b_M_isTest 58 = .ok (.getfield 27, 3) := by decide +kernel
theorem d_M_isTest_61 : decode b_M_isTest 61 = .ok (.iload_n 2, 1) := by decide +kernel
theorem d_M_isTest_62 : decode b_M_isTest 62 = .ok (.iaload, 1) := by decide +kernel
theorem d_M_isTest_63 : decode b_M_isTest 63 = .ok (.invokevirtual 105, 3) := by decide +kernel
theorem d_M_isTest_66 : decode b_M_isTest 66 = .ok (.goto 33, 3) := by decide +kernel
theorem d_M_isTest_69 : decode b_M_isTest 69 = .ok (.aload_n 0, 1) := by decide +kernel
theorem d_M_isTest_70 : decode b_M_isTest 70 = .ok (.iload 4, 2) := by decide +kernel
theorem d_M_isTest_72 : decode b_M_isTest 72 = .ok (.invokevirtual 89, 3) := by decide +kernel
theorem d_M_isTest_75 : decode b_M_isTest 75 = .ok (.ifCond .eq 23, 3) := by decide +kernel
theorem d_M_isTest_78 : decode b_M_isTest 78 = .ok (.aload_n 0, 1) := by decide +kernel
theorem d_M_isTest_79 : decode b_M_isTest 79 = .ok (.getfield 27, 3) := by decide +kernel
theorem d_M_isTest_82 : decode b_M_isTest 82 = .ok (.iload 4, 2) := by decide +kernel
theorem d_M_isTest_84 : decode b_M_isTest 84 = .ok (.iaload, 1) := by decide +kernel
theorem d_M_isTest_85 : decode b_M_isTest 85 = .ok (.aload_n 0, 1) := by decide +kernel
theorem d_M_isTest_86 : decode b_M_isTest 86 = .ok (.getfield 27, 3) := by decide +kernel
theorem d_M_isTest_89 : decode b_M_isTest 89 = .ok (.iload_n 2, 1) := by decide +kernel
theorem d_M_isTest_90 : decode b_M_isTest 90 = .ok (.iaload, 1) := by decide +kernel
theorem d_M_isTest_91 : decode b_M_isTest 91 = .ok (.if_icmp .ne 7, 3) := by decide +kernel
theorem d_M_isTest_94 : decode b_M_isTest 94 = .ok (.iconst 1, 1) := by decide +kernel
theorem d_M_isTest_95 : decode b_M_isTest 95 = .ok (.goto 4, 3) := by decide +kernel
theorem d_M_isTest_98 : decode b_M_isTest 98 = .ok (.iconst 0, 1) := by decide +kernel
theorem d_M_isTest_99 : decode b_M_isTest 99 = .ok (.ireturn, 1) := by decide +kernel
theorem d_M_step_0 : decode b_M_step 0 = .ok (.aload_n 0, 1) := by decide +kernel
theorem d_M_step_1 : decode b_M_step 1 = .ok (.iconst 0, 1) := by decide +kernel
theorem d_M_step_2 : decode b_M_step 2 = .ok (.putfield 79, 3) := by decide +kernel
theorem d_M_step_5 : decode b_M_step 5 = .ok (.aload_n 0, 1) := by decide +kernel
theorem d_M_step_6 : decode b_M_step 6 = .ok (.getfield 109, 3) := by decide +kernel
theorem d_M_step_9 : decode b_M_step 9 = .ok (.bipush 64, 2) := by decide +kernel
theorem d_M_step_11 : decode b_M_step 11 = .ok (.if_icmp .eq 32, 3) := by decide +kernel
theorem d_M_step_14 : decode b_M_step 14 = .ok (.iload_n 1, 1) := by decide +kernel
theorem d_M_step_15 : decode b_M_step 15 = .ok (.ifCond .lt 28, 3) := by decide +kernel
theorem d_M_step_18 : decode b_M_step 18 = .ok (.iload_n 1, 1) := by decide +kernel
theorem d_M_step_19 : decode b_M_step 19 = .ok (.bipush 7, 2) := by decide +kernel
theorem d_M_step_21 : decode b_M_step 21 = .ok (.if_icmp .gt 22, 3) := by decide +kernel
theorem d_M_step_24 : decode b_M_step 24 = .ok (.iload_n 1, 1) := by decide +kernel
theorem d_M_step_25 : decode b_M_step 25 = .ok (.iconst 5, 1) := by decide +kernel
theorem d_M_step_26 : decode b_M_step 26 = .ok (.if_icmp .ge 19, 3) := by decide +kernel
theorem d_M_step_29 : decode b_M_step 29 = .ok (.aload_n 0, 1) := by decide +kernel
theorem d_M_step_30 : decode b_M_step 30 = .ok (.iload_n 1, 1) := by decide +kernel
theorem d_M_step_31 : decode b_M_step 31 = .ok (.iload_n 2, 1) := by decide +kernel
theorem d_M_step_32 : decode b_M_step 32 = .ok (.iload_n 3, 1) := by decide +kernel
theorem d_M_step_33 : decode b_M_step 33 = .ok (.iload 4, 2) := by decide +kernel
theorem d_M_step_35 : decode b_M_step 35 = .ok (.iload 5, 2) := by decide +kernel
theorem d_M_step_37 : decode b_M_step 37 = .ok (.invokevirtual 112, 3) := by decide +kernel
theorem d_M_step_40 : decode b_M_step 40 = .ok (.ifCond .ne 5, 3) := by decide +kernel
theorem d_M_step_43 : decode b_M_step 43 = .ok (.iconst (-1), 1) := by decide +kernel
theorem d_M_step_44 : decode b_M_step 44 = .ok (.ireturn, 1) := by decide +kernel
theorem d_M_step_45 : decode b_M_step 45 = .ok (.aload_n 0, 1) := by decide +kernel
theorem d_M_step_46 : decode b_M_step 46 = .ok (.getfield 58, 3) := by decide +kernel
theorem d_M_step_49 : decode b_M_step 49 = .ok (.aload_n 0, 1) := by decide +kernel
theorem d_M_step_50 : decode b_M_step 50 = .ok (.getfield 109, 3) := by decide +kernel
theorem d_M_step_53 : decode b_M_step 53 = .ok (.iload_n 1, 1) := by decide +kernel
theorem d_M_step_54 : decode b_M_step 54 = .ok (.iastore, 1) := by decide +kernel
theorem d_M_step_55 : decode b_M_step 55 = .ok (.aload_n 0, 1) := by decide +kernel
theorem d_M_step_56 : decode b_M_step 56 = .ok (.getfield 61, 3) := by decide +kernel
theorem d_M_step_59 : decode b_M_step 59 = .ok (.aload_n 0, 1) := by decide +kernel
theorem d_M_step_60 : decode b_M_step 60 = .ok (.getfield 109, 3) := by decide +kernel
theorem d_M_step_63 : decode b_M_step 63 = .ok (.iload_n 2, 1) := by decide +kernel
theorem d_M_step_64 : decode b_M_step 64 = .ok (.iastore, 1) := by decide +kernel
theorem d_M_step_65 : decode b_M_step 65 = .ok (.aload_n 0, 1) := by decide +kernel
theorem d_M_step_66 : decode b_M_step 66 = .ok (.getfield 64, 3) := by decide +kernel
theorem d_M_step_69 : decode b_M_step 69 = .ok (.aload_n 0, 1) := by decide +kernel
theorem d_M_step_70 : decode b_M_step 70 = .ok (.getfield 109, 3) := by decide +kernel
theorem d_M_step_73 : decode b_M_step 73 = .ok (.iload_n 3, 1) := by decide +kernel
theorem d_M_step_74 : decode b_M_step 74 = .ok (.iastore, 1) := by decide +kernel
theorem d_M_step_75 : decode b_M_step 75 = .ok (.aload_n 0, 1) := by decide +kernel
theorem d_M_step_76 : decode b_M_step 76 = .ok (.getfield 67, 3) := by decide +kernel
theorem d_M_step_79 : decode b_M_step 79 = .ok (.aload_n 0, 1) := by decide +kernel
theorem d_M_step_80 : decode b_M_step 80 = .ok (.getfield 109, 3) := by decide +kernel
theorem d_M_step_83 : decode b_M_step 83 = .ok (.iload 4, 2) := by decide +kernel
theorem d_M_step_85 : decode b_M_step 85 = .ok (.iastore, 1) := by decide +kernel
theorem d_M_step_86 : decode b_M_step 86 = .ok (.aload_n 0, 1) := by decide +kernel
theorem d_M_step_87 : decode b_M_step 87 = .ok (.getfield 70, 3) := by decide +kernel
theorem d_M_step_90 : decode b_M_step 90 = .ok (.aload_n 0, 1) := by decide +kernel
theorem d_M_step_91 : decode b_M_step 91 = .ok (.getfield 109, 3) := by decide +kernel
theorem d_M_step_94 : decode b_M_step 94 = .ok (.iload 5, 2) := by decide +kernel
theorem d_M_step_96 : decode b_M_step 96 = .ok (.iastore, 1) := by decide +kernel
theorem d_M_step_97 : decode b_M_step 97 = .ok (.aload_n 0, 1) := by decide +kernel
theorem d_M_step_98 : decode b_M_step 98 = .ok (.dup, 1) := by decide +kernel
theorem d_M_step_99 : decode b_M_step 99 = .ok (.getfield 109, 3) := by decide +kernel
theorem d_M_step_102 : decode b_M_step 102 = .ok (.iconst 1, 1) := by decide +kernel
theorem d_M_step_103 : decode b_M_step 103 = .ok (.iadd, 1) := by decide +kernel
theorem d_M_step_104 : decode b_M_step 104 = .ok (.putfield 109, 3) := by decide +kernel
theorem d_M_step_107 : decode b_M_step 107 = .ok (.aload_n 0, 1) := by decide +kernel
theorem d_M_step_108 : decode b_M_step 108 = .ok (.getfield 109, 3) := by decide +kernel
theorem d_M_step_111 : decode b_M_step 111 = .ok (.iconst 1, 1) := by decide +kernel
theorem d_M_step_112 : decode b_M_step 112 = .ok (.isub, 1) := by decide +kernel
theorem d_M_step_113 : decode b_M_step 113 = .ok (.ireturn, 1) := by decide +kernel
theorem d_M_forget_0 : decode b_M_forget 0 = .ok (.aload_n 0, 1) := by decide +kernel
theorem d_M_forget_1 : decode b_M_forget 1 = .ok (.iconst 0, 1) := by decide +kernel
theorem d_M_forget_2 : decode b_M_forget 2 = .ok (.putfield 79, 3) := by decide +kernel
theorem d_M_forget_5 : decode b_M_forget 5 = .ok (.aload_n 0, 1) := by decide +kernel
theorem d_M_forget_6 : decode b_M_forget 6 = .ok (.iconst 0, 1) := by decide +kernel
theorem d_M_forget_7 : decode b_M_forget 7 = .ok (.putfield 109, 3) := by decide +kernel
theorem d_M_forget_10 : decode b_M_forget 10 = .ok (.aload_n 0, 1) := by decide +kernel
theorem d_M_forget_11 : decode b_M_forget 11 = .ok (.iconst 0, 1) := by decide +kernel
theorem d_M_forget_12 : decode b_M_forget 12 = .ok (.putfield 101, 3) := by decide +kernel
theorem d_M_forget_15 : decode b_M_forget 15 = .ok (.return_, 1) := by decide +kernel
theorem d_M_isCondition_0 : decode b_M_isCondition 0 = .ok (.iconst 0, 1) := by decide +kernel
theorem d_M_isCondition_1 : decode b_M_isCondition 1 = .ok (.istore_n 1, 1) := by decide +kernel
theorem d_M_isCondition_2 : decode b_M_isCondition 2 = .ok (.iconst 1, 1) := by decide +kernel
theorem d_M_isCondition_3 : decode b_M_isCondition 3 = .ok (.istore_n 2, 1) := by decide +kernel
theorem d_M_isCondition_4 : decode b_M_isCondition 4 = .ok (.iconst 0, 1) := by decide +kernel
theorem d_M_isCondition_5 : decode b_M_isCondition 5 = .ok (.istore_n 3, 1) := by decide +kernel
theorem d_M_isCondition_6 : decode b_M_isCondition 6 = .ok (.iload_n 3, 1) := by decide +kernel
theorem d_M_isCondition_7 : decode b_M_isCondition 7 = .ok (.aload_n 0, 1) := by decide +kernel
theorem d_M_isCondition_8 : decode b_M_isCondition 8 = .ok (.getfield 109, 3) := by decide +kernel
theorem d_M_isCondition_11 : decode b_M_isCondition 11 = .ok (.if_icmp .ge 84, 3) := by decide +kernel
theorem d_M_isCondition_14 : decode b_M_isCondition 14 = .ok (.iload_n 2, 1) := by decide +kernel
theorem d_M_isCondition_15 : decode b_M_isCondition 15 = .ok (.ifCond .eq 40, 3) := by decide +kernel
theorem d_M_isCondition_18 : decode b_M_isCondition 18 = .ok (.iload_n 1, 1) := by decide +kernel
theorem d_M_isCondition_19 : decode b_M_isCondition 19 = .ok (.aload_n 0, 1) := by decide +kernel
theorem d_M_isCondition_20 : decode b_M_isCondition 20 = .ok (.getfield 58, 3) := by decide +kernel
theorem d_M_isCondition_23 : decode b_M_isCondition 23 = .ok (.iload_n 3, 1) := by decide +kernel
theorem d_M_isCondition_24 : decode b_M_isCondition 24 = .ok (.iaload, 1) := by decide +kernel
theorem d_M_isCondition_25 : decode b_M_isCondition 25 = .ok (.iconst 5, 1) := by decide +kernel
theorem d_M_isCondition_26 : decode b_M_isCondition 26 = .ok (.if_icmp .ge 7, 3) := by decide +kernel
theorem d_M_isCondition_29 : decode b_M_isCondition 29 = .ok (.iconst 0, 1) := by decide +kernel
theorem d_M_isCondition_30 : decode b_M_isCondition 30 = .ok (.goto 18, 3) := by decide +kernel
theorem d_M_isCondition_33 : decode b_M_isCondition 33 = .ok (.aload_n 0, 1) := by decide +kernel
theorem d_M_isCondition_34 : decode b_M_isCondition 34 = .ok (.getfield 58, 3) := by decide +kernel
theorem d_M_isCondition_37 : decode b_M_isCondition 37 = .ok (.iload_n 3, 1) := by decide +kernel
theorem d_M_isCondition_38 : decode b_M_isCondition 38 = .ok (.iaload, 1) := by decide +kernel
theorem d_M_isCondition_39 : decode b_M_isCondition 39 = .ok (.iconst 5, 1) := by decide +kernel
theorem d_M_isCondition_40 : decode b_M_isCondition 40 = .ok (.if_icmp .ne 7, 3) := by decide +kernel
theorem d_M_isCondition_43 : decode b_M_isCondition 43 = .ok (.iconst 1, 1) := by decide +kernel
theorem d_M_isCondition_44 : decode b_M_isCondition 44 = .ok (.goto 4, 3) := by decide +kernel
theorem d_M_isCondition_47 : decode b_M_isCondition 47 = .ok (.iconst 2, 1) := by decide +kernel
theorem d_M_isCondition_48 : decode b_M_isCondition 48 = .ok (.if_icmp .lt 7, 3) := by decide +kernel
theorem d_M_isCondition_51 : decode b_M_isCondition 51 = .ok (.iconst 1, 1) := by decide +kernel
theorem d_M_isCondition_52 : decode b_M_isCondition 52 = .ok (.goto 4, 3) := by decide +kernel
theorem d_M_isCondition_55 : decode b_M_isCondition 55 = .ok (.iconst 0, 1) := by decide +kernel
theorem d_M_isCondition_56 : decode b_M_isCondition 56 = .ok (.istore_n 2, 1) := by decide +kernel
theorem d_M_isCondition_57 : decode b_M_isCondition 57 = .ok (.iload_n 1, 1) := by decide +kernel
theorem d_M_isCondition_58 : decode b_M_isCondition 58 = .ok (.aload_n 0, 1) := by decide +kernel
theorem d_M_isCondition_59 : decode b_M_isCondition 59 = .ok (.getfield 58, 3) := by decide +kernel
theorem d_M_isCondition_62 : decode b_M_isCondition 62 = .ok (.iload_n 3, 1) := by decide +kernel
theorem d_M_isCondition_63 : decode b_M_isCondition 63 = .ok (.iaload, 1) := by decide +kernel
theorem d_M_isCondition_64 : decode b_M_isCondition 64 = .ok (.iconst 5, 1) := by decide +kernel
theorem d_M_isCondition_65 : decode b_M_isCondition 65 = .ok (.if_icmp .ge 7, 3) := by decide +kernel
theorem d_M_isCondition_68 : decode b_M_isCondition 68 = .ok (.iconst 1, 1) := by decide +kernel
theorem d_M_isCondition_69 : decode b_M_isCondition 69 = .ok (.goto 18, 3) := by decide +kernel
theorem d_M_isCondition_72 : decode b_M_isCondition 72 = .ok (.aload_n 0, 1) := by decide +kernel
theorem d_M_isCondition_73 : decode b_M_isCondition 73 = .ok (.getfield 58, 3) := by decide +kernel
theorem d_M_isCondition_76 : decode b_M_isCondition 76 = .ok (.iload_n 3, 1) := by decide +kernel
theorem d_M_isCondition_77 : decode b_M_isCondition 77 = .ok (.iaload, 1) := by decide +kernel
theorem d_M_isCondition_78 : decode b_M_isCondition 78 = .ok (.iconst 5, 1) := by decide +kernel
theorem d_M_isCondition_79 : decode b_M_isCondition 79 = .ok (.if_icmp .ne 7, 3) := by decide +kernel
theorem d_M_isCondition_82 : decode b_M_isCondition 82 = .ok (.iconst 0, 1) := by decide +kernel
theorem d_M_isCondition_83 : decode b_M_isCondition 83 = .ok (.goto 4, 3) := by decide +kernel
theorem d_M_isCondition_86 : decode b_M_isCondition 86 = .ok (.iconst (-1), 1) := by decide +kernel
theorem d_M_isCondition_87 : decode b_M_isCondition 87 = .ok (.iadd, 1) := by decide +kernel
theorem d_M_isCondition_88 : decode b_M_isCondition 88 = .ok (.istore_n 1, 1) := by decide +kernel
theorem d_M_isCondition_89 : decode b_M_isCondition 89 = .ok (.iinc 3 1, 3) := by decide +kernel
theorem d_M_isCondition_92 : decode b_M_isCondition 92 = .ok (.goto (-86), 3) := by decide +kernel
theorem d_M_isCondition_95 : decode b_M_isCondition 95 = .ok (.aload_n 0, 1) := by decide +kernel
theorem d_M_isCondition_96 : decode b_M_isCondition 96 = .ok (.getfield 109, 3) := by decide +kernel
theorem d_M_isCondition_99 : decode b_M_isCondition 99 = .ok (.ifCond .eq 12, 3) := by decide +kernel
theorem d_M_isCondition_102 : decode b_M_isCondition 102 = .ok (.iload_n 2, 1) := by decide +kernel
theorem d_M_isCondition_103 : decode b_M_isCondition 103 = .ok (.ifCond .eq 12, 3) := by decide +kernel
theorem d_M_isCondition_106 : decode b_M_isCondition 106 = .ok (.iload_n 1, 1) := by decide +kernel
theorem d_M_isCondition_107 : decode b_M_isCondition 107 = .ok (.iconst 1, 1) := by decide +kernel
theorem d_M_isCondition_108 : decode b_M_isCondition 108 = .ok (.if_icmp .ne 7, 3) := by decide +kernel
theorem d_M_isCondition_111 : decode b_M_isCondition 111 = .ok (.iconst 1, 1) := by decide +kernel
theorem d_M_isCondition_112 : decode b_M_isCondition 112 = .ok (.goto 4, 3) := by decide +kernel
theorem d_M_isCondition_115 : decode b_M_isCondition 115 = .ok (.iconst 0, 1) := by decide +kernel
theorem d_M_isCondition_116 : decode b_M_isCondition 116 = .ok (.ireturn, 1) := by decide +kernel
theorem d_M_holds_0 : decode b_M_holds 0 = .ok (.iload_n 0, 1) := by decide +kernel
theorem d_M_holds_1 : decode b_M_holds 1 = .ok (.ifCond .ne 15, 3) := by decide +kernel
theorem d_M_holds_4 : decode b_M_holds 4 = .ok (.iload_n 1, 1) := by decide +kernel
theorem d_M_holds_5 : decode b_M_holds 5 = .ok (.ifCond .ne 7, 3) := by decide +kernel
theorem d_M_holds_8 : decode b_M_holds 8 = .ok (.iconst 1, 1) := by decide +kernel
theorem d_M_holds_9 : decode b_M_holds 9 = .ok (.goto 84, 3) := by decide +kernel
theorem d_M_holds_12 : decode b_M_holds 12 = .ok (.iconst 0, 1) := by decide +kernel
theorem d_M_holds_13 : decode b_M_holds 13 = .ok (.goto 80, 3) := by decide +kernel
theorem d_M_holds_16 : decode b_M_holds 16 = .ok (.iload_n 0, 1) := by decide +kernel
theorem d_M_holds_17 : decode b_M_holds 17 = .ok (.iconst 1, 1) := by decide +kernel
theorem d_M_holds_18 : decode b_M_holds 18 = .ok (.if_icmp .ne 15, 3) := by decide +kernel
theorem d_M_holds_21 : decode b_M_holds 21 = .ok (.iload_n 1, 1) := by decide +kernel
theorem d_M_holds_22 : decode b_M_holds 22 = .ok (.ifCond .eq 7, 3) := by decide +kernel
theorem d_M_holds_25 : decode b_M_holds 25 = .ok (.iconst 1, 1) := by decide +kernel
theorem d_M_holds_26 : decode b_M_holds 26 = .ok (.goto 67, 3) := by decide +kernel
theorem d_M_holds_29 : decode b_M_holds 29 = .ok (.iconst 0, 1) := by decide +kernel
theorem d_M_holds_30 : decode b_M_holds 30 = .ok (.goto 63, 3) := by decide +kernel
theorem d_M_holds_33 : decode b_M_holds 33 = .ok (.iload_n 0, 1) := by decide +kernel
theorem d_M_holds_34 : decode b_M_holds 34 = .ok (.iconst 2, 1) := by decide +kernel
theorem d_M_holds_35 : decode b_M_holds 35 = .ok (.if_icmp .ne 15, 3) := by decide +kernel
theorem d_M_holds_38 : decode b_M_holds 38 = .ok (.iload_n 1, 1) := by decide +kernel
theorem d_M_holds_39 : decode b_M_holds 39 = .ok (.ifCond .ge 7, 3) := by decide +kernel
theorem d_M_holds_42 : decode b_M_holds 42 = .ok (.iconst 1, 1) := by decide +kernel
theorem d_M_holds_43 : decode b_M_holds 43 = .ok (.goto 50, 3) := by decide +kernel
theorem d_M_holds_46 : decode b_M_holds 46 = .ok (.iconst 0, 1) := by decide +kernel
theorem d_M_holds_47 : decode b_M_holds 47 = .ok (.goto 46, 3) := by decide +kernel
theorem d_M_holds_50 : decode b_M_holds 50 = .ok (.iload_n 0, 1) := by decide +kernel
theorem d_M_holds_51 : decode b_M_holds 51 = .ok (.iconst 3, 1) := by decide +kernel
theorem d_M_holds_52 : decode b_M_holds 52 = .ok (.if_icmp .ne 15, 3) := by decide +kernel
theorem d_M_holds_55 : decode b_M_holds 55 = .ok (.iload_n 1, 1) := by decide +kernel
theorem d_M_holds_56 : decode b_M_holds 56 = .ok (.ifCond .gt 7, 3) := by decide +kernel
theorem d_M_holds_59 : decode b_M_holds 59 = .ok (.iconst 1, 1) := by decide +kernel
theorem d_M_holds_60 : decode b_M_holds 60 = .ok (.goto 33, 3) := by decide +kernel
