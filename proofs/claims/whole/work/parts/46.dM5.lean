theorem d_M_isIn_32 : decode b_M_isIn 32 = .ok (.iload_n 2, 1) := by decide +kernel
theorem d_M_isIn_33 : decode b_M_isIn 33 = .ok (.sipush 17632, 3) := by decide +kernel
theorem d_M_isIn_36 : decode b_M_isIn 36 = .ok (.aload_n 0, 1) := by decide +kernel
theorem d_M_isIn_37 : decode b_M_isIn 37 = .ok (.getfield 67, 3) := by decide +kernel
theorem d_M_isIn_40 : decode b_M_isIn 40 = .ok (.iload_n 1, 1) := by decide +kernel
theorem d_M_isIn_41 : decode b_M_isIn 41 = .ok (.iaload, 1) := by decide +kernel
theorem d_M_isIn_42 : decode b_M_isIn 42 = .ok (.iadd, 1) := by decide +kernel
theorem d_M_isIn_43 : decode b_M_isIn 43 = .ok (.iload 4, 2) := by decide +kernel
theorem d_M_isIn_45 : decode b_M_isIn 45 = .ok (.iadd, 1) := by decide +kernel
theorem d_M_isIn_46 : decode b_M_isIn 46 = .ok (.invokevirtual 116, 3) := by decide +kernel
theorem d_M_isIn_49 : decode b_M_isIn 49 = .ok (.ifCond .ne 7, 3) := by decide +kernel
theorem d_M_isIn_52 : decode b_M_isIn 52 = .ok (.iconst 1, 1) := by decide +kernel
theorem d_M_isIn_53 : decode b_M_isIn 53 = .ok (.goto 4, 3) := by decide +kernel
theorem d_M_isIn_56 : decode b_M_isIn 56 = .ok (.iconst 0, 1) := by decide +kernel
theorem d_M_isIn_57 : decode b_M_isIn 57 = .ok (.istore_n 3, 1) := by decide +kernel
theorem d_M_isIn_58 : decode b_M_isIn 58 = .ok (.iinc 4 1, 3) := by decide +kernel
theorem d_M_isIn_61 : decode b_M_isIn 61 = .ok (.goto (-56), 3) := by decide +kernel
theorem d_M_isIn_64 : decode b_M_isIn 64 = .ok (.iload_n 3, 1) := by decide +kernel
theorem d_M_isIn_65 : decode b_M_isIn 65 = .ok (.ireturn, 1) := by decide +kernel
theorem d_M_mayBeNone_0 : decode b_M_mayBeNone 0 = .ok (.aload_n 0, 1) := by decide +kernel
theorem d_M_mayBeNone_1 : decode b_M_mayBeNone 1 = .ok (.getfield 61, 3) := by decide +kernel
theorem d_M_mayBeNone_4 : decode b_M_mayBeNone 4 = .ok (.iload_n 1, 1) := by decide +kernel
theorem d_M_mayBeNone_5 : decode b_M_mayBeNone 5 = .ok (.iaload, 1) := by decide +kernel
theorem d_M_mayBeNone_6 : decode b_M_mayBeNone 6 = .ok (.istore_n 2, 1) := by decide +kernel
theorem d_M_mayBeNone_7 : decode b_M_mayBeNone 7 = .ok (.aload_n 0, 1) := by decide +kernel
theorem d_M_mayBeNone_8 : decode b_M_mayBeNone 8 = .ok (.getfield 42, 3) := by decide +kernel
theorem d_M_mayBeNone_11 : decode b_M_mayBeNone 11 = .ok (.iload_n 2, 1) := by decide +kernel
theorem d_M_mayBeNone_12 : decode b_M_mayBeNone 12 = .ok (.iaload, 1) := by decide +kernel
theorem d_M_mayBeNone_13 : decode b_M_mayBeNone 13 = .ok (.ifCond .ne 43, 3) := by decide +kernel
theorem d_M_mayBeNone_16 : decode b_M_mayBeNone 16 = .ok (.aload_n 0, 1) := by decide +kernel
theorem d_M_mayBeNone_17 : decode b_M_mayBeNone 17 = .ok (.aload_n 0, 1) := by decide +kernel
theorem d_M_mayBeNone_18 : decode b_M_mayBeNone 18 = .ok (.getfield 27, 3) := by decide +kernel
theorem d_M_mayBeNone_21 : decode b_M_mayBeNone 21 = .ok (.iload_n 2, 1) := by decide +kernel
theorem d_M_mayBeNone_22 : decode b_M_mayBeNone 22 = .ok (.iaload, 1) := by decide +kernel
theorem d_M_mayBeNone_23 : decode b_M_mayBeNone 23 = .ok (.sipush 16000, 3) := by decide +kernel
theorem d_M_mayBeNone_26 : decode b_M_mayBeNone 26 = .ok (.iload_n 2, 1) := by decide +kernel
theorem d_M_mayBeNone_27 : decode b_M_mayBeNone 27 = .ok (.iadd, 1) := by decide +kernel
theorem d_M_mayBeNone_28 : decode b_M_mayBeNone 28 = .ok (.sipush 16016, 3) := by decide +kernel
theorem d_M_mayBeNone_31 : decode b_M_mayBeNone 31 = .ok (.iload_n 2, 1) := by decide +kernel
theorem d_M_mayBeNone_32 : decode b_M_mayBeNone 32 = .ok (.iadd, 1) := by decide +kernel
theorem d_M_mayBeNone_33 : decode b_M_mayBeNone 33 = .ok (.invokevirtual 116, 3) := by decide +kernel
theorem d_M_mayBeNone_36 : decode b_M_mayBeNone 36 = .ok (.ifCond .ne 16, 3) := by decide +kernel
theorem d_M_mayBeNone_39 : decode b_M_mayBeNone 39 = .ok (.aload_n 0, 1) := by decide +kernel
theorem d_M_mayBeNone_40 : decode b_M_mayBeNone 40 = .ok (.iload_n 1, 1) := by decide +kernel
theorem d_M_mayBeNone_41 : decode b_M_mayBeNone 41 = .ok (.sipush 16000, 3) := by decide +kernel
theorem d_M_mayBeNone_44 : decode b_M_mayBeNone 44 = .ok (.iload_n 2, 1) := by decide +kernel
theorem d_M_mayBeNone_45 : decode b_M_mayBeNone 45 = .ok (.iadd, 1) := by decide +kernel
theorem d_M_mayBeNone_46 : decode b_M_mayBeNone 46 = .ok (.invokevirtual 160, 3) := by decide +kernel
theorem d_M_mayBeNone_49 : decode b_M_mayBeNone 49 = .ok (.ifCond .ne 7, 3) := by decide +kernel
theorem d_M_mayBeNone_52 : decode b_M_mayBeNone 52 = .ok (.iconst 1, 1) := by decide +kernel
theorem d_M_mayBeNone_53 : decode b_M_mayBeNone 53 = .ok (.goto 4, 3) := by decide +kernel
theorem d_M_mayBeNone_56 : decode b_M_mayBeNone 56 = .ok (.iconst 0, 1) := by decide +kernel
theorem d_M_mayBeNone_57 : decode b_M_mayBeNone 57 = .ok (.istore_n 3, 1) := by decide +kernel
theorem d_M_mayBeNone_58 : decode b_M_mayBeNone 58 = .ok (.iconst 0, 1) := by decide +kernel
theorem d_M_mayBeNone_59 : decode b_M_mayBeNone 59 = .ok (.istore 4, 2) := by decide +kernel
theorem d_M_mayBeNone_61 : decode b_M_mayBeNone 61 = .ok (.iload 4, 2) := by decide +kernel
theorem d_M_mayBeNone_63 : decode b_M_mayBeNone 63 = .ok (.aload_n 0, 1) := by decide +kernel
theorem d_M_mayBeNone_64 : decode b_M_mayBeNone 64 = .ok (.getfield 42, 3) := by decide +kernel
theorem d_M_mayBeNone_67 : decode b_M_mayBeNone 67 = .ok (.iload_n 2, 1) := by decide +kernel
theorem d_M_mayBeNone_68 : decode b_M_mayBeNone 68 = .ok (.iaload, 1) := by decide +kernel
theorem d_M_mayBeNone_69 : decode b_M_mayBeNone 69 = .ok (.if_icmp .ge 38, 3) := by decide +kernel
theorem d_M_mayBeNone_72 : decode b_M_mayBeNone 72 = .ok (.iload_n 3, 1) := by decide +kernel
theorem d_M_mayBeNone_73 : decode b_M_mayBeNone 73 = .ok (.ifCond .ne 22, 3) := by decide +kernel
theorem d_M_mayBeNone_76 : decode b_M_mayBeNone 76 = .ok (.aload_n 0, 1) := by decide +kernel
theorem d_M_mayBeNone_77 : decode b_M_mayBeNone 77 = .ok (.iload_n 1, 1) := by decide +kernel
theorem d_M_mayBeNone_78 : decode b_M_mayBeNone 78 = .ok (.sipush 16032, 3) := by decide +kernel
theorem d_M_mayBeNone_81 : decode b_M_mayBeNone 81 = .ok (.bipush 100, 2) := by decide +kernel
theorem d_M_mayBeNone_83 : decode b_M_mayBeNone 83 = .ok (.iload_n 2, 1) := by decide +kernel
theorem d_M_mayBeNone_84 : decode b_M_mayBeNone 84 = .ok (.imul, 1) := by decide +kernel
theorem d_M_mayBeNone_85 : decode b_M_mayBeNone 85 = .ok (.iadd, 1) := by decide +kernel
theorem d_M_mayBeNone_86 : decode b_M_mayBeNone 86 = .ok (.iload 4, 2) := by decide +kernel
theorem d_M_mayBeNone_88 : decode b_M_mayBeNone 88 = .ok (.iadd, 1) := by decide +kernel
theorem d_M_mayBeNone_89 : decode b_M_mayBeNone 89 = .ok (.invokevirtual 160, 3) := by decide +kernel
theorem d_M_mayBeNone_92 : decode b_M_mayBeNone 92 = .ok (.ifCond .ne 7, 3) := by decide +kernel
theorem d_M_mayBeNone_95 : decode b_M_mayBeNone 95 = .ok (.iconst 1, 1) := by decide +kernel
theorem d_M_mayBeNone_96 : decode b_M_mayBeNone 96 = .ok (.goto 4, 3) := by decide +kernel
theorem d_M_mayBeNone_99 : decode b_M_mayBeNone 99 = .ok (.iconst 0, 1) := by decide +kernel
theorem d_M_mayBeNone_100 : decode b_M_mayBeNone 100 = .ok (.istore_n 3, 1) := by decide +kernel
theorem d_M_mayBeNone_101 : decode b_M_mayBeNone 101 = .ok (.iinc 4 1, 3) := by decide +kernel
theorem d_M_mayBeNone_104 : decode b_M_mayBeNone 104 = .ok (.goto (-43), 3) := by decide +kernel
theorem d_M_mayBeNone_107 : decode b_M_mayBeNone 107 = .ok (.iload_n 3, 1) := by decide +kernel
theorem d_M_mayBeNone_108 : decode b_M_mayBeNone 108 = .ok (.ireturn, 1) := by decide +kernel
theorem d_M_contrary_0 : decode b_M_contrary 0 = .ok (.iload_n 0, 1) := by decide +kernel
theorem d_M_contrary_1 : decode b_M_contrary 1 = .ok (.iconst 2, 1) := by decide +kernel
theorem d_M_contrary_2 : decode b_M_contrary 2 = .ok (.if_icmp .ge 9, 3) := by decide +kernel
theorem d_M_contrary_5 : decode b_M_contrary 5 = .ok (.iconst 1, 1) := by decide +kernel
theorem d_M_contrary_6 : decode b_M_contrary 6 = .ok (.iload_n 0, 1) := by decide +kernel
theorem d_M_contrary_7 : decode b_M_contrary 7 = .ok (.isub, 1) := by decide +kernel
theorem d_M_contrary_8 : decode b_M_contrary 8 = .ok (.goto 7, 3) := by decide +kernel
theorem d_M_contrary_11 : decode b_M_contrary 11 = .ok (.bipush 7, 2) := by decide +kernel
theorem d_M_contrary_13 : decode b_M_contrary 13 = .ok (.iload_n 0, 1) := by decide +kernel
theorem d_M_contrary_14 : decode b_M_contrary 14 = .ok (.isub, 1) := by decide +kernel
theorem d_M_contrary_15 : decode b_M_contrary 15 = .ok (.ireturn, 1) := by decide +kernel
theorem d_M_canOf_0 : decode b_M_canOf 0 = .ok (.aload_n 0, 1) := by decide +kernel
theorem d_M_canOf_1 : decode b_M_canOf 1 = .ok (.getfield 61, 3) := by decide +kernel
theorem d_M_canOf_4 : decode b_M_canOf 4 = .ok (.iload_n 1, 1) := by decide +kernel
theorem d_M_canOf_5 : decode b_M_canOf 5 = .ok (.iaload, 1) := by decide +kernel
theorem d_M_canOf_6 : decode b_M_canOf 6 = .ok (.istore_n 2, 1) := by decide +kernel
theorem d_M_canOf_7 : decode b_M_canOf 7 = .ok (.aload_n 0, 1) := by decide +kernel
theorem d_M_canOf_8 : decode b_M_canOf 8 = .ok (.getfield 58, 3) := by decide +kernel
theorem d_M_canOf_11 : decode b_M_canOf 11 = .ok (.iload_n 1, 1) := by decide +kernel
theorem d_M_canOf_12 : decode b_M_canOf 12 = .ok (.iaload, 1) := by decide +kernel
theorem d_M_canOf_13 : decode b_M_canOf 13 = .ok (.iconst 4, 1) := by decide +kernel
theorem d_M_canOf_14 : decode b_M_canOf 14 = .ok (.if_icmp .ne 12, 3) := by decide +kernel
theorem d_M_canOf_17 : decode b_M_canOf 17 = .ok (.aload_n 0, 1) := by decide +kernel
theorem d_M_canOf_18 : decode b_M_canOf 18 = .ok (.getfield 67, 3) := by decide +kernel
theorem d_M_canOf_21 : decode b_M_canOf 21 = .ok (.iload_n 1, 1) := by decide +kernel
theorem d_M_canOf_22 : decode b_M_canOf 22 = .ok (.iaload, 1) := by decide +kernel
theorem d_M_canOf_23 : decode b_M_canOf 23 = .ok (.goto 4, 3) := by decide +kernel
theorem d_M_canOf_26 : decode b_M_canOf 26 = .ok (.iload_n 2, 1) := by decide +kernel
theorem d_M_canOf_27 : decode b_M_canOf 27 = .ok (.istore_n 3, 1) := by decide +kernel
theorem d_M_canOf_28 : decode b_M_canOf 28 = .ok (.aload_n 0, 1) := by decide +kernel
theorem d_M_canOf_29 : decode b_M_canOf 29 = .ok (.getfield 45, 3) := by decide +kernel
theorem d_M_canOf_32 : decode b_M_canOf 32 = .ok (.iload_n 2, 1) := by decide +kernel
theorem d_M_canOf_33 : decode b_M_canOf 33 = .ok (.baload, 1) := by decide +kernel
theorem d_M_canOf_34 : decode b_M_canOf 34 = .ok (.ifCond .eq 12, 3) := by decide +kernel
theorem d_M_canOf_37 : decode b_M_canOf 37 = .ok (.aload_n 0, 1) := by decide +kernel
theorem d_M_canOf_38 : decode b_M_canOf 38 = .ok (.getfield 45, 3) := by decide +kernel
theorem d_M_canOf_41 : decode b_M_canOf 41 = .ok (.iload_n 3, 1) := by decide +kernel
theorem d_M_canOf_42 : decode b_M_canOf 42 = .ok (.baload, 1) := by decide +kernel
theorem d_M_canOf_43 : decode b_M_canOf 43 = .ok (.ifCond .ne 20, 3) := by decide +kernel
theorem d_M_canOf_46 : decode b_M_canOf 46 = .ok (.aload_n 0, 1) := by decide +kernel
theorem d_M_canOf_47 : decode b_M_canOf 47 = .ok (.getfield 58, 3) := by decide +kernel
theorem d_M_canOf_50 : decode b_M_canOf 50 = .ok (.iload_n 1, 1) := by decide +kernel
theorem d_M_canOf_51 : decode b_M_canOf 51 = .ok (.iaload, 1) := by decide +kernel
theorem d_M_canOf_52 : decode b_M_canOf 52 = .ok (.iconst 2, 1) := by decide +kernel
theorem d_M_canOf_53 : decode b_M_canOf 53 = .ok (.if_icmp .ge 7, 3) := by decide +kernel
theorem d_M_canOf_56 : decode b_M_canOf 56 = .ok (.iconst 3, 1) := by decide +kernel
theorem d_M_canOf_57 : decode b_M_canOf 57 = .ok (.goto 5, 3) := by decide +kernel
theorem d_M_canOf_60 : decode b_M_canOf 60 = .ok (.bipush 7, 2) := by decide +kernel
theorem d_M_canOf_62 : decode b_M_canOf 62 = .ok (.ireturn, 1) := by decide +kernel
theorem d_M_canOf_63 : decode b_M_canOf 63 = .ok (.aload_n 0, 1) := by decide +kernel
theorem d_M_canOf_64 : decode b_M_canOf 64 = .ok (.getfield 39, 3) := by decide +kernel
theorem d_M_canOf_67 : decode b_M_canOf 67 = .ok (.iload_n 2, 1) := by decide +kernel
theorem d_M_canOf_68 : decode b_M_canOf 68 = .ok (.iaload, 1) := by decide +kernel
theorem d_M_canOf_69 : decode b_M_canOf 69 = .ok (.ifCond .le 7, 3) := by decide +kernel
theorem d_M_canOf_72 : decode b_M_canOf 72 = .ok (.iconst 1, 1) := by decide +kernel
theorem d_M_canOf_73 : decode b_M_canOf 73 = .ok (.goto 4, 3) := by decide +kernel
theorem d_M_canOf_76 : decode b_M_canOf 76 = .ok (.iconst 0, 1) := by decide +kernel
theorem d_M_canOf_77 : decode b_M_canOf 77 = .ok (.istore 4, 2) := by decide +kernel
theorem d_M_canOf_79 : decode b_M_canOf 79 = .ok (.aload_n 0, 1) := by decide +kernel
theorem d_M_canOf_80 : decode b_M_canOf 80 = .ok (.getfield 36, 3) := by decide +kernel
theorem d_M_canOf_83 : decode b_M_canOf 83 = .ok (.iload_n 2, 1) := by decide +kernel
theorem d_M_canOf_84 : decode b_M_canOf 84 = .ok (.iaload, 1) := by decide +kernel
theorem d_M_canOf_85 : decode b_M_canOf 85 = .ok (.aload_n 0, 1) := by decide +kernel
theorem d_M_canOf_86 : decode b_M_canOf 86 = .ok (.getfield 39, 3) := by decide +kernel
theorem d_M_canOf_89 : decode b_M_canOf 89 = .ok (.iload_n 2, 1) := by decide +kernel
theorem d_M_canOf_90 : decode b_M_canOf 90 = .ok (.iaload, 1) := by decide +kernel
theorem d_M_canOf_91 : decode b_M_canOf 91 = .ok (.if_icmp .le 7, 3) := by decide +kernel
theorem d_M_canOf_94 : decode b_M_canOf 94 = .ok (.iconst 1, 1) := by decide +kernel
theorem d_M_canOf_95 : decode b_M_canOf 95 = .ok (.goto 4, 3) := by decide +kernel
theorem d_M_canOf_98 : decode b_M_canOf 98 = .ok (.iconst 0, 1) := by decide +kernel
theorem d_M_canOf_99 : decode b_M_canOf 99 = .ok (.istore 5, 2) := by decide +kernel
theorem d_M_canOf_101 : decode b_M_canOf 101 = .ok (.aload_n 0, 1) := by decide +kernel
theorem d_M_canOf_102 : decode b_M_canOf 102 = .ok (.getfield 58, 3) := by decide +kernel
theorem d_M_canOf_105 : decode b_M_canOf 105 = .ok (.iload_n 1, 1) := by decide +kernel
theorem d_M_canOf_106 : decode b_M_canOf 106 = .ok (.iaload, 1) := by decide +kernel
theorem d_M_canOf_107 : decode b_M_canOf 107 = .ok (.iconst 2, 1) := by decide +kernel
theorem d_M_canOf_108 : decode b_M_canOf 108 = .ok (.if_icmp .ge 59, 3) := by decide +kernel
theorem d_M_canOf_111 : decode b_M_canOf 111 = .ok (.aload_n 0, 1) := by decide +kernel
theorem d_M_canOf_112 : decode b_M_canOf 112 = .ok (.getfield 58, 3) := by decide +kernel
theorem d_M_canOf_115 : decode b_M_canOf 115 = .ok (.iload_n 1, 1) := by decide +kernel
theorem d_M_canOf_116 : decode b_M_canOf 116 = .ok (.iaload, 1) := by decide +kernel
theorem d_M_canOf_117 : decode b_M_canOf 117 = .ok (.ifCond .ne 11, 3) := by decide +kernel
theorem d_M_canOf_120 : decode b_M_canOf 120 = .ok (.iload 4, 2) := by decide +kernel
theorem d_M_canOf_122 : decode b_M_canOf 122 = .ok (.ifCond .eq 15, 3) := by decide +kernel
theorem d_M_canOf_125 : decode b_M_canOf 125 = .ok (.goto 8, 3) := by decide +kernel
theorem d_M_canOf_128 : decode b_M_canOf 128 = .ok (.iload 5, 2) := by decide +kernel
theorem d_M_canOf_130 : decode b_M_canOf 130 = .ok (.ifCond .eq 7, 3) := by decide +kernel
theorem d_M_canOf_133 : decode b_M_canOf 133 = .ok (.iconst 2, 1) := by decide +kernel
theorem d_M_canOf_134 : decode b_M_canOf 134 = .ok (.goto 4, 3) := by decide +kernel
theorem d_M_canOf_137 : decode b_M_canOf 137 = .ok (.iconst 0, 1) := by decide +kernel
theorem d_M_canOf_138 : decode b_M_canOf 138 = .ok (.aload_n 0, 1) := by decide +kernel
theorem d_M_canOf_139 : decode b_M_canOf 139 = .ok (.getfield 58, 3) := by decide +kernel
theorem d_M_canOf_142 : decode b_M_canOf 142 = .ok (.iload_n 1, 1) := by decide +kernel
theorem d_M_canOf_143 : decode b_M_canOf 143 = .ok (.iaload, 1) := by decide +kernel
theorem d_M_canOf_144 : decode b_M_canOf 144 = .ok (.ifCond .ne 11, 3) := by decide +kernel
theorem d_M_canOf_147 : decode b_M_canOf 147 = .ok (.iload 5, 2) := by decide +kernel
theorem d_M_canOf_149 : decode b_M_canOf 149 = .ok (.ifCond .eq 15, 3) := by decide +kernel
theorem d_M_canOf_152 : decode b_M_canOf 152 = .ok (.goto 8, 3) := by decide +kernel
theorem d_M_canOf_155 : decode b_M_canOf 155 = .ok (.iload 4, 2) := by decide +kernel
theorem d_M_canOf_157 : decode b_M_canOf 157 = .ok (.ifCond .eq 7, 3) := by decide +kernel
theorem d_M_canOf_160 : decode b_M_canOf 160 = .ok (.iconst 1, 1) := by decide +kernel
theorem d_M_canOf_161 : decode b_M_canOf 161 = .ok (.goto 4, 3) := by decide +kernel
theorem d_M_canOf_164 : decode b_M_canOf 164 = .ok (.iconst 0, 1) := by decide +kernel
theorem d_M_canOf_165 : decode b_M_canOf 165 = .ok (.iadd, 1) := by decide +kernel
theorem d_M_canOf_166 : decode b_M_canOf 166 = .ok (.ireturn, 1) := by decide +kernel
theorem d_M_canOf_167 : decode b_M_canOf 167 = .ok (.iload 4, 2) := by decide +kernel
theorem d_M_canOf_169 : decode b_M_canOf 169 = .ok (.ifCond .ne 12, 3) := by decide +kernel
theorem d_M_canOf_172 : decode b_M_canOf 172 = .ok (.aload_n 0, 1) := by decide +kernel
theorem d_M_canOf_173 : decode b_M_canOf 173 = .ok (.getfield 39, 3) := by decide +kernel
theorem d_M_canOf_176 : decode b_M_canOf 176 = .ok (.iload_n 3, 1) := by decide +kernel
theorem d_M_canOf_177 : decode b_M_canOf 177 = .ok (.iaload, 1) := by decide +kernel
theorem d_M_canOf_178 : decode b_M_canOf 178 = .ok (.ifCond .le 7, 3) := by decide +kernel
theorem d_M_canOf_181 : decode b_M_canOf 181 = .ok (.iconst 4, 1) := by decide +kernel
theorem d_M_canOf_182 : decode b_M_canOf 182 = .ok (.goto 4, 3) := by decide +kernel
theorem d_M_canOf_185 : decode b_M_canOf 185 = .ok (.iconst 0, 1) := by decide +kernel
theorem d_M_canOf_186 : decode b_M_canOf 186 = .ok (.istore 6, 2) := by decide +kernel
theorem d_M_canOf_188 : decode b_M_canOf 188 = .ok (.iload 5, 2) := by decide +kernel
theorem d_M_canOf_190 : decode b_M_canOf 190 = .ok (.ifCond .eq 18, 3) := by decide +kernel
theorem d_M_canOf_193 : decode b_M_canOf 193 = .ok (.aload_n 0, 1) := by decide +kernel
theorem d_M_canOf_194 : decode b_M_canOf 194 = .ok (.getfield 36, 3) := by decide +kernel
theorem d_M_canOf_197 : decode b_M_canOf 197 = .ok (.iload_n 3, 1) := by decide +kernel
theorem d_M_canOf_198 : decode b_M_canOf 198 = .ok (.iaload, 1) := by decide +kernel
theorem d_M_canOf_199 : decode b_M_canOf 199 = .ok (.aload_n 0, 1) := by decide +kernel
theorem d_M_canOf_200 : decode b_M_canOf 200 = .ok (.getfield 39, 3) := by decide +kernel
theorem d_M_canOf_203 : decode b_M_canOf 203 = .ok (.iload_n 3, 1) := by decide +kernel
theorem d_M_canOf_204 : decode b_M_canOf 204 = .ok (.iaload, 1) := by decide +kernel
theorem d_M_canOf_205 : decode b_M_canOf 205 = .ok (.if_icmp .ne 6, 3) := by decide +kernel
theorem d_M_canOf_208 : decode b_M_canOf 208 = .ok (.iload 6, 2) := by decide +kernel
theorem d_M_canOf_210 : decode b_M_canOf 210 = .ok (.ireturn, 1) := by decide +kernel
theorem d_M_canOf_211 : decode b_M_canOf 211 = .ok (.aload_n 0, 1) := by decide +kernel
theorem d_M_canOf_212 : decode b_M_canOf 212 = .ok (.getfield 58, 3) := by decide +kernel
theorem d_M_canOf_215 : decode b_M_canOf 215 = .ok (.iload_n 1, 1) := by decide +kernel
theorem d_M_canOf_216 : decode b_M_canOf 216 = .ok (.iaload, 1) := by decide +kernel
theorem d_M_canOf_217 : decode b_M_canOf 217 = .ok (.iconst 4, 1) := by decide +kernel
theorem d_M_canOf_218 : decode b_M_canOf 218 = .ok (.if_icmp .ne 18, 3) := by decide +kernel
theorem d_M_canOf_221 : decode b_M_canOf 221 = .ok (.aload_n 0, 1) := by decide +kernel
theorem d_M_canOf_222 : decode b_M_canOf 222 = .ok (.iload_n 2, 1) := by decide +kernel
theorem d_M_canOf_223 : decode b_M_canOf 223 = .ok (.aload_n 0, 1) := by decide +kernel
theorem d_M_canOf_224 : decode b_M_canOf 224 = .ok (.getfield 64, 3) := by decide +kernel
theorem d_M_canOf_227 : decode b_M_canOf 227 = .ok (.iload_n 1, 1) := by decide +kernel
theorem d_M_canOf_228 : decode b_M_canOf 228 = .ok (.iaload, 1) := by decide +kernel
theorem d_M_canOf_229 : decode b_M_canOf 229 = .ok (.iload_n 3, 1) := by decide +kernel
theorem d_M_canOf_230 : decode b_M_canOf 230 = .ok (.invokevirtual 163, 3) := by decide +kernel
theorem d_M_canOf_233 : decode b_M_canOf 233 = .ok (.goto 42, 3) := by decide +kernel
theorem d_M_canOf_236 : decode b_M_canOf 236 = .ok (.aload_n 0, 1) := by decide +kernel
theorem d_M_canOf_237 : decode b_M_canOf 237 = .ok (.getfield 58, 3) := by decide +kernel
theorem d_M_canOf_240 : decode b_M_canOf 240 = .ok (.iload_n 1, 1) := by decide +kernel
theorem d_M_canOf_241 : decode b_M_canOf 241 = .ok (.iaload, 1) := by decide +kernel
theorem d_M_canOf_242 : decode b_M_canOf 242 = .ok (.iconst 3, 1) := by decide +kernel
theorem d_M_canOf_243 : decode b_M_canOf 243 = .ok (.if_icmp .ne 31, 3) := by decide +kernel
theorem d_M_canOf_246 : decode b_M_canOf 246 = .ok (.aload_n 0, 1) := by decide +kernel
theorem d_M_canOf_247 : decode b_M_canOf 247 = .ok (.iload_n 2, 1) := by decide +kernel
theorem d_M_canOf_248 : decode b_M_canOf 248 = .ok (.aload_n 0, 1) := by decide +kernel
theorem d_M_canOf_249 : decode b_M_canOf 249 = .ok (.getfield 64, 3) := by decide +kernel
theorem d_M_canOf_252 : decode b_M_canOf 252 = .ok (.iload_n 1, 1) := by decide +kernel
theorem d_M_canOf_253 : decode b_M_canOf 253 = .ok (.iaload, 1) := by decide +kernel
theorem d_M_canOf_254 : decode b_M_canOf 254 = .ok (.sipush 17632, 3) := by decide +kernel
theorem d_M_canOf_257 : decode b_M_canOf 257 = .ok (.aload_n 0, 1) := by decide +kernel
theorem d_M_canOf_258 : decode b_M_canOf 258 = .ok (.getfield 67, 3) := by decide +kernel
theorem d_M_canOf_261 : decode b_M_canOf 261 = .ok (.iload_n 1, 1) := by decide +kernel
theorem d_M_canOf_262 : decode b_M_canOf 262 = .ok (.iaload, 1) := by decide +kernel
theorem d_M_canOf_263 : decode b_M_canOf 263 = .ok (.iadd, 1) := by decide +kernel
theorem d_M_canOf_264 : decode b_M_canOf 264 = .ok (.invokevirtual 166, 3) := by decide +kernel
theorem d_M_canOf_267 : decode b_M_canOf 267 = .ok (.ifCond .eq 7, 3) := by decide +kernel
theorem d_M_canOf_270 : decode b_M_canOf 270 = .ok (.iconst 1, 1) := by decide +kernel
theorem d_M_canOf_271 : decode b_M_canOf 271 = .ok (.goto 4, 3) := by decide +kernel
theorem d_M_canOf_274 : decode b_M_canOf 274 = .ok (.iconst 0, 1) := by decide +kernel
theorem d_M_canOf_275 : decode b_M_canOf 275 = .ok (.istore 7, 2) := by decide +kernel
theorem d_M_canOf_277 : decode b_M_canOf 277 = .ok (.iconst 0, 1) := by decide +kernel
theorem d_M_canOf_278 : decode b_M_canOf 278 = .ok (.istore 8, 2) := by decide +kernel
theorem d_M_canOf_280 : decode b_M_canOf 280 = .ok (.iload 8, 2) := by decide +kernel
theorem d_M_canOf_282 : decode b_M_canOf 282 = .ok (.aload_n 0, 1) := by decide +kernel
theorem d_M_canOf_283 : decode b_M_canOf 283 = .ok (.getfield 70, 3) := by decide +kernel
theorem d_M_canOf_286 : decode b_M_canOf 286 = .ok (.iload_n 1, 1) := by decide +kernel
theorem d_M_canOf_287 : decode b_M_canOf 287 = .ok (.iaload, 1) := by decide +kernel
theorem d_M_canOf_288 : decode b_M_canOf 288 = .ok (.if_icmp .ge 53, 3) := by decide +kernel
theorem d_M_canOf_291 : decode b_M_canOf 291 = .ok (.aload_n 0, 1) := by decide +kernel
theorem d_M_canOf_292 : decode b_M_canOf 292 = .ok (.getfield 58, 3) := by decide +kernel
theorem d_M_canOf_295 : decode b_M_canOf 295 = .ok (.iload_n 1, 1) := by decide +kernel
theorem d_M_canOf_296 : decode b_M_canOf 296 = .ok (.iaload, 1) := by decide +kernel
theorem d_M_canOf_297 : decode b_M_canOf 297 = .ok (.iconst 2, 1) := by decide +kernel
theorem d_M_canOf_298 : decode b_M_canOf 298 = .ok (.if_icmp .ne 43, 3) := by decide +kernel
theorem d_M_canOf_301 : decode b_M_canOf 301 = .ok (.iload 7, 2) := by decide +kernel
theorem d_M_canOf_303 : decode b_M_canOf 303 = .ok (.ifCond .ne 25, 3) := by decide +kernel
theorem d_M_canOf_306 : decode b_M_canOf 306 = .ok (.aload_n 0, 1) := by decide +kernel
theorem d_M_canOf_307 : decode b_M_canOf 307 = .ok (.iload_n 2, 1) := by decide +kernel
theorem d_M_canOf_308 : decode b_M_canOf 308 = .ok (.iconst 0, 1) := by decide +kernel
theorem d_M_canOf_309 : decode b_M_canOf 309 = .ok (.sipush 17632, 3) := by decide +kernel
theorem d_M_canOf_312 : decode b_M_canOf 312 = .ok (.aload_n 0, 1) := by decide +kernel
theorem d_M_canOf_313 : decode b_M_canOf 313 = .ok (.getfield 67, 3) := by decide +kernel
theorem d_M_canOf_316 : decode b_M_canOf 316 = .ok (.iload_n 1, 1) := by decide +kernel
theorem d_M_canOf_317 : decode b_M_canOf 317 = .ok (.iaload, 1) := by decide +kernel
theorem d_M_canOf_318 : decode b_M_canOf 318 = .ok (.iadd, 1) := by decide +kernel
theorem d_M_canOf_319 : decode b_M_canOf 319 = .ok (.iload 8, 2) := by decide +kernel
theorem d_M_canOf_321 : decode b_M_canOf 321 = .ok (.iadd, 1) := by decide +kernel
theorem d_M_canOf_322 : decode b_M_canOf 322 = .ok (.invokevirtual 166, 3) := by decide +kernel
theorem d_M_canOf_325 : decode b_M_canOf 325 = .ok (.ifCond .eq 7, 3) := by decide +kernel
theorem d_M_canOf_328 : decode b_M_canOf 328 = .ok (.iconst 1, 1) := by decide +kernel
theorem d_M_canOf_329 : decode b_M_canOf 329 = .ok (.goto 4, 3) := by decide +kernel
theorem d_M_canOf_332 : decode b_M_canOf 332 = .ok (.iconst 0, 1) := by decide +kernel
theorem d_M_canOf_333 : decode b_M_canOf 333 = .ok (.istore 7, 2) := by decide +kernel
theorem d_M_canOf_335 : decode b_M_canOf 335 = .ok (.iinc 8 1, 3) := by decide +kernel
theorem d_M_canOf_338 : decode b_M_canOf 338 = .ok (.goto (-58), 3) := by decide +kernel
theorem d_M_canOf_341 : decode b_M_canOf 341 = .ok (.aload_n 0, 1) := by decide +kernel
theorem d_M_canOf_342 : decode b_M_canOf 342 = .ok (.getfield 58, 3) := by decide +kernel
theorem d_M_canOf_345 : decode b_M_canOf 345 = .ok (.iload_n 1, 1) := by decide +kernel
theorem d_M_canOf_346 : decode b_M_canOf 346 = .ok (.iaload, 1) := by decide +kernel
theorem d_M_canOf_347 : decode b_M_canOf 347 = .ok (.iconst 4, 1) := by decide +kernel
theorem d_M_canOf_348 : decode b_M_canOf 348 = .ok (.if_icmp .ne 21, 3) := by decide +kernel
theorem d_M_canOf_351 : decode b_M_canOf 351 = .ok (.aload_n 0, 1) := by decide +kernel
theorem d_M_canOf_352 : decode b_M_canOf 352 = .ok (.iload_n 2, 1) := by decide +kernel
theorem d_M_canOf_353 : decode b_M_canOf 353 = .ok (.aload_n 0, 1) := by decide +kernel
theorem d_M_canOf_354 : decode b_M_canOf 354 = .ok (.getfield 64, 3) := by decide +kernel
theorem d_M_canOf_357 : decode b_M_canOf 357 = .ok (.iload_n 1, 1) := by decide +kernel
theorem d_M_canOf_358 : decode b_M_canOf 358 = .ok (.iaload, 1) := by decide +kernel
theorem d_M_canOf_359 : decode b_M_canOf 359 = .ok (.invokestatic 169, 3) := by decide +kernel
theorem d_M_canOf_362 : decode b_M_canOf 362 = .ok (.iload_n 3, 1) := by decide +kernel
theorem d_M_canOf_363 : decode b_M_canOf 363 = .ok (.invokevirtual 163, 3) := by decide +kernel
theorem d_M_canOf_366 : decode b_M_canOf 366 = .ok (.goto 45, 3) := by decide +kernel
theorem d_M_canOf_369 : decode b_M_canOf 369 = .ok (.aload_n 0, 1) := by decide +kernel
theorem d_M_canOf_370 : decode b_M_canOf 370 = .ok (.getfield 58, 3) := by decide +kernel
theorem d_M_canOf_373 : decode b_M_canOf 373 = .ok (.iload_n 1, 1) := by decide +kernel
theorem d_M_canOf_374 : decode b_M_canOf 374 = .ok (.iaload, 1) := by decide +kernel
theorem d_M_canOf_375 : decode b_M_canOf 375 = .ok (.iconst 3, 1) := by decide +kernel
theorem d_M_canOf_376 : decode b_M_canOf 376 = .ok (.if_icmp .ne 30, 3) := by decide +kernel
theorem d_M_canOf_379 : decode b_M_canOf 379 = .ok (.aload_n 0, 1) := by decide +kernel
theorem d_M_canOf_380 : decode b_M_canOf 380 = .ok (.iload_n 2, 1) := by decide +kernel
theorem d_M_canOf_381 : decode b_M_canOf 381 = .ok (.aload_n 0, 1) := by decide +kernel
theorem d_M_canOf_382 : decode b_M_canOf 382 = .ok (.getfield 64, 3) := by decide +kernel
theorem d_M_canOf_385 : decode b_M_canOf 385 = .ok (.iload_n 1, 1) := by decide +kernel
theorem d_M_canOf_386 : decode b_M_canOf 386 = .ok (.iaload, 1) := by decide +kernel
theorem d_M_canOf_387 : decode b_M_canOf 387 = .ok (.invokestatic 169, 3) := by decide +kernel
theorem d_M_canOf_390 : decode b_M_canOf 390 = .ok (.sipush 17632, 3) := by decide +kernel
theorem d_M_canOf_393 : decode b_M_canOf 393 = .ok (.aload_n 0, 1) := by decide +kernel
theorem d_M_canOf_394 : decode b_M_canOf 394 = .ok (.getfield 67, 3) := by decide +kernel
theorem d_M_canOf_397 : decode b_M_canOf 397 = .ok (.iload_n 1, 1) := by decide +kernel
theorem d_M_canOf_398 : decode b_M_canOf 398 = .ok (.iaload, 1) := by decide +kernel
theorem d_M_canOf_399 : decode b_M_canOf 399 = .ok (.iadd, 1) := by decide +kernel
theorem d_M_canOf_400 : decode b_M_canOf 400 = .ok (.invokevirtual 166, 3) := by decide +kernel
theorem d_M_canOf_403 : decode b_M_canOf 403 = .ok (.goto 8, 3) := by decide +kernel
theorem d_M_canOf_406 : decode b_M_canOf 406 = .ok (.aload_n 0, 1) := by decide +kernel
theorem d_M_canOf_407 : decode b_M_canOf 407 = .ok (.iload_n 1, 1) := by decide +kernel
theorem d_M_canOf_408 : decode b_M_canOf 408 = .ok (.invokevirtual 172, 3) := by decide +kernel
theorem d_M_canOf_411 : decode b_M_canOf 411 = .ok (.istore 8, 2) := by decide +kernel
theorem d_M_canOf_413 : decode b_M_canOf 413 = .ok (.iload 6, 2) := by decide +kernel
theorem d_M_canOf_415 : decode b_M_canOf 415 = .ok (.iload 7, 2) := by decide +kernel
theorem d_M_canOf_417 : decode b_M_canOf 417 = .ok (.ifCond .eq 7, 3) := by decide +kernel
theorem d_M_canOf_420 : decode b_M_canOf 420 = .ok (.iconst 2, 1) := by decide +kernel
theorem d_M_canOf_421 : decode b_M_canOf 421 = .ok (.goto 4, 3) := by decide +kernel
theorem d_M_canOf_424 : decode b_M_canOf 424 = .ok (.iconst 0, 1) := by decide +kernel
theorem d_M_canOf_425 : decode b_M_canOf 425 = .ok (.iadd, 1) := by decide +kernel
theorem d_M_canOf_426 : decode b_M_canOf 426 = .ok (.iload 8, 2) := by decide +kernel
theorem d_M_canOf_428 : decode b_M_canOf 428 = .ok (.ifCond .eq 7, 3) := by decide +kernel
theorem d_M_canOf_431 : decode b_M_canOf 431 = .ok (.iconst 1, 1) := by decide +kernel
theorem d_M_canOf_432 : decode b_M_canOf 432 = .ok (.goto 4, 3) := by decide +kernel
theorem d_M_canOf_435 : decode b_M_canOf 435 = .ok (.iconst 0, 1) := by decide +kernel
theorem d_M_canOf_436 : decode b_M_canOf 436 = .ok (.iadd, 1) := by decide +kernel
theorem d_M_canOf_437 : decode b_M_canOf 437 = .ok (.ireturn, 1) := by decide +kernel
theorem d_M_can_0 : decode b_M_can 0 = .ok (.aload_n 0, 1) := by decide +kernel
theorem d_M_can_1 : decode b_M_can 1 = .ok (.iconst 0, 1) := by decide +kernel
theorem d_M_can_2 : decode b_M_can 2 = .ok (.putfield 79, 3) := by decide +kernel
theorem d_M_can_5 : decode b_M_can 5 = .ok (.aload_n 0, 1) := by decide +kernel
theorem d_M_can_6 : decode b_M_can 6 = .ok (.invokevirtual 138, 3) := by decide +kernel
theorem d_M_can_9 : decode b_M_can 9 = .ok (.ifCond .eq 11, 3) := by decide +kernel
theorem d_M_can_12 : decode b_M_can 12 = .ok (.aload_n 0, 1) := by decide +kernel
theorem d_M_can_13 : decode b_M_can 13 = .ok (.iconst (-1), 1) := by decide +kernel
theorem d_M_can_14 : decode b_M_can 14 = .ok (.invokevirtual 142, 3) := by decide +kernel
theorem d_M_can_17 : decode b_M_can 17 = .ok (.goto 4, 3) := by decide +kernel
theorem d_M_can_20 : decode b_M_can 20 = .ok (.iconst (-1), 1) := by decide +kernel
theorem d_M_can_21 : decode b_M_can 21 = .ok (.ireturn, 1) := by decide +kernel
