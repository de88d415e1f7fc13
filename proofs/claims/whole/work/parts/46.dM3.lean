theorem d_M_holds_63 : decode b_M_holds 63 = .ok (.iconst 0, 1) := by decide +kernel
theorem d_M_holds_64 : decode b_M_holds 64 = .ok (.goto 29, 3) := by decide +kernel
theorem d_M_holds_67 : decode b_M_holds 67 = .ok (.iload_n 0, 1) := by decide +kernel
theorem d_M_holds_68 : decode b_M_holds 68 = .ok (.iconst 4, 1) := by decide +kernel
theorem d_M_holds_69 : decode b_M_holds 69 = .ok (.if_icmp .ne 15, 3) := by decide +kernel
theorem d_M_holds_72 : decode b_M_holds 72 = .ok (.iload_n 1, 1) := by decide +kernel
theorem d_M_holds_73 : decode b_M_holds 73 = .ok (.ifCond .le 7, 3) := by decide +kernel
theorem d_M_holds_76 : decode b_M_holds 76 = .ok (.iconst 1, 1) := by decide +kernel
theorem d_M_holds_77 : decode b_M_holds 77 = .ok (.goto 16, 3) := by decide +kernel
theorem d_M_holds_80 : decode b_M_holds 80 = .ok (.iconst 0, 1) := by decide +kernel
theorem d_M_holds_81 : decode b_M_holds 81 = .ok (.goto 12, 3) := by decide +kernel
theorem d_M_holds_84 : decode b_M_holds 84 = .ok (.iload_n 1, 1) := by decide +kernel
theorem d_M_holds_85 : decode b_M_holds 85 = .ok (.ifCond .lt 7, 3) := by decide +kernel
theorem d_M_holds_88 : decode b_M_holds 88 = .ok (.iconst 1, 1) := by decide +kernel
theorem d_M_holds_89 : decode b_M_holds 89 = .ok (.goto 4, 3) := by decide +kernel
theorem d_M_holds_92 : decode b_M_holds 92 = .ok (.iconst 0, 1) := by decide +kernel
theorem d_M_holds_93 : decode b_M_holds 93 = .ok (.ireturn, 1) := by decide +kernel
theorem d_M_truthOf_0 : decode b_M_truthOf 0 = .ok (.sipush 1000, 3) := by decide +kernel
theorem d_M_truthOf_3 : decode b_M_truthOf 3 = .ok (.aload_n 0, 1) := by decide +kernel
theorem d_M_truthOf_4 : decode b_M_truthOf 4 = .ok (.getfield 61, 3) := by decide +kernel
theorem d_M_truthOf_7 : decode b_M_truthOf 7 = .ok (.iload_n 1, 1) := by decide +kernel
theorem d_M_truthOf_8 : decode b_M_truthOf 8 = .ok (.iaload, 1) := by decide +kernel
theorem d_M_truthOf_9 : decode b_M_truthOf 9 = .ok (.imul, 1) := by decide +kernel
theorem d_M_truthOf_10 : decode b_M_truthOf 10 = .ok (.iload_n 2, 1) := by decide +kernel
theorem d_M_truthOf_11 : decode b_M_truthOf 11 = .ok (.iadd, 1) := by decide +kernel
theorem d_M_truthOf_12 : decode b_M_truthOf 12 = .ok (.istore_n 3, 1) := by decide +kernel
theorem d_M_truthOf_13 : decode b_M_truthOf 13 = .ok (.aload_n 0, 1) := by decide +kernel
theorem d_M_truthOf_14 : decode b_M_truthOf 14 = .ok (.getfield 27, 3) := by decide +kernel
theorem d_M_truthOf_17 : decode b_M_truthOf 17 = .ok (.aload_n 0, 1) := by decide +kernel
theorem d_M_truthOf_18 : decode b_M_truthOf 18 = .ok (.getfield 61, 3) := by decide +kernel
theorem d_M_truthOf_21 : decode b_M_truthOf 21 = .ok (.iload_n 1, 1) := by decide +kernel
theorem d_M_truthOf_22 : decode b_M_truthOf 22 = .ok (.iaload, 1) := by decide +kernel
theorem d_M_truthOf_23 : decode b_M_truthOf 23 = .ok (.iaload, 1) := by decide +kernel
theorem d_M_truthOf_24 : decode b_M_truthOf 24 = .ok (.istore 4, 2) := by decide +kernel
theorem d_M_truthOf_26 : decode b_M_truthOf 26 = .ok (.aload_n 0, 1) := by decide +kernel
theorem d_M_truthOf_27 : decode b_M_truthOf 27 = .ok (.getfield 58, 3) := by decide +kernel
theorem d_M_truthOf_30 : decode b_M_truthOf 30 = .ok (.iload_n 1, 1) := by decide +kernel
theorem d_M_truthOf_31 : decode b_M_truthOf 31 = .ok (.iaload, 1) := by decide +kernel
theorem d_M_truthOf_32 : decode b_M_truthOf 32 = .ok (.iconst 2, 1) := by decide +kernel
theorem d_M_truthOf_33 : decode b_M_truthOf 33 = .ok (.if_icmp .ge 33, 3) := by decide +kernel
theorem d_M_truthOf_36 : decode b_M_truthOf 36 = .ok (.aload_n 0, 1) := by decide +kernel
theorem d_M_truthOf_37 : decode b_M_truthOf 37 = .ok (.getfield 52, 3) := by decide +kernel
theorem d_M_truthOf_40 : decode b_M_truthOf 40 = .ok (.iload_n 3, 1) := by decide +kernel
theorem d_M_truthOf_41 : decode b_M_truthOf 41 = .ok (.baload, 1) := by decide +kernel
theorem d_M_truthOf_42 : decode b_M_truthOf 42 = .ok (.aload_n 0, 1) := by decide +kernel
theorem d_M_truthOf_43 : decode b_M_truthOf 43 = .ok (.getfield 58, 3) := by decide +kernel
theorem d_M_truthOf_46 : decode b_M_truthOf 46 = .ok (.iload_n 1, 1) := by decide +kernel
theorem d_M_truthOf_47 : decode b_M_truthOf 47 = .ok (.iaload, 1) := by decide +kernel
theorem d_M_truthOf_48 : decode b_M_truthOf 48 = .ok (.iconst 1, 1) := by decide +kernel
theorem d_M_truthOf_49 : decode b_M_truthOf 49 = .ok (.if_icmp .ne 7, 3) := by decide +kernel
theorem d_M_truthOf_52 : decode b_M_truthOf 52 = .ok (.iconst 1, 1) := by decide +kernel
theorem d_M_truthOf_53 : decode b_M_truthOf 53 = .ok (.goto 4, 3) := by decide +kernel
theorem d_M_truthOf_56 : decode b_M_truthOf 56 = .ok (.iconst 0, 1) := by decide +kernel
theorem d_M_truthOf_57 : decode b_M_truthOf 57 = .ok (.if_icmp .ne 7, 3) := by decide +kernel
theorem d_M_truthOf_60 : decode b_M_truthOf 60 = .ok (.iconst 2, 1) := by decide +kernel
theorem d_M_truthOf_61 : decode b_M_truthOf 61 = .ok (.goto 4, 3) := by decide +kernel
theorem d_M_truthOf_64 : decode b_M_truthOf 64 = .ok (.iconst 1, 1) := by decide +kernel
theorem d_M_truthOf_65 : decode b_M_truthOf 65 = .ok (.ireturn, 1) := by decide +kernel
theorem d_M_truthOf_66 : decode b_M_truthOf 66 = .ok (.aload_n 0, 1) := by decide +kernel
theorem d_M_truthOf_67 : decode b_M_truthOf 67 = .ok (.getfield 58, 3) := by decide +kernel
theorem d_M_truthOf_70 : decode b_M_truthOf 70 = .ok (.iload_n 1, 1) := by decide +kernel
theorem d_M_truthOf_71 : decode b_M_truthOf 71 = .ok (.iaload, 1) := by decide +kernel
theorem d_M_truthOf_72 : decode b_M_truthOf 72 = .ok (.iconst 4, 1) := by decide +kernel
theorem d_M_truthOf_73 : decode b_M_truthOf 73 = .ok (.if_icmp .ne 18, 3) := by decide +kernel
theorem d_M_truthOf_76 : decode b_M_truthOf 76 = .ok (.sipush 1000, 3) := by decide +kernel
theorem d_M_truthOf_79 : decode b_M_truthOf 79 = .ok (.aload_n 0, 1) := by decide +kernel
theorem d_M_truthOf_80 : decode b_M_truthOf 80 = .ok (.getfield 67, 3) := by decide +kernel
theorem d_M_truthOf_83 : decode b_M_truthOf 83 = .ok (.iload_n 1, 1) := by decide +kernel
theorem d_M_truthOf_84 : decode b_M_truthOf 84 = .ok (.iaload, 1) := by decide +kernel
theorem d_M_truthOf_85 : decode b_M_truthOf 85 = .ok (.imul, 1) := by decide +kernel
theorem d_M_truthOf_86 : decode b_M_truthOf 86 = .ok (.iload_n 2, 1) := by decide +kernel
theorem d_M_truthOf_87 : decode b_M_truthOf 87 = .ok (.iadd, 1) := by decide +kernel
theorem d_M_truthOf_88 : decode b_M_truthOf 88 = .ok (.goto 13, 3) := by decide +kernel
theorem d_M_truthOf_91 : decode b_M_truthOf 91 = .ok (.sipush 17632, 3) := by decide +kernel
theorem d_M_truthOf_94 : decode b_M_truthOf 94 = .ok (.aload_n 0, 1) := by decide +kernel
theorem d_M_truthOf_95 : decode b_M_truthOf 95 = .ok (.getfield 67, 3) := by decide +kernel
theorem d_M_truthOf_98 : decode b_M_truthOf 98 = .ok (.iload_n 1, 1) := by decide +kernel
theorem d_M_truthOf_99 : decode b_M_truthOf 99 = .ok (.iaload, 1) := by decide +kernel
theorem d_M_truthOf_100 : decode b_M_truthOf 100 = .ok (.iadd, 1) := by decide +kernel
theorem d_M_truthOf_101 : decode b_M_truthOf 101 = .ok (.istore 5, 2) := by decide +kernel
theorem d_M_truthOf_103 : decode b_M_truthOf 103 = .ok (.aload_n 0, 1) := by decide +kernel
theorem d_M_truthOf_104 : decode b_M_truthOf 104 = .ok (.getfield 52, 3) := by decide +kernel
theorem d_M_truthOf_107 : decode b_M_truthOf 107 = .ok (.iload_n 3, 1) := by decide +kernel
theorem d_M_truthOf_108 : decode b_M_truthOf 108 = .ok (.baload, 1) := by decide +kernel
theorem d_M_truthOf_109 : decode b_M_truthOf 109 = .ok (.ifCond .eq 23, 3) := by decide +kernel
theorem d_M_truthOf_112 : decode b_M_truthOf 112 = .ok (.aload_n 0, 1) := by decide +kernel
theorem d_M_truthOf_113 : decode b_M_truthOf 113 = .ok (.getfield 58, 3) := by decide +kernel
theorem d_M_truthOf_116 : decode b_M_truthOf 116 = .ok (.iload_n 1, 1) := by decide +kernel
theorem d_M_truthOf_117 : decode b_M_truthOf 117 = .ok (.iaload, 1) := by decide +kernel
theorem d_M_truthOf_118 : decode b_M_truthOf 118 = .ok (.iconst 4, 1) := by decide +kernel
theorem d_M_truthOf_119 : decode b_M_truthOf 119 = .ok (.if_icmp .ne 15, 3) := by decide +kernel
theorem d_M_truthOf_122 : decode b_M_truthOf 122 = .ok (.aload_n 0, 1) := by decide +kernel
theorem d_M_truthOf_123 : decode b_M_truthOf 123 = .ok (.getfield 52, 3) := by decide +kernel
theorem d_M_truthOf_126 : decode b_M_truthOf 126 = .ok (.iload 5, 2) := by decide +kernel
theorem d_M_truthOf_128 : decode b_M_truthOf 128 = .ok (.baload, 1) := by decide +kernel
theorem d_M_truthOf_129 : decode b_M_truthOf 129 = .ok (.ifCond .ne 5, 3) := by decide +kernel
theorem d_M_truthOf_132 : decode b_M_truthOf 132 = .ok (.iconst 4, 1) := by decide +kernel
theorem d_M_truthOf_133 : decode b_M_truthOf 133 = .ok (.ireturn, 1) := by decide +kernel
theorem d_M_truthOf_134 : decode b_M_truthOf 134 = .ok (.aload_n 0, 1) := by decide +kernel
theorem d_M_truthOf_135 : decode b_M_truthOf 135 = .ok (.getfield 58, 3) := by decide +kernel
theorem d_M_truthOf_138 : decode b_M_truthOf 138 = .ok (.iload_n 1, 1) := by decide +kernel
theorem d_M_truthOf_139 : decode b_M_truthOf 139 = .ok (.iaload, 1) := by decide +kernel
theorem d_M_truthOf_140 : decode b_M_truthOf 140 = .ok (.iconst 2, 1) := by decide +kernel
theorem d_M_truthOf_141 : decode b_M_truthOf 141 = .ok (.if_icmp .le 30, 3) := by decide +kernel
theorem d_M_truthOf_144 : decode b_M_truthOf 144 = .ok (.aload_n 0, 1) := by decide +kernel
theorem d_M_truthOf_145 : decode b_M_truthOf 145 = .ok (.getfield 64, 3) := by decide +kernel
theorem d_M_truthOf_148 : decode b_M_truthOf 148 = .ok (.iload_n 1, 1) := by decide +kernel
theorem d_M_truthOf_149 : decode b_M_truthOf 149 = .ok (.iaload, 1) := by decide +kernel
theorem d_M_truthOf_150 : decode b_M_truthOf 150 = .ok (.aload_n 0, 1) := by decide +kernel
theorem d_M_truthOf_151 : decode b_M_truthOf 151 = .ok (.iload 4, 2) := by decide +kernel
theorem d_M_truthOf_153 : decode b_M_truthOf 153 = .ok (.iload_n 3, 1) := by decide +kernel
theorem d_M_truthOf_154 : decode b_M_truthOf 154 = .ok (.iload 5, 2) := by decide +kernel
theorem d_M_truthOf_156 : decode b_M_truthOf 156 = .ok (.invokevirtual 116, 3) := by decide +kernel
theorem d_M_truthOf_159 : decode b_M_truthOf 159 = .ok (.invokestatic 120, 3) := by decide +kernel
theorem d_M_truthOf_162 : decode b_M_truthOf 162 = .ok (.ifCond .eq 7, 3) := by decide +kernel
theorem d_M_truthOf_165 : decode b_M_truthOf 165 = .ok (.iconst 2, 1) := by decide +kernel
theorem d_M_truthOf_166 : decode b_M_truthOf 166 = .ok (.goto 4, 3) := by decide +kernel
theorem d_M_truthOf_169 : decode b_M_truthOf 169 = .ok (.iconst 1, 1) := by decide +kernel
theorem d_M_truthOf_170 : decode b_M_truthOf 170 = .ok (.ireturn, 1) := by decide +kernel
theorem d_M_truthOf_171 : decode b_M_truthOf 171 = .ok (.iconst 0, 1) := by decide +kernel
theorem d_M_truthOf_172 : decode b_M_truthOf 172 = .ok (.istore 6, 2) := by decide +kernel
theorem d_M_truthOf_174 : decode b_M_truthOf 174 = .ok (.iconst 0, 1) := by decide +kernel
theorem d_M_truthOf_175 : decode b_M_truthOf 175 = .ok (.istore 7, 2) := by decide +kernel
theorem d_M_truthOf_177 : decode b_M_truthOf 177 = .ok (.iload 7, 2) := by decide +kernel
theorem d_M_truthOf_179 : decode b_M_truthOf 179 = .ok (.aload_n 0, 1) := by decide +kernel
theorem d_M_truthOf_180 : decode b_M_truthOf 180 = .ok (.getfield 70, 3) := by decide +kernel
theorem d_M_truthOf_183 : decode b_M_truthOf 183 = .ok (.iload_n 1, 1) := by decide +kernel
theorem d_M_truthOf_184 : decode b_M_truthOf 184 = .ok (.iaload, 1) := by decide +kernel
theorem d_M_truthOf_185 : decode b_M_truthOf 185 = .ok (.if_icmp .ge 36, 3) := by decide +kernel
theorem d_M_truthOf_188 : decode b_M_truthOf 188 = .ok (.iload 6, 2) := by decide +kernel
theorem d_M_truthOf_190 : decode b_M_truthOf 190 = .ok (.ifCond .ne 18, 3) := by decide +kernel
theorem d_M_truthOf_193 : decode b_M_truthOf 193 = .ok (.aload_n 0, 1) := by decide +kernel
theorem d_M_truthOf_194 : decode b_M_truthOf 194 = .ok (.iload 4, 2) := by decide +kernel
theorem d_M_truthOf_196 : decode b_M_truthOf 196 = .ok (.iload_n 3, 1) := by decide +kernel
theorem d_M_truthOf_197 : decode b_M_truthOf 197 = .ok (.iload 5, 2) := by decide +kernel
theorem d_M_truthOf_199 : decode b_M_truthOf 199 = .ok (.iload 7, 2) := by decide +kernel
theorem d_M_truthOf_201 : decode b_M_truthOf 201 = .ok (.iadd, 1) := by decide +kernel
theorem d_M_truthOf_202 : decode b_M_truthOf 202 = .ok (.invokevirtual 116, 3) := by decide +kernel
theorem d_M_truthOf_205 : decode b_M_truthOf 205 = .ok (.ifCond .ne 7, 3) := by decide +kernel
theorem d_M_truthOf_208 : decode b_M_truthOf 208 = .ok (.iconst 1, 1) := by decide +kernel
theorem d_M_truthOf_209 : decode b_M_truthOf 209 = .ok (.goto 4, 3) := by decide +kernel
theorem d_M_truthOf_212 : decode b_M_truthOf 212 = .ok (.iconst 0, 1) := by decide +kernel
theorem d_M_truthOf_213 : decode b_M_truthOf 213 = .ok (.istore 6, 2) := by decide +kernel
theorem d_M_truthOf_215 : decode b_M_truthOf 215 = .ok (.iinc 7 1, 3) := by decide +kernel
theorem d_M_truthOf_218 : decode b_M_truthOf 218 = .ok (.goto (-41), 3) := by decide +kernel
theorem d_M_truthOf_221 : decode b_M_truthOf 221 = .ok (.iload 6, 2) := by decide +kernel
theorem d_M_truthOf_223 : decode b_M_truthOf 223 = .ok (.ifCond .eq 7, 3) := by decide +kernel
theorem d_M_truthOf_226 : decode b_M_truthOf 226 = .ok (.iconst 2, 1) := by decide +kernel
theorem d_M_truthOf_227 : decode b_M_truthOf 227 = .ok (.goto 4, 3) := by decide +kernel
theorem d_M_truthOf_230 : decode b_M_truthOf 230 = .ok (.iconst 1, 1) := by decide +kernel
theorem d_M_truthOf_231 : decode b_M_truthOf 231 = .ok (.ireturn, 1) := by decide +kernel
theorem d_M_turned_0 : decode b_M_turned 0 = .ok (.iload_n 0, 1) := by decide +kernel
theorem d_M_turned_1 : decode b_M_turned 1 = .ok (.iconst 4, 1) := by decide +kernel
theorem d_M_turned_2 : decode b_M_turned 2 = .ok (.iand, 1) := by decide +kernel
theorem d_M_turned_3 : decode b_M_turned 3 = .ok (.iload_n 0, 1) := by decide +kernel
theorem d_M_turned_4 : decode b_M_turned 4 = .ok (.iconst 1, 1) := by decide +kernel
theorem d_M_turned_5 : decode b_M_turned 5 = .ok (.iand, 1) := by decide +kernel
theorem d_M_turned_6 : decode b_M_turned 6 = .ok (.ifCond .le 7, 3) := by decide +kernel
theorem d_M_turned_9 : decode b_M_turned 9 = .ok (.iconst 2, 1) := by decide +kernel
theorem d_M_turned_10 : decode b_M_turned 10 = .ok (.goto 4, 3) := by decide +kernel
theorem d_M_turned_13 : decode b_M_turned 13 = .ok (.iconst 0, 1) := by decide +kernel
theorem d_M_turned_14 : decode b_M_turned 14 = .ok (.iadd, 1) := by decide +kernel
theorem d_M_turned_15 : decode b_M_turned 15 = .ok (.iload_n 0, 1) := by decide +kernel
theorem d_M_turned_16 : decode b_M_turned 16 = .ok (.iconst 2, 1) := by decide +kernel
theorem d_M_turned_17 : decode b_M_turned 17 = .ok (.iand, 1) := by decide +kernel
theorem d_M_turned_18 : decode b_M_turned 18 = .ok (.ifCond .le 7, 3) := by decide +kernel
theorem d_M_turned_21 : decode b_M_turned 21 = .ok (.iconst 1, 1) := by decide +kernel
theorem d_M_turned_22 : decode b_M_turned 22 = .ok (.goto 4, 3) := by decide +kernel
theorem d_M_turned_25 : decode b_M_turned 25 = .ok (.iconst 0, 1) := by decide +kernel
theorem d_M_turned_26 : decode b_M_turned 26 = .ok (.iadd, 1) := by decide +kernel
theorem d_M_turned_27 : decode b_M_turned 27 = .ok (.ireturn, 1) := by decide +kernel
theorem d_M_joined_0 : decode b_M_joined 0 = .ok (.iload_n 0, 1) := by decide +kernel
theorem d_M_joined_1 : decode b_M_joined 1 = .ok (.iconst 4, 1) := by decide +kernel
theorem d_M_joined_2 : decode b_M_joined 2 = .ok (.iand, 1) := by decide +kernel
theorem d_M_joined_3 : decode b_M_joined 3 = .ok (.ifCond .le 10, 3) := by decide +kernel
theorem d_M_joined_6 : decode b_M_joined 6 = .ok (.iload_n 1, 1) := by decide +kernel
theorem d_M_joined_7 : decode b_M_joined 7 = .ok (.bipush 6, 2) := by decide +kernel
theorem d_M_joined_9 : decode b_M_joined 9 = .ok (.iand, 1) := by decide +kernel
theorem d_M_joined_10 : decode b_M_joined 10 = .ok (.ifCond .gt 16, 3) := by decide +kernel
theorem d_M_joined_13 : decode b_M_joined 13 = .ok (.iload_n 1, 1) := by decide +kernel
theorem d_M_joined_14 : decode b_M_joined 14 = .ok (.iconst 4, 1) := by decide +kernel
theorem d_M_joined_15 : decode b_M_joined 15 = .ok (.iand, 1) := by decide +kernel
theorem d_M_joined_16 : decode b_M_joined 16 = .ok (.ifCond .le 14, 3) := by decide +kernel
theorem d_M_joined_19 : decode b_M_joined 19 = .ok (.iload_n 0, 1) := by decide +kernel
theorem d_M_joined_20 : decode b_M_joined 20 = .ok (.bipush 6, 2) := by decide +kernel
theorem d_M_joined_22 : decode b_M_joined 22 = .ok (.iand, 1) := by decide +kernel
theorem d_M_joined_23 : decode b_M_joined 23 = .ok (.ifCond .le 7, 3) := by decide +kernel
theorem d_M_joined_26 : decode b_M_joined 26 = .ok (.iconst 1, 1) := by decide +kernel
theorem d_M_joined_27 : decode b_M_joined 27 = .ok (.goto 4, 3) := by decide +kernel
theorem d_M_joined_30 : decode b_M_joined 30 = .ok (.iconst 0, 1) := by decide +kernel
theorem d_M_joined_31 : decode b_M_joined 31 = .ok (.istore_n 2, 1) := by decide +kernel
theorem d_M_joined_32 : decode b_M_joined 32 = .ok (.iload_n 0, 1) := by decide +kernel
theorem d_M_joined_33 : decode b_M_joined 33 = .ok (.iload_n 1, 1) := by decide +kernel
theorem d_M_joined_34 : decode b_M_joined 34 = .ok (.iand, 1) := by decide +kernel
theorem d_M_joined_35 : decode b_M_joined 35 = .ok (.iconst 2, 1) := by decide +kernel
theorem d_M_joined_36 : decode b_M_joined 36 = .ok (.iand, 1) := by decide +kernel
theorem d_M_joined_37 : decode b_M_joined 37 = .ok (.iload_n 0, 1) := by decide +kernel
theorem d_M_joined_38 : decode b_M_joined 38 = .ok (.iload_n 1, 1) := by decide +kernel
theorem d_M_joined_39 : decode b_M_joined 39 = .ok (.ior, 1) := by decide +kernel
theorem d_M_joined_40 : decode b_M_joined 40 = .ok (.iconst 1, 1) := by decide +kernel
theorem d_M_joined_41 : decode b_M_joined 41 = .ok (.iand, 1) := by decide +kernel
theorem d_M_joined_42 : decode b_M_joined 42 = .ok (.iadd, 1) := by decide +kernel
theorem d_M_joined_43 : decode b_M_joined 43 = .ok (.iload_n 2, 1) := by decide +kernel
theorem d_M_joined_44 : decode b_M_joined 44 = .ok (.ifCond .eq 7, 3) := by decide +kernel
theorem d_M_joined_47 : decode b_M_joined 47 = .ok (.iconst 4, 1) := by decide +kernel
theorem d_M_joined_48 : decode b_M_joined 48 = .ok (.goto 4, 3) := by decide +kernel
theorem d_M_joined_51 : decode b_M_joined 51 = .ok (.iconst 0, 1) := by decide +kernel
theorem d_M_joined_52 : decode b_M_joined 52 = .ok (.iadd, 1) := by decide +kernel
theorem d_M_joined_53 : decode b_M_joined 53 = .ok (.ireturn, 1) := by decide +kernel
theorem d_M_condition_0 : decode b_M_condition 0 = .ok (.iconst 0, 1) := by decide +kernel
theorem d_M_condition_1 : decode b_M_condition 1 = .ok (.istore_n 2, 1) := by decide +kernel
theorem d_M_condition_2 : decode b_M_condition 2 = .ok (.iconst 0, 1) := by decide +kernel
theorem d_M_condition_3 : decode b_M_condition 3 = .ok (.istore_n 3, 1) := by decide +kernel
theorem d_M_condition_4 : decode b_M_condition 4 = .ok (.iload_n 3, 1) := by decide +kernel
theorem d_M_condition_5 : decode b_M_condition 5 = .ok (.aload_n 0, 1) := by decide +kernel
theorem d_M_condition_6 : decode b_M_condition 6 = .ok (.getfield 109, 3) := by decide +kernel
theorem d_M_condition_9 : decode b_M_condition 9 = .ok (.if_icmp .ge 148, 3) := by decide +kernel
theorem d_M_condition_12 : decode b_M_condition 12 = .ok (.aload_n 0, 1) := by decide +kernel
theorem d_M_condition_13 : decode b_M_condition 13 = .ok (.getfield 58, 3) := by decide +kernel
theorem d_M_condition_16 : decode b_M_condition 16 = .ok (.iload_n 3, 1) := by decide +kernel
theorem d_M_condition_17 : decode b_M_condition 17 = .ok (.iaload, 1) := by decide +kernel
theorem d_M_condition_18 : decode b_M_condition 18 = .ok (.iconst 5, 1) := by decide +kernel
theorem d_M_condition_19 : decode b_M_condition 19 = .ok (.if_icmp .ge 34, 3) := by decide +kernel
theorem d_M_condition_22 : decode b_M_condition 22 = .ok (.aload_n 0, 1) := by decide +kernel
theorem d_M_condition_23 : decode b_M_condition 23 = .ok (.getfield 76, 3) := by decide +kernel
theorem d_M_condition_26 : decode b_M_condition 26 = .ok (.iload_n 2, 1) := by decide +kernel
theorem d_M_condition_27 : decode b_M_condition 27 = .ok (.iload_n 1, 1) := by decide +kernel
theorem d_M_condition_28 : decode b_M_condition 28 = .ok (.iconst (-1), 1) := by decide +kernel
theorem d_M_condition_29 : decode b_M_condition 29 = .ok (.if_icmp .ne 11, 3) := by decide +kernel
theorem d_M_condition_32 : decode b_M_condition 32 = .ok (.aload_n 0, 1) := by decide +kernel
theorem d_M_condition_33 : decode b_M_condition 33 = .ok (.iload_n 3, 1) := by decide +kernel
theorem d_M_condition_34 : decode b_M_condition 34 = .ok (.invokevirtual 124, 3) := by decide +kernel
theorem d_M_condition_37 : decode b_M_condition 37 = .ok (.goto 9, 3) := by decide +kernel
theorem d_M_condition_40 : decode b_M_condition 40 = .ok (.aload_n 0, 1) := by decide +kernel
theorem d_M_condition_41 : decode b_M_condition 41 = .ok (.iload_n 3, 1) := by decide +kernel
theorem d_M_condition_42 : decode b_M_condition 42 = .ok (.iload_n 1, 1) := by decide +kernel
theorem d_M_condition_43 : decode b_M_condition 43 = .ok (.invokevirtual 128, 3) := by decide +kernel
theorem d_M_condition_46 : decode b_M_condition 46 = .ok (.iastore, 1) := by decide +kernel
theorem d_M_condition_47 : decode b_M_condition 47 = .ok (.iinc 2 1, 3) := by decide +kernel
theorem d_M_condition_50 : decode b_M_condition 50 = .ok (.goto 101, 3) := by decide +kernel
theorem d_M_condition_53 : decode b_M_condition 53 = .ok (.aload_n 0, 1) := by decide +kernel
theorem d_M_condition_54 : decode b_M_condition 54 = .ok (.getfield 58, 3) := by decide +kernel
theorem d_M_condition_57 : decode b_M_condition 57 = .ok (.iload_n 3, 1) := by decide +kernel
theorem d_M_condition_58 : decode b_M_condition 58 = .ok (.iaload, 1) := by decide +kernel
theorem d_M_condition_59 : decode b_M_condition 59 = .ok (.iconst 5, 1) := by decide +kernel
theorem d_M_condition_60 : decode b_M_condition 60 = .ok (.if_icmp .ne 25, 3) := by decide +kernel
theorem d_M_condition_63 : decode b_M_condition 63 = .ok (.aload_n 0, 1) := by decide +kernel
theorem d_M_condition_64 : decode b_M_condition 64 = .ok (.getfield 76, 3) := by decide +kernel
theorem d_M_condition_67 : decode b_M_condition 67 = .ok (.iload_n 2, 1) := by decide +kernel
theorem d_M_condition_68 : decode b_M_condition 68 = .ok (.iconst 1, 1) := by decide +kernel
theorem d_M_condition_69 : decode b_M_condition 69 = .ok (.isub, 1) := by decide +kernel
theorem d_M_condition_70 : decode b_M_condition 70 = .ok (.aload_n 0, 1) := by decide +kernel
theorem d_M_condition_71 : decode b_M_condition 71 = .ok (.getfield 76, 3) := by decide +kernel
theorem d_M_condition_74 : decode b_M_condition 74 = .ok (.iload_n 2, 1) := by decide +kernel
theorem d_M_condition_75 : decode b_M_condition 75 = .ok (.iconst 1, 1) := by decide +kernel
theorem d_M_condition_76 : decode b_M_condition 76 = .ok (.isub, 1) := by decide +kernel
theorem d_M_condition_77 : decode b_M_condition 77 = .ok (.iaload, 1) := by decide +kernel
theorem d_M_condition_78 : decode b_M_condition 78 = .ok (.invokestatic 132, 3) := by decide +kernel
theorem d_M_condition_81 : decode b_M_condition 81 = .ok (.iastore, 1) := by decide +kernel
theorem d_M_condition_82 : decode b_M_condition 82 = .ok (.goto 69, 3) := by decide +kernel
theorem d_M_condition_85 : decode b_M_condition 85 = .ok (.iinc 2 (-1), 3) := by decide +kernel
theorem d_M_condition_88 : decode b_M_condition 88 = .ok (.aload_n 0, 1) := by decide +kernel
theorem d_M_condition_89 : decode b_M_condition 89 = .ok (.getfield 76, 3) := by decide +kernel
theorem d_M_condition_92 : decode b_M_condition 92 = .ok (.iload_n 2, 1) := by decide +kernel
theorem d_M_condition_93 : decode b_M_condition 93 = .ok (.iconst 1, 1) := by decide +kernel
theorem d_M_condition_94 : decode b_M_condition 94 = .ok (.isub, 1) := by decide +kernel
theorem d_M_condition_95 : decode b_M_condition 95 = .ok (.iaload, 1) := by decide +kernel
theorem d_M_condition_96 : decode b_M_condition 96 = .ok (.istore 4, 2) := by decide +kernel
theorem d_M_condition_98 : decode b_M_condition 98 = .ok (.aload_n 0, 1) := by decide +kernel
theorem d_M_condition_99 : decode b_M_condition 99 = .ok (.getfield 76, 3) := by decide +kernel
theorem d_M_condition_102 : decode b_M_condition 102 = .ok (.iload_n 2, 1) := by decide +kernel
theorem d_M_condition_103 : decode b_M_condition 103 = .ok (.iaload, 1) := by decide +kernel
theorem d_M_condition_104 : decode b_M_condition 104 = .ok (.istore 5, 2) := by decide +kernel
theorem d_M_condition_106 : decode b_M_condition 106 = .ok (.aload_n 0, 1) := by decide +kernel
theorem d_M_condition_107 : decode b_M_condition 107 = .ok (.getfield 76, 3) := by decide +kernel
theorem d_M_condition_110 : decode b_M_condition 110 = .ok (.iload_n 2, 1) := by decide +kernel
theorem d_M_condition_111 : decode b_M_condition 111 = .ok (.iconst 1, 1) := by decide +kernel
theorem d_M_condition_112 : decode b_M_condition 112 = .ok (.isub, 1) := by decide +kernel
theorem d_M_condition_113 : decode b_M_condition 113 = .ok (.aload_n 0, 1) := by decide +kernel
theorem d_M_condition_114 : decode b_M_condition 114 = .ok (.getfield 58, 3) := by decide +kernel
theorem d_M_condition_117 : decode b_M_condition 117 = .ok (.iload_n 3, 1) := by decide +kernel
theorem d_M_condition_118 : decode b_M_condition 118 = .ok (.iaload, 1) := by decide +kernel
theorem d_M_condition_119 : decode b_M_condition 119 = .ok (.bipush 6, 2) := by decide +kernel
theorem d_M_condition_121 : decode b_M_condition 121 = .ok (.if_icmp .ne 13, 3) := by decide +kernel
theorem d_M_condition_124 : decode b_M_condition 124 = .ok (.iload 4, 2) := by decide +kernel
theorem d_M_condition_126 : decode b_M_condition 126 = .ok (.iload 5, 2) := by decide +kernel
theorem d_M_condition_128 : decode b_M_condition 128 = .ok (.invokestatic 135, 3) := by decide +kernel
theorem d_M_condition_131 : decode b_M_condition 131 = .ok (.goto 19, 3) := by decide +kernel
theorem d_M_condition_134 : decode b_M_condition 134 = .ok (.iload 4, 2) := by decide +kernel
theorem d_M_condition_136 : decode b_M_condition 136 = .ok (.invokestatic 132, 3) := by decide +kernel
theorem d_M_condition_139 : decode b_M_condition 139 = .ok (.iload 5, 2) := by decide +kernel
theorem d_M_condition_141 : decode b_M_condition 141 = .ok (.invokestatic 132, 3) := by decide +kernel
theorem d_M_condition_144 : decode b_M_condition 144 = .ok (.invokestatic 135, 3) := by decide +kernel
theorem d_M_condition_147 : decode b_M_condition 147 = .ok (.invokestatic 132, 3) := by decide +kernel
theorem d_M_condition_150 : decode b_M_condition 150 = .ok (.iastore, 1) := by decide +kernel
theorem d_M_condition_151 : decode b_M_condition 151 = .ok (.iinc 3 1, 3) := by decide +kernel
theorem d_M_condition_154 : decode b_M_condition 154 = .ok (.goto (-150), 3) := by decide +kernel
theorem d_M_condition_157 : decode b_M_condition 157 = .ok (.aload_n 0, 1) := by decide +kernel
theorem d_M_condition_158 : decode b_M_condition 158 = .ok (.getfield 109, 3) := by decide +kernel
theorem d_M_condition_161 : decode b_M_condition 161 = .ok (.ifCond .ne 7, 3) := by decide +kernel
theorem d_M_condition_164 : decode b_M_condition 164 = .ok (.iconst 2, 1) := by decide +kernel
theorem d_M_condition_165 : decode b_M_condition 165 = .ok (.goto 9, 3) := by decide +kernel
theorem d_M_condition_168 : decode b_M_condition 168 = .ok (.aload_n 0, 1) := by decide +kernel
theorem d_M_condition_169 : decode b_M_condition 169 = .ok (.getfield 76, 3) := by decide +kernel
theorem d_M_condition_172 : decode b_M_condition 172 = .ok (.iconst 0, 1) := by decide +kernel
theorem d_M_condition_173 : decode b_M_condition 173 = .ok (.iaload, 1) := by decide +kernel
theorem d_M_condition_174 : decode b_M_condition 174 = .ok (.ireturn, 1) := by decide +kernel
theorem d_M_scan_0 : decode b_M_scan 0 = .ok (.aload_n 0, 1) := by decide +kernel
theorem d_M_scan_1 : decode b_M_scan 1 = .ok (.iconst 0, 1) := by decide +kernel
theorem d_M_scan_2 : decode b_M_scan 2 = .ok (.putfield 79, 3) := by decide +kernel
theorem d_M_scan_5 : decode b_M_scan 5 = .ok (.iload_n 1, 1) := by decide +kernel
theorem d_M_scan_6 : decode b_M_scan 6 = .ok (.ifCond .lt 17, 3) := by decide +kernel
theorem d_M_scan_9 : decode b_M_scan 9 = .ok (.iload_n 1, 1) := by decide +kernel
theorem d_M_scan_10 : decode b_M_scan 10 = .ok (.sipush 1000, 3) := by decide +kernel
theorem d_M_scan_13 : decode b_M_scan 13 = .ok (.if_icmp .gt 10, 3) := by decide +kernel
theorem d_M_scan_16 : decode b_M_scan 16 = .ok (.aload_n 0, 1) := by decide +kernel
theorem d_M_scan_17 : decode b_M_scan 17 = .ok (.invokevirtual 138, 3) := by decide +kernel
theorem d_M_scan_20 : decode b_M_scan 20 = .ok (.ifCond .ne 5, 3) := by decide +kernel
theorem d_M_scan_23 : decode b_M_scan 23 = .ok (.iconst (-1), 1) := by decide +kernel
theorem d_M_scan_24 : decode b_M_scan 24 = .ok (.ireturn, 1) := by decide +kernel
theorem d_M_scan_25 : decode b_M_scan 25 = .ok (.iconst 0, 1) := by decide +kernel
theorem d_M_scan_26 : decode b_M_scan 26 = .ok (.istore_n 2, 1) := by decide +kernel
theorem d_M_scan_27 : decode b_M_scan 27 = .ok (.iload_n 2, 1) := by decide +kernel
theorem d_M_scan_28 : decode b_M_scan 28 = .ok (.aload_n 0, 1) := by decide +kernel
theorem d_M_scan_29 : decode b_M_scan 29 = .ok (.getfield 109, 3) := by decide +kernel
theorem d_M_scan_32 : decode b_M_scan 32 = .ok (.if_icmp .ge 61, 3) := by decide +kernel
theorem d_M_scan_35 : decode b_M_scan 35 = .ok (.aload_n 0, 1) := by decide +kernel
theorem d_M_scan_36 : decode b_M_scan 36 = .ok (.getfield 58, 3) := by decide +kernel
theorem d_M_scan_39 : decode b_M_scan 39 = .ok (.iload_n 2, 1) := by decide +kernel
theorem d_M_scan_40 : decode b_M_scan 40 = .ok (.iaload, 1) := by decide +kernel
theorem d_M_scan_41 : decode b_M_scan 41 = .ok (.iconst 5, 1) := by decide +kernel
theorem d_M_scan_42 : decode b_M_scan 42 = .ok (.if_icmp .ge 18, 3) := by decide +kernel
theorem d_M_scan_45 : decode b_M_scan 45 = .ok (.aload_n 0, 1) := by decide +kernel
theorem d_M_scan_46 : decode b_M_scan 46 = .ok (.getfield 30, 3) := by decide +kernel
theorem d_M_scan_49 : decode b_M_scan 49 = .ok (.aload_n 0, 1) := by decide +kernel
theorem d_M_scan_50 : decode b_M_scan 50 = .ok (.getfield 61, 3) := by decide +kernel
theorem d_M_scan_53 : decode b_M_scan 53 = .ok (.iload_n 2, 1) := by decide +kernel
theorem d_M_scan_54 : decode b_M_scan 54 = .ok (.iaload, 1) := by decide +kernel
theorem d_M_scan_55 : decode b_M_scan 55 = .ok (.iaload, 1) := by decide +kernel
theorem d_M_scan_56 : decode b_M_scan 56 = .ok (.iload_n 1, 1) := by decide +kernel
theorem d_M_scan_57 : decode b_M_scan 57 = .ok (.if_icmp .lt 28, 3) := by decide +kernel
theorem d_M_scan_60 : decode b_M_scan 60 = .ok (.aload_n 0, 1) := by decide +kernel
theorem d_M_scan_61 : decode b_M_scan 61 = .ok (.getfield 58, 3) := by decide +kernel
theorem d_M_scan_64 : decode b_M_scan 64 = .ok (.iload_n 2, 1) := by decide +kernel
theorem d_M_scan_65 : decode b_M_scan 65 = .ok (.iaload, 1) := by decide +kernel
theorem d_M_scan_66 : decode b_M_scan 66 = .ok (.iconst 4, 1) := by decide +kernel
theorem d_M_scan_67 : decode b_M_scan 67 = .ok (.if_icmp .ne 20, 3) := by decide +kernel
theorem d_M_scan_70 : decode b_M_scan 70 = .ok (.aload_n 0, 1) := by decide +kernel
theorem d_M_scan_71 : decode b_M_scan 71 = .ok (.getfield 30, 3) := by decide +kernel
theorem d_M_scan_74 : decode b_M_scan 74 = .ok (.aload_n 0, 1) := by decide +kernel
theorem d_M_scan_75 : decode b_M_scan 75 = .ok (.getfield 67, 3) := by decide +kernel
theorem d_M_scan_78 : decode b_M_scan 78 = .ok (.iload_n 2, 1) := by decide +kernel
theorem d_M_scan_79 : decode b_M_scan 79 = .ok (.iaload, 1) := by decide +kernel
theorem d_M_scan_80 : decode b_M_scan 80 = .ok (.iaload, 1) := by decide +kernel
theorem d_M_scan_81 : decode b_M_scan 81 = .ok (.iload_n 1, 1) := by decide +kernel
theorem d_M_scan_82 : decode b_M_scan 82 = .ok (.if_icmp .ge 5, 3) := by decide +kernel
theorem d_M_scan_85 : decode b_M_scan 85 = .ok (.iconst (-1), 1) := by decide +kernel
theorem d_M_scan_86 : decode b_M_scan 86 = .ok (.ireturn, 1) := by decide +kernel
theorem d_M_scan_87 : decode b_M_scan 87 = .ok (.iinc 2 1, 3) := by decide +kernel
theorem d_M_scan_90 : decode b_M_scan 90 = .ok (.goto (-63), 3) := by decide +kernel
theorem d_M_scan_93 : decode b_M_scan 93 = .ok (.iconst 0, 1) := by decide +kernel
theorem d_M_scan_94 : decode b_M_scan 94 = .ok (.istore_n 2, 1) := by decide +kernel
theorem d_M_scan_95 : decode b_M_scan 95 = .ok (.iconst 0, 1) := by decide +kernel
theorem d_M_scan_96 : decode b_M_scan 96 = .ok (.istore_n 3, 1) := by decide +kernel
theorem d_M_scan_97 : decode b_M_scan 97 = .ok (.iload_n 3, 1) := by decide +kernel
theorem d_M_scan_98 : decode b_M_scan 98 = .ok (.iload_n 1, 1) := by decide +kernel
theorem d_M_scan_99 : decode b_M_scan 99 = .ok (.if_icmp .ge 57, 3) := by decide +kernel
theorem d_M_scan_102 : decode b_M_scan 102 = .ok (.aload_n 0, 1) := by decide +kernel
theorem d_M_scan_103 : decode b_M_scan 103 = .ok (.iload_n 3, 1) := by decide +kernel
theorem d_M_scan_104 : decode b_M_scan 104 = .ok (.invokevirtual 142, 3) := by decide +kernel
theorem d_M_scan_107 : decode b_M_scan 107 = .ok (.istore 4, 2) := by decide +kernel
theorem d_M_scan_109 : decode b_M_scan 109 = .ok (.aload_n 0, 1) := by decide +kernel
theorem d_M_scan_110 : decode b_M_scan 110 = .ok (.getfield 73, 3) := by decide +kernel
theorem d_M_scan_113 : decode b_M_scan 113 = .ok (.iload_n 3, 1) := by decide +kernel
theorem d_M_scan_114 : decode b_M_scan 114 = .ok (.iload 4, 2) := by decide +kernel
theorem d_M_scan_116 : decode b_M_scan 116 = .ok (.iconst 1, 1) := by decide +kernel
theorem d_M_scan_117 : decode b_M_scan 117 = .ok (.if_icmp .ne 7, 3) := by decide +kernel
theorem d_M_scan_120 : decode b_M_scan 120 = .ok (.iconst 0, 1) := by decide +kernel
theorem d_M_scan_121 : decode b_M_scan 121 = .ok (.goto 14, 3) := by decide +kernel
theorem d_M_scan_124 : decode b_M_scan 124 = .ok (.iload 4, 2) := by decide +kernel
theorem d_M_scan_126 : decode b_M_scan 126 = .ok (.iconst 2, 1) := by decide +kernel
theorem d_M_scan_127 : decode b_M_scan 127 = .ok (.if_icmp .ne 7, 3) := by decide +kernel
theorem d_M_scan_130 : decode b_M_scan 130 = .ok (.iconst 1, 1) := by decide +kernel
theorem d_M_scan_131 : decode b_M_scan 131 = .ok (.goto 4, 3) := by decide +kernel
theorem d_M_scan_134 : decode b_M_scan 134 = .ok (.iconst 2, 1) := by decide +kernel
theorem d_M_scan_135 : decode b_M_scan 135 = .ok (.iastore, 1) := by decide +kernel
theorem d_M_scan_136 : decode b_M_scan 136 = .ok (.iload_n 2, 1) := by decide +kernel
theorem d_M_scan_137 : decode b_M_scan 137 = .ok (.iload 4, 2) := by decide +kernel
theorem d_M_scan_139 : decode b_M_scan 139 = .ok (.iconst 2, 1) := by decide +kernel
theorem d_M_scan_140 : decode b_M_scan 140 = .ok (.if_icmp .ne 7, 3) := by decide +kernel
theorem d_M_scan_143 : decode b_M_scan 143 = .ok (.iconst 1, 1) := by decide +kernel
theorem d_M_scan_144 : decode b_M_scan 144 = .ok (.goto 4, 3) := by decide +kernel
theorem d_M_scan_147 : decode b_M_scan 147 = .ok (.iconst 0, 1) := by decide +kernel
theorem d_M_scan_148 : decode b_M_scan 148 = .ok (.iadd, 1) := by decide +kernel
theorem d_M_scan_149 : decode b_M_scan 149 = .ok (.istore_n 2, 1) := by decide +kernel
theorem d_M_scan_150 : decode b_M_scan 150 = .ok (.iinc 3 1, 3) := by decide +kernel
theorem d_M_scan_153 : decode b_M_scan 153 = .ok (.goto (-56), 3) := by decide +kernel
theorem d_M_scan_156 : decode b_M_scan 156 = .ok (.aload_n 0, 1) := by decide +kernel
theorem d_M_scan_157 : decode b_M_scan 157 = .ok (.iload_n 1, 1) := by decide +kernel
theorem d_M_scan_158 : decode b_M_scan 158 = .ok (.putfield 145, 3) := by decide +kernel
theorem d_M_scan_161 : decode b_M_scan 161 = .ok (.iload_n 2, 1) := by decide +kernel
theorem d_M_scan_162 : decode b_M_scan 162 = .ok (.ireturn, 1) := by decide +kernel
theorem d_M_truth_0 : decode b_M_truth 0 = .ok (.aload_n 0, 1) := by decide +kernel
theorem d_M_truth_1 : decode b_M_truth 1 = .ok (.iconst 0, 1) := by decide +kernel
theorem d_M_truth_2 : decode b_M_truth 2 = .ok (.putfield 79, 3) := by decide +kernel
theorem d_M_truth_5 : decode b_M_truth 5 = .ok (.iload_n 1, 1) := by decide +kernel
theorem d_M_truth_6 : decode b_M_truth 6 = .ok (.ifCond .lt 11, 3) := by decide +kernel
theorem d_M_truth_9 : decode b_M_truth 9 = .ok (.iload_n 1, 1) := by decide +kernel
theorem d_M_truth_10 : decode b_M_truth 10 = .ok (.aload_n 0, 1) := by decide +kernel
theorem d_M_truth_11 : decode b_M_truth 11 = .ok (.getfield 145, 3) := by decide +kernel
theorem d_M_truth_14 : decode b_M_truth 14 = .ok (.if_icmp .lt 7, 3) := by decide +kernel
theorem d_M_truth_17 : decode b_M_truth 17 = .ok (.iconst (-1), 1) := by decide +kernel
theorem d_M_truth_18 : decode b_M_truth 18 = .ok (.goto 9, 3) := by decide +kernel
theorem d_M_truth_21 : decode b_M_truth 21 = .ok (.aload_n 0, 1) := by decide +kernel
theorem d_M_truth_22 : decode b_M_truth 22 = .ok (.getfield 73, 3) := by decide +kernel
theorem d_M_truth_25 : decode b_M_truth 25 = .ok (.iload_n 1, 1) := by decide +kernel
theorem d_M_truth_26 : decode b_M_truth 26 = .ok (.iaload, 1) := by decide +kernel
theorem d_M_truth_27 : decode b_M_truth 27 = .ok (.ireturn, 1) := by decide +kernel
theorem d_M_chosen_0 : decode b_M_chosen 0 = .ok (.aload_n 0, 1) := by decide +kernel
theorem d_M_chosen_1 : decode b_M_chosen 1 = .ok (.iconst 0, 1) := by decide +kernel
theorem d_M_chosen_2 : decode b_M_chosen 2 = .ok (.putfield 79, 3) := by decide +kernel
theorem d_M_chosen_5 : decode b_M_chosen 5 = .ok (.iconst 0, 1) := by decide +kernel
theorem d_M_chosen_6 : decode b_M_chosen 6 = .ok (.istore_n 2, 1) := by decide +kernel
theorem d_M_chosen_7 : decode b_M_chosen 7 = .ok (.iconst 0, 1) := by decide +kernel
theorem d_M_chosen_8 : decode b_M_chosen 8 = .ok (.istore_n 3, 1) := by decide +kernel
theorem d_M_chosen_9 : decode b_M_chosen 9 = .ok (.iload_n 3, 1) := by decide +kernel
theorem d_M_chosen_10 : decode b_M_chosen 10 = .ok (.aload_n 0, 1) := by decide +kernel
theorem d_M_chosen_11 : decode b_M_chosen 11 = .ok (.getfield 145, 3) := by decide +kernel
theorem d_M_chosen_14 : decode b_M_chosen 14 = .ok (.if_icmp .ge 36, 3) := by decide +kernel
theorem d_M_chosen_17 : decode b_M_chosen 17 = .ok (.iload_n 1, 1) := by decide +kernel
theorem d_M_chosen_18 : decode b_M_chosen 18 = .ok (.ifCond .lt 32, 3) := by decide +kernel
theorem d_M_chosen_21 : decode b_M_chosen 21 = .ok (.aload_n 0, 1) := by decide +kernel
theorem d_M_chosen_22 : decode b_M_chosen 22 = .ok (.getfield 73, 3) := by decide +kernel
theorem d_M_chosen_25 : decode b_M_chosen 25 = .ok (.iload_n 3, 1) := by decide +kernel
theorem d_M_chosen_26 : decode b_M_chosen 26 = .ok (.iaload, 1) := by decide +kernel
theorem d_M_chosen_27 : decode b_M_chosen 27 = .ok (.iconst 1, 1) := by decide +kernel
theorem d_M_chosen_28 : decode b_M_chosen 28 = .ok (.if_icmp .eq 6, 3) := by decide +kernel
theorem d_M_chosen_31 : decode b_M_chosen 31 = .ok (.goto 13, 3) := by decide +kernel
theorem d_M_chosen_34 : decode b_M_chosen 34 = .ok (.iload_n 2, 1) := by decide +kernel
theorem d_M_chosen_35 : decode b_M_chosen 35 = .ok (.iload_n 1, 1) := by decide +kernel
theorem d_M_chosen_36 : decode b_M_chosen 36 = .ok (.if_icmp .ne 5, 3) := by decide +kernel
theorem d_M_chosen_39 : decode b_M_chosen 39 = .ok (.iload_n 3, 1) := by decide +kernel
theorem d_M_chosen_40 : decode b_M_chosen 40 = .ok (.ireturn, 1) := by decide +kernel
theorem d_M_chosen_41 : decode b_M_chosen 41 = .ok (.iinc 2 1, 3) := by decide +kernel
theorem d_M_chosen_44 : decode b_M_chosen 44 = .ok (.iinc 3 1, 3) := by decide +kernel
theorem d_M_chosen_47 : decode b_M_chosen 47 = .ok (.goto (-38), 3) := by decide +kernel
theorem d_M_chosen_50 : decode b_M_chosen 50 = .ok (.iconst (-1), 1) := by decide +kernel
theorem d_M_chosen_51 : decode b_M_chosen 51 = .ok (.ireturn, 1) := by decide +kernel
theorem d_M_most_0 : decode b_M_most 0 = .ok (.iconst (-1), 1) := by decide +kernel
theorem d_M_most_1 : decode b_M_most 1 = .ok (.istore_n 3, 1) := by decide +kernel
theorem d_M_most_2 : decode b_M_most 2 = .ok (.iconst 0, 1) := by decide +kernel
theorem d_M_most_3 : decode b_M_most 3 = .ok (.istore 4, 2) := by decide +kernel
theorem d_M_most_5 : decode b_M_most 5 = .ok (.iload 4, 2) := by decide +kernel
theorem d_M_most_7 : decode b_M_most 7 = .ok (.aload_n 0, 1) := by decide +kernel
theorem d_M_most_8 : decode b_M_most 8 = .ok (.getfield 30, 3) := by decide +kernel
theorem d_M_most_11 : decode b_M_most 11 = .ok (.iload_n 1, 1) := by decide +kernel
theorem d_M_most_12 : decode b_M_most 12 = .ok (.iaload, 1) := by decide +kernel
theorem d_M_most_13 : decode b_M_most 13 = .ok (.if_icmp .ge 63, 3) := by decide +kernel
theorem d_M_most_16 : decode b_M_most 16 = .ok (.aload_n 0, 1) := by decide +kernel
theorem d_M_most_17 : decode b_M_most 17 = .ok (.getfield 52, 3) := by decide +kernel
theorem d_M_most_20 : decode b_M_most 20 = .ok (.sipush 1000, 3) := by decide +kernel
theorem d_M_most_23 : decode b_M_most 23 = .ok (.iload_n 1, 1) := by decide +kernel
theorem d_M_most_24 : decode b_M_most 24 = .ok (.imul, 1) := by decide +kernel
theorem d_M_most_25 : decode b_M_most 25 = .ok (.iload 4, 2) := by decide +kernel
theorem d_M_most_27 : decode b_M_most 27 = .ok (.iadd, 1) := by decide +kernel
theorem d_M_most_28 : decode b_M_most 28 = .ok (.baload, 1) := by decide +kernel
theorem d_M_most_29 : decode b_M_most 29 = .ok (.ifCond .eq 41, 3) := by decide +kernel
theorem d_M_most_32 : decode b_M_most 32 = .ok (.iload_n 3, 1) := by decide +kernel
theorem d_M_most_33 : decode b_M_most 33 = .ok (.iconst (-1), 1) := by decide +kernel
theorem d_M_most_34 : decode b_M_most 34 = .ok (.if_icmp .eq 33, 3) := by decide +kernel
theorem d_M_most_37 : decode b_M_most 37 = .ok (.iload_n 2, 1) := by decide +kernel
theorem d_M_most_38 : decode b_M_most 38 = .ok (.aload_n 0, 1) := by decide +kernel
theorem d_M_most_39 : decode b_M_most 39 = .ok (.aload_n 0, 1) := by decide +kernel
theorem d_M_most_40 : decode b_M_most 40 = .ok (.getfield 27, 3) := by decide +kernel
theorem d_M_most_43 : decode b_M_most 43 = .ok (.iload_n 1, 1) := by decide +kernel
theorem d_M_most_44 : decode b_M_most 44 = .ok (.iaload, 1) := by decide +kernel
theorem d_M_most_45 : decode b_M_most 45 = .ok (.sipush 1000, 3) := by decide +kernel
theorem d_M_most_48 : decode b_M_most 48 = .ok (.iload_n 1, 1) := by decide +kernel
theorem d_M_most_49 : decode b_M_most 49 = .ok (.imul, 1) := by decide +kernel
theorem d_M_most_50 : decode b_M_most 50 = .ok (.iload 4, 2) := by decide +kernel
theorem d_M_most_52 : decode b_M_most 52 = .ok (.iadd, 1) := by decide +kernel
theorem d_M_most_53 : decode b_M_most 53 = .ok (.sipush 1000, 3) := by decide +kernel
theorem d_M_most_56 : decode b_M_most 56 = .ok (.iload_n 1, 1) := by decide +kernel
theorem d_M_most_57 : decode b_M_most 57 = .ok (.imul, 1) := by decide +kernel
theorem d_M_most_58 : decode b_M_most 58 = .ok (.iload_n 3, 1) := by decide +kernel
theorem d_M_most_59 : decode b_M_most 59 = .ok (.iadd, 1) := by decide +kernel
theorem d_M_most_60 : decode b_M_most 60 = .ok (.invokevirtual 116, 3) := by decide +kernel
theorem d_M_most_63 : decode b_M_most 63 = .ok (.imul, 1) := by decide +kernel
theorem d_M_most_64 : decode b_M_most 64 = .ok (.ifCond .le 6, 3) := by decide +kernel
theorem d_M_most_67 : decode b_M_most 67 = .ok (.iload 4, 2) := by decide +kernel
theorem d_M_most_69 : decode b_M_most 69 = .ok (.istore_n 3, 1) := by decide +kernel
theorem d_M_most_70 : decode b_M_most 70 = .ok (.iinc 4 1, 3) := by decide +kernel
theorem d_M_most_73 : decode b_M_most 73 = .ok (.goto (-68), 3) := by decide +kernel
theorem d_M_most_76 : decode b_M_most 76 = .ok (.iload_n 3, 1) := by decide +kernel
theorem d_M_most_77 : decode b_M_most 77 = .ok (.ireturn, 1) := by decide +kernel
theorem d_M_known_0 : decode b_M_known 0 = .ok (.aload_n 0, 1) := by decide +kernel
theorem d_M_known_1 : decode b_M_known 1 = .ok (.iconst 0, 1) := by decide +kernel
theorem d_M_known_2 : decode b_M_known 2 = .ok (.putfield 79, 3) := by decide +kernel
theorem d_M_known_5 : decode b_M_known 5 = .ok (.aload_n 0, 1) := by decide +kernel
theorem d_M_known_6 : decode b_M_known 6 = .ok (.iload_n 1, 1) := by decide +kernel
