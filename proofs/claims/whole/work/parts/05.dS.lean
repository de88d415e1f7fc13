theorem d_S_init_0 : decode b_S_init 0 = .ok (.aload_n 0, 1) := by decide +kernel
theorem d_S_init_1 : decode b_S_init 1 = .ok (.invokespecial 3, 3) := by decide +kernel
theorem d_S_init_4 : decode b_S_init 4 = .ok (.aload_n 0, 1) := by decide +kernel
theorem d_S_init_5 : decode b_S_init 5 = .ok (.iload_n 1, 1) := by decide +kernel
theorem d_S_init_6 : decode b_S_init 6 = .ok (.putfield 9, 3) := by decide +kernel
theorem d_S_init_9 : decode b_S_init 9 = .ok (.aload_n 0, 1) := by decide +kernel
theorem d_S_init_10 : decode b_S_init 10 = .ok (.aload_n 2, 1) := by decide +kernel
theorem d_S_init_11 : decode b_S_init 11 = .ok (.putfield 15, 3) := by decide +kernel
theorem d_S_init_14 : decode b_S_init 14 = .ok (.aload_n 0, 1) := by decide +kernel
theorem d_S_init_15 : decode b_S_init 15 = .ok (.iload_n 3, 1) := by decide +kernel
theorem d_S_init_16 : decode b_S_init 16 = .ok (.putfield 19, 3) := by decide +kernel
theorem d_S_init_19 : decode b_S_init 19 = .ok (.aload_n 0, 1) := by decide +kernel
theorem d_S_init_20 : decode b_S_init 20 = .ok (.aload 4, 2) := by decide +kernel
theorem d_S_init_22 : decode b_S_init 22 = .ok (.putfield 22, 3) := by decide +kernel
theorem d_S_init_25 : decode b_S_init 25 = .ok (.aload_n 0, 1) := by decide +kernel
theorem d_S_init_26 : decode b_S_init 26 = .ok (.aload 5, 2) := by decide +kernel
theorem d_S_init_28 : decode b_S_init 28 = .ok (.putfield 25, 3) := by decide +kernel
theorem d_S_init_31 : decode b_S_init 31 = .ok (.aload_n 0, 1) := by decide +kernel
theorem d_S_init_32 : decode b_S_init 32 = .ok (.iload 6, 2) := by decide +kernel
theorem d_S_init_34 : decode b_S_init 34 = .ok (.putfield 29, 3) := by decide +kernel
theorem d_S_init_37 : decode b_S_init 37 = .ok (.aload_n 0, 1) := by decide +kernel
theorem d_S_init_38 : decode b_S_init 38 = .ok (.iload 7, 2) := by decide +kernel
theorem d_S_init_40 : decode b_S_init 40 = .ok (.putfield 32, 3) := by decide +kernel
theorem d_S_init_43 : decode b_S_init 43 = .ok (.return_, 1) := by decide +kernel
theorem d_S_takes_0 : decode b_S_takes 0 = .ok (.aload_n 0, 1) := by decide +kernel
theorem d_S_takes_1 : decode b_S_takes 1 = .ok (.getfield 9, 3) := by decide +kernel
theorem d_S_takes_4 : decode b_S_takes 4 = .ok (.iconst 5, 1) := by decide +kernel
theorem d_S_takes_5 : decode b_S_takes 5 = .ok (.if_icmp .ge 7, 3) := by decide +kernel
theorem d_S_takes_8 : decode b_S_takes 8 = .ok (.iconst 0, 1) := by decide +kernel
theorem d_S_takes_9 : decode b_S_takes 9 = .ok (.goto 16, 3) := by decide +kernel
theorem d_S_takes_12 : decode b_S_takes 12 = .ok (.aload_n 0, 1) := by decide +kernel
theorem d_S_takes_13 : decode b_S_takes 13 = .ok (.getfield 9, 3) := by decide +kernel
theorem d_S_takes_16 : decode b_S_takes 16 = .ok (.iconst 5, 1) := by decide +kernel
theorem d_S_takes_17 : decode b_S_takes 17 = .ok (.if_icmp .ne 7, 3) := by decide +kernel
theorem d_S_takes_20 : decode b_S_takes 20 = .ok (.iconst 1, 1) := by decide +kernel
theorem d_S_takes_21 : decode b_S_takes 21 = .ok (.goto 4, 3) := by decide +kernel
theorem d_S_takes_24 : decode b_S_takes 24 = .ok (.iconst 2, 1) := by decide +kernel
theorem d_S_takes_25 : decode b_S_takes 25 = .ok (.ireturn, 1) := by decide +kernel
theorem d_S_atRow_0 : decode b_S_atRow 0 = .ok (.aload_n 0, 1) := by decide +kernel
theorem d_S_atRow_1 : decode b_S_atRow 1 = .ok (.getfield 15, 3) := by decide +kernel
theorem d_S_atRow_4 : decode b_S_atRow 4 = .ok (.ifnonnull 7, 3) := by decide +kernel
theorem d_S_atRow_7 : decode b_S_atRow 7 = .ok (.aconst_null, 1) := by decide +kernel
theorem d_S_atRow_8 : decode b_S_atRow 8 = .ok (.goto 11, 3) := by decide +kernel
theorem d_S_atRow_11 : decode b_S_atRow 11 = .ok (.aload_n 0, 1) := by decide +kernel
theorem d_S_atRow_12 : decode b_S_atRow 12 = .ok (.getfield 15, 3) := by decide +kernel
theorem d_S_atRow_15 : decode b_S_atRow 15 = .ok (.iload_n 1, 1) := by decide +kernel
theorem d_S_atRow_16 : decode b_S_atRow 16 = .ok (.invokevirtual 35, 3) := by decide +kernel
theorem d_S_atRow_19 : decode b_S_atRow 19 = .ok (.astore_n 2, 1) := by decide +kernel
theorem d_S_atRow_20 : decode b_S_atRow 20 = .ok (.aload_n 0, 1) := by decide +kernel
theorem d_S_atRow_21 : decode b_S_atRow 21 = .ok (.getfield 9, 3) := by decide +kernel
theorem d_S_atRow_24 : decode b_S_atRow 24 = .ok (.ifCond .eq 11, 3) := by decide +kernel
theorem d_S_atRow_27 : decode b_S_atRow 27 = .ok (.aload_n 0, 1) := by decide +kernel
theorem d_S_atRow_28 : decode b_S_atRow 28 = .ok (.getfield 9, 3) := by decide +kernel
theorem d_S_atRow_31 : decode b_S_atRow 31 = .ok (.iconst 1, 1) := by decide +kernel
theorem d_S_atRow_32 : decode b_S_atRow 32 = .ok (.if_icmp .ne 33, 3) := by decide +kernel
theorem d_S_atRow_35 : decode b_S_atRow 35 = .ok (.aload_n 2, 1) := by decide +kernel
theorem d_S_atRow_36 : decode b_S_atRow 36 = .ok (.ifnonnull 7, 3) := by decide +kernel
theorem d_S_atRow_39 : decode b_S_atRow 39 = .ok (.iconst 1, 1) := by decide +kernel
theorem d_S_atRow_40 : decode b_S_atRow 40 = .ok (.goto 4, 3) := by decide +kernel
theorem d_S_atRow_43 : decode b_S_atRow 43 = .ok (.iconst 0, 1) := by decide +kernel
theorem d_S_atRow_44 : decode b_S_atRow 44 = .ok (.aload_n 0, 1) := by decide +kernel
theorem d_S_atRow_45 : decode b_S_atRow 45 = .ok (.getfield 9, 3) := by decide +kernel
theorem d_S_atRow_48 : decode b_S_atRow 48 = .ok (.ifCond .ne 7, 3) := by decide +kernel
theorem d_S_atRow_51 : decode b_S_atRow 51 = .ok (.iconst 1, 1) := by decide +kernel
theorem d_S_atRow_52 : decode b_S_atRow 52 = .ok (.goto 4, 3) := by decide +kernel
theorem d_S_atRow_55 : decode b_S_atRow 55 = .ok (.iconst 0, 1) := by decide +kernel
theorem d_S_atRow_56 : decode b_S_atRow 56 = .ok (.if_icmp .ne 7, 3) := by decide +kernel
theorem d_S_atRow_59 : decode b_S_atRow 59 = .ok (.iconst 2, 1) := by decide +kernel
theorem d_S_atRow_60 : decode b_S_atRow 60 = .ok (.goto 4, 3) := by decide +kernel
theorem d_S_atRow_63 : decode b_S_atRow 63 = .ok (.iconst 1, 1) := by decide +kernel
theorem d_S_atRow_64 : decode b_S_atRow 64 = .ok (.ireturn, 1) := by decide +kernel
theorem d_S_atRow_65 : decode b_S_atRow 65 = .ok (.aload_n 2, 1) := by decide +kernel
theorem d_S_atRow_66 : decode b_S_atRow 66 = .ok (.ifnonnull 5, 3) := by decide +kernel
theorem d_S_atRow_69 : decode b_S_atRow 69 = .ok (.iconst 4, 1) := by decide +kernel
theorem d_S_atRow_70 : decode b_S_atRow 70 = .ok (.ireturn, 1) := by decide +kernel
theorem d_S_atRow_71 : decode b_S_atRow 71 = .ok (.aload_n 0, 1) := by decide +kernel
theorem d_S_atRow_72 : decode b_S_atRow 72 = .ok (.getfield 9, 3) := by decide +kernel
theorem d_S_atRow_75 : decode b_S_atRow 75 = .ok (.iconst 2, 1) := by decide +kernel
theorem d_S_atRow_76 : decode b_S_atRow 76 = .ok (.if_icmp .ne 28, 3) := by decide +kernel
theorem d_S_atRow_79 : decode b_S_atRow 79 = .ok (.aload_n 2, 1) := by decide +kernel
theorem d_S_atRow_80 : decode b_S_atRow 80 = .ok (.aload_n 0, 1) := by decide +kernel
theorem d_S_atRow_81 : decode b_S_atRow 81 = .ok (.getfield 25, 3) := by decide +kernel
theorem d_S_atRow_84 : decode b_S_atRow 84 = .ok (.aload_n 0, 1) := by decide +kernel
theorem d_S_atRow_85 : decode b_S_atRow 85 = .ok (.getfield 29, 3) := by decide +kernel
theorem d_S_atRow_88 : decode b_S_atRow 88 = .ok (.aload_n 0, 1) := by decide +kernel
theorem d_S_atRow_89 : decode b_S_atRow 89 = .ok (.getfield 32, 3) := by decide +kernel
theorem d_S_atRow_92 : decode b_S_atRow 92 = .ok (.invokestatic 41, 3) := by decide +kernel
theorem d_S_atRow_95 : decode b_S_atRow 95 = .ok (.ifCond .eq 7, 3) := by decide +kernel
theorem d_S_atRow_98 : decode b_S_atRow 98 = .ok (.iconst 2, 1) := by decide +kernel
theorem d_S_atRow_99 : decode b_S_atRow 99 = .ok (.goto 4, 3) := by decide +kernel
theorem d_S_atRow_102 : decode b_S_atRow 102 = .ok (.iconst 1, 1) := by decide +kernel
theorem d_S_atRow_103 : decode b_S_atRow 103 = .ok (.ireturn, 1) := by decide +kernel
theorem d_S_atRow_104 : decode b_S_atRow 104 = .ok (.aload_n 0, 1) := by decide +kernel
theorem d_S_atRow_105 : decode b_S_atRow 105 = .ok (.getfield 9, 3) := by decide +kernel
theorem d_S_atRow_108 : decode b_S_atRow 108 = .ok (.iconst 3, 1) := by decide +kernel
theorem d_S_atRow_109 : decode b_S_atRow 109 = .ok (.if_icmp .ne 15, 3) := by decide +kernel
theorem d_S_atRow_112 : decode b_S_atRow 112 = .ok (.aload_n 0, 1) := by decide +kernel
theorem d_S_atRow_113 : decode b_S_atRow 113 = .ok (.getfield 25, 3) := by decide +kernel
theorem d_S_atRow_116 : decode b_S_atRow 116 = .ok (.aload_n 0, 1) := by decide +kernel
theorem d_S_atRow_117 : decode b_S_atRow 117 = .ok (.getfield 29, 3) := by decide +kernel
theorem d_S_atRow_120 : decode b_S_atRow 120 = .ok (.aaload, 1) := by decide +kernel
theorem d_S_atRow_121 : decode b_S_atRow 121 = .ok (.goto 8, 3) := by decide +kernel
theorem d_S_atRow_124 : decode b_S_atRow 124 = .ok (.aload_n 0, 1) := by decide +kernel
theorem d_S_atRow_125 : decode b_S_atRow 125 = .ok (.iload_n 1, 1) := by decide +kernel
theorem d_S_atRow_126 : decode b_S_atRow 126 = .ok (.invokevirtual 45, 3) := by decide +kernel
theorem d_S_atRow_129 : decode b_S_atRow 129 = .ok (.astore_n 3, 1) := by decide +kernel
theorem d_S_atRow_130 : decode b_S_atRow 130 = .ok (.aload_n 3, 1) := by decide +kernel
theorem d_S_atRow_131 : decode b_S_atRow 131 = .ok (.ifnonnull 5, 3) := by decide +kernel
theorem d_S_atRow_134 : decode b_S_atRow 134 = .ok (.iconst 4, 1) := by decide +kernel
theorem d_S_atRow_135 : decode b_S_atRow 135 = .ok (.ireturn, 1) := by decide +kernel
theorem d_S_atRow_136 : decode b_S_atRow 136 = .ok (.aload_n 0, 1) := by decide +kernel
theorem d_S_atRow_137 : decode b_S_atRow 137 = .ok (.getfield 19, 3) := by decide +kernel
theorem d_S_atRow_140 : decode b_S_atRow 140 = .ok (.aload_n 2, 1) := by decide +kernel
theorem d_S_atRow_141 : decode b_S_atRow 141 = .ok (.aload_n 3, 1) := by decide +kernel
theorem d_S_atRow_142 : decode b_S_atRow 142 = .ok (.invokevirtual 48, 3) := by decide +kernel
theorem d_S_atRow_145 : decode b_S_atRow 145 = .ok (.invokestatic 54, 3) := by decide +kernel
theorem d_S_atRow_148 : decode b_S_atRow 148 = .ok (.ifCond .eq 7, 3) := by decide +kernel
theorem d_S_atRow_151 : decode b_S_atRow 151 = .ok (.iconst 2, 1) := by decide +kernel
theorem d_S_atRow_152 : decode b_S_atRow 152 = .ok (.goto 4, 3) := by decide +kernel
theorem d_S_atRow_155 : decode b_S_atRow 155 = .ok (.iconst 1, 1) := by decide +kernel
theorem d_S_atRow_156 : decode b_S_atRow 156 = .ok (.ireturn, 1) := by decide +kernel
theorem d_S_valueOfOther_0 : decode b_S_valueOfOther 0 = .ok (.aload_n 0, 1) := by decide +kernel
theorem d_S_valueOfOther_1 : decode b_S_valueOfOther 1 = .ok (.getfield 22, 3) := by decide +kernel
theorem d_S_valueOfOther_4 : decode b_S_valueOfOther 4 = .ok (.ifnonnull 7, 3) := by decide +kernel
theorem d_S_valueOfOther_7 : decode b_S_valueOfOther 7 = .ok (.aconst_null, 1) := by decide +kernel
theorem d_S_valueOfOther_8 : decode b_S_valueOfOther 8 = .ok (.goto 11, 3) := by decide +kernel
theorem d_S_valueOfOther_11 : decode b_S_valueOfOther 11 = .ok (.aload_n 0, 1) := by decide +kernel
theorem d_S_valueOfOther_12 : decode b_S_valueOfOther 12 = .ok (.getfield 22, 3) := by decide +kernel
theorem d_S_valueOfOther_15 : decode b_S_valueOfOther 15 = .ok (.iload_n 1, 1) := by decide +kernel
theorem d_S_valueOfOther_16 : decode b_S_valueOfOther 16 = .ok (.invokevirtual 35, 3) := by decide +kernel
theorem d_S_valueOfOther_19 : decode b_S_valueOfOther 19 = .ok (.areturn, 1) := by decide +kernel
theorem d_S_canBe_0 : decode b_S_canBe 0 = .ok (.aload_n 0, 1) := by decide +kernel
theorem d_S_canBe_1 : decode b_S_canBe 1 = .ok (.getfield 9, 3) := by decide +kernel
theorem d_S_canBe_4 : decode b_S_canBe 4 = .ok (.ifCond .eq 11, 3) := by decide +kernel
theorem d_S_canBe_7 : decode b_S_canBe 7 = .ok (.aload_n 0, 1) := by decide +kernel
theorem d_S_canBe_8 : decode b_S_canBe 8 = .ok (.getfield 9, 3) := by decide +kernel
theorem d_S_canBe_11 : decode b_S_canBe 11 = .ok (.iconst 1, 1) := by decide +kernel
theorem d_S_canBe_12 : decode b_S_canBe 12 = .ok (.if_icmp .ne 7, 3) := by decide +kernel
theorem d_S_canBe_15 : decode b_S_canBe 15 = .ok (.iconst 1, 1) := by decide +kernel
theorem d_S_canBe_16 : decode b_S_canBe 16 = .ok (.goto 4, 3) := by decide +kernel
theorem d_S_canBe_19 : decode b_S_canBe 19 = .ok (.iconst 0, 1) := by decide +kernel
theorem d_S_canBe_20 : decode b_S_canBe 20 = .ok (.istore_n 1, 1) := by decide +kernel
theorem d_S_canBe_21 : decode b_S_canBe 21 = .ok (.aload_n 0, 1) := by decide +kernel
theorem d_S_canBe_22 : decode b_S_canBe 22 = .ok (.getfield 15, 3) := by decide +kernel
theorem d_S_canBe_25 : decode b_S_canBe 25 = .ok (.ifnull 30, 3) := by decide +kernel
theorem d_S_canBe_28 : decode b_S_canBe 28 = .ok (.aload_n 0, 1) := by decide +kernel
theorem d_S_canBe_29 : decode b_S_canBe 29 = .ok (.getfield 15, 3) := by decide +kernel
theorem d_S_canBe_32 : decode b_S_canBe 32 = .ok (.getfield 58, 3) := by decide +kernel
theorem d_S_canBe_35 : decode b_S_canBe 35 = .ok (.ifCond .eq 20, 3) := by decide +kernel
theorem d_S_canBe_38 : decode b_S_canBe 38 = .ok (.aload_n 0, 1) := by decide +kernel
theorem d_S_canBe_39 : decode b_S_canBe 39 = .ok (.getfield 22, 3) := by decide +kernel
theorem d_S_canBe_42 : decode b_S_canBe 42 = .ok (.ifnull 28, 3) := by decide +kernel
theorem d_S_canBe_45 : decode b_S_canBe 45 = .ok (.aload_n 0, 1) := by decide +kernel
theorem d_S_canBe_46 : decode b_S_canBe 46 = .ok (.getfield 22, 3) := by decide +kernel
theorem d_S_canBe_49 : decode b_S_canBe 49 = .ok (.getfield 58, 3) := by decide +kernel
theorem d_S_canBe_52 : decode b_S_canBe 52 = .ok (.ifCond .ne 18, 3) := by decide +kernel
theorem d_S_canBe_55 : decode b_S_canBe 55 = .ok (.iconst 1, 1) := by decide +kernel
theorem d_S_canBe_56 : decode b_S_canBe 56 = .ok (.iconst 1, 1) := by decide +kernel
theorem d_S_canBe_57 : decode b_S_canBe 57 = .ok (.iload_n 1, 1) := by decide +kernel
theorem d_S_canBe_58 : decode b_S_canBe 58 = .ok (.ifCond .ne 7, 3) := by decide +kernel
theorem d_S_canBe_61 : decode b_S_canBe 61 = .ok (.iconst 1, 1) := by decide +kernel
theorem d_S_canBe_62 : decode b_S_canBe 62 = .ok (.goto 4, 3) := by decide +kernel
theorem d_S_canBe_65 : decode b_S_canBe 65 = .ok (.iconst 0, 1) := by decide +kernel
theorem d_S_canBe_66 : decode b_S_canBe 66 = .ok (.invokestatic 62, 3) := by decide +kernel
theorem d_S_canBe_69 : decode b_S_canBe 69 = .ok (.ireturn, 1) := by decide +kernel
theorem d_S_canBe_70 : decode b_S_canBe 70 = .ok (.iload_n 1, 1) := by decide +kernel
theorem d_S_canBe_71 : decode b_S_canBe 71 = .ok (.ifCond .eq 38, 3) := by decide +kernel
theorem d_S_canBe_74 : decode b_S_canBe 74 = .ok (.aload_n 0, 1) := by decide +kernel
theorem d_S_canBe_75 : decode b_S_canBe 75 = .ok (.getfield 15, 3) := by decide +kernel
theorem d_S_canBe_78 : decode b_S_canBe 78 = .ok (.invokevirtual 66, 3) := by decide +kernel
theorem d_S_canBe_81 : decode b_S_canBe 81 = .ok (.aload_n 0, 1) := by decide +kernel
theorem d_S_canBe_82 : decode b_S_canBe 82 = .ok (.getfield 15, 3) := by decide +kernel
theorem d_S_canBe_85 : decode b_S_canBe 85 = .ok (.invokevirtual 70, 3) := by decide +kernel
theorem d_S_canBe_88 : decode b_S_canBe 88 = .ok (.iconst 0, 1) := by decide +kernel
theorem d_S_canBe_89 : decode b_S_canBe 89 = .ok (.invokestatic 62, 3) := by decide +kernel
theorem d_S_canBe_92 : decode b_S_canBe 92 = .ok (.istore_n 2, 1) := by decide +kernel
theorem d_S_canBe_93 : decode b_S_canBe 93 = .ok (.aload_n 0, 1) := by decide +kernel
theorem d_S_canBe_94 : decode b_S_canBe 94 = .ok (.getfield 9, 3) := by decide +kernel
theorem d_S_canBe_97 : decode b_S_canBe 97 = .ok (.ifCond .ne 7, 3) := by decide +kernel
theorem d_S_canBe_100 : decode b_S_canBe 100 = .ok (.iload_n 2, 1) := by decide +kernel
theorem d_S_canBe_101 : decode b_S_canBe 101 = .ok (.goto 7, 3) := by decide +kernel
theorem d_S_canBe_104 : decode b_S_canBe 104 = .ok (.iload_n 2, 1) := by decide +kernel
theorem d_S_canBe_105 : decode b_S_canBe 105 = .ok (.invokestatic 73, 3) := by decide +kernel
theorem d_S_canBe_108 : decode b_S_canBe 108 = .ok (.ireturn, 1) := by decide +kernel
theorem d_S_canBe_109 : decode b_S_canBe 109 = .ok (.aload_n 0, 1) := by decide +kernel
theorem d_S_canBe_110 : decode b_S_canBe 110 = .ok (.getfield 15, 3) := by decide +kernel
theorem d_S_canBe_113 : decode b_S_canBe 113 = .ok (.invokevirtual 70, 3) := by decide +kernel
theorem d_S_canBe_116 : decode b_S_canBe 116 = .ok (.ifCond .ne 20, 3) := by decide +kernel
theorem d_S_canBe_119 : decode b_S_canBe 119 = .ok (.aload_n 0, 1) := by decide +kernel
theorem d_S_canBe_120 : decode b_S_canBe 120 = .ok (.getfield 22, 3) := by decide +kernel
theorem d_S_canBe_123 : decode b_S_canBe 123 = .ok (.ifnull 17, 3) := by decide +kernel
theorem d_S_canBe_126 : decode b_S_canBe 126 = .ok (.aload_n 0, 1) := by decide +kernel
theorem d_S_canBe_127 : decode b_S_canBe 127 = .ok (.getfield 22, 3) := by decide +kernel
theorem d_S_canBe_130 : decode b_S_canBe 130 = .ok (.invokevirtual 70, 3) := by decide +kernel
theorem d_S_canBe_133 : decode b_S_canBe 133 = .ok (.ifCond .eq 7, 3) := by decide +kernel
theorem d_S_canBe_136 : decode b_S_canBe 136 = .ok (.iconst 1, 1) := by decide +kernel
theorem d_S_canBe_137 : decode b_S_canBe 137 = .ok (.goto 4, 3) := by decide +kernel
theorem d_S_canBe_140 : decode b_S_canBe 140 = .ok (.iconst 0, 1) := by decide +kernel
theorem d_S_canBe_141 : decode b_S_canBe 141 = .ok (.istore_n 2, 1) := by decide +kernel
theorem d_S_canBe_142 : decode b_S_canBe 142 = .ok (.aload_n 0, 1) := by decide +kernel
theorem d_S_canBe_143 : decode b_S_canBe 143 = .ok (.getfield 15, 3) := by decide +kernel
theorem d_S_canBe_146 : decode b_S_canBe 146 = .ok (.invokevirtual 66, 3) := by decide +kernel
theorem d_S_canBe_149 : decode b_S_canBe 149 = .ok (.ifCond .eq 20, 3) := by decide +kernel
theorem d_S_canBe_152 : decode b_S_canBe 152 = .ok (.aload_n 0, 1) := by decide +kernel
theorem d_S_canBe_153 : decode b_S_canBe 153 = .ok (.getfield 22, 3) := by decide +kernel
theorem d_S_canBe_156 : decode b_S_canBe 156 = .ok (.ifnull 20, 3) := by decide +kernel
theorem d_S_canBe_159 : decode b_S_canBe 159 = .ok (.aload_n 0, 1) := by decide +kernel
theorem d_S_canBe_160 : decode b_S_canBe 160 = .ok (.getfield 22, 3) := by decide +kernel
theorem d_S_canBe_163 : decode b_S_canBe 163 = .ok (.invokevirtual 66, 3) := by decide +kernel
theorem d_S_canBe_166 : decode b_S_canBe 166 = .ok (.ifCond .ne 10, 3) := by decide +kernel
theorem d_S_canBe_169 : decode b_S_canBe 169 = .ok (.iconst 0, 1) := by decide +kernel
theorem d_S_canBe_170 : decode b_S_canBe 170 = .ok (.iconst 0, 1) := by decide +kernel
theorem d_S_canBe_171 : decode b_S_canBe 171 = .ok (.iload_n 2, 1) := by decide +kernel
theorem d_S_canBe_172 : decode b_S_canBe 172 = .ok (.invokestatic 62, 3) := by decide +kernel
theorem d_S_canBe_175 : decode b_S_canBe 175 = .ok (.ireturn, 1) := by decide +kernel
theorem d_S_canBe_176 : decode b_S_canBe 176 = .ok (.aload_n 0, 1) := by decide +kernel
theorem d_S_canBe_177 : decode b_S_canBe 177 = .ok (.getfield 9, 3) := by decide +kernel
theorem d_S_canBe_180 : decode b_S_canBe 180 = .ok (.iconst 2, 1) := by decide +kernel
theorem d_S_canBe_181 : decode b_S_canBe 181 = .ok (.if_icmp .ne 16, 3) := by decide +kernel
theorem d_S_canBe_184 : decode b_S_canBe 184 = .ok (.aload_n 0, 1) := by decide +kernel
theorem d_S_canBe_185 : decode b_S_canBe 185 = .ok (.invokevirtual 77, 3) := by decide +kernel
theorem d_S_canBe_188 : decode b_S_canBe 188 = .ok (.aload_n 0, 1) := by decide +kernel
theorem d_S_canBe_189 : decode b_S_canBe 189 = .ok (.invokevirtual 80, 3) := by decide +kernel
theorem d_S_canBe_192 : decode b_S_canBe 192 = .ok (.iload_n 2, 1) := by decide +kernel
theorem d_S_canBe_193 : decode b_S_canBe 193 = .ok (.invokestatic 62, 3) := by decide +kernel
theorem d_S_canBe_196 : decode b_S_canBe 196 = .ok (.ireturn, 1) := by decide +kernel
theorem d_S_canBe_197 : decode b_S_canBe 197 = .ok (.aload_n 0, 1) := by decide +kernel
theorem d_S_canBe_198 : decode b_S_canBe 198 = .ok (.aload_n 0, 1) := by decide +kernel
theorem d_S_canBe_199 : decode b_S_canBe 199 = .ok (.getfield 19, 3) := by decide +kernel
theorem d_S_canBe_202 : decode b_S_canBe 202 = .ok (.invokestatic 83, 3) := by decide +kernel
theorem d_S_canBe_205 : decode b_S_canBe 205 = .ok (.invokevirtual 86, 3) := by decide +kernel
theorem d_S_canBe_208 : decode b_S_canBe 208 = .ok (.aload_n 0, 1) := by decide +kernel
theorem d_S_canBe_209 : decode b_S_canBe 209 = .ok (.aload_n 0, 1) := by decide +kernel
theorem d_S_canBe_210 : decode b_S_canBe 210 = .ok (.getfield 19, 3) := by decide +kernel
theorem d_S_canBe_213 : decode b_S_canBe 213 = .ok (.invokevirtual 86, 3) := by decide +kernel
theorem d_S_canBe_216 : decode b_S_canBe 216 = .ok (.iload_n 2, 1) := by decide +kernel
theorem d_S_canBe_217 : decode b_S_canBe 217 = .ok (.invokestatic 62, 3) := by decide +kernel
theorem d_S_canBe_220 : decode b_S_canBe 220 = .ok (.ireturn, 1) := by decide +kernel
theorem d_S_canBeInside_0 : decode b_S_canBeInside 0 = .ok (.aload_n 0, 1) := by decide +kernel
theorem d_S_canBeInside_1 : decode b_S_canBeInside 1 = .ok (.getfield 29, 3) := by decide +kernel
theorem d_S_canBeInside_4 : decode b_S_canBeInside 4 = .ok (.istore_n 1, 1) := by decide +kernel
theorem d_S_canBeInside_5 : decode b_S_canBeInside 5 = .ok (.iload_n 1, 1) := by decide +kernel
theorem d_S_canBeInside_6 : decode b_S_canBeInside 6 = .ok (.aload_n 0, 1) := by decide +kernel
theorem d_S_canBeInside_7 : decode b_S_canBeInside 7 = .ok (.getfield 29, 3) := by decide +kernel
theorem d_S_canBeInside_10 : decode b_S_canBeInside 10 = .ok (.aload_n 0, 1) := by decide +kernel
theorem d_S_canBeInside_11 : decode b_S_canBeInside 11 = .ok (.getfield 32, 3) := by decide +kernel
theorem d_S_canBeInside_14 : decode b_S_canBeInside 14 = .ok (.iadd, 1) := by decide +kernel
theorem d_S_canBeInside_15 : decode b_S_canBeInside 15 = .ok (.if_icmp .ge 27, 3) := by decide +kernel
theorem d_S_canBeInside_18 : decode b_S_canBeInside 18 = .ok (.aload_n 0, 1) := by decide +kernel
theorem d_S_canBeInside_19 : decode b_S_canBeInside 19 = .ok (.getfield 15, 3) := by decide +kernel
theorem d_S_canBeInside_22 : decode b_S_canBeInside 22 = .ok (.aload_n 0, 1) := by decide +kernel
theorem d_S_canBeInside_23 : decode b_S_canBeInside 23 = .ok (.getfield 25, 3) := by decide +kernel
theorem d_S_canBeInside_26 : decode b_S_canBeInside 26 = .ok (.iload_n 1, 1) := by decide +kernel
theorem d_S_canBeInside_27 : decode b_S_canBeInside 27 = .ok (.aaload, 1) := by decide +kernel
theorem d_S_canBeInside_28 : decode b_S_canBeInside 28 = .ok (.invokevirtual 90, 3) := by decide +kernel
theorem d_S_canBeInside_31 : decode b_S_canBeInside 31 = .ok (.ifCond .eq 5, 3) := by decide +kernel
theorem d_S_canBeInside_34 : decode b_S_canBeInside 34 = .ok (.iconst 1, 1) := by decide +kernel
theorem d_S_canBeInside_35 : decode b_S_canBeInside 35 = .ok (.ireturn, 1) := by decide +kernel
theorem d_S_canBeInside_36 : decode b_S_canBeInside 36 = .ok (.iinc 1 1, 3) := by decide +kernel
theorem d_S_canBeInside_39 : decode b_S_canBeInside 39 = .ok (.goto (-34), 3) := by decide +kernel
theorem d_S_canBeInside_42 : decode b_S_canBeInside 42 = .ok (.iconst 0, 1) := by decide +kernel
theorem d_S_canBeInside_43 : decode b_S_canBeInside 43 = .ok (.ireturn, 1) := by decide +kernel
theorem d_S_canBeOutside_0 : decode b_S_canBeOutside 0 = .ok (.aload_n 0, 1) := by decide +kernel
theorem d_S_canBeOutside_1 : decode b_S_canBeOutside 1 = .ok (.getfield 15, 3) := by decide +kernel
theorem d_S_canBeOutside_4 : decode b_S_canBeOutside 4 = .ok (.getfield 94, 3) := by decide +kernel
theorem d_S_canBeOutside_7 : decode b_S_canBeOutside 7 = .ok (.ifCond .ne 43, 3) := by decide +kernel
theorem d_S_canBeOutside_10 : decode b_S_canBeOutside 10 = .ok (.aload_n 0, 1) := by decide +kernel
theorem d_S_canBeOutside_11 : decode b_S_canBeOutside 11 = .ok (.getfield 15, 3) := by decide +kernel
theorem d_S_canBeOutside_14 : decode b_S_canBeOutside 14 = .ok (.getfield 97, 3) := by decide +kernel
theorem d_S_canBeOutside_17 : decode b_S_canBeOutside 17 = .ok (.aload_n 0, 1) := by decide +kernel
theorem d_S_canBeOutside_18 : decode b_S_canBeOutside 18 = .ok (.getfield 15, 3) := by decide +kernel
theorem d_S_canBeOutside_21 : decode b_S_canBeOutside 21 = .ok (.getfield 101, 3) := by decide +kernel
theorem d_S_canBeOutside_24 : decode b_S_canBeOutside 24 = .ok (.invokevirtual 48, 3) := by decide +kernel
theorem d_S_canBeOutside_27 : decode b_S_canBeOutside 27 = .ok (.ifCond .ne 17, 3) := by decide +kernel
theorem d_S_canBeOutside_30 : decode b_S_canBeOutside 30 = .ok (.aload_n 0, 1) := by decide +kernel
theorem d_S_canBeOutside_31 : decode b_S_canBeOutside 31 = .ok (.aload_n 0, 1) := by decide +kernel
theorem d_S_canBeOutside_32 : decode b_S_canBeOutside 32 = .ok (.getfield 15, 3) := by decide +kernel
theorem d_S_canBeOutside_35 : decode b_S_canBeOutside 35 = .ok (.getfield 97, 3) := by decide +kernel
theorem d_S_canBeOutside_38 : decode b_S_canBeOutside 38 = .ok (.invokevirtual 104, 3) := by decide +kernel
theorem d_S_canBeOutside_41 : decode b_S_canBeOutside 41 = .ok (.ifCond .eq 7, 3) := by decide +kernel
theorem d_S_canBeOutside_44 : decode b_S_canBeOutside 44 = .ok (.iconst 1, 1) := by decide +kernel
theorem d_S_canBeOutside_45 : decode b_S_canBeOutside 45 = .ok (.goto 4, 3) := by decide +kernel
theorem d_S_canBeOutside_48 : decode b_S_canBeOutside 48 = .ok (.iconst 0, 1) := by decide +kernel
theorem d_S_canBeOutside_49 : decode b_S_canBeOutside 49 = .ok (.ireturn, 1) := by decide +kernel
theorem d_S_canBeOutside_50 : decode b_S_canBeOutside 50 = .ok (.iconst 0, 1) := by decide +kernel
theorem d_S_canBeOutside_51 : decode b_S_canBeOutside 51 = .ok (.istore_n 1, 1) := by decide +kernel
theorem d_S_canBeOutside_52 : decode b_S_canBeOutside 52 = .ok (.iload_n 1, 1) := by decide +kernel
theorem d_S_canBeOutside_53 : decode b_S_canBeOutside 53 = .ok (.aload_n 0, 1) := by decide +kernel
theorem d_S_canBeOutside_54 : decode b_S_canBeOutside 54 = .ok (.getfield 15, 3) := by decide +kernel
theorem d_S_canBeOutside_57 : decode b_S_canBeOutside 57 = .ok (.getfield 94, 3) := by decide +kernel
theorem d_S_canBeOutside_60 : decode b_S_canBeOutside 60 = .ok (.if_icmp .ge 27, 3) := by decide +kernel
theorem d_S_canBeOutside_63 : decode b_S_canBeOutside 63 = .ok (.aload_n 0, 1) := by decide +kernel
theorem d_S_canBeOutside_64 : decode b_S_canBeOutside 64 = .ok (.aload_n 0, 1) := by decide +kernel
theorem d_S_canBeOutside_65 : decode b_S_canBeOutside 65 = .ok (.getfield 15, 3) := by decide +kernel
theorem d_S_canBeOutside_68 : decode b_S_canBeOutside 68 = .ok (.getfield 107, 3) := by decide +kernel
theorem d_S_canBeOutside_71 : decode b_S_canBeOutside 71 = .ok (.iload_n 1, 1) := by decide +kernel
theorem d_S_canBeOutside_72 : decode b_S_canBeOutside 72 = .ok (.aaload, 1) := by decide +kernel
theorem d_S_canBeOutside_73 : decode b_S_canBeOutside 73 = .ok (.invokevirtual 104, 3) := by decide +kernel
theorem d_S_canBeOutside_76 : decode b_S_canBeOutside 76 = .ok (.ifCond .eq 5, 3) := by decide +kernel
theorem d_S_canBeOutside_79 : decode b_S_canBeOutside 79 = .ok (.iconst 1, 1) := by decide +kernel
theorem d_S_canBeOutside_80 : decode b_S_canBeOutside 80 = .ok (.ireturn, 1) := by decide +kernel
theorem d_S_canBeOutside_81 : decode b_S_canBeOutside 81 = .ok (.iinc 1 1, 3) := by decide +kernel
theorem d_S_canBeOutside_84 : decode b_S_canBeOutside 84 = .ok (.goto (-32), 3) := by decide +kernel
theorem d_S_canBeOutside_87 : decode b_S_canBeOutside 87 = .ok (.iconst 0, 1) := by decide +kernel
theorem d_S_canBeOutside_88 : decode b_S_canBeOutside 88 = .ok (.ireturn, 1) := by decide +kernel
theorem d_S_isOutside_0 : decode b_S_isOutside 0 = .ok (.aload_n 1, 1) := by decide +kernel
theorem d_S_isOutside_1 : decode b_S_isOutside 1 = .ok (.aload_n 0, 1) := by decide +kernel
theorem d_S_isOutside_2 : decode b_S_isOutside 2 = .ok (.getfield 25, 3) := by decide +kernel
theorem d_S_isOutside_5 : decode b_S_isOutside 5 = .ok (.aload_n 0, 1) := by decide +kernel
theorem d_S_isOutside_6 : decode b_S_isOutside 6 = .ok (.getfield 29, 3) := by decide +kernel
theorem d_S_isOutside_9 : decode b_S_isOutside 9 = .ok (.aload_n 0, 1) := by decide +kernel
theorem d_S_isOutside_10 : decode b_S_isOutside 10 = .ok (.getfield 32, 3) := by decide +kernel
theorem d_S_isOutside_13 : decode b_S_isOutside 13 = .ok (.invokestatic 41, 3) := by decide +kernel
theorem d_S_isOutside_16 : decode b_S_isOutside 16 = .ok (.ifCond .ne 7, 3) := by decide +kernel
theorem d_S_isOutside_19 : decode b_S_isOutside 19 = .ok (.iconst 1, 1) := by decide +kernel
theorem d_S_isOutside_20 : decode b_S_isOutside 20 = .ok (.goto 4, 3) := by decide +kernel
theorem d_S_isOutside_23 : decode b_S_isOutside 23 = .ok (.iconst 0, 1) := by decide +kernel
theorem d_S_isOutside_24 : decode b_S_isOutside 24 = .ok (.ireturn, 1) := by decide +kernel
theorem d_S_canCompare_0 : decode b_S_canCompare 0 = .ok (.aload_n 0, 1) := by decide +kernel
theorem d_S_canCompare_1 : decode b_S_canCompare 1 = .ok (.getfield 22, 3) := by decide +kernel
theorem d_S_canCompare_4 : decode b_S_canCompare 4 = .ok (.ifnull 36, 3) := by decide +kernel
theorem d_S_canCompare_7 : decode b_S_canCompare 7 = .ok (.iload_n 1, 1) := by decide +kernel
theorem d_S_canCompare_8 : decode b_S_canCompare 8 = .ok (.aload_n 0, 1) := by decide +kernel
theorem d_S_canCompare_9 : decode b_S_canCompare 9 = .ok (.getfield 15, 3) := by decide +kernel
theorem d_S_canCompare_12 : decode b_S_canCompare 12 = .ok (.getfield 97, 3) := by decide +kernel
theorem d_S_canCompare_15 : decode b_S_canCompare 15 = .ok (.aload_n 0, 1) := by decide +kernel
theorem d_S_canCompare_16 : decode b_S_canCompare 16 = .ok (.getfield 15, 3) := by decide +kernel
theorem d_S_canCompare_19 : decode b_S_canCompare 19 = .ok (.getfield 101, 3) := by decide +kernel
theorem d_S_canCompare_22 : decode b_S_canCompare 22 = .ok (.aload_n 0, 1) := by decide +kernel
theorem d_S_canCompare_23 : decode b_S_canCompare 23 = .ok (.getfield 22, 3) := by decide +kernel
theorem d_S_canCompare_26 : decode b_S_canCompare 26 = .ok (.getfield 97, 3) := by decide +kernel
theorem d_S_canCompare_29 : decode b_S_canCompare 29 = .ok (.aload_n 0, 1) := by decide +kernel
theorem d_S_canCompare_30 : decode b_S_canCompare 30 = .ok (.getfield 22, 3) := by decide +kernel
theorem d_S_canCompare_33 : decode b_S_canCompare 33 = .ok (.getfield 101, 3) := by decide +kernel
theorem d_S_canCompare_36 : decode b_S_canCompare 36 = .ok (.invokestatic 110, 3) := by decide +kernel
theorem d_S_canCompare_39 : decode b_S_canCompare 39 = .ok (.ireturn, 1) := by decide +kernel
theorem d_S_canCompare_40 : decode b_S_canCompare 40 = .ok (.aload_n 0, 1) := by decide +kernel
theorem d_S_canCompare_41 : decode b_S_canCompare 41 = .ok (.getfield 25, 3) := by decide +kernel
theorem d_S_canCompare_44 : decode b_S_canCompare 44 = .ok (.aload_n 0, 1) := by decide +kernel
theorem d_S_canCompare_45 : decode b_S_canCompare 45 = .ok (.getfield 29, 3) := by decide +kernel
theorem d_S_canCompare_48 : decode b_S_canCompare 48 = .ok (.aaload, 1) := by decide +kernel
theorem d_S_canCompare_49 : decode b_S_canCompare 49 = .ok (.astore_n 2, 1) := by decide +kernel
theorem d_S_canCompare_50 : decode b_S_canCompare 50 = .ok (.aload_n 0, 1) := by decide +kernel
theorem d_S_canCompare_51 : decode b_S_canCompare 51 = .ok (.getfield 15, 3) := by decide +kernel
theorem d_S_canCompare_54 : decode b_S_canCompare 54 = .ok (.getfield 94, 3) := by decide +kernel
theorem d_S_canCompare_57 : decode b_S_canCompare 57 = .ok (.ifCond .ne 24, 3) := by decide +kernel
theorem d_S_canCompare_60 : decode b_S_canCompare 60 = .ok (.iload_n 1, 1) := by decide +kernel
theorem d_S_canCompare_61 : decode b_S_canCompare 61 = .ok (.aload_n 0, 1) := by decide +kernel
theorem d_S_canCompare_62 : decode b_S_canCompare 62 = .ok (.getfield 15, 3) := by decide +kernel
theorem d_S_canCompare_65 : decode b_S_canCompare 65 = .ok (.getfield 97, 3) := by decide +kernel
theorem d_S_canCompare_68 : decode b_S_canCompare 68 = .ok (.aload_n 0, 1) := by decide +kernel
theorem d_S_canCompare_69 : decode b_S_canCompare 69 = .ok (.getfield 15, 3) := by decide +kernel
theorem d_S_canCompare_72 : decode b_S_canCompare 72 = .ok (.getfield 101, 3) := by decide +kernel
theorem d_S_canCompare_75 : decode b_S_canCompare 75 = .ok (.aload_n 2, 1) := by decide +kernel
theorem d_S_canCompare_76 : decode b_S_canCompare 76 = .ok (.aload_n 2, 1) := by decide +kernel
theorem d_S_canCompare_77 : decode b_S_canCompare 77 = .ok (.invokestatic 110, 3) := by decide +kernel
theorem d_S_canCompare_80 : decode b_S_canCompare 80 = .ok (.ireturn, 1) := by decide +kernel
theorem d_S_canCompare_81 : decode b_S_canCompare 81 = .ok (.iconst 0, 1) := by decide +kernel
theorem d_S_canCompare_82 : decode b_S_canCompare 82 = .ok (.istore_n 3, 1) := by decide +kernel
theorem d_S_canCompare_83 : decode b_S_canCompare 83 = .ok (.iload_n 3, 1) := by decide +kernel
theorem d_S_canCompare_84 : decode b_S_canCompare 84 = .ok (.aload_n 0, 1) := by decide +kernel
theorem d_S_canCompare_85 : decode b_S_canCompare 85 = .ok (.getfield 15, 3) := by decide +kernel
theorem d_S_canCompare_88 : decode b_S_canCompare 88 = .ok (.getfield 94, 3) := by decide +kernel
theorem d_S_canCompare_91 : decode b_S_canCompare 91 = .ok (.if_icmp .ge 31, 3) := by decide +kernel
theorem d_S_canCompare_94 : decode b_S_canCompare 94 = .ok (.iload_n 1, 1) := by decide +kernel
theorem d_S_canCompare_95 : decode b_S_canCompare 95 = .ok (.aload_n 0, 1) := by decide +kernel
theorem d_S_canCompare_96 : decode b_S_canCompare 96 = .ok (.getfield 15, 3) := by decide +kernel
theorem d_S_canCompare_99 : decode b_S_canCompare 99 = .ok (.getfield 107, 3) := by decide +kernel
theorem d_S_canCompare_102 : decode b_S_canCompare 102 = .ok (.iload_n 3, 1) := by decide +kernel
theorem d_S_canCompare_103 : decode b_S_canCompare 103 = .ok (.aaload, 1) := by decide +kernel
theorem d_S_canCompare_104 : decode b_S_canCompare 104 = .ok (.aload_n 2, 1) := by decide +kernel
theorem d_S_canCompare_105 : decode b_S_canCompare 105 = .ok (.invokevirtual 48, 3) := by decide +kernel
theorem d_S_canCompare_108 : decode b_S_canCompare 108 = .ok (.invokestatic 54, 3) := by decide +kernel
theorem d_S_canCompare_111 : decode b_S_canCompare 111 = .ok (.ifCond .eq 5, 3) := by decide +kernel
theorem d_S_canCompare_114 : decode b_S_canCompare 114 = .ok (.iconst 1, 1) := by decide +kernel
theorem d_S_canCompare_115 : decode b_S_canCompare 115 = .ok (.ireturn, 1) := by decide +kernel
theorem d_S_canCompare_116 : decode b_S_canCompare 116 = .ok (.iinc 3 1, 3) := by decide +kernel
theorem d_S_canCompare_119 : decode b_S_canCompare 119 = .ok (.goto (-36), 3) := by decide +kernel
theorem d_S_canCompare_122 : decode b_S_canCompare 122 = .ok (.iconst 0, 1) := by decide +kernel
theorem d_S_canCompare_123 : decode b_S_canCompare 123 = .ok (.ireturn, 1) := by decide +kernel
