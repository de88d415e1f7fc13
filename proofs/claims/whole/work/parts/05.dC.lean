theorem d_C_init_0 : decode b_C_init 0 = .ok (.aload_n 0, 1) := by decide +kernel
theorem d_C_init_1 : decode b_C_init 1 = .ok (.invokespecial 3, 3) := by decide +kernel
theorem d_C_init_4 : decode b_C_init 4 = .ok (.aload_n 0, 1) := by decide +kernel
theorem d_C_init_5 : decode b_C_init 5 = .ok (.sipush 1000, 3) := by decide +kernel
theorem d_C_init_8 : decode b_C_init 8 = .ok (.anewarray 9, 3) := by decide +kernel
theorem d_C_init_11 : decode b_C_init 11 = .ok (.putfield 11, 3) := by decide +kernel
theorem d_C_init_14 : decode b_C_init 14 = .ok (.aload_n 0, 1) := by decide +kernel
theorem d_C_init_15 : decode b_C_init 15 = .ok (.iconst 0, 1) := by decide +kernel
theorem d_C_init_16 : decode b_C_init 16 = .ok (.putfield 17, 3) := by decide +kernel
theorem d_C_init_19 : decode b_C_init 19 = .ok (.aload_n 0, 1) := by decide +kernel
theorem d_C_init_20 : decode b_C_init 20 = .ok (.iconst 0, 1) := by decide +kernel
theorem d_C_init_21 : decode b_C_init 21 = .ok (.putfield 21, 3) := by decide +kernel
theorem d_C_init_24 : decode b_C_init 24 = .ok (.aload_n 0, 1) := by decide +kernel
theorem d_C_init_25 : decode b_C_init 25 = .ok (.iconst 0, 1) := by decide +kernel
theorem d_C_init_26 : decode b_C_init 26 = .ok (.putfield 24, 3) := by decide +kernel
theorem d_C_init_29 : decode b_C_init 29 = .ok (.aload_n 0, 1) := by decide +kernel
theorem d_C_init_30 : decode b_C_init 30 = .ok (.iconst 0, 1) := by decide +kernel
theorem d_C_init_31 : decode b_C_init 31 = .ok (.putfield 28, 3) := by decide +kernel
theorem d_C_init_34 : decode b_C_init 34 = .ok (.aload_n 0, 1) := by decide +kernel
theorem d_C_init_35 : decode b_C_init 35 = .ok (.iconst 0, 1) := by decide +kernel
theorem d_C_init_36 : decode b_C_init 36 = .ok (.putfield 31, 3) := by decide +kernel
theorem d_C_init_39 : decode b_C_init 39 = .ok (.aload_n 0, 1) := by decide +kernel
theorem d_C_init_40 : decode b_C_init 40 = .ok (.aconst_null, 1) := by decide +kernel
theorem d_C_init_41 : decode b_C_init 41 = .ok (.putfield 34, 3) := by decide +kernel
theorem d_C_init_44 : decode b_C_init 44 = .ok (.aload_n 0, 1) := by decide +kernel
theorem d_C_init_45 : decode b_C_init 45 = .ok (.aconst_null, 1) := by decide +kernel
theorem d_C_init_46 : decode b_C_init 46 = .ok (.putfield 38, 3) := by decide +kernel
theorem d_C_init_49 : decode b_C_init 49 = .ok (.aload_n 0, 1) := by decide +kernel
theorem d_C_init_50 : decode b_C_init 50 = .ok (.bipush 100, 2) := by decide +kernel
theorem d_C_init_52 : decode b_C_init 52 = .ok (.anewarray 9, 3) := by decide +kernel
theorem d_C_init_55 : decode b_C_init 55 = .ok (.putfield 41, 3) := by decide +kernel
theorem d_C_init_58 : decode b_C_init 58 = .ok (.aload_n 0, 1) := by decide +kernel
theorem d_C_init_59 : decode b_C_init 59 = .ok (.iconst 0, 1) := by decide +kernel
theorem d_C_init_60 : decode b_C_init 60 = .ok (.putfield 44, 3) := by decide +kernel
theorem d_C_init_63 : decode b_C_init 63 = .ok (.aload_n 0, 1) := by decide +kernel
theorem d_C_init_64 : decode b_C_init 64 = .ok (.bipush 100, 2) := by decide +kernel
theorem d_C_init_66 : decode b_C_init 66 = .ok (.anewarray 9, 3) := by decide +kernel
theorem d_C_init_69 : decode b_C_init 69 = .ok (.putfield 47, 3) := by decide +kernel
theorem d_C_init_72 : decode b_C_init 72 = .ok (.aload_n 0, 1) := by decide +kernel
theorem d_C_init_73 : decode b_C_init 73 = .ok (.iload_n 1, 1) := by decide +kernel
theorem d_C_init_74 : decode b_C_init 74 = .ok (.putfield 50, 3) := by decide +kernel
theorem d_C_init_77 : decode b_C_init 77 = .ok (.return_, 1) := by decide +kernel
theorem d_C_hasRoomFor_0 : decode b_C_hasRoomFor 0 = .ok (.iload_n 1, 1) := by decide +kernel
theorem d_C_hasRoomFor_1 : decode b_C_hasRoomFor 1 = .ok (.iconst 1, 1) := by decide +kernel
theorem d_C_hasRoomFor_2 : decode b_C_hasRoomFor 2 = .ok (.if_icmp .lt 19, 3) := by decide +kernel
theorem d_C_hasRoomFor_5 : decode b_C_hasRoomFor 5 = .ok (.iload_n 1, 1) := by decide +kernel
theorem d_C_hasRoomFor_6 : decode b_C_hasRoomFor 6 = .ok (.sipush 1000, 3) := by decide +kernel
theorem d_C_hasRoomFor_9 : decode b_C_hasRoomFor 9 = .ok (.aload_n 0, 1) := by decide +kernel
theorem d_C_hasRoomFor_10 : decode b_C_hasRoomFor 10 = .ok (.getfield 17, 3) := by decide +kernel
theorem d_C_hasRoomFor_13 : decode b_C_hasRoomFor 13 = .ok (.isub, 1) := by decide +kernel
theorem d_C_hasRoomFor_14 : decode b_C_hasRoomFor 14 = .ok (.if_icmp .gt 7, 3) := by decide +kernel
theorem d_C_hasRoomFor_17 : decode b_C_hasRoomFor 17 = .ok (.iconst 1, 1) := by decide +kernel
theorem d_C_hasRoomFor_18 : decode b_C_hasRoomFor 18 = .ok (.goto 4, 3) := by decide +kernel
theorem d_C_hasRoomFor_21 : decode b_C_hasRoomFor 21 = .ok (.iconst 0, 1) := by decide +kernel
theorem d_C_hasRoomFor_22 : decode b_C_hasRoomFor 22 = .ok (.ireturn, 1) := by decide +kernel
theorem d_C_hasRoomForBytes_0 : decode b_C_hasRoomForBytes 0 = .ok (.iload_n 1, 1) := by decide +kernel
theorem d_C_hasRoomForBytes_1 : decode b_C_hasRoomForBytes 1 = .ok (.sipush 8000, 3) := by decide +kernel
theorem d_C_hasRoomForBytes_4 : decode b_C_hasRoomForBytes 4 = .ok (.aload_n 0, 1) := by decide +kernel
theorem d_C_hasRoomForBytes_5 : decode b_C_hasRoomForBytes 5 = .ok (.getfield 21, 3) := by decide +kernel
theorem d_C_hasRoomForBytes_8 : decode b_C_hasRoomForBytes 8 = .ok (.isub, 1) := by decide +kernel
theorem d_C_hasRoomForBytes_9 : decode b_C_hasRoomForBytes 9 = .ok (.if_icmp .gt 7, 3) := by decide +kernel
theorem d_C_hasRoomForBytes_12 : decode b_C_hasRoomForBytes 12 = .ok (.iconst 1, 1) := by decide +kernel
theorem d_C_hasRoomForBytes_13 : decode b_C_hasRoomForBytes 13 = .ok (.goto 4, 3) := by decide +kernel
theorem d_C_hasRoomForBytes_16 : decode b_C_hasRoomForBytes 16 = .ok (.iconst 0, 1) := by decide +kernel
theorem d_C_hasRoomForBytes_17 : decode b_C_hasRoomForBytes 17 = .ok (.ireturn, 1) := by decide +kernel
theorem d_C_append_0 : decode b_C_append 0 = .ok (.iconst 0, 1) := by decide +kernel
theorem d_C_append_1 : decode b_C_append 1 = .ok (.istore_n 3, 1) := by decide +kernel
theorem d_C_append_2 : decode b_C_append 2 = .ok (.iload_n 3, 1) := by decide +kernel
theorem d_C_append_3 : decode b_C_append 3 = .ok (.iload_n 2, 1) := by decide +kernel
theorem d_C_append_4 : decode b_C_append 4 = .ok (.if_icmp .ge 39, 3) := by decide +kernel
theorem d_C_append_7 : decode b_C_append 7 = .ok (.aload_n 0, 1) := by decide +kernel
theorem d_C_append_8 : decode b_C_append 8 = .ok (.getfield 17, 3) := by decide +kernel
theorem d_C_append_11 : decode b_C_append 11 = .ok (.sipush 1000, 3) := by decide +kernel
theorem d_C_append_14 : decode b_C_append 14 = .ok (.if_icmp .ge 29, 3) := by decide +kernel
theorem d_C_append_17 : decode b_C_append 17 = .ok (.aload_n 0, 1) := by decide +kernel
theorem d_C_append_18 : decode b_C_append 18 = .ok (.getfield 11, 3) := by decide +kernel
theorem d_C_append_21 : decode b_C_append 21 = .ok (.aload_n 0, 1) := by decide +kernel
theorem d_C_append_22 : decode b_C_append 22 = .ok (.getfield 17, 3) := by decide +kernel
theorem d_C_append_25 : decode b_C_append 25 = .ok (.aload_n 1, 1) := by decide +kernel
theorem d_C_append_26 : decode b_C_append 26 = .ok (.aastore, 1) := by decide +kernel
theorem d_C_append_27 : decode b_C_append 27 = .ok (.aload_n 0, 1) := by decide +kernel
theorem d_C_append_28 : decode b_C_append 28 = .ok (.dup, 1) := by decide +kernel
theorem d_C_append_29 : decode b_C_append 29 = .ok (.getfield 17, 3) := by decide +kernel
theorem d_C_append_32 : decode b_C_append 32 = .ok (.iconst 1, 1) := by decide +kernel
theorem d_C_append_33 : decode b_C_append 33 = .ok (.iadd, 1) := by decide +kernel
theorem d_C_append_34 : decode b_C_append 34 = .ok (.putfield 17, 3) := by decide +kernel
theorem d_C_append_37 : decode b_C_append 37 = .ok (.iinc 3 1, 3) := by decide +kernel
theorem d_C_append_40 : decode b_C_append 40 = .ok (.goto (-38), 3) := by decide +kernel
theorem d_C_append_43 : decode b_C_append 43 = .ok (.aload_n 1, 1) := by decide +kernel
theorem d_C_append_44 : decode b_C_append 44 = .ok (.ifnull 17, 3) := by decide +kernel
theorem d_C_append_47 : decode b_C_append 47 = .ok (.aload_n 0, 1) := by decide +kernel
theorem d_C_append_48 : decode b_C_append 48 = .ok (.dup, 1) := by decide +kernel
theorem d_C_append_49 : decode b_C_append 49 = .ok (.getfield 21, 3) := by decide +kernel
theorem d_C_append_52 : decode b_C_append 52 = .ok (.aload_n 1, 1) := by decide +kernel
theorem d_C_append_53 : decode b_C_append 53 = .ok (.getfield 53, 3) := by decide +kernel
theorem d_C_append_56 : decode b_C_append 56 = .ok (.arraylength, 1) := by decide +kernel
theorem d_C_append_57 : decode b_C_append 57 = .ok (.iadd, 1) := by decide +kernel
theorem d_C_append_58 : decode b_C_append 58 = .ok (.putfield 21, 3) := by decide +kernel
theorem d_C_append_61 : decode b_C_append 61 = .ok (.return_, 1) := by decide +kernel
theorem d_C_removeRows_0 : decode b_C_removeRows 0 = .ok (.aload_n 0, 1) := by decide +kernel
theorem d_C_removeRows_1 : decode b_C_removeRows 1 = .ok (.iconst 0, 1) := by decide +kernel
theorem d_C_removeRows_2 : decode b_C_removeRows 2 = .ok (.putfield 17, 3) := by decide +kernel
theorem d_C_removeRows_5 : decode b_C_removeRows 5 = .ok (.aload_n 0, 1) := by decide +kernel
theorem d_C_removeRows_6 : decode b_C_removeRows 6 = .ok (.iconst 0, 1) := by decide +kernel
theorem d_C_removeRows_7 : decode b_C_removeRows 7 = .ok (.putfield 21, 3) := by decide +kernel
theorem d_C_removeRows_10 : decode b_C_removeRows 10 = .ok (.return_, 1) := by decide +kernel
theorem d_C_valueAt_0 : decode b_C_valueAt 0 = .ok (.iload_n 1, 1) := by decide +kernel
theorem d_C_valueAt_1 : decode b_C_valueAt 1 = .ok (.ifCond .lt 11, 3) := by decide +kernel
theorem d_C_valueAt_4 : decode b_C_valueAt 4 = .ok (.iload_n 1, 1) := by decide +kernel
theorem d_C_valueAt_5 : decode b_C_valueAt 5 = .ok (.aload_n 0, 1) := by decide +kernel
theorem d_C_valueAt_6 : decode b_C_valueAt 6 = .ok (.getfield 17, 3) := by decide +kernel
theorem d_C_valueAt_9 : decode b_C_valueAt 9 = .ok (.if_icmp .lt 7, 3) := by decide +kernel
theorem d_C_valueAt_12 : decode b_C_valueAt 12 = .ok (.aconst_null, 1) := by decide +kernel
theorem d_C_valueAt_13 : decode b_C_valueAt 13 = .ok (.goto 9, 3) := by decide +kernel
theorem d_C_valueAt_16 : decode b_C_valueAt 16 = .ok (.aload_n 0, 1) := by decide +kernel
theorem d_C_valueAt_17 : decode b_C_valueAt 17 = .ok (.getfield 11, 3) := by decide +kernel
theorem d_C_valueAt_20 : decode b_C_valueAt 20 = .ok (.iload_n 1, 1) := by decide +kernel
theorem d_C_valueAt_21 : decode b_C_valueAt 21 = .ok (.aaload, 1) := by decide +kernel
theorem d_C_valueAt_22 : decode b_C_valueAt 22 = .ok (.areturn, 1) := by decide +kernel
theorem d_C_learn_0 : decode b_C_learn 0 = .ok (.aconst_null, 1) := by decide +kernel
theorem d_C_learn_1 : decode b_C_learn 1 = .ok (.astore_n 3, 1) := by decide +kernel
theorem d_C_learn_2 : decode b_C_learn 2 = .ok (.aconst_null, 1) := by decide +kernel
theorem d_C_learn_3 : decode b_C_learn 3 = .ok (.astore 4, 2) := by decide +kernel
theorem d_C_learn_5 : decode b_C_learn 5 = .ok (.iconst 0, 1) := by decide +kernel
theorem d_C_learn_6 : decode b_C_learn 6 = .ok (.istore 5, 2) := by decide +kernel
theorem d_C_learn_8 : decode b_C_learn 8 = .ok (.iload 5, 2) := by decide +kernel
theorem d_C_learn_10 : decode b_C_learn 10 = .ok (.aload_n 0, 1) := by decide +kernel
theorem d_C_learn_11 : decode b_C_learn 11 = .ok (.getfield 17, 3) := by decide +kernel
theorem d_C_learn_14 : decode b_C_learn 14 = .ok (.if_icmp .ge 67, 3) := by decide +kernel
theorem d_C_learn_17 : decode b_C_learn 17 = .ok (.aload_n 0, 1) := by decide +kernel
theorem d_C_learn_18 : decode b_C_learn 18 = .ok (.getfield 11, 3) := by decide +kernel
theorem d_C_learn_21 : decode b_C_learn 21 = .ok (.iload 5, 2) := by decide +kernel
theorem d_C_learn_23 : decode b_C_learn 23 = .ok (.aaload, 1) := by decide +kernel
theorem d_C_learn_24 : decode b_C_learn 24 = .ok (.astore 6, 2) := by decide +kernel
theorem d_C_learn_26 : decode b_C_learn 26 = .ok (.aload 6, 2) := by decide +kernel
theorem d_C_learn_28 : decode b_C_learn 28 = .ok (.ifnull 47, 3) := by decide +kernel
theorem d_C_learn_31 : decode b_C_learn 31 = .ok (.aload_n 3, 1) := by decide +kernel
theorem d_C_learn_32 : decode b_C_learn 32 = .ok (.ifnull 12, 3) := by decide +kernel
theorem d_C_learn_35 : decode b_C_learn 35 = .ok (.aload 6, 2) := by decide +kernel
theorem d_C_learn_37 : decode b_C_learn 37 = .ok (.aload_n 3, 1) := by decide +kernel
theorem d_C_learn_38 : decode b_C_learn 38 = .ok (.invokevirtual 57, 3) := by decide +kernel
theorem d_C_learn_41 : decode b_C_learn 41 = .ok (.ifCond .ge 8, 3) := by decide +kernel
theorem d_C_learn_44 : decode b_C_learn 44 = .ok (.aload 6, 2) := by decide +kernel
theorem d_C_learn_46 : decode b_C_learn 46 = .ok (.goto 4, 3) := by decide +kernel
theorem d_C_learn_49 : decode b_C_learn 49 = .ok (.aload_n 3, 1) := by decide +kernel
theorem d_C_learn_50 : decode b_C_learn 50 = .ok (.astore_n 3, 1) := by decide +kernel
theorem d_C_learn_51 : decode b_C_learn 51 = .ok (.aload 4, 2) := by decide +kernel
theorem d_C_learn_53 : decode b_C_learn 53 = .ok (.ifnull 13, 3) := by decide +kernel
theorem d_C_learn_56 : decode b_C_learn 56 = .ok (.aload 6, 2) := by decide +kernel
theorem d_C_learn_58 : decode b_C_learn 58 = .ok (.aload 4, 2) := by decide +kernel
theorem d_C_learn_60 : decode b_C_learn 60 = .ok (.invokevirtual 57, 3) := by decide +kernel
theorem d_C_learn_63 : decode b_C_learn 63 = .ok (.ifCond .le 8, 3) := by decide +kernel
theorem d_C_learn_66 : decode b_C_learn 66 = .ok (.aload 6, 2) := by decide +kernel
theorem d_C_learn_68 : decode b_C_learn 68 = .ok (.goto 5, 3) := by decide +kernel
theorem d_C_learn_71 : decode b_C_learn 71 = .ok (.aload 4, 2) := by decide +kernel
theorem d_C_learn_73 : decode b_C_learn 73 = .ok (.astore 4, 2) := by decide +kernel
theorem d_C_learn_75 : decode b_C_learn 75 = .ok (.iinc 5 1, 3) := by decide +kernel
theorem d_C_learn_78 : decode b_C_learn 78 = .ok (.goto (-70), 3) := by decide +kernel
theorem d_C_learn_81 : decode b_C_learn 81 = .ok (.aload_n 3, 1) := by decide +kernel
theorem d_C_learn_82 : decode b_C_learn 82 = .ok (.ifnonnull 10, 3) := by decide +kernel
theorem d_C_learn_85 : decode b_C_learn 85 = .ok (.iload_n 2, 1) := by decide +kernel
theorem d_C_learn_86 : decode b_C_learn 86 = .ok (.iload_n 1, 1) := by decide +kernel
theorem d_C_learn_87 : decode b_C_learn 87 = .ok (.if_icmp .ge 5, 3) := by decide +kernel
theorem d_C_learn_90 : decode b_C_learn 90 = .ok (.iconst 0, 1) := by decide +kernel
theorem d_C_learn_91 : decode b_C_learn 91 = .ok (.ireturn, 1) := by decide +kernel
theorem d_C_learn_92 : decode b_C_learn 92 = .ok (.aload_n 0, 1) := by decide +kernel
theorem d_C_learn_93 : decode b_C_learn 93 = .ok (.iconst 1, 1) := by decide +kernel
theorem d_C_learn_94 : decode b_C_learn 94 = .ok (.putfield 24, 3) := by decide +kernel
theorem d_C_learn_97 : decode b_C_learn 97 = .ok (.aload_n 0, 1) := by decide +kernel
theorem d_C_learn_98 : decode b_C_learn 98 = .ok (.iload_n 1, 1) := by decide +kernel
theorem d_C_learn_99 : decode b_C_learn 99 = .ok (.putfield 28, 3) := by decide +kernel
theorem d_C_learn_102 : decode b_C_learn 102 = .ok (.aload_n 0, 1) := by decide +kernel
theorem d_C_learn_103 : decode b_C_learn 103 = .ok (.iload_n 2, 1) := by decide +kernel
theorem d_C_learn_104 : decode b_C_learn 104 = .ok (.putfield 31, 3) := by decide +kernel
theorem d_C_learn_107 : decode b_C_learn 107 = .ok (.aload_n 0, 1) := by decide +kernel
theorem d_C_learn_108 : decode b_C_learn 108 = .ok (.aload_n 3, 1) := by decide +kernel
theorem d_C_learn_109 : decode b_C_learn 109 = .ok (.putfield 34, 3) := by decide +kernel
theorem d_C_learn_112 : decode b_C_learn 112 = .ok (.aload_n 0, 1) := by decide +kernel
theorem d_C_learn_113 : decode b_C_learn 113 = .ok (.aload 4, 2) := by decide +kernel
theorem d_C_learn_115 : decode b_C_learn 115 = .ok (.putfield 38, 3) := by decide +kernel
theorem d_C_learn_118 : decode b_C_learn 118 = .ok (.aload_n 0, 1) := by decide +kernel
theorem d_C_learn_119 : decode b_C_learn 119 = .ok (.iconst 0, 1) := by decide +kernel
theorem d_C_learn_120 : decode b_C_learn 120 = .ok (.putfield 44, 3) := by decide +kernel
theorem d_C_learn_123 : decode b_C_learn 123 = .ok (.iconst 1, 1) := by decide +kernel
theorem d_C_learn_124 : decode b_C_learn 124 = .ok (.ireturn, 1) := by decide +kernel
theorem d_C_learnDictionary_0 : decode b_C_learnDictionary 0 = .ok (.aload_n 0, 1) := by decide +kernel
theorem d_C_learnDictionary_1 : decode b_C_learnDictionary 1 = .ok (.getfield 24, 3) := by decide +kernel
theorem d_C_learnDictionary_4 : decode b_C_learnDictionary 4 = .ok (.ifCond .eq 17, 3) := by decide +kernel
theorem d_C_learnDictionary_7 : decode b_C_learnDictionary 7 = .ok (.aload_n 0, 1) := by decide +kernel
theorem d_C_learnDictionary_8 : decode b_C_learnDictionary 8 = .ok (.getfield 34, 3) := by decide +kernel
theorem d_C_learnDictionary_11 : decode b_C_learnDictionary 11 = .ok (.ifnull 10, 3) := by decide +kernel
theorem d_C_learnDictionary_14 : decode b_C_learnDictionary 14 = .ok (.aload_n 0, 1) := by decide +kernel
theorem d_C_learnDictionary_15 : decode b_C_learnDictionary 15 = .ok (.getfield 38, 3) := by decide +kernel
theorem d_C_learnDictionary_18 : decode b_C_learnDictionary 18 = .ok (.ifnonnull 5, 3) := by decide +kernel
theorem d_C_learnDictionary_21 : decode b_C_learnDictionary 21 = .ok (.iconst 0, 1) := by decide +kernel
theorem d_C_learnDictionary_22 : decode b_C_learnDictionary 22 = .ok (.ireturn, 1) := by decide +kernel
theorem d_C_learnDictionary_23 : decode b_C_learnDictionary 23 = .ok (.iconst 0, 1) := by decide +kernel
theorem d_C_learnDictionary_24 : decode b_C_learnDictionary 24 = .ok (.istore_n 1, 1) := by decide +kernel
theorem d_C_learnDictionary_25 : decode b_C_learnDictionary 25 = .ok (.iconst 0, 1) := by decide +kernel
theorem d_C_learnDictionary_26 : decode b_C_learnDictionary 26 = .ok (.istore_n 2, 1) := by decide +kernel
theorem d_C_learnDictionary_27 : decode b_C_learnDictionary 27 = .ok (.iload_n 2, 1) := by decide +kernel
theorem d_C_learnDictionary_28 : decode b_C_learnDictionary 28 = .ok (.aload_n 0, 1) := by decide +kernel
theorem d_C_learnDictionary_29 : decode b_C_learnDictionary 29 = .ok (.getfield 17, 3) := by decide +kernel
theorem d_C_learnDictionary_32 : decode b_C_learnDictionary 32 = .ok (.if_icmp .ge 76, 3) := by decide +kernel
theorem d_C_learnDictionary_35 : decode b_C_learnDictionary 35 = .ok (.aload_n 0, 1) := by decide +kernel
theorem d_C_learnDictionary_36 : decode b_C_learnDictionary 36 = .ok (.getfield 11, 3) := by decide +kernel
theorem d_C_learnDictionary_39 : decode b_C_learnDictionary 39 = .ok (.iload_n 2, 1) := by decide +kernel
theorem d_C_learnDictionary_40 : decode b_C_learnDictionary 40 = .ok (.aaload, 1) := by decide +kernel
theorem d_C_learnDictionary_41 : decode b_C_learnDictionary 41 = .ok (.astore_n 3, 1) := by decide +kernel
theorem d_C_learnDictionary_42 : decode b_C_learnDictionary 42 = .ok (.aload_n 3, 1) := by decide +kernel
theorem d_C_learnDictionary_43 : decode b_C_learnDictionary 43 = .ok (.ifnull 59, 3) := by decide +kernel
theorem d_C_learnDictionary_46 : decode b_C_learnDictionary 46 = .ok (.aload_n 3, 1) := by decide +kernel
theorem d_C_learnDictionary_47 : decode b_C_learnDictionary 47 = .ok (.aload_n 0, 1) := by decide +kernel
theorem d_C_learnDictionary_48 : decode b_C_learnDictionary 48 = .ok (.getfield 47, 3) := by decide +kernel
theorem d_C_learnDictionary_51 : decode b_C_learnDictionary 51 = .ok (.iconst 0, 1) := by decide +kernel
theorem d_C_learnDictionary_52 : decode b_C_learnDictionary 52 = .ok (.iload_n 1, 1) := by decide +kernel
theorem d_C_learnDictionary_53 : decode b_C_learnDictionary 53 = .ok (.invokestatic 61, 3) := by decide +kernel
theorem d_C_learnDictionary_56 : decode b_C_learnDictionary 56 = .ok (.ifCond .eq 6, 3) := by decide +kernel
theorem d_C_learnDictionary_59 : decode b_C_learnDictionary 59 = .ok (.goto 43, 3) := by decide +kernel
theorem d_C_learnDictionary_62 : decode b_C_learnDictionary 62 = .ok (.iload_n 1, 1) := by decide +kernel
theorem d_C_learnDictionary_63 : decode b_C_learnDictionary 63 = .ok (.bipush 100, 2) := by decide +kernel
theorem d_C_learnDictionary_65 : decode b_C_learnDictionary 65 = .ok (.if_icmp .ge 25, 3) := by decide +kernel
theorem d_C_learnDictionary_68 : decode b_C_learnDictionary 68 = .ok (.aload_n 3, 1) := by decide +kernel
theorem d_C_learnDictionary_69 : decode b_C_learnDictionary 69 = .ok (.aload_n 0, 1) := by decide +kernel
theorem d_C_learnDictionary_70 : decode b_C_learnDictionary 70 = .ok (.getfield 34, 3) := by decide +kernel
theorem d_C_learnDictionary_73 : decode b_C_learnDictionary 73 = .ok (.invokevirtual 57, 3) := by decide +kernel
theorem d_C_learnDictionary_76 : decode b_C_learnDictionary 76 = .ok (.ifCond .lt 14, 3) := by decide +kernel
theorem d_C_learnDictionary_79 : decode b_C_learnDictionary 79 = .ok (.aload_n 3, 1) := by decide +kernel
theorem d_C_learnDictionary_80 : decode b_C_learnDictionary 80 = .ok (.aload_n 0, 1) := by decide +kernel
theorem d_C_learnDictionary_81 : decode b_C_learnDictionary 81 = .ok (.getfield 38, 3) := by decide +kernel
theorem d_C_learnDictionary_84 : decode b_C_learnDictionary 84 = .ok (.invokevirtual 57, 3) := by decide +kernel
theorem d_C_learnDictionary_87 : decode b_C_learnDictionary 87 = .ok (.ifCond .le 5, 3) := by decide +kernel
theorem d_C_learnDictionary_90 : decode b_C_learnDictionary 90 = .ok (.iconst 0, 1) := by decide +kernel
theorem d_C_learnDictionary_91 : decode b_C_learnDictionary 91 = .ok (.ireturn, 1) := by decide +kernel
theorem d_C_learnDictionary_92 : decode b_C_learnDictionary 92 = .ok (.aload_n 0, 1) := by decide +kernel
theorem d_C_learnDictionary_93 : decode b_C_learnDictionary 93 = .ok (.getfield 47, 3) := by decide +kernel
theorem d_C_learnDictionary_96 : decode b_C_learnDictionary 96 = .ok (.iload_n 1, 1) := by decide +kernel
theorem d_C_learnDictionary_97 : decode b_C_learnDictionary 97 = .ok (.aload_n 3, 1) := by decide +kernel
theorem d_C_learnDictionary_98 : decode b_C_learnDictionary 98 = .ok (.aastore, 1) := by decide +kernel
theorem d_C_learnDictionary_99 : decode b_C_learnDictionary 99 = .ok (.iinc 1 1, 3) := by decide +kernel
theorem d_C_learnDictionary_102 : decode b_C_learnDictionary 102 = .ok (.iinc 2 1, 3) := by decide +kernel
theorem d_C_learnDictionary_105 : decode b_C_learnDictionary 105 = .ok (.goto (-78), 3) := by decide +kernel
theorem d_C_learnDictionary_108 : decode b_C_learnDictionary 108 = .ok (.iload_n 1, 1) := by decide +kernel
theorem d_C_learnDictionary_109 : decode b_C_learnDictionary 109 = .ok (.ifCond .ne 5, 3) := by decide +kernel
theorem d_C_learnDictionary_112 : decode b_C_learnDictionary 112 = .ok (.iconst 0, 1) := by decide +kernel
theorem d_C_learnDictionary_113 : decode b_C_learnDictionary 113 = .ok (.ireturn, 1) := by decide +kernel
theorem d_C_learnDictionary_114 : decode b_C_learnDictionary 114 = .ok (.aload_n 0, 1) := by decide +kernel
theorem d_C_learnDictionary_115 : decode b_C_learnDictionary 115 = .ok (.getfield 41, 3) := by decide +kernel
theorem d_C_learnDictionary_118 : decode b_C_learnDictionary 118 = .ok (.astore_n 2, 1) := by decide +kernel
theorem d_C_learnDictionary_119 : decode b_C_learnDictionary 119 = .ok (.aload_n 0, 1) := by decide +kernel
theorem d_C_learnDictionary_120 : decode b_C_learnDictionary 120 = .ok (.aload_n 0, 1) := by decide +kernel
theorem d_C_learnDictionary_121 : decode b_C_learnDictionary 121 = .ok (.getfield 47, 3) := by decide +kernel
theorem d_C_learnDictionary_124 : decode b_C_learnDictionary 124 = .ok (.putfield 41, 3) := by decide +kernel
theorem d_C_learnDictionary_127 : decode b_C_learnDictionary 127 = .ok (.aload_n 0, 1) := by decide +kernel
theorem d_C_learnDictionary_128 : decode b_C_learnDictionary 128 = .ok (.iload_n 1, 1) := by decide +kernel
theorem d_C_learnDictionary_129 : decode b_C_learnDictionary 129 = .ok (.putfield 44, 3) := by decide +kernel
theorem d_C_learnDictionary_132 : decode b_C_learnDictionary 132 = .ok (.aload_n 0, 1) := by decide +kernel
theorem d_C_learnDictionary_133 : decode b_C_learnDictionary 133 = .ok (.aload_n 2, 1) := by decide +kernel
theorem d_C_learnDictionary_134 : decode b_C_learnDictionary 134 = .ok (.putfield 47, 3) := by decide +kernel
theorem d_C_learnDictionary_137 : decode b_C_learnDictionary 137 = .ok (.iconst 1, 1) := by decide +kernel
theorem d_C_learnDictionary_138 : decode b_C_learnDictionary 138 = .ok (.ireturn, 1) := by decide +kernel
theorem d_C_mayMiss_0 : decode b_C_mayMiss 0 = .ok (.aload_n 0, 1) := by decide +kernel
theorem d_C_mayMiss_1 : decode b_C_mayMiss 1 = .ok (.getfield 31, 3) := by decide +kernel
theorem d_C_mayMiss_4 : decode b_C_mayMiss 4 = .ok (.ifCond .le 7, 3) := by decide +kernel
theorem d_C_mayMiss_7 : decode b_C_mayMiss 7 = .ok (.iconst 1, 1) := by decide +kernel
theorem d_C_mayMiss_8 : decode b_C_mayMiss 8 = .ok (.goto 4, 3) := by decide +kernel
theorem d_C_mayMiss_11 : decode b_C_mayMiss 11 = .ok (.iconst 0, 1) := by decide +kernel
theorem d_C_mayMiss_12 : decode b_C_mayMiss 12 = .ok (.ireturn, 1) := by decide +kernel
theorem d_C_mayHaveValues_0 : decode b_C_mayHaveValues 0 = .ok (.aload_n 0, 1) := by decide +kernel
theorem d_C_mayHaveValues_1 : decode b_C_mayHaveValues 1 = .ok (.getfield 31, 3) := by decide +kernel
theorem d_C_mayHaveValues_4 : decode b_C_mayHaveValues 4 = .ok (.aload_n 0, 1) := by decide +kernel
theorem d_C_mayHaveValues_5 : decode b_C_mayHaveValues 5 = .ok (.getfield 28, 3) := by decide +kernel
theorem d_C_mayHaveValues_8 : decode b_C_mayHaveValues 8 = .ok (.if_icmp .ge 21, 3) := by decide +kernel
theorem d_C_mayHaveValues_11 : decode b_C_mayHaveValues 11 = .ok (.aload_n 0, 1) := by decide +kernel
theorem d_C_mayHaveValues_12 : decode b_C_mayHaveValues 12 = .ok (.getfield 34, 3) := by decide +kernel
theorem d_C_mayHaveValues_15 : decode b_C_mayHaveValues 15 = .ok (.ifnull 14, 3) := by decide +kernel
theorem d_C_mayHaveValues_18 : decode b_C_mayHaveValues 18 = .ok (.aload_n 0, 1) := by decide +kernel
theorem d_C_mayHaveValues_19 : decode b_C_mayHaveValues 19 = .ok (.getfield 38, 3) := by decide +kernel
theorem d_C_mayHaveValues_22 : decode b_C_mayHaveValues 22 = .ok (.ifnull 7, 3) := by decide +kernel
theorem d_C_mayHaveValues_25 : decode b_C_mayHaveValues 25 = .ok (.iconst 1, 1) := by decide +kernel
theorem d_C_mayHaveValues_26 : decode b_C_mayHaveValues 26 = .ok (.goto 4, 3) := by decide +kernel
theorem d_C_mayHaveValues_29 : decode b_C_mayHaveValues 29 = .ok (.iconst 0, 1) := by decide +kernel
theorem d_C_mayHaveValues_30 : decode b_C_mayHaveValues 30 = .ok (.ireturn, 1) := by decide +kernel
theorem d_C_mayHold_0 : decode b_C_mayHold 0 = .ok (.aload_n 0, 1) := by decide +kernel
theorem d_C_mayHold_1 : decode b_C_mayHold 1 = .ok (.getfield 44, 3) := by decide +kernel
theorem d_C_mayHold_4 : decode b_C_mayHold 4 = .ok (.ifCond .le 17, 3) := by decide +kernel
theorem d_C_mayHold_7 : decode b_C_mayHold 7 = .ok (.aload_n 1, 1) := by decide +kernel
theorem d_C_mayHold_8 : decode b_C_mayHold 8 = .ok (.aload_n 0, 1) := by decide +kernel
theorem d_C_mayHold_9 : decode b_C_mayHold 9 = .ok (.getfield 41, 3) := by decide +kernel
theorem d_C_mayHold_12 : decode b_C_mayHold 12 = .ok (.iconst 0, 1) := by decide +kernel
theorem d_C_mayHold_13 : decode b_C_mayHold 13 = .ok (.aload_n 0, 1) := by decide +kernel
theorem d_C_mayHold_14 : decode b_C_mayHold 14 = .ok (.getfield 44, 3) := by decide +kernel
theorem d_C_mayHold_17 : decode b_C_mayHold 17 = .ok (.invokestatic 61, 3) := by decide +kernel
theorem d_C_mayHold_20 : decode b_C_mayHold 20 = .ok (.ireturn, 1) := by decide +kernel
theorem d_C_mayHold_21 : decode b_C_mayHold 21 = .ok (.aload_n 1, 1) := by decide +kernel
theorem d_C_mayHold_22 : decode b_C_mayHold 22 = .ok (.aload_n 0, 1) := by decide +kernel
theorem d_C_mayHold_23 : decode b_C_mayHold 23 = .ok (.getfield 34, 3) := by decide +kernel
theorem d_C_mayHold_26 : decode b_C_mayHold 26 = .ok (.invokevirtual 57, 3) := by decide +kernel
theorem d_C_mayHold_29 : decode b_C_mayHold 29 = .ok (.ifCond .lt 18, 3) := by decide +kernel
theorem d_C_mayHold_32 : decode b_C_mayHold 32 = .ok (.aload_n 1, 1) := by decide +kernel
theorem d_C_mayHold_33 : decode b_C_mayHold 33 = .ok (.aload_n 0, 1) := by decide +kernel
theorem d_C_mayHold_34 : decode b_C_mayHold 34 = .ok (.getfield 38, 3) := by decide +kernel
theorem d_C_mayHold_37 : decode b_C_mayHold 37 = .ok (.invokevirtual 57, 3) := by decide +kernel
theorem d_C_mayHold_40 : decode b_C_mayHold 40 = .ok (.ifCond .gt 7, 3) := by decide +kernel
theorem d_C_mayHold_43 : decode b_C_mayHold 43 = .ok (.iconst 1, 1) := by decide +kernel
theorem d_C_mayHold_44 : decode b_C_mayHold 44 = .ok (.goto 4, 3) := by decide +kernel
theorem d_C_mayHold_47 : decode b_C_mayHold 47 = .ok (.iconst 0, 1) := by decide +kernel
theorem d_C_mayHold_48 : decode b_C_mayHold 48 = .ok (.ireturn, 1) := by decide +kernel
