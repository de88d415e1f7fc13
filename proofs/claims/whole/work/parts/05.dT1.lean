theorem d_T_init_0 : decode b_T_init 0 = .ok (.aload_n 0, 1) := by decide +kernel
theorem d_T_init_1 : decode b_T_init 1 = .ok (.invokespecial 1, 3) := by decide +kernel
theorem d_T_init_4 : decode b_T_init 4 = .ok (.aload_n 0, 1) := by decide +kernel
theorem d_T_init_5 : decode b_T_init 5 = .ok (.bipush 16, 2) := by decide +kernel
theorem d_T_init_7 : decode b_T_init 7 = .ok (.anewarray 9, 3) := by decide +kernel
theorem d_T_init_10 : decode b_T_init 10 = .ok (.putfield 11, 3) := by decide +kernel
theorem d_T_init_13 : decode b_T_init 13 = .ok (.aload_n 0, 1) := by decide +kernel
theorem d_T_init_14 : decode b_T_init 14 = .ok (.iconst 0, 1) := by decide +kernel
theorem d_T_init_15 : decode b_T_init 15 = .ok (.putfield 15, 3) := by decide +kernel
theorem d_T_init_18 : decode b_T_init 18 = .ok (.aload_n 0, 1) := by decide +kernel
theorem d_T_init_19 : decode b_T_init 19 = .ok (.sipush 1000, 3) := by decide +kernel
theorem d_T_init_22 : decode b_T_init 22 = .ok (.newarray .byte, 2) := by decide +kernel
theorem d_T_init_24 : decode b_T_init 24 = .ok (.putfield 19, 3) := by decide +kernel
theorem d_T_init_27 : decode b_T_init 27 = .ok (.aload_n 0, 1) := by decide +kernel
theorem d_T_init_28 : decode b_T_init 28 = .ok (.iconst 0, 1) := by decide +kernel
theorem d_T_init_29 : decode b_T_init 29 = .ok (.putfield 23, 3) := by decide +kernel
theorem d_T_init_32 : decode b_T_init 32 = .ok (.aload_n 0, 1) := by decide +kernel
theorem d_T_init_33 : decode b_T_init 33 = .ok (.bipush 64, 2) := by decide +kernel
theorem d_T_init_35 : decode b_T_init 35 = .ok (.anewarray 26, 3) := by decide +kernel
theorem d_T_init_38 : decode b_T_init 38 = .ok (.putfield 28, 3) := by decide +kernel
theorem d_T_init_41 : decode b_T_init 41 = .ok (.aload_n 0, 1) := by decide +kernel
theorem d_T_init_42 : decode b_T_init 42 = .ok (.iconst 0, 1) := by decide +kernel
theorem d_T_init_43 : decode b_T_init 43 = .ok (.putfield 32, 3) := by decide +kernel
theorem d_T_init_46 : decode b_T_init 46 = .ok (.aload_n 0, 1) := by decide +kernel
theorem d_T_init_47 : decode b_T_init 47 = .ok (.bipush 64, 2) := by decide +kernel
theorem d_T_init_49 : decode b_T_init 49 = .ok (.anewarray 35, 3) := by decide +kernel
theorem d_T_init_52 : decode b_T_init 52 = .ok (.putfield 37, 3) := by decide +kernel
theorem d_T_init_55 : decode b_T_init 55 = .ok (.aload_n 0, 1) := by decide +kernel
theorem d_T_init_56 : decode b_T_init 56 = .ok (.iconst 0, 1) := by decide +kernel
theorem d_T_init_57 : decode b_T_init 57 = .ok (.putfield 41, 3) := by decide +kernel
theorem d_T_init_60 : decode b_T_init 60 = .ok (.aload_n 0, 1) := by decide +kernel
theorem d_T_init_61 : decode b_T_init 61 = .ok (.bipush 64, 2) := by decide +kernel
theorem d_T_init_63 : decode b_T_init 63 = .ok (.newarray .int, 2) := by decide +kernel
theorem d_T_init_65 : decode b_T_init 65 = .ok (.putfield 44, 3) := by decide +kernel
theorem d_T_init_68 : decode b_T_init 68 = .ok (.aload_n 0, 1) := by decide +kernel
theorem d_T_init_69 : decode b_T_init 69 = .ok (.sipush 1000, 3) := by decide +kernel
theorem d_T_init_72 : decode b_T_init 72 = .ok (.newarray .int, 2) := by decide +kernel
theorem d_T_init_74 : decode b_T_init 74 = .ok (.putfield 48, 3) := by decide +kernel
theorem d_T_init_77 : decode b_T_init 77 = .ok (.aload_n 0, 1) := by decide +kernel
theorem d_T_init_78 : decode b_T_init 78 = .ok (.iconst 0, 1) := by decide +kernel
theorem d_T_init_79 : decode b_T_init 79 = .ok (.putfield 51, 3) := by decide +kernel
theorem d_T_init_82 : decode b_T_init 82 = .ok (.aload_n 0, 1) := by decide +kernel
theorem d_T_init_83 : decode b_T_init 83 = .ok (.sipush 1000, 3) := by decide +kernel
theorem d_T_init_86 : decode b_T_init 86 = .ok (.newarray .int, 2) := by decide +kernel
theorem d_T_init_88 : decode b_T_init 88 = .ok (.putfield 54, 3) := by decide +kernel
theorem d_T_init_91 : decode b_T_init 91 = .ok (.aload_n 0, 1) := by decide +kernel
theorem d_T_init_92 : decode b_T_init 92 = .ok (.iconst 0, 1) := by decide +kernel
theorem d_T_init_93 : decode b_T_init 93 = .ok (.putfield 57, 3) := by decide +kernel
theorem d_T_init_96 : decode b_T_init 96 = .ok (.return_, 1) := by decide +kernel
theorem d_T_feed_0 : decode b_T_feed 0 = .ok (.aload_n 0, 1) := by decide +kernel
theorem d_T_feed_1 : decode b_T_feed 1 = .ok (.getfield 23, 3) := by decide +kernel
theorem d_T_feed_4 : decode b_T_feed 4 = .ok (.sipush 980, 3) := by decide +kernel
theorem d_T_feed_7 : decode b_T_feed 7 = .ok (.if_icmp .le 5, 3) := by decide +kernel
theorem d_T_feed_10 : decode b_T_feed 10 = .ok (.iconst 0, 1) := by decide +kernel
theorem d_T_feed_11 : decode b_T_feed 11 = .ok (.ireturn, 1) := by decide +kernel
theorem d_T_feed_12 : decode b_T_feed 12 = .ok (.aload_n 0, 1) := by decide +kernel
theorem d_T_feed_13 : decode b_T_feed 13 = .ok (.iload_n 1, 1) := by decide +kernel
theorem d_T_feed_14 : decode b_T_feed 14 = .ok (.invokevirtual 60, 3) := by decide +kernel
theorem d_T_feed_17 : decode b_T_feed 17 = .ok (.aload_n 0, 1) := by decide +kernel
theorem d_T_feed_18 : decode b_T_feed 18 = .ok (.iload_n 2, 1) := by decide +kernel
theorem d_T_feed_19 : decode b_T_feed 19 = .ok (.invokevirtual 60, 3) := by decide +kernel
theorem d_T_feed_22 : decode b_T_feed 22 = .ok (.aload_n 0, 1) := by decide +kernel
theorem d_T_feed_23 : decode b_T_feed 23 = .ok (.iload_n 3, 1) := by decide +kernel
theorem d_T_feed_24 : decode b_T_feed 24 = .ok (.invokevirtual 60, 3) := by decide +kernel
theorem d_T_feed_27 : decode b_T_feed 27 = .ok (.aload_n 0, 1) := by decide +kernel
theorem d_T_feed_28 : decode b_T_feed 28 = .ok (.iload 4, 2) := by decide +kernel
theorem d_T_feed_30 : decode b_T_feed 30 = .ok (.invokevirtual 60, 3) := by decide +kernel
theorem d_T_feed_33 : decode b_T_feed 33 = .ok (.aload_n 0, 1) := by decide +kernel
theorem d_T_feed_34 : decode b_T_feed 34 = .ok (.iload 5, 2) := by decide +kernel
theorem d_T_feed_36 : decode b_T_feed 36 = .ok (.invokevirtual 60, 3) := by decide +kernel
theorem d_T_feed_39 : decode b_T_feed 39 = .ok (.iconst 1, 1) := by decide +kernel
theorem d_T_feed_40 : decode b_T_feed 40 = .ok (.ireturn, 1) := by decide +kernel
theorem d_T_column_0 : decode b_T_column 0 = .ok (.aload_n 0, 1) := by decide +kernel
theorem d_T_column_1 : decode b_T_column 1 = .ok (.getfield 15, 3) := by decide +kernel
theorem d_T_column_4 : decode b_T_column 4 = .ok (.bipush 16, 2) := by decide +kernel
theorem d_T_column_6 : decode b_T_column 6 = .ok (.if_icmp .ge 12, 3) := by decide +kernel
theorem d_T_column_9 : decode b_T_column 9 = .ok (.iload_n 1, 1) := by decide +kernel
theorem d_T_column_10 : decode b_T_column 10 = .ok (.ifCond .lt 8, 3) := by decide +kernel
theorem d_T_column_13 : decode b_T_column 13 = .ok (.iload_n 1, 1) := by decide +kernel
theorem d_T_column_14 : decode b_T_column 14 = .ok (.iconst 2, 1) := by decide +kernel
theorem d_T_column_15 : decode b_T_column 15 = .ok (.if_icmp .le 5, 3) := by decide +kernel
theorem d_T_column_18 : decode b_T_column 18 = .ok (.iconst (-1), 1) := by decide +kernel
theorem d_T_column_19 : decode b_T_column 19 = .ok (.ireturn, 1) := by decide +kernel
theorem d_T_column_20 : decode b_T_column 20 = .ok (.aload_n 0, 1) := by decide +kernel
theorem d_T_column_21 : decode b_T_column 21 = .ok (.getfield 11, 3) := by decide +kernel
theorem d_T_column_24 : decode b_T_column 24 = .ok (.aload_n 0, 1) := by decide +kernel
theorem d_T_column_25 : decode b_T_column 25 = .ok (.getfield 15, 3) := by decide +kernel
theorem d_T_column_28 : decode b_T_column 28 = .ok (.new 9, 3) := by decide +kernel
theorem d_T_column_31 : decode b_T_column 31 = .ok (.dup, 1) := by decide +kernel
theorem d_T_column_32 : decode b_T_column 32 = .ok (.iload_n 1, 1) := by decide +kernel
theorem d_T_column_33 : decode b_T_column 33 = .ok (.invokespecial 64, 3) := by decide +kernel
theorem d_T_column_36 : decode b_T_column 36 = .ok (.aastore, 1) := by decide +kernel
theorem d_T_column_37 : decode b_T_column 37 = .ok (.aload_n 0, 1) := by decide +kernel
theorem d_T_column_38 : decode b_T_column 38 = .ok (.dup, 1) := by decide +kernel
theorem d_T_column_39 : decode b_T_column 39 = .ok (.getfield 15, 3) := by decide +kernel
theorem d_T_column_42 : decode b_T_column 42 = .ok (.iconst 1, 1) := by decide +kernel
theorem d_T_column_43 : decode b_T_column 43 = .ok (.iadd, 1) := by decide +kernel
theorem d_T_column_44 : decode b_T_column 44 = .ok (.putfield 15, 3) := by decide +kernel
theorem d_T_column_47 : decode b_T_column 47 = .ok (.aload_n 0, 1) := by decide +kernel
theorem d_T_column_48 : decode b_T_column 48 = .ok (.getfield 15, 3) := by decide +kernel
theorem d_T_column_51 : decode b_T_column 51 = .ok (.iconst 1, 1) := by decide +kernel
theorem d_T_column_52 : decode b_T_column 52 = .ok (.isub, 1) := by decide +kernel
theorem d_T_column_53 : decode b_T_column 53 = .ok (.ireturn, 1) := by decide +kernel
theorem d_T_add_0 : decode b_T_add 0 = .ok (.aload_n 0, 1) := by decide +kernel
theorem d_T_add_1 : decode b_T_add 1 = .ok (.iload_n 1, 1) := by decide +kernel
theorem d_T_add_2 : decode b_T_add 2 = .ok (.invokevirtual 66, 3) := by decide +kernel
theorem d_T_add_5 : decode b_T_add 5 = .ok (.astore 5, 2) := by decide +kernel
theorem d_T_add_7 : decode b_T_add 7 = .ok (.aload 5, 2) := by decide +kernel
theorem d_T_add_9 : decode b_T_add 9 = .ok (.ifnull 25, 3) := by decide +kernel
theorem d_T_add_12 : decode b_T_add 12 = .ok (.aload 5, 2) := by decide +kernel
theorem d_T_add_14 : decode b_T_add 14 = .ok (.getfield 70, 3) := by decide +kernel
theorem d_T_add_17 : decode b_T_add 17 = .ok (.lload_n 2, 1) := by decide +kernel
theorem d_T_add_18 : decode b_T_add 18 = .ok (.invokestatic 73, 3) := by decide +kernel
theorem d_T_add_21 : decode b_T_add 21 = .ok (.ifCond .eq 13, 3) := by decide +kernel
theorem d_T_add_24 : decode b_T_add 24 = .ok (.aload 5, 2) := by decide +kernel
theorem d_T_add_26 : decode b_T_add 26 = .ok (.iload 4, 2) := by decide +kernel
theorem d_T_add_28 : decode b_T_add 28 = .ok (.invokevirtual 77, 3) := by decide +kernel
theorem d_T_add_31 : decode b_T_add 31 = .ok (.ifCond .ne 5, 3) := by decide +kernel
theorem d_T_add_34 : decode b_T_add 34 = .ok (.iconst 0, 1) := by decide +kernel
theorem d_T_add_35 : decode b_T_add 35 = .ok (.ireturn, 1) := by decide +kernel
theorem d_T_add_36 : decode b_T_add 36 = .ok (.aload 5, 2) := by decide +kernel
theorem d_T_add_38 : decode b_T_add 38 = .ok (.new 26, 3) := by decide +kernel
theorem d_T_add_41 : decode b_T_add 41 = .ok (.dup, 1) := by decide +kernel
theorem d_T_add_42 : decode b_T_add 42 = .ok (.aload 5, 2) := by decide +kernel
theorem d_T_add_44 : decode b_T_add 44 = .ok (.getfield 70, 3) := by decide +kernel
theorem d_T_add_47 : decode b_T_add 47 = .ok (.lload_n 2, 1) := by decide +kernel
theorem d_T_add_48 : decode b_T_add 48 = .ok (.getstatic 81, 3) := by decide +kernel
theorem d_T_add_51 : decode b_T_add 51 = .ok (.invokespecial 84, 3) := by decide +kernel
theorem d_T_add_54 : decode b_T_add 54 = .ok (.iload 4, 2) := by decide +kernel
theorem d_T_add_56 : decode b_T_add 56 = .ok (.invokevirtual 87, 3) := by decide +kernel
theorem d_T_add_59 : decode b_T_add 59 = .ok (.iconst 1, 1) := by decide +kernel
theorem d_T_add_60 : decode b_T_add 60 = .ok (.ireturn, 1) := by decide +kernel
theorem d_T_addText_0 : decode b_T_addText 0 = .ok (.aload_n 0, 1) := by decide +kernel
theorem d_T_addText_1 : decode b_T_addText 1 = .ok (.iload_n 2, 1) := by decide +kernel
theorem d_T_addText_2 : decode b_T_addText 2 = .ok (.invokevirtual 91, 3) := by decide +kernel
theorem d_T_addText_5 : decode b_T_addText 5 = .ok (.ifCond .ne 5, 3) := by decide +kernel
theorem d_T_addText_8 : decode b_T_addText 8 = .ok (.iconst 0, 1) := by decide +kernel
theorem d_T_addText_9 : decode b_T_addText 9 = .ok (.ireturn, 1) := by decide +kernel
theorem d_T_addText_10 : decode b_T_addText 10 = .ok (.aload_n 0, 1) := by decide +kernel
theorem d_T_addText_11 : decode b_T_addText 11 = .ok (.iconst 0, 1) := by decide +kernel
theorem d_T_addText_12 : decode b_T_addText 12 = .ok (.putfield 23, 3) := by decide +kernel
theorem d_T_addText_15 : decode b_T_addText 15 = .ok (.aload_n 0, 1) := by decide +kernel
theorem d_T_addText_16 : decode b_T_addText 16 = .ok (.iload_n 1, 1) := by decide +kernel
theorem d_T_addText_17 : decode b_T_addText 17 = .ok (.invokevirtual 66, 3) := by decide +kernel
theorem d_T_addText_20 : decode b_T_addText 20 = .ok (.astore_n 3, 1) := by decide +kernel
theorem d_T_addText_21 : decode b_T_addText 21 = .ok (.aload_n 3, 1) := by decide +kernel
theorem d_T_addText_22 : decode b_T_addText 22 = .ok (.ifnull 34, 3) := by decide +kernel
theorem d_T_addText_25 : decode b_T_addText 25 = .ok (.aload_n 3, 1) := by decide +kernel
theorem d_T_addText_26 : decode b_T_addText 26 = .ok (.getfield 70, 3) := by decide +kernel
theorem d_T_addText_29 : decode b_T_addText 29 = .ok (.iconst 2, 1) := by decide +kernel
theorem d_T_addText_30 : decode b_T_addText 30 = .ok (.if_icmp .ne 26, 3) := by decide +kernel
theorem d_T_addText_33 : decode b_T_addText 33 = .ok (.iload_n 2, 1) := by decide +kernel
theorem d_T_addText_34 : decode b_T_addText 34 = .ok (.sipush 255, 3) := by decide +kernel
theorem d_T_addText_37 : decode b_T_addText 37 = .ok (.if_icmp .gt 19, 3) := by decide +kernel
theorem d_T_addText_40 : decode b_T_addText 40 = .ok (.aload_n 3, 1) := by decide +kernel
theorem d_T_addText_41 : decode b_T_addText 41 = .ok (.iconst 1, 1) := by decide +kernel
theorem d_T_addText_42 : decode b_T_addText 42 = .ok (.invokevirtual 77, 3) := by decide +kernel
theorem d_T_addText_45 : decode b_T_addText 45 = .ok (.ifCond .eq 11, 3) := by decide +kernel
theorem d_T_addText_48 : decode b_T_addText 48 = .ok (.aload_n 3, 1) := by decide +kernel
theorem d_T_addText_49 : decode b_T_addText 49 = .ok (.iload_n 2, 1) := by decide +kernel
theorem d_T_addText_50 : decode b_T_addText 50 = .ok (.invokevirtual 94, 3) := by decide +kernel
theorem d_T_addText_53 : decode b_T_addText 53 = .ok (.ifCond .ne 5, 3) := by decide +kernel
theorem d_T_addText_56 : decode b_T_addText 56 = .ok (.iconst 0, 1) := by decide +kernel
theorem d_T_addText_57 : decode b_T_addText 57 = .ok (.ireturn, 1) := by decide +kernel
theorem d_T_addText_58 : decode b_T_addText 58 = .ok (.aload_n 3, 1) := by decide +kernel
theorem d_T_addText_59 : decode b_T_addText 59 = .ok (.new 26, 3) := by decide +kernel
theorem d_T_addText_62 : decode b_T_addText 62 = .ok (.dup, 1) := by decide +kernel
theorem d_T_addText_63 : decode b_T_addText 63 = .ok (.iconst 2, 1) := by decide +kernel
theorem d_T_addText_64 : decode b_T_addText 64 = .ok (.lconst 0, 1) := by decide +kernel
theorem d_T_addText_65 : decode b_T_addText 65 = .ok (.aload_n 0, 1) := by decide +kernel
theorem d_T_addText_66 : decode b_T_addText 66 = .ok (.getfield 19, 3) := by decide +kernel
theorem d_T_addText_69 : decode b_T_addText 69 = .ok (.iload_n 2, 1) := by decide +kernel
theorem d_T_addText_70 : decode b_T_addText 70 = .ok (.invokestatic 97, 3) := by decide +kernel
theorem d_T_addText_73 : decode b_T_addText 73 = .ok (.invokespecial 84, 3) := by decide +kernel
theorem d_T_addText_76 : decode b_T_addText 76 = .ok (.iconst 1, 1) := by decide +kernel
theorem d_T_addText_77 : decode b_T_addText 77 = .ok (.invokevirtual 87, 3) := by decide +kernel
theorem d_T_addText_80 : decode b_T_addText 80 = .ok (.iconst 1, 1) := by decide +kernel
theorem d_T_addText_81 : decode b_T_addText 81 = .ok (.ireturn, 1) := by decide +kernel
theorem d_T_miss_0 : decode b_T_miss 0 = .ok (.aload_n 0, 1) := by decide +kernel
theorem d_T_miss_1 : decode b_T_miss 1 = .ok (.iload_n 1, 1) := by decide +kernel
theorem d_T_miss_2 : decode b_T_miss 2 = .ok (.invokevirtual 66, 3) := by decide +kernel
theorem d_T_miss_5 : decode b_T_miss 5 = .ok (.astore_n 3, 1) := by decide +kernel
theorem d_T_miss_6 : decode b_T_miss 6 = .ok (.aload_n 3, 1) := by decide +kernel
theorem d_T_miss_7 : decode b_T_miss 7 = .ok (.ifnull 11, 3) := by decide +kernel
theorem d_T_miss_10 : decode b_T_miss 10 = .ok (.aload_n 3, 1) := by decide +kernel
theorem d_T_miss_11 : decode b_T_miss 11 = .ok (.iload_n 2, 1) := by decide +kernel
theorem d_T_miss_12 : decode b_T_miss 12 = .ok (.invokevirtual 77, 3) := by decide +kernel
theorem d_T_miss_15 : decode b_T_miss 15 = .ok (.ifCond .ne 5, 3) := by decide +kernel
theorem d_T_miss_18 : decode b_T_miss 18 = .ok (.iconst 0, 1) := by decide +kernel
theorem d_T_miss_19 : decode b_T_miss 19 = .ok (.ireturn, 1) := by decide +kernel
theorem d_T_miss_20 : decode b_T_miss 20 = .ok (.aload_n 3, 1) := by decide +kernel
theorem d_T_miss_21 : decode b_T_miss 21 = .ok (.aconst_null, 1) := by decide +kernel
theorem d_T_miss_22 : decode b_T_miss 22 = .ok (.iload_n 2, 1) := by decide +kernel
theorem d_T_miss_23 : decode b_T_miss 23 = .ok (.invokevirtual 87, 3) := by decide +kernel
theorem d_T_miss_26 : decode b_T_miss 26 = .ok (.iconst 1, 1) := by decide +kernel
theorem d_T_miss_27 : decode b_T_miss 27 = .ok (.ireturn, 1) := by decide +kernel
theorem d_T_clear_0 : decode b_T_clear 0 = .ok (.aload_n 0, 1) := by decide +kernel
theorem d_T_clear_1 : decode b_T_clear 1 = .ok (.iload_n 1, 1) := by decide +kernel
theorem d_T_clear_2 : decode b_T_clear 2 = .ok (.invokevirtual 66, 3) := by decide +kernel
theorem d_T_clear_5 : decode b_T_clear 5 = .ok (.astore_n 2, 1) := by decide +kernel
theorem d_T_clear_6 : decode b_T_clear 6 = .ok (.aload_n 2, 1) := by decide +kernel
theorem d_T_clear_7 : decode b_T_clear 7 = .ok (.ifnonnull 5, 3) := by decide +kernel
theorem d_T_clear_10 : decode b_T_clear 10 = .ok (.iconst 0, 1) := by decide +kernel
theorem d_T_clear_11 : decode b_T_clear 11 = .ok (.ireturn, 1) := by decide +kernel
theorem d_T_clear_12 : decode b_T_clear 12 = .ok (.aload_n 2, 1) := by decide +kernel
theorem d_T_clear_13 : decode b_T_clear 13 = .ok (.invokevirtual 103, 3) := by decide +kernel
theorem d_T_clear_16 : decode b_T_clear 16 = .ok (.iconst 1, 1) := by decide +kernel
theorem d_T_clear_17 : decode b_T_clear 17 = .ok (.ireturn, 1) := by decide +kernel
theorem d_T_literal_0 : decode b_T_literal 0 = .ok (.aload_n 0, 1) := by decide +kernel
theorem d_T_literal_1 : decode b_T_literal 1 = .ok (.getfield 32, 3) := by decide +kernel
theorem d_T_literal_4 : decode b_T_literal 4 = .ok (.bipush 64, 2) := by decide +kernel
theorem d_T_literal_6 : decode b_T_literal 6 = .ok (.if_icmp .ge 11, 3) := by decide +kernel
theorem d_T_literal_9 : decode b_T_literal 9 = .ok (.iload_n 1, 1) := by decide +kernel
theorem d_T_literal_10 : decode b_T_literal 10 = .ok (.lload_n 2, 1) := by decide +kernel
theorem d_T_literal_11 : decode b_T_literal 11 = .ok (.invokestatic 73, 3) := by decide +kernel
theorem d_T_literal_14 : decode b_T_literal 14 = .ok (.ifCond .ne 5, 3) := by decide +kernel
theorem d_T_literal_17 : decode b_T_literal 17 = .ok (.iconst (-1), 1) := by decide +kernel
theorem d_T_literal_18 : decode b_T_literal 18 = .ok (.ireturn, 1) := by decide +kernel
theorem d_T_literal_19 : decode b_T_literal 19 = .ok (.aload_n 0, 1) := by decide +kernel
theorem d_T_literal_20 : decode b_T_literal 20 = .ok (.new 26, 3) := by decide +kernel
theorem d_T_literal_23 : decode b_T_literal 23 = .ok (.dup, 1) := by decide +kernel
theorem d_T_literal_24 : decode b_T_literal 24 = .ok (.iload_n 1, 1) := by decide +kernel
theorem d_T_literal_25 : decode b_T_literal 25 = .ok (.lload_n 2, 1) := by decide +kernel
theorem d_T_literal_26 : decode b_T_literal 26 = .ok (.getstatic 81, 3) := by decide +kernel
theorem d_T_literal_29 : decode b_T_literal 29 = .ok (.invokespecial 84, 3) := by decide +kernel
theorem d_T_literal_32 : decode b_T_literal 32 = .ok (.invokevirtual 106, 3) := by decide +kernel
theorem d_T_literal_35 : decode b_T_literal 35 = .ok (.ireturn, 1) := by decide +kernel
theorem d_T_literalText_0 : decode b_T_literalText 0 = .ok (.aload_n 0, 1) := by decide +kernel
theorem d_T_literalText_1 : decode b_T_literalText 1 = .ok (.iload_n 1, 1) := by decide +kernel
theorem d_T_literalText_2 : decode b_T_literalText 2 = .ok (.invokevirtual 91, 3) := by decide +kernel
theorem d_T_literalText_5 : decode b_T_literalText 5 = .ok (.ifCond .ne 5, 3) := by decide +kernel
theorem d_T_literalText_8 : decode b_T_literalText 8 = .ok (.iconst (-1), 1) := by decide +kernel
theorem d_T_literalText_9 : decode b_T_literalText 9 = .ok (.ireturn, 1) := by decide +kernel
theorem d_T_literalText_10 : decode b_T_literalText 10 = .ok (.aload_n 0, 1) := by decide +kernel
theorem d_T_literalText_11 : decode b_T_literalText 11 = .ok (.iconst 0, 1) := by decide +kernel
theorem d_T_literalText_12 : decode b_T_literalText 12 = .ok (.putfield 23, 3) := by decide +kernel
theorem d_T_literalText_15 : decode b_T_literalText 15 = .ok (.aload_n 0, 1) := by decide +kernel
theorem d_T_literalText_16 : decode b_T_literalText 16 = .ok (.getfield 32, 3) := by decide +kernel
theorem d_T_literalText_19 : decode b_T_literalText 19 = .ok (.bipush 64, 2) := by decide +kernel
theorem d_T_literalText_21 : decode b_T_literalText 21 = .ok (.if_icmp .ge 10, 3) := by decide +kernel
theorem d_T_literalText_24 : decode b_T_literalText 24 = .ok (.iload_n 1, 1) := by decide +kernel
theorem d_T_literalText_25 : decode b_T_literalText 25 = .ok (.sipush 255, 3) := by decide +kernel
theorem d_T_literalText_28 : decode b_T_literalText 28 = .ok (.if_icmp .le 5, 3) := by decide +kernel
theorem d_T_literalText_31 : decode b_T_literalText 31 = .ok (.iconst (-1), 1) := by decide +kernel
theorem d_T_literalText_32 : decode b_T_literalText 32 = .ok (.ireturn, 1) := by decide +kernel
theorem d_T_literalText_33 : decode b_T_literalText 33 = .ok (.aload_n 0, 1) := by decide +kernel
theorem d_T_literalText_34 : decode b_T_literalText 34 = .ok (.new 26, 3) := by decide +kernel
theorem d_T_literalText_37 : decode b_T_literalText 37 = .ok (.dup, 1) := by decide +kernel
theorem d_T_literalText_38 : decode b_T_literalText 38 = .ok (.iconst 2, 1) := by decide +kernel
theorem d_T_literalText_39 : decode b_T_literalText 39 = .ok (.lconst 0, 1) := by decide +kernel
theorem d_T_literalText_40 : decode b_T_literalText 40 = .ok (.aload_n 0, 1) := by decide +kernel
theorem d_T_literalText_41 : decode b_T_literalText 41 = .ok (.getfield 19, 3) := by decide +kernel
theorem d_T_literalText_44 : decode b_T_literalText 44 = .ok (.iload_n 1, 1) := by decide +kernel
theorem d_T_literalText_45 : decode b_T_literalText 45 = .ok (.invokestatic 97, 3) := by decide +kernel
theorem d_T_literalText_48 : decode b_T_literalText 48 = .ok (.invokespecial 84, 3) := by decide +kernel
theorem d_T_literalText_51 : decode b_T_literalText 51 = .ok (.invokevirtual 106, 3) := by decide +kernel
theorem d_T_literalText_54 : decode b_T_literalText 54 = .ok (.ireturn, 1) := by decide +kernel
theorem d_T_step_0 : decode b_T_step 0 = .ok (.aload_n 0, 1) := by decide +kernel
theorem d_T_step_1 : decode b_T_step 1 = .ok (.getfield 41, 3) := by decide +kernel
theorem d_T_step_4 : decode b_T_step 4 = .ok (.bipush 64, 2) := by decide +kernel
theorem d_T_step_6 : decode b_T_step 6 = .ok (.if_icmp .ge 13, 3) := by decide +kernel
theorem d_T_step_9 : decode b_T_step 9 = .ok (.iload_n 1, 1) := by decide +kernel
theorem d_T_step_10 : decode b_T_step 10 = .ok (.ifCond .lt 9, 3) := by decide +kernel
theorem d_T_step_13 : decode b_T_step 13 = .ok (.iload_n 1, 1) := by decide +kernel
theorem d_T_step_14 : decode b_T_step 14 = .ok (.bipush 7, 2) := by decide +kernel
theorem d_T_step_16 : decode b_T_step 16 = .ok (.if_icmp .le 5, 3) := by decide +kernel
theorem d_T_step_19 : decode b_T_step 19 = .ok (.iconst (-1), 1) := by decide +kernel
theorem d_T_step_20 : decode b_T_step 20 = .ok (.ireturn, 1) := by decide +kernel
theorem d_T_step_21 : decode b_T_step 21 = .ok (.iload_n 1, 1) := by decide +kernel
theorem d_T_step_22 : decode b_T_step 22 = .ok (.iconst 5, 1) := by decide +kernel
theorem d_T_step_23 : decode b_T_step 23 = .ok (.if_icmp .ge 11, 3) := by decide +kernel
theorem d_T_step_26 : decode b_T_step 26 = .ok (.aload_n 0, 1) := by decide +kernel
theorem d_T_step_27 : decode b_T_step 27 = .ok (.iload_n 2, 1) := by decide +kernel
theorem d_T_step_28 : decode b_T_step 28 = .ok (.invokevirtual 66, 3) := by decide +kernel
theorem d_T_step_31 : decode b_T_step 31 = .ok (.goto 4, 3) := by decide +kernel
theorem d_T_step_34 : decode b_T_step 34 = .ok (.aconst_null, 1) := by decide +kernel
theorem d_T_step_35 : decode b_T_step 35 = .ok (.astore 6, 2) := by decide +kernel
theorem d_T_step_37 : decode b_T_step 37 = .ok (.iload_n 1, 1) := by decide +kernel
theorem d_T_step_38 : decode b_T_step 38 = .ok (.iconst 4, 1) := by decide +kernel
theorem d_T_step_39 : decode b_T_step 39 = .ok (.if_icmp .ne 12, 3) := by decide +kernel
theorem d_T_step_42 : decode b_T_step 42 = .ok (.aload_n 0, 1) := by decide +kernel
theorem d_T_step_43 : decode b_T_step 43 = .ok (.iload 4, 2) := by decide +kernel
theorem d_T_step_45 : decode b_T_step 45 = .ok (.invokevirtual 66, 3) := by decide +kernel
theorem d_T_step_48 : decode b_T_step 48 = .ok (.goto 4, 3) := by decide +kernel
theorem d_T_step_51 : decode b_T_step 51 = .ok (.aconst_null, 1) := by decide +kernel
theorem d_T_step_52 : decode b_T_step 52 = .ok (.astore 7, 2) := by decide +kernel
theorem d_T_step_54 : decode b_T_step 54 = .ok (.iload_n 1, 1) := by decide +kernel
theorem d_T_step_55 : decode b_T_step 55 = .ok (.iconst 2, 1) := by decide +kernel
theorem d_T_step_56 : decode b_T_step 56 = .ok (.if_icmp .ne 8, 3) := by decide +kernel
theorem d_T_step_59 : decode b_T_step 59 = .ok (.iload 5, 2) := by decide +kernel
theorem d_T_step_61 : decode b_T_step 61 = .ok (.goto 13, 3) := by decide +kernel
theorem d_T_step_64 : decode b_T_step 64 = .ok (.iload_n 1, 1) := by decide +kernel
theorem d_T_step_65 : decode b_T_step 65 = .ok (.iconst 3, 1) := by decide +kernel
theorem d_T_step_66 : decode b_T_step 66 = .ok (.if_icmp .ne 7, 3) := by decide +kernel
theorem d_T_step_69 : decode b_T_step 69 = .ok (.iconst 1, 1) := by decide +kernel
theorem d_T_step_70 : decode b_T_step 70 = .ok (.goto 4, 3) := by decide +kernel
theorem d_T_step_73 : decode b_T_step 73 = .ok (.iconst 0, 1) := by decide +kernel
theorem d_T_step_74 : decode b_T_step 74 = .ok (.istore 8, 2) := by decide +kernel
theorem d_T_step_76 : decode b_T_step 76 = .ok (.iload_n 1, 1) := by decide +kernel
theorem d_T_step_77 : decode b_T_step 77 = .ok (.iconst 5, 1) := by decide +kernel
theorem d_T_step_78 : decode b_T_step 78 = .ok (.if_icmp .ge 22, 3) := by decide +kernel
theorem d_T_step_81 : decode b_T_step 81 = .ok (.aload_n 0, 1) := by decide +kernel
theorem d_T_step_82 : decode b_T_step 82 = .ok (.iload_n 1, 1) := by decide +kernel
theorem d_T_step_83 : decode b_T_step 83 = .ok (.aload 6, 2) := by decide +kernel
theorem d_T_step_85 : decode b_T_step 85 = .ok (.iload_n 3, 1) := by decide +kernel
theorem d_T_step_86 : decode b_T_step 86 = .ok (.aload 7, 2) := by decide +kernel
theorem d_T_step_88 : decode b_T_step 88 = .ok (.iload 4, 2) := by decide +kernel
theorem d_T_step_90 : decode b_T_step 90 = .ok (.iload 8, 2) := by decide +kernel
theorem d_T_step_92 : decode b_T_step 92 = .ok (.invokevirtual 110, 3) := by decide +kernel
theorem d_T_step_95 : decode b_T_step 95 = .ok (.ifCond .ne 5, 3) := by decide +kernel
theorem d_T_step_98 : decode b_T_step 98 = .ok (.iconst (-1), 1) := by decide +kernel
theorem d_T_step_99 : decode b_T_step 99 = .ok (.ireturn, 1) := by decide +kernel
theorem d_T_step_100 : decode b_T_step 100 = .ok (.aload_n 0, 1) := by decide +kernel
theorem d_T_step_101 : decode b_T_step 101 = .ok (.getfield 37, 3) := by decide +kernel
theorem d_T_step_104 : decode b_T_step 104 = .ok (.aload_n 0, 1) := by decide +kernel
theorem d_T_step_105 : decode b_T_step 105 = .ok (.getfield 41, 3) := by decide +kernel
theorem d_T_step_108 : decode b_T_step 108 = .ok (.new 35, 3) := by decide +kernel
theorem d_T_step_111 : decode b_T_step 111 = .ok (.dup, 1) := by decide +kernel
theorem d_T_step_112 : decode b_T_step 112 = .ok (.iload_n 1, 1) := by decide +kernel
theorem d_T_step_113 : decode b_T_step 113 = .ok (.aload 6, 2) := by decide +kernel
theorem d_T_step_115 : decode b_T_step 115 = .ok (.iload_n 3, 1) := by decide +kernel
theorem d_T_step_116 : decode b_T_step 116 = .ok (.aload 7, 2) := by decide +kernel
theorem d_T_step_118 : decode b_T_step 118 = .ok (.aload_n 0, 1) := by decide +kernel
theorem d_T_step_119 : decode b_T_step 119 = .ok (.getfield 28, 3) := by decide +kernel
theorem d_T_step_122 : decode b_T_step 122 = .ok (.iload 4, 2) := by decide +kernel
theorem d_T_step_124 : decode b_T_step 124 = .ok (.iload 8, 2) := by decide +kernel
theorem d_T_step_126 : decode b_T_step 126 = .ok (.invokespecial 114, 3) := by decide +kernel
theorem d_T_step_129 : decode b_T_step 129 = .ok (.aastore, 1) := by decide +kernel
theorem d_T_step_130 : decode b_T_step 130 = .ok (.aload_n 0, 1) := by decide +kernel
theorem d_T_step_131 : decode b_T_step 131 = .ok (.dup, 1) := by decide +kernel
theorem d_T_step_132 : decode b_T_step 132 = .ok (.getfield 41, 3) := by decide +kernel
theorem d_T_step_135 : decode b_T_step 135 = .ok (.iconst 1, 1) := by decide +kernel
theorem d_T_step_136 : decode b_T_step 136 = .ok (.iadd, 1) := by decide +kernel
theorem d_T_step_137 : decode b_T_step 137 = .ok (.putfield 41, 3) := by decide +kernel
theorem d_T_step_140 : decode b_T_step 140 = .ok (.aload_n 0, 1) := by decide +kernel
theorem d_T_step_141 : decode b_T_step 141 = .ok (.getfield 41, 3) := by decide +kernel
theorem d_T_step_144 : decode b_T_step 144 = .ok (.iconst 1, 1) := by decide +kernel
theorem d_T_step_145 : decode b_T_step 145 = .ok (.isub, 1) := by decide +kernel
theorem d_T_step_146 : decode b_T_step 146 = .ok (.ireturn, 1) := by decide +kernel
theorem d_T_forget_0 : decode b_T_forget 0 = .ok (.aload_n 0, 1) := by decide +kernel
theorem d_T_forget_1 : decode b_T_forget 1 = .ok (.iconst 0, 1) := by decide +kernel
theorem d_T_forget_2 : decode b_T_forget 2 = .ok (.putfield 41, 3) := by decide +kernel
theorem d_T_forget_5 : decode b_T_forget 5 = .ok (.aload_n 0, 1) := by decide +kernel
theorem d_T_forget_6 : decode b_T_forget 6 = .ok (.iconst 0, 1) := by decide +kernel
theorem d_T_forget_7 : decode b_T_forget 7 = .ok (.putfield 32, 3) := by decide +kernel
theorem d_T_forget_10 : decode b_T_forget 10 = .ok (.return_, 1) := by decide +kernel
theorem d_T_scan_0 : decode b_T_scan 0 = .ok (.iload_n 1, 1) := by decide +kernel
theorem d_T_scan_1 : decode b_T_scan 1 = .ok (.ifCond .lt 25, 3) := by decide +kernel
theorem d_T_scan_4 : decode b_T_scan 4 = .ok (.iload_n 1, 1) := by decide +kernel
theorem d_T_scan_5 : decode b_T_scan 5 = .ok (.sipush 1000, 3) := by decide +kernel
theorem d_T_scan_8 : decode b_T_scan 8 = .ok (.if_icmp .gt 18, 3) := by decide +kernel
theorem d_T_scan_11 : decode b_T_scan 11 = .ok (.aload_n 0, 1) := by decide +kernel
theorem d_T_scan_12 : decode b_T_scan 12 = .ok (.invokevirtual 117, 3) := by decide +kernel
theorem d_T_scan_15 : decode b_T_scan 15 = .ok (.ifCond .eq 11, 3) := by decide +kernel
theorem d_T_scan_18 : decode b_T_scan 18 = .ok (.aload_n 0, 1) := by decide +kernel
theorem d_T_scan_19 : decode b_T_scan 19 = .ok (.iload_n 1, 1) := by decide +kernel
theorem d_T_scan_20 : decode b_T_scan 20 = .ok (.invokevirtual 121, 3) := by decide +kernel
theorem d_T_scan_23 : decode b_T_scan 23 = .ok (.ifCond .ne 5, 3) := by decide +kernel
theorem d_T_scan_26 : decode b_T_scan 26 = .ok (.iconst (-1), 1) := by decide +kernel
theorem d_T_scan_27 : decode b_T_scan 27 = .ok (.ireturn, 1) := by decide +kernel
theorem d_T_scan_28 : decode b_T_scan 28 = .ok (.aload_n 0, 1) := by decide +kernel
theorem d_T_scan_29 : decode b_T_scan 29 = .ok (.iload_n 1, 1) := by decide +kernel
theorem d_T_scan_30 : decode b_T_scan 30 = .ok (.putfield 51, 3) := by decide +kernel
theorem d_T_scan_33 : decode b_T_scan 33 = .ok (.aload_n 0, 1) := by decide +kernel
theorem d_T_scan_34 : decode b_T_scan 34 = .ok (.iconst 0, 1) := by decide +kernel
theorem d_T_scan_35 : decode b_T_scan 35 = .ok (.putfield 57, 3) := by decide +kernel
theorem d_T_scan_38 : decode b_T_scan 38 = .ok (.iconst 0, 1) := by decide +kernel
theorem d_T_scan_39 : decode b_T_scan 39 = .ok (.istore_n 2, 1) := by decide +kernel
theorem d_T_scan_40 : decode b_T_scan 40 = .ok (.iload_n 2, 1) := by decide +kernel
theorem d_T_scan_41 : decode b_T_scan 41 = .ok (.iload_n 1, 1) := by decide +kernel
theorem d_T_scan_42 : decode b_T_scan 42 = .ok (.if_icmp .ge 50, 3) := by decide +kernel
theorem d_T_scan_45 : decode b_T_scan 45 = .ok (.aload_n 0, 1) := by decide +kernel
theorem d_T_scan_46 : decode b_T_scan 46 = .ok (.getfield 48, 3) := by decide +kernel
theorem d_T_scan_49 : decode b_T_scan 49 = .ok (.iload_n 2, 1) := by decide +kernel
theorem d_T_scan_50 : decode b_T_scan 50 = .ok (.aload_n 0, 1) := by decide +kernel
theorem d_T_scan_51 : decode b_T_scan 51 = .ok (.iload_n 2, 1) := by decide +kernel
theorem d_T_scan_52 : decode b_T_scan 52 = .ok (.invokevirtual 124, 3) := by decide +kernel
theorem d_T_scan_55 : decode b_T_scan 55 = .ok (.iastore, 1) := by decide +kernel
theorem d_T_scan_56 : decode b_T_scan 56 = .ok (.aload_n 0, 1) := by decide +kernel
theorem d_T_scan_57 : decode b_T_scan 57 = .ok (.getfield 48, 3) := by decide +kernel
theorem d_T_scan_60 : decode b_T_scan 60 = .ok (.iload_n 2, 1) := by decide +kernel
theorem d_T_scan_61 : decode b_T_scan 61 = .ok (.iaload, 1) := by decide +kernel
theorem d_T_scan_62 : decode b_T_scan 62 = .ok (.iconst 2, 1) := by decide +kernel
theorem d_T_scan_63 : decode b_T_scan 63 = .ok (.if_icmp .ne 23, 3) := by decide +kernel
theorem d_T_scan_66 : decode b_T_scan 66 = .ok (.aload_n 0, 1) := by decide +kernel
theorem d_T_scan_67 : decode b_T_scan 67 = .ok (.getfield 54, 3) := by decide +kernel
theorem d_T_scan_70 : decode b_T_scan 70 = .ok (.aload_n 0, 1) := by decide +kernel
theorem d_T_scan_71 : decode b_T_scan 71 = .ok (.getfield 57, 3) := by decide +kernel
theorem d_T_scan_74 : decode b_T_scan 74 = .ok (.iload_n 2, 1) := by decide +kernel
theorem d_T_scan_75 : decode b_T_scan 75 = .ok (.iastore, 1) := by decide +kernel
theorem d_T_scan_76 : decode b_T_scan 76 = .ok (.aload_n 0, 1) := by decide +kernel
theorem d_T_scan_77 : decode b_T_scan 77 = .ok (.dup, 1) := by decide +kernel
theorem d_T_scan_78 : decode b_T_scan 78 = .ok (.getfield 57, 3) := by decide +kernel
theorem d_T_scan_81 : decode b_T_scan 81 = .ok (.iconst 1, 1) := by decide +kernel
theorem d_T_scan_82 : decode b_T_scan 82 = .ok (.iadd, 1) := by decide +kernel
theorem d_T_scan_83 : decode b_T_scan 83 = .ok (.putfield 57, 3) := by decide +kernel
theorem d_T_scan_86 : decode b_T_scan 86 = .ok (.iinc 2 1, 3) := by decide +kernel
theorem d_T_scan_89 : decode b_T_scan 89 = .ok (.goto (-49), 3) := by decide +kernel
theorem d_T_scan_92 : decode b_T_scan 92 = .ok (.aload_n 0, 1) := by decide +kernel
theorem d_T_scan_93 : decode b_T_scan 93 = .ok (.getfield 57, 3) := by decide +kernel
theorem d_T_scan_96 : decode b_T_scan 96 = .ok (.ireturn, 1) := by decide +kernel
theorem d_T_truth_0 : decode b_T_truth 0 = .ok (.iload_n 1, 1) := by decide +kernel
theorem d_T_truth_1 : decode b_T_truth 1 = .ok (.ifCond .lt 11, 3) := by decide +kernel
theorem d_T_truth_4 : decode b_T_truth 4 = .ok (.iload_n 1, 1) := by decide +kernel
theorem d_T_truth_5 : decode b_T_truth 5 = .ok (.aload_n 0, 1) := by decide +kernel
theorem d_T_truth_6 : decode b_T_truth 6 = .ok (.getfield 51, 3) := by decide +kernel
theorem d_T_truth_9 : decode b_T_truth 9 = .ok (.if_icmp .lt 5, 3) := by decide +kernel
theorem d_T_truth_12 : decode b_T_truth 12 = .ok (.iconst (-1), 1) := by decide +kernel
theorem d_T_truth_13 : decode b_T_truth 13 = .ok (.ireturn, 1) := by decide +kernel
theorem d_T_truth_14 : decode b_T_truth 14 = .ok (.aload_n 0, 1) := by decide +kernel
theorem d_T_truth_15 : decode b_T_truth 15 = .ok (.getfield 48, 3) := by decide +kernel
theorem d_T_truth_18 : decode b_T_truth 18 = .ok (.iload_n 1, 1) := by decide +kernel
theorem d_T_truth_19 : decode b_T_truth 19 = .ok (.iaload, 1) := by decide +kernel
theorem d_T_truth_20 : decode b_T_truth 20 = .ok (.iconst 1, 1) := by decide +kernel
theorem d_T_truth_21 : decode b_T_truth 21 = .ok (.ishr, 1) := by decide +kernel
theorem d_T_truth_22 : decode b_T_truth 22 = .ok (.ireturn, 1) := by decide +kernel
theorem d_T_chosen_0 : decode b_T_chosen 0 = .ok (.iload_n 1, 1) := by decide +kernel
theorem d_T_chosen_1 : decode b_T_chosen 1 = .ok (.ifCond .lt 11, 3) := by decide +kernel
theorem d_T_chosen_4 : decode b_T_chosen 4 = .ok (.iload_n 1, 1) := by decide +kernel
theorem d_T_chosen_5 : decode b_T_chosen 5 = .ok (.aload_n 0, 1) := by decide +kernel
theorem d_T_chosen_6 : decode b_T_chosen 6 = .ok (.getfield 57, 3) := by decide +kernel
theorem d_T_chosen_9 : decode b_T_chosen 9 = .ok (.if_icmp .lt 7, 3) := by decide +kernel
theorem d_T_chosen_12 : decode b_T_chosen 12 = .ok (.iconst (-1), 1) := by decide +kernel
theorem d_T_chosen_13 : decode b_T_chosen 13 = .ok (.goto 9, 3) := by decide +kernel
theorem d_T_chosen_16 : decode b_T_chosen 16 = .ok (.aload_n 0, 1) := by decide +kernel
theorem d_T_chosen_17 : decode b_T_chosen 17 = .ok (.getfield 54, 3) := by decide +kernel
theorem d_T_chosen_20 : decode b_T_chosen 20 = .ok (.iload_n 1, 1) := by decide +kernel
theorem d_T_chosen_21 : decode b_T_chosen 21 = .ok (.iaload, 1) := by decide +kernel
theorem d_T_chosen_22 : decode b_T_chosen 22 = .ok (.ireturn, 1) := by decide +kernel
theorem d_T_known_0 : decode b_T_known 0 = .ok (.aload_n 0, 1) := by decide +kernel
theorem d_T_known_1 : decode b_T_known 1 = .ok (.iload_n 1, 1) := by decide +kernel
theorem d_T_known_2 : decode b_T_known 2 = .ok (.invokevirtual 66, 3) := by decide +kernel
theorem d_T_known_5 : decode b_T_known 5 = .ok (.astore 4, 2) := by decide +kernel
theorem d_T_known_7 : decode b_T_known 7 = .ok (.aload 4, 2) := by decide +kernel
theorem d_T_known_9 : decode b_T_known 9 = .ok (.ifnull 18, 3) := by decide +kernel
theorem d_T_known_12 : decode b_T_known 12 = .ok (.iload_n 3, 1) := by decide +kernel
theorem d_T_known_13 : decode b_T_known 13 = .ok (.ifCond .lt 14, 3) := by decide +kernel
theorem d_T_known_16 : decode b_T_known 16 = .ok (.iload_n 3, 1) := by decide +kernel
theorem d_T_known_17 : decode b_T_known 17 = .ok (.iload_n 2, 1) := by decide +kernel
theorem d_T_known_18 : decode b_T_known 18 = .ok (.if_icmp .gt 9, 3) := by decide +kernel
theorem d_T_known_21 : decode b_T_known 21 = .ok (.iload_n 2, 1) := by decide +kernel
theorem d_T_known_22 : decode b_T_known 22 = .ok (.ldc 128, 2) := by decide +kernel
theorem d_T_known_24 : decode b_T_known 24 = .ok (.if_icmp .le 5, 3) := by decide +kernel
theorem d_T_known_27 : decode b_T_known 27 = .ok (.iconst 0, 1) := by decide +kernel
theorem d_T_known_28 : decode b_T_known 28 = .ok (.ireturn, 1) := by decide +kernel
theorem d_T_known_29 : decode b_T_known 29 = .ok (.aload 4, 2) := by decide +kernel
theorem d_T_known_31 : decode b_T_known 31 = .ok (.iload_n 2, 1) := by decide +kernel
theorem d_T_known_32 : decode b_T_known 32 = .ok (.iload_n 3, 1) := by decide +kernel
theorem d_T_known_33 : decode b_T_known 33 = .ok (.invokevirtual 129, 3) := by decide +kernel
theorem d_T_known_36 : decode b_T_known 36 = .ok (.ireturn, 1) := by decide +kernel
theorem d_T_dictionary_0 : decode b_T_dictionary 0 = .ok (.aload_n 0, 1) := by decide +kernel
theorem d_T_dictionary_1 : decode b_T_dictionary 1 = .ok (.iload_n 1, 1) := by decide +kernel
theorem d_T_dictionary_2 : decode b_T_dictionary 2 = .ok (.invokevirtual 66, 3) := by decide +kernel
theorem d_T_dictionary_5 : decode b_T_dictionary 5 = .ok (.astore_n 2, 1) := by decide +kernel
theorem d_T_dictionary_6 : decode b_T_dictionary 6 = .ok (.aload_n 2, 1) := by decide +kernel
theorem d_T_dictionary_7 : decode b_T_dictionary 7 = .ok (.ifnull 14, 3) := by decide +kernel
theorem d_T_dictionary_10 : decode b_T_dictionary 10 = .ok (.aload_n 2, 1) := by decide +kernel
theorem d_T_dictionary_11 : decode b_T_dictionary 11 = .ok (.invokevirtual 133, 3) := by decide +kernel
theorem d_T_dictionary_14 : decode b_T_dictionary 14 = .ok (.ifCond .eq 7, 3) := by decide +kernel
theorem d_T_dictionary_17 : decode b_T_dictionary 17 = .ok (.iconst 1, 1) := by decide +kernel
theorem d_T_dictionary_18 : decode b_T_dictionary 18 = .ok (.goto 4, 3) := by decide +kernel
theorem d_T_dictionary_21 : decode b_T_dictionary 21 = .ok (.iconst 0, 1) := by decide +kernel
theorem d_T_dictionary_22 : decode b_T_dictionary 22 = .ok (.ireturn, 1) := by decide +kernel
theorem d_T_unknown_0 : decode b_T_unknown 0 = .ok (.aload_n 0, 1) := by decide +kernel
theorem d_T_unknown_1 : decode b_T_unknown 1 = .ok (.iload_n 1, 1) := by decide +kernel
theorem d_T_unknown_2 : decode b_T_unknown 2 = .ok (.invokevirtual 66, 3) := by decide +kernel
theorem d_T_unknown_5 : decode b_T_unknown 5 = .ok (.astore_n 2, 1) := by decide +kernel
theorem d_T_unknown_6 : decode b_T_unknown 6 = .ok (.aload_n 2, 1) := by decide +kernel
theorem d_T_unknown_7 : decode b_T_unknown 7 = .ok (.ifnonnull 5, 3) := by decide +kernel
theorem d_T_unknown_10 : decode b_T_unknown 10 = .ok (.iconst 0, 1) := by decide +kernel
theorem d_T_unknown_11 : decode b_T_unknown 11 = .ok (.ireturn, 1) := by decide +kernel
theorem d_T_unknown_12 : decode b_T_unknown 12 = .ok (.aload_n 2, 1) := by decide +kernel
theorem d_T_unknown_13 : decode b_T_unknown 13 = .ok (.iconst 0, 1) := by decide +kernel
theorem d_T_unknown_14 : decode b_T_unknown 14 = .ok (.putfield 136, 3) := by decide +kernel
theorem d_T_unknown_17 : decode b_T_unknown 17 = .ok (.iconst 1, 1) := by decide +kernel
theorem d_T_unknown_18 : decode b_T_unknown 18 = .ok (.ireturn, 1) := by decide +kernel
theorem d_T_can_0 : decode b_T_can 0 = .ok (.aload_n 0, 1) := by decide +kernel
theorem d_T_can_1 : decode b_T_can 1 = .ok (.invokevirtual 117, 3) := by decide +kernel
theorem d_T_can_4 : decode b_T_can 4 = .ok (.ifCond .eq 11, 3) := by decide +kernel
theorem d_T_can_7 : decode b_T_can 7 = .ok (.aload_n 0, 1) := by decide +kernel
theorem d_T_can_8 : decode b_T_can 8 = .ok (.iconst (-1), 1) := by decide +kernel
theorem d_T_can_9 : decode b_T_can 9 = .ok (.invokevirtual 124, 3) := by decide +kernel
theorem d_T_can_12 : decode b_T_can 12 = .ok (.goto 4, 3) := by decide +kernel
theorem d_T_can_15 : decode b_T_can 15 = .ok (.iconst (-1), 1) := by decide +kernel
theorem d_T_can_16 : decode b_T_can 16 = .ok (.ireturn, 1) := by decide +kernel
theorem d_T_putOnTape_0 : decode b_T_putOnTape 0 = .ok (.bipush 24, 2) := by decide +kernel
theorem d_T_putOnTape_2 : decode b_T_putOnTape 2 = .ok (.istore_n 2, 1) := by decide +kernel
theorem d_T_putOnTape_3 : decode b_T_putOnTape 3 = .ok (.iload_n 2, 1) := by decide +kernel
theorem d_T_putOnTape_4 : decode b_T_putOnTape 4 = .ok (.ifCond .lt 42, 3) := by decide +kernel
theorem d_T_putOnTape_7 : decode b_T_putOnTape 7 = .ok (.aload_n 0, 1) := by decide +kernel
theorem d_T_putOnTape_8 : decode b_T_putOnTape 8 = .ok (.getfield 23, 3) := by decide +kernel
theorem d_T_putOnTape_11 : decode b_T_putOnTape 11 = .ok (.sipush 1000, 3) := by decide +kernel
theorem d_T_putOnTape_14 : decode b_T_putOnTape 14 = .ok (.if_icmp .ge 32, 3) := by decide +kernel
theorem d_T_putOnTape_17 : decode b_T_putOnTape 17 = .ok (.aload_n 0, 1) := by decide +kernel
theorem d_T_putOnTape_18 : decode b_T_putOnTape 18 = .ok (.getfield 19, 3) := by decide +kernel
theorem d_T_putOnTape_21 : decode b_T_putOnTape 21 = .ok (.aload_n 0, 1) := by decide +kernel
theorem d_T_putOnTape_22 : decode b_T_putOnTape 22 = .ok (.getfield 23, 3) := by decide +kernel
theorem d_T_putOnTape_25 : decode b_T_putOnTape 25 = .ok (.iload_n 1, 1) := by decide +kernel
theorem d_T_putOnTape_26 : decode b_T_putOnTape 26 = .ok (.iload_n 2, 1) := by decide +kernel
theorem d_T_putOnTape_27 : decode b_T_putOnTape 27 = .ok (.iushr, 1) := by decide +kernel
