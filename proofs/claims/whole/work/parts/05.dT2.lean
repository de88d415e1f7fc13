theorem d_T_putOnTape_28 : decode b_T_putOnTape 28 = .ok (.i2b, 1) := by decide +kernel
theorem d_T_putOnTape_29 : decode b_T_putOnTape 29 = .ok (.bastore, 1) := by decide +kernel
theorem d_T_putOnTape_30 : decode b_T_putOnTape 30 = .ok (.aload_n 0, 1) := by decide +kernel
theorem d_T_putOnTape_31 : decode b_T_putOnTape 31 = .ok (.dup, 1) := by decide +kernel
theorem d_T_putOnTape_32 : decode b_T_putOnTape 32 = .ok (.getfield 23, 3) := by decide +kernel
theorem d_T_putOnTape_35 : decode b_T_putOnTape 35 = .ok (.iconst 1, 1) := by decide +kernel
theorem d_T_putOnTape_36 : decode b_T_putOnTape 36 = .ok (.iadd, 1) := by decide +kernel
theorem d_T_putOnTape_37 : decode b_T_putOnTape 37 = .ok (.putfield 23, 3) := by decide +kernel
theorem d_T_putOnTape_40 : decode b_T_putOnTape 40 = .ok (.iinc 2 (-8), 3) := by decide +kernel
theorem d_T_putOnTape_43 : decode b_T_putOnTape 43 = .ok (.goto (-40), 3) := by decide +kernel
theorem d_T_putOnTape_46 : decode b_T_putOnTape 46 = .ok (.return_, 1) := by decide +kernel
theorem d_T_isOnTape_0 : decode b_T_isOnTape 0 = .ok (.iload_n 1, 1) := by decide +kernel
theorem d_T_isOnTape_1 : decode b_T_isOnTape 1 = .ok (.ifCond .lt 15, 3) := by decide +kernel
theorem d_T_isOnTape_4 : decode b_T_isOnTape 4 = .ok (.iload_n 1, 1) := by decide +kernel
theorem d_T_isOnTape_5 : decode b_T_isOnTape 5 = .ok (.aload_n 0, 1) := by decide +kernel
theorem d_T_isOnTape_6 : decode b_T_isOnTape 6 = .ok (.getfield 23, 3) := by decide +kernel
theorem d_T_isOnTape_9 : decode b_T_isOnTape 9 = .ok (.if_icmp .gt 7, 3) := by decide +kernel
theorem d_T_isOnTape_12 : decode b_T_isOnTape 12 = .ok (.iconst 1, 1) := by decide +kernel
theorem d_T_isOnTape_13 : decode b_T_isOnTape 13 = .ok (.goto 4, 3) := by decide +kernel
theorem d_T_isOnTape_16 : decode b_T_isOnTape 16 = .ok (.iconst 0, 1) := by decide +kernel
theorem d_T_isOnTape_17 : decode b_T_isOnTape 17 = .ok (.ireturn, 1) := by decide +kernel
theorem d_T_columnAt_0 : decode b_T_columnAt 0 = .ok (.iload_n 1, 1) := by decide +kernel
theorem d_T_columnAt_1 : decode b_T_columnAt 1 = .ok (.ifCond .lt 11, 3) := by decide +kernel
theorem d_T_columnAt_4 : decode b_T_columnAt 4 = .ok (.iload_n 1, 1) := by decide +kernel
theorem d_T_columnAt_5 : decode b_T_columnAt 5 = .ok (.aload_n 0, 1) := by decide +kernel
theorem d_T_columnAt_6 : decode b_T_columnAt 6 = .ok (.getfield 15, 3) := by decide +kernel
theorem d_T_columnAt_9 : decode b_T_columnAt 9 = .ok (.if_icmp .lt 7, 3) := by decide +kernel
theorem d_T_columnAt_12 : decode b_T_columnAt 12 = .ok (.aconst_null, 1) := by decide +kernel
theorem d_T_columnAt_13 : decode b_T_columnAt 13 = .ok (.goto 9, 3) := by decide +kernel
theorem d_T_columnAt_16 : decode b_T_columnAt 16 = .ok (.aload_n 0, 1) := by decide +kernel
theorem d_T_columnAt_17 : decode b_T_columnAt 17 = .ok (.getfield 11, 3) := by decide +kernel
theorem d_T_columnAt_20 : decode b_T_columnAt 20 = .ok (.iload_n 1, 1) := by decide +kernel
theorem d_T_columnAt_21 : decode b_T_columnAt 21 = .ok (.aaload, 1) := by decide +kernel
theorem d_T_columnAt_22 : decode b_T_columnAt 22 = .ok (.areturn, 1) := by decide +kernel
theorem d_T_keepLiteral_0 : decode b_T_keepLiteral 0 = .ok (.aload_n 0, 1) := by decide +kernel
theorem d_T_keepLiteral_1 : decode b_T_keepLiteral 1 = .ok (.getfield 28, 3) := by decide +kernel
theorem d_T_keepLiteral_4 : decode b_T_keepLiteral 4 = .ok (.aload_n 0, 1) := by decide +kernel
theorem d_T_keepLiteral_5 : decode b_T_keepLiteral 5 = .ok (.getfield 32, 3) := by decide +kernel
theorem d_T_keepLiteral_8 : decode b_T_keepLiteral 8 = .ok (.aload_n 1, 1) := by decide +kernel
theorem d_T_keepLiteral_9 : decode b_T_keepLiteral 9 = .ok (.aastore, 1) := by decide +kernel
theorem d_T_keepLiteral_10 : decode b_T_keepLiteral 10 = .ok (.aload_n 0, 1) := by decide +kernel
theorem d_T_keepLiteral_11 : decode b_T_keepLiteral 11 = .ok (.dup, 1) := by decide +kernel
theorem d_T_keepLiteral_12 : decode b_T_keepLiteral 12 = .ok (.getfield 32, 3) := by decide +kernel
theorem d_T_keepLiteral_15 : decode b_T_keepLiteral 15 = .ok (.iconst 1, 1) := by decide +kernel
theorem d_T_keepLiteral_16 : decode b_T_keepLiteral 16 = .ok (.iadd, 1) := by decide +kernel
theorem d_T_keepLiteral_17 : decode b_T_keepLiteral 17 = .ok (.putfield 32, 3) := by decide +kernel
theorem d_T_keepLiteral_20 : decode b_T_keepLiteral 20 = .ok (.aload_n 0, 1) := by decide +kernel
theorem d_T_keepLiteral_21 : decode b_T_keepLiteral 21 = .ok (.getfield 32, 3) := by decide +kernel
theorem d_T_keepLiteral_24 : decode b_T_keepLiteral 24 = .ok (.iconst 1, 1) := by decide +kernel
theorem d_T_keepLiteral_25 : decode b_T_keepLiteral 25 = .ok (.isub, 1) := by decide +kernel
theorem d_T_keepLiteral_26 : decode b_T_keepLiteral 26 = .ok (.ireturn, 1) := by decide +kernel
theorem d_T_isNumberOf_0 : decode b_T_isNumberOf 0 = .ok (.iload_n 0, 1) := by decide +kernel
theorem d_T_isNumberOf_1 : decode b_T_isNumberOf 1 = .ok (.iconst 1, 1) := by decide +kernel
theorem d_T_isNumberOf_2 : decode b_T_isNumberOf 2 = .ok (.if_icmp .eq 19, 3) := by decide +kernel
theorem d_T_isNumberOf_5 : decode b_T_isNumberOf 5 = .ok (.iload_n 0, 1) := by decide +kernel
theorem d_T_isNumberOf_6 : decode b_T_isNumberOf 6 = .ok (.ifCond .ne 19, 3) := by decide +kernel
theorem d_T_isNumberOf_9 : decode b_T_isNumberOf 9 = .ok (.lload_n 1, 1) := by decide +kernel
theorem d_T_isNumberOf_10 : decode b_T_isNumberOf 10 = .ok (.lconst 0, 1) := by decide +kernel
theorem d_T_isNumberOf_11 : decode b_T_isNumberOf 11 = .ok (.lcmp, 1) := by decide +kernel
theorem d_T_isNumberOf_12 : decode b_T_isNumberOf 12 = .ok (.ifCond .eq 9, 3) := by decide +kernel
theorem d_T_isNumberOf_15 : decode b_T_isNumberOf 15 = .ok (.lload_n 1, 1) := by decide +kernel
theorem d_T_isNumberOf_16 : decode b_T_isNumberOf 16 = .ok (.lconst 1, 1) := by decide +kernel
theorem d_T_isNumberOf_17 : decode b_T_isNumberOf 17 = .ok (.lcmp, 1) := by decide +kernel
theorem d_T_isNumberOf_18 : decode b_T_isNumberOf 18 = .ok (.ifCond .ne 7, 3) := by decide +kernel
theorem d_T_isNumberOf_21 : decode b_T_isNumberOf 21 = .ok (.iconst 1, 1) := by decide +kernel
theorem d_T_isNumberOf_22 : decode b_T_isNumberOf 22 = .ok (.goto 4, 3) := by decide +kernel
theorem d_T_isNumberOf_25 : decode b_T_isNumberOf 25 = .ok (.iconst 0, 1) := by decide +kernel
theorem d_T_isNumberOf_26 : decode b_T_isNumberOf 26 = .ok (.ireturn, 1) := by decide +kernel
theorem d_T_fits_0 : decode b_T_fits 0 = .ok (.aload_n 2, 1) := by decide +kernel
theorem d_T_fits_1 : decode b_T_fits 1 = .ok (.ifnonnull 5, 3) := by decide +kernel
theorem d_T_fits_4 : decode b_T_fits 4 = .ok (.iconst 0, 1) := by decide +kernel
theorem d_T_fits_5 : decode b_T_fits 5 = .ok (.ireturn, 1) := by decide +kernel
theorem d_T_fits_6 : decode b_T_fits 6 = .ok (.iload_n 1, 1) := by decide +kernel
theorem d_T_fits_7 : decode b_T_fits 7 = .ok (.tableswitch 96 2 4 #[25, 38, 66], 25) := by decide +kernel
theorem d_T_fits_32 : decode b_T_fits 32 = .ok (.aload_n 0, 1) := by decide +kernel
theorem d_T_fits_33 : decode b_T_fits 33 = .ok (.aload_n 2, 1) := by decide +kernel
theorem d_T_fits_34 : decode b_T_fits 34 = .ok (.getfield 70, 3) := by decide +kernel
theorem d_T_fits_37 : decode b_T_fits 37 = .ok (.iload 5, 2) := by decide +kernel
theorem d_T_fits_39 : decode b_T_fits 39 = .ok (.iload 6, 2) := by decide +kernel
theorem d_T_fits_41 : decode b_T_fits 41 = .ok (.invokevirtual 140, 3) := by decide +kernel
theorem d_T_fits_44 : decode b_T_fits 44 = .ok (.ireturn, 1) := by decide +kernel
theorem d_T_fits_45 : decode b_T_fits 45 = .ok (.iload_n 3, 1) := by decide +kernel
theorem d_T_fits_46 : decode b_T_fits 46 = .ok (.invokestatic 144, 3) := by decide +kernel
theorem d_T_fits_49 : decode b_T_fits 49 = .ok (.ifCond .eq 22, 3) := by decide +kernel
theorem d_T_fits_52 : decode b_T_fits 52 = .ok (.aload_n 0, 1) := by decide +kernel
theorem d_T_fits_53 : decode b_T_fits 53 = .ok (.aload_n 2, 1) := by decide +kernel
theorem d_T_fits_54 : decode b_T_fits 54 = .ok (.getfield 70, 3) := by decide +kernel
theorem d_T_fits_57 : decode b_T_fits 57 = .ok (.iload 5, 2) := by decide +kernel
theorem d_T_fits_59 : decode b_T_fits 59 = .ok (.iload 6, 2) := by decide +kernel
theorem d_T_fits_61 : decode b_T_fits 61 = .ok (.invokevirtual 140, 3) := by decide +kernel
theorem d_T_fits_64 : decode b_T_fits 64 = .ok (.ifCond .eq 7, 3) := by decide +kernel
theorem d_T_fits_67 : decode b_T_fits 67 = .ok (.iconst 1, 1) := by decide +kernel
theorem d_T_fits_68 : decode b_T_fits 68 = .ok (.goto 4, 3) := by decide +kernel
theorem d_T_fits_71 : decode b_T_fits 71 = .ok (.iconst 0, 1) := by decide +kernel
theorem d_T_fits_72 : decode b_T_fits 72 = .ok (.ireturn, 1) := by decide +kernel
theorem d_T_fits_73 : decode b_T_fits 73 = .ok (.iload_n 3, 1) := by decide +kernel
theorem d_T_fits_74 : decode b_T_fits 74 = .ok (.invokestatic 144, 3) := by decide +kernel
theorem d_T_fits_77 : decode b_T_fits 77 = .ok (.ifCond .eq 24, 3) := by decide +kernel
theorem d_T_fits_80 : decode b_T_fits 80 = .ok (.aload 4, 2) := by decide +kernel
theorem d_T_fits_82 : decode b_T_fits 82 = .ok (.ifnull 19, 3) := by decide +kernel
theorem d_T_fits_85 : decode b_T_fits 85 = .ok (.aload 4, 2) := by decide +kernel
theorem d_T_fits_87 : decode b_T_fits 87 = .ok (.getfield 70, 3) := by decide +kernel
theorem d_T_fits_90 : decode b_T_fits 90 = .ok (.aload_n 2, 1) := by decide +kernel
theorem d_T_fits_91 : decode b_T_fits 91 = .ok (.getfield 70, 3) := by decide +kernel
theorem d_T_fits_94 : decode b_T_fits 94 = .ok (.if_icmp .ne 7, 3) := by decide +kernel
theorem d_T_fits_97 : decode b_T_fits 97 = .ok (.iconst 1, 1) := by decide +kernel
theorem d_T_fits_98 : decode b_T_fits 98 = .ok (.goto 4, 3) := by decide +kernel
theorem d_T_fits_101 : decode b_T_fits 101 = .ok (.iconst 0, 1) := by decide +kernel
theorem d_T_fits_102 : decode b_T_fits 102 = .ok (.ireturn, 1) := by decide +kernel
theorem d_T_fits_103 : decode b_T_fits 103 = .ok (.iconst 1, 1) := by decide +kernel
theorem d_T_fits_104 : decode b_T_fits 104 = .ok (.ireturn, 1) := by decide +kernel
theorem d_T_isOperator_0 : decode b_T_isOperator 0 = .ok (.iload_n 0, 1) := by decide +kernel
theorem d_T_isOperator_1 : decode b_T_isOperator 1 = .ok (.ifCond .lt 12, 3) := by decide +kernel
theorem d_T_isOperator_4 : decode b_T_isOperator 4 = .ok (.iload_n 0, 1) := by decide +kernel
theorem d_T_isOperator_5 : decode b_T_isOperator 5 = .ok (.iconst 5, 1) := by decide +kernel
theorem d_T_isOperator_6 : decode b_T_isOperator 6 = .ok (.if_icmp .gt 7, 3) := by decide +kernel
theorem d_T_isOperator_9 : decode b_T_isOperator 9 = .ok (.iconst 1, 1) := by decide +kernel
theorem d_T_isOperator_10 : decode b_T_isOperator 10 = .ok (.goto 4, 3) := by decide +kernel
theorem d_T_isOperator_13 : decode b_T_isOperator 13 = .ok (.iconst 0, 1) := by decide +kernel
theorem d_T_isOperator_14 : decode b_T_isOperator 14 = .ok (.ireturn, 1) := by decide +kernel
theorem d_T_areLiterals_0 : decode b_T_areLiterals 0 = .ok (.iload_n 2, 1) := by decide +kernel
theorem d_T_areLiterals_1 : decode b_T_areLiterals 1 = .ok (.ifCond .lt 26, 3) := by decide +kernel
theorem d_T_areLiterals_4 : decode b_T_areLiterals 4 = .ok (.iload_n 2, 1) := by decide +kernel
theorem d_T_areLiterals_5 : decode b_T_areLiterals 5 = .ok (.aload_n 0, 1) := by decide +kernel
theorem d_T_areLiterals_6 : decode b_T_areLiterals 6 = .ok (.getfield 32, 3) := by decide +kernel
theorem d_T_areLiterals_9 : decode b_T_areLiterals 9 = .ok (.if_icmp .ge 18, 3) := by decide +kernel
theorem d_T_areLiterals_12 : decode b_T_areLiterals 12 = .ok (.iload_n 3, 1) := by decide +kernel
theorem d_T_areLiterals_13 : decode b_T_areLiterals 13 = .ok (.iconst 1, 1) := by decide +kernel
theorem d_T_areLiterals_14 : decode b_T_areLiterals 14 = .ok (.if_icmp .lt 13, 3) := by decide +kernel
theorem d_T_areLiterals_17 : decode b_T_areLiterals 17 = .ok (.iload_n 3, 1) := by decide +kernel
theorem d_T_areLiterals_18 : decode b_T_areLiterals 18 = .ok (.aload_n 0, 1) := by decide +kernel
theorem d_T_areLiterals_19 : decode b_T_areLiterals 19 = .ok (.getfield 32, 3) := by decide +kernel
theorem d_T_areLiterals_22 : decode b_T_areLiterals 22 = .ok (.iload_n 2, 1) := by decide +kernel
theorem d_T_areLiterals_23 : decode b_T_areLiterals 23 = .ok (.isub, 1) := by decide +kernel
theorem d_T_areLiterals_24 : decode b_T_areLiterals 24 = .ok (.if_icmp .le 5, 3) := by decide +kernel
theorem d_T_areLiterals_27 : decode b_T_areLiterals 27 = .ok (.iconst 0, 1) := by decide +kernel
theorem d_T_areLiterals_28 : decode b_T_areLiterals 28 = .ok (.ireturn, 1) := by decide +kernel
theorem d_T_areLiterals_29 : decode b_T_areLiterals 29 = .ok (.iconst 0, 1) := by decide +kernel
theorem d_T_areLiterals_30 : decode b_T_areLiterals 30 = .ok (.istore 4, 2) := by decide +kernel
theorem d_T_areLiterals_32 : decode b_T_areLiterals 32 = .ok (.iload 4, 2) := by decide +kernel
theorem d_T_areLiterals_34 : decode b_T_areLiterals 34 = .ok (.iload_n 3, 1) := by decide +kernel
theorem d_T_areLiterals_35 : decode b_T_areLiterals 35 = .ok (.if_icmp .ge 27, 3) := by decide +kernel
theorem d_T_areLiterals_38 : decode b_T_areLiterals 38 = .ok (.aload_n 0, 1) := by decide +kernel
theorem d_T_areLiterals_39 : decode b_T_areLiterals 39 = .ok (.getfield 28, 3) := by decide +kernel
theorem d_T_areLiterals_42 : decode b_T_areLiterals 42 = .ok (.iload_n 2, 1) := by decide +kernel
theorem d_T_areLiterals_43 : decode b_T_areLiterals 43 = .ok (.iload 4, 2) := by decide +kernel
theorem d_T_areLiterals_45 : decode b_T_areLiterals 45 = .ok (.iadd, 1) := by decide +kernel
theorem d_T_areLiterals_46 : decode b_T_areLiterals 46 = .ok (.aaload, 1) := by decide +kernel
theorem d_T_areLiterals_47 : decode b_T_areLiterals 47 = .ok (.getfield 147, 3) := by decide +kernel
theorem d_T_areLiterals_50 : decode b_T_areLiterals 50 = .ok (.iload_n 1, 1) := by decide +kernel
theorem d_T_areLiterals_51 : decode b_T_areLiterals 51 = .ok (.if_icmp .eq 5, 3) := by decide +kernel
theorem d_T_areLiterals_54 : decode b_T_areLiterals 54 = .ok (.iconst 0, 1) := by decide +kernel
theorem d_T_areLiterals_55 : decode b_T_areLiterals 55 = .ok (.ireturn, 1) := by decide +kernel
theorem d_T_areLiterals_56 : decode b_T_areLiterals 56 = .ok (.iinc 4 1, 3) := by decide +kernel
theorem d_T_areLiterals_59 : decode b_T_areLiterals 59 = .ok (.goto (-27), 3) := by decide +kernel
theorem d_T_areLiterals_62 : decode b_T_areLiterals 62 = .ok (.iconst 1, 1) := by decide +kernel
theorem d_T_areLiterals_63 : decode b_T_areLiterals 63 = .ok (.ireturn, 1) := by decide +kernel
theorem d_T_isCondition_0 : decode b_T_isCondition 0 = .ok (.iconst 0, 1) := by decide +kernel
theorem d_T_isCondition_1 : decode b_T_isCondition 1 = .ok (.istore_n 1, 1) := by decide +kernel
theorem d_T_isCondition_2 : decode b_T_isCondition 2 = .ok (.iconst 0, 1) := by decide +kernel
theorem d_T_isCondition_3 : decode b_T_isCondition 3 = .ok (.istore_n 2, 1) := by decide +kernel
theorem d_T_isCondition_4 : decode b_T_isCondition 4 = .ok (.iload_n 2, 1) := by decide +kernel
theorem d_T_isCondition_5 : decode b_T_isCondition 5 = .ok (.aload_n 0, 1) := by decide +kernel
theorem d_T_isCondition_6 : decode b_T_isCondition 6 = .ok (.getfield 41, 3) := by decide +kernel
theorem d_T_isCondition_9 : decode b_T_isCondition 9 = .ok (.if_icmp .ge 32, 3) := by decide +kernel
theorem d_T_isCondition_12 : decode b_T_isCondition 12 = .ok (.aload_n 0, 1) := by decide +kernel
theorem d_T_isCondition_13 : decode b_T_isCondition 13 = .ok (.getfield 37, 3) := by decide +kernel
theorem d_T_isCondition_16 : decode b_T_isCondition 16 = .ok (.iload_n 2, 1) := by decide +kernel
theorem d_T_isCondition_17 : decode b_T_isCondition 17 = .ok (.aaload, 1) := by decide +kernel
theorem d_T_isCondition_18 : decode b_T_isCondition 18 = .ok (.invokevirtual 148, 3) := by decide +kernel
theorem d_T_isCondition_21 : decode b_T_isCondition 21 = .ok (.istore_n 3, 1) := by decide +kernel
theorem d_T_isCondition_22 : decode b_T_isCondition 22 = .ok (.iload_n 3, 1) := by decide +kernel
theorem d_T_isCondition_23 : decode b_T_isCondition 23 = .ok (.iload_n 1, 1) := by decide +kernel
theorem d_T_isCondition_24 : decode b_T_isCondition 24 = .ok (.if_icmp .le 5, 3) := by decide +kernel
theorem d_T_isCondition_27 : decode b_T_isCondition 27 = .ok (.iconst 0, 1) := by decide +kernel
theorem d_T_isCondition_28 : decode b_T_isCondition 28 = .ok (.ireturn, 1) := by decide +kernel
theorem d_T_isCondition_29 : decode b_T_isCondition 29 = .ok (.iload_n 1, 1) := by decide +kernel
theorem d_T_isCondition_30 : decode b_T_isCondition 30 = .ok (.iconst 1, 1) := by decide +kernel
theorem d_T_isCondition_31 : decode b_T_isCondition 31 = .ok (.iload_n 3, 1) := by decide +kernel
theorem d_T_isCondition_32 : decode b_T_isCondition 32 = .ok (.isub, 1) := by decide +kernel
theorem d_T_isCondition_33 : decode b_T_isCondition 33 = .ok (.iadd, 1) := by decide +kernel
theorem d_T_isCondition_34 : decode b_T_isCondition 34 = .ok (.istore_n 1, 1) := by decide +kernel
theorem d_T_isCondition_35 : decode b_T_isCondition 35 = .ok (.iinc 2 1, 3) := by decide +kernel
theorem d_T_isCondition_38 : decode b_T_isCondition 38 = .ok (.goto (-34), 3) := by decide +kernel
theorem d_T_isCondition_41 : decode b_T_isCondition 41 = .ok (.aload_n 0, 1) := by decide +kernel
theorem d_T_isCondition_42 : decode b_T_isCondition 42 = .ok (.getfield 41, 3) := by decide +kernel
theorem d_T_isCondition_45 : decode b_T_isCondition 45 = .ok (.ifCond .eq 8, 3) := by decide +kernel
theorem d_T_isCondition_48 : decode b_T_isCondition 48 = .ok (.iload_n 1, 1) := by decide +kernel
theorem d_T_isCondition_49 : decode b_T_isCondition 49 = .ok (.iconst 1, 1) := by decide +kernel
theorem d_T_isCondition_50 : decode b_T_isCondition 50 = .ok (.if_icmp .ne 7, 3) := by decide +kernel
theorem d_T_isCondition_53 : decode b_T_isCondition 53 = .ok (.iconst 1, 1) := by decide +kernel
theorem d_T_isCondition_54 : decode b_T_isCondition 54 = .ok (.goto 4, 3) := by decide +kernel
theorem d_T_isCondition_57 : decode b_T_isCondition 57 = .ok (.iconst 0, 1) := by decide +kernel
theorem d_T_isCondition_58 : decode b_T_isCondition 58 = .ok (.ireturn, 1) := by decide +kernel
theorem d_T_stepsHaveRows_0 : decode b_T_stepsHaveRows 0 = .ok (.iconst 0, 1) := by decide +kernel
theorem d_T_stepsHaveRows_1 : decode b_T_stepsHaveRows 1 = .ok (.istore_n 2, 1) := by decide +kernel
theorem d_T_stepsHaveRows_2 : decode b_T_stepsHaveRows 2 = .ok (.iload_n 2, 1) := by decide +kernel
theorem d_T_stepsHaveRows_3 : decode b_T_stepsHaveRows 3 = .ok (.aload_n 0, 1) := by decide +kernel
theorem d_T_stepsHaveRows_4 : decode b_T_stepsHaveRows 4 = .ok (.getfield 41, 3) := by decide +kernel
theorem d_T_stepsHaveRows_7 : decode b_T_stepsHaveRows 7 = .ok (.if_icmp .ge 56, 3) := by decide +kernel
theorem d_T_stepsHaveRows_10 : decode b_T_stepsHaveRows 10 = .ok (.aload_n 0, 1) := by decide +kernel
theorem d_T_stepsHaveRows_11 : decode b_T_stepsHaveRows 11 = .ok (.getfield 37, 3) := by decide +kernel
theorem d_T_stepsHaveRows_14 : decode b_T_stepsHaveRows 14 = .ok (.iload_n 2, 1) := by decide +kernel
theorem d_T_stepsHaveRows_15 : decode b_T_stepsHaveRows 15 = .ok (.aaload, 1) := by decide +kernel
theorem d_T_stepsHaveRows_16 : decode b_T_stepsHaveRows 16 = .ok (.astore_n 3, 1) := by decide +kernel
theorem d_T_stepsHaveRows_17 : decode b_T_stepsHaveRows 17 = .ok (.aload_n 3, 1) := by decide +kernel
theorem d_T_stepsHaveRows_18 : decode b_T_stepsHaveRows 18 = .ok (.getfield 152, 3) := by decide +kernel
theorem d_T_stepsHaveRows_21 : decode b_T_stepsHaveRows 21 = .ok (.ifnull 16, 3) := by decide +kernel
theorem d_T_stepsHaveRows_24 : decode b_T_stepsHaveRows 24 = .ok (.aload_n 3, 1) := by decide +kernel
theorem d_T_stepsHaveRows_25 : decode b_T_stepsHaveRows 25 = .ok (.getfield 152, 3) := by decide +kernel
theorem d_T_stepsHaveRows_28 : decode b_T_stepsHaveRows 28 = .ok (.getfield 156, 3) := by decide +kernel
theorem d_T_stepsHaveRows_31 : decode b_T_stepsHaveRows 31 = .ok (.iload_n 1, 1) := by decide +kernel
theorem d_T_stepsHaveRows_32 : decode b_T_stepsHaveRows 32 = .ok (.if_icmp .ge 5, 3) := by decide +kernel
theorem d_T_stepsHaveRows_35 : decode b_T_stepsHaveRows 35 = .ok (.iconst 0, 1) := by decide +kernel
theorem d_T_stepsHaveRows_36 : decode b_T_stepsHaveRows 36 = .ok (.ireturn, 1) := by decide +kernel
theorem d_T_stepsHaveRows_37 : decode b_T_stepsHaveRows 37 = .ok (.aload_n 3, 1) := by decide +kernel
theorem d_T_stepsHaveRows_38 : decode b_T_stepsHaveRows 38 = .ok (.getfield 159, 3) := by decide +kernel
theorem d_T_stepsHaveRows_41 : decode b_T_stepsHaveRows 41 = .ok (.ifnull 16, 3) := by decide +kernel
theorem d_T_stepsHaveRows_44 : decode b_T_stepsHaveRows 44 = .ok (.aload_n 3, 1) := by decide +kernel
theorem d_T_stepsHaveRows_45 : decode b_T_stepsHaveRows 45 = .ok (.getfield 159, 3) := by decide +kernel
theorem d_T_stepsHaveRows_48 : decode b_T_stepsHaveRows 48 = .ok (.getfield 156, 3) := by decide +kernel
theorem d_T_stepsHaveRows_51 : decode b_T_stepsHaveRows 51 = .ok (.iload_n 1, 1) := by decide +kernel
theorem d_T_stepsHaveRows_52 : decode b_T_stepsHaveRows 52 = .ok (.if_icmp .ge 5, 3) := by decide +kernel
theorem d_T_stepsHaveRows_55 : decode b_T_stepsHaveRows 55 = .ok (.iconst 0, 1) := by decide +kernel
theorem d_T_stepsHaveRows_56 : decode b_T_stepsHaveRows 56 = .ok (.ireturn, 1) := by decide +kernel
theorem d_T_stepsHaveRows_57 : decode b_T_stepsHaveRows 57 = .ok (.iinc 2 1, 3) := by decide +kernel
theorem d_T_stepsHaveRows_60 : decode b_T_stepsHaveRows 60 = .ok (.goto (-58), 3) := by decide +kernel
theorem d_T_stepsHaveRows_63 : decode b_T_stepsHaveRows 63 = .ok (.iconst 1, 1) := by decide +kernel
theorem d_T_stepsHaveRows_64 : decode b_T_stepsHaveRows 64 = .ok (.ireturn, 1) := by decide +kernel
theorem d_T_outcome_0 : decode b_T_outcome 0 = .ok (.aload_n 0, 1) := by decide +kernel
theorem d_T_outcome_1 : decode b_T_outcome 1 = .ok (.getfield 41, 3) := by decide +kernel
theorem d_T_outcome_4 : decode b_T_outcome 4 = .ok (.ifCond .ne 5, 3) := by decide +kernel
theorem d_T_outcome_7 : decode b_T_outcome 7 = .ok (.iconst 2, 1) := by decide +kernel
theorem d_T_outcome_8 : decode b_T_outcome 8 = .ok (.ireturn, 1) := by decide +kernel
theorem d_T_outcome_9 : decode b_T_outcome 9 = .ok (.iconst 0, 1) := by decide +kernel
theorem d_T_outcome_10 : decode b_T_outcome 10 = .ok (.istore_n 2, 1) := by decide +kernel
theorem d_T_outcome_11 : decode b_T_outcome 11 = .ok (.iconst 0, 1) := by decide +kernel
theorem d_T_outcome_12 : decode b_T_outcome 12 = .ok (.istore_n 3, 1) := by decide +kernel
theorem d_T_outcome_13 : decode b_T_outcome 13 = .ok (.iload_n 3, 1) := by decide +kernel
theorem d_T_outcome_14 : decode b_T_outcome 14 = .ok (.aload_n 0, 1) := by decide +kernel
theorem d_T_outcome_15 : decode b_T_outcome 15 = .ok (.getfield 41, 3) := by decide +kernel
theorem d_T_outcome_18 : decode b_T_outcome 18 = .ok (.if_icmp .ge 156, 3) := by decide +kernel
theorem d_T_outcome_21 : decode b_T_outcome 21 = .ok (.aload_n 0, 1) := by decide +kernel
theorem d_T_outcome_22 : decode b_T_outcome 22 = .ok (.getfield 37, 3) := by decide +kernel
theorem d_T_outcome_25 : decode b_T_outcome 25 = .ok (.iload_n 3, 1) := by decide +kernel
theorem d_T_outcome_26 : decode b_T_outcome 26 = .ok (.aaload, 1) := by decide +kernel
theorem d_T_outcome_27 : decode b_T_outcome 27 = .ok (.astore 4, 2) := by decide +kernel
theorem d_T_outcome_29 : decode b_T_outcome 29 = .ok (.aload 4, 2) := by decide +kernel
theorem d_T_outcome_31 : decode b_T_outcome 31 = .ok (.invokevirtual 148, 3) := by decide +kernel
theorem d_T_outcome_34 : decode b_T_outcome 34 = .ok (.istore 5, 2) := by decide +kernel
theorem d_T_outcome_36 : decode b_T_outcome 36 = .ok (.iload 5, 2) := by decide +kernel
theorem d_T_outcome_38 : decode b_T_outcome 38 = .ok (.iload_n 2, 1) := by decide +kernel
theorem d_T_outcome_39 : decode b_T_outcome 39 = .ok (.if_icmp .le 5, 3) := by decide +kernel
theorem d_T_outcome_42 : decode b_T_outcome 42 = .ok (.iconst (-1), 1) := by decide +kernel
theorem d_T_outcome_43 : decode b_T_outcome 43 = .ok (.ireturn, 1) := by decide +kernel
theorem d_T_outcome_44 : decode b_T_outcome 44 = .ok (.iload_n 2, 1) := by decide +kernel
theorem d_T_outcome_45 : decode b_T_outcome 45 = .ok (.iload 5, 2) := by decide +kernel
theorem d_T_outcome_47 : decode b_T_outcome 47 = .ok (.isub, 1) := by decide +kernel
theorem d_T_outcome_48 : decode b_T_outcome 48 = .ok (.istore_n 2, 1) := by decide +kernel
theorem d_T_outcome_49 : decode b_T_outcome 49 = .ok (.iload 5, 2) := by decide +kernel
theorem d_T_outcome_51 : decode b_T_outcome 51 = .ok (.ifCond .ne 31, 3) := by decide +kernel
theorem d_T_outcome_54 : decode b_T_outcome 54 = .ok (.aload_n 0, 1) := by decide +kernel
theorem d_T_outcome_55 : decode b_T_outcome 55 = .ok (.getfield 44, 3) := by decide +kernel
theorem d_T_outcome_58 : decode b_T_outcome 58 = .ok (.iload_n 2, 1) := by decide +kernel
theorem d_T_outcome_59 : decode b_T_outcome 59 = .ok (.iload_n 1, 1) := by decide +kernel
theorem d_T_outcome_60 : decode b_T_outcome 60 = .ok (.iconst (-1), 1) := by decide +kernel
theorem d_T_outcome_61 : decode b_T_outcome 61 = .ok (.if_icmp .ne 11, 3) := by decide +kernel
theorem d_T_outcome_64 : decode b_T_outcome 64 = .ok (.aload 4, 2) := by decide +kernel
theorem d_T_outcome_66 : decode b_T_outcome 66 = .ok (.invokevirtual 162, 3) := by decide +kernel
theorem d_T_outcome_69 : decode b_T_outcome 69 = .ok (.goto 9, 3) := by decide +kernel
theorem d_T_outcome_72 : decode b_T_outcome 72 = .ok (.aload 4, 2) := by decide +kernel
theorem d_T_outcome_74 : decode b_T_outcome 74 = .ok (.iload_n 1, 1) := by decide +kernel
theorem d_T_outcome_75 : decode b_T_outcome 75 = .ok (.invokevirtual 165, 3) := by decide +kernel
theorem d_T_outcome_78 : decode b_T_outcome 78 = .ok (.iastore, 1) := by decide +kernel
theorem d_T_outcome_79 : decode b_T_outcome 79 = .ok (.goto 86, 3) := by decide +kernel
theorem d_T_outcome_82 : decode b_T_outcome 82 = .ok (.iload 5, 2) := by decide +kernel
theorem d_T_outcome_84 : decode b_T_outcome 84 = .ok (.iconst 1, 1) := by decide +kernel
theorem d_T_outcome_85 : decode b_T_outcome 85 = .ok (.if_icmp .ne 21, 3) := by decide +kernel
theorem d_T_outcome_88 : decode b_T_outcome 88 = .ok (.aload_n 0, 1) := by decide +kernel
theorem d_T_outcome_89 : decode b_T_outcome 89 = .ok (.getfield 44, 3) := by decide +kernel
theorem d_T_outcome_92 : decode b_T_outcome 92 = .ok (.iload_n 2, 1) := by decide +kernel
theorem d_T_outcome_93 : decode b_T_outcome 93 = .ok (.aload_n 0, 1) := by decide +kernel
theorem d_T_outcome_94 : decode b_T_outcome 94 = .ok (.getfield 44, 3) := by decide +kernel
theorem d_T_outcome_97 : decode b_T_outcome 97 = .ok (.iload_n 2, 1) := by decide +kernel
theorem d_T_outcome_98 : decode b_T_outcome 98 = .ok (.iaload, 1) := by decide +kernel
theorem d_T_outcome_99 : decode b_T_outcome 99 = .ok (.invokestatic 168, 3) := by decide +kernel
theorem d_T_outcome_102 : decode b_T_outcome 102 = .ok (.iastore, 1) := by decide +kernel
theorem d_T_outcome_103 : decode b_T_outcome 103 = .ok (.goto 62, 3) := by decide +kernel
theorem d_T_outcome_106 : decode b_T_outcome 106 = .ok (.aload 4, 2) := by decide +kernel
theorem d_T_outcome_108 : decode b_T_outcome 108 = .ok (.getfield 171, 3) := by decide +kernel
theorem d_T_outcome_111 : decode b_T_outcome 111 = .ok (.bipush 6, 2) := by decide +kernel
theorem d_T_outcome_113 : decode b_T_outcome 113 = .ok (.if_icmp .ne 29, 3) := by decide +kernel
theorem d_T_outcome_116 : decode b_T_outcome 116 = .ok (.aload_n 0, 1) := by decide +kernel
theorem d_T_outcome_117 : decode b_T_outcome 117 = .ok (.getfield 44, 3) := by decide +kernel
theorem d_T_outcome_120 : decode b_T_outcome 120 = .ok (.iload_n 2, 1) := by decide +kernel
theorem d_T_outcome_121 : decode b_T_outcome 121 = .ok (.aload_n 0, 1) := by decide +kernel
theorem d_T_outcome_122 : decode b_T_outcome 122 = .ok (.getfield 44, 3) := by decide +kernel
theorem d_T_outcome_125 : decode b_T_outcome 125 = .ok (.iload_n 2, 1) := by decide +kernel
theorem d_T_outcome_126 : decode b_T_outcome 126 = .ok (.iaload, 1) := by decide +kernel
theorem d_T_outcome_127 : decode b_T_outcome 127 = .ok (.aload_n 0, 1) := by decide +kernel
theorem d_T_outcome_128 : decode b_T_outcome 128 = .ok (.getfield 44, 3) := by decide +kernel
theorem d_T_outcome_131 : decode b_T_outcome 131 = .ok (.iload_n 2, 1) := by decide +kernel
theorem d_T_outcome_132 : decode b_T_outcome 132 = .ok (.iconst 1, 1) := by decide +kernel
theorem d_T_outcome_133 : decode b_T_outcome 133 = .ok (.iadd, 1) := by decide +kernel
theorem d_T_outcome_134 : decode b_T_outcome 134 = .ok (.iaload, 1) := by decide +kernel
theorem d_T_outcome_135 : decode b_T_outcome 135 = .ok (.invokestatic 174, 3) := by decide +kernel
theorem d_T_outcome_138 : decode b_T_outcome 138 = .ok (.iastore, 1) := by decide +kernel
theorem d_T_outcome_139 : decode b_T_outcome 139 = .ok (.goto 26, 3) := by decide +kernel
theorem d_T_outcome_142 : decode b_T_outcome 142 = .ok (.aload_n 0, 1) := by decide +kernel
theorem d_T_outcome_143 : decode b_T_outcome 143 = .ok (.getfield 44, 3) := by decide +kernel
theorem d_T_outcome_146 : decode b_T_outcome 146 = .ok (.iload_n 2, 1) := by decide +kernel
theorem d_T_outcome_147 : decode b_T_outcome 147 = .ok (.aload_n 0, 1) := by decide +kernel
theorem d_T_outcome_148 : decode b_T_outcome 148 = .ok (.getfield 44, 3) := by decide +kernel
theorem d_T_outcome_151 : decode b_T_outcome 151 = .ok (.iload_n 2, 1) := by decide +kernel
theorem d_T_outcome_152 : decode b_T_outcome 152 = .ok (.iaload, 1) := by decide +kernel
theorem d_T_outcome_153 : decode b_T_outcome 153 = .ok (.aload_n 0, 1) := by decide +kernel
theorem d_T_outcome_154 : decode b_T_outcome 154 = .ok (.getfield 44, 3) := by decide +kernel
theorem d_T_outcome_157 : decode b_T_outcome 157 = .ok (.iload_n 2, 1) := by decide +kernel
theorem d_T_outcome_158 : decode b_T_outcome 158 = .ok (.iconst 1, 1) := by decide +kernel
theorem d_T_outcome_159 : decode b_T_outcome 159 = .ok (.iadd, 1) := by decide +kernel
theorem d_T_outcome_160 : decode b_T_outcome 160 = .ok (.iaload, 1) := by decide +kernel
theorem d_T_outcome_161 : decode b_T_outcome 161 = .ok (.invokestatic 178, 3) := by decide +kernel
theorem d_T_outcome_164 : decode b_T_outcome 164 = .ok (.iastore, 1) := by decide +kernel
theorem d_T_outcome_165 : decode b_T_outcome 165 = .ok (.iinc 2 1, 3) := by decide +kernel
theorem d_T_outcome_168 : decode b_T_outcome 168 = .ok (.iinc 3 1, 3) := by decide +kernel
theorem d_T_outcome_171 : decode b_T_outcome 171 = .ok (.goto (-158), 3) := by decide +kernel
theorem d_T_outcome_174 : decode b_T_outcome 174 = .ok (.aload_n 0, 1) := by decide +kernel
theorem d_T_outcome_175 : decode b_T_outcome 175 = .ok (.getfield 44, 3) := by decide +kernel
theorem d_T_outcome_178 : decode b_T_outcome 178 = .ok (.iconst 0, 1) := by decide +kernel
theorem d_T_outcome_179 : decode b_T_outcome 179 = .ok (.iaload, 1) := by decide +kernel
theorem d_T_outcome_180 : decode b_T_outcome 180 = .ok (.ireturn, 1) := by decide +kernel
theorem d_T_truthSet_0 : decode b_T_truthSet 0 = .ok (.iload_n 0, 1) := by decide +kernel
theorem d_T_truthSet_1 : decode b_T_truthSet 1 = .ok (.ifCond .eq 7, 3) := by decide +kernel
theorem d_T_truthSet_4 : decode b_T_truthSet 4 = .ok (.iconst 1, 1) := by decide +kernel
theorem d_T_truthSet_5 : decode b_T_truthSet 5 = .ok (.goto 4, 3) := by decide +kernel
theorem d_T_truthSet_8 : decode b_T_truthSet 8 = .ok (.iconst 0, 1) := by decide +kernel
theorem d_T_truthSet_9 : decode b_T_truthSet 9 = .ok (.iload_n 1, 1) := by decide +kernel
theorem d_T_truthSet_10 : decode b_T_truthSet 10 = .ok (.ifCond .eq 7, 3) := by decide +kernel
theorem d_T_truthSet_13 : decode b_T_truthSet 13 = .ok (.iconst 2, 1) := by decide +kernel
theorem d_T_truthSet_14 : decode b_T_truthSet 14 = .ok (.goto 4, 3) := by decide +kernel
theorem d_T_truthSet_17 : decode b_T_truthSet 17 = .ok (.iconst 0, 1) := by decide +kernel
theorem d_T_truthSet_18 : decode b_T_truthSet 18 = .ok (.ior, 1) := by decide +kernel
theorem d_T_truthSet_19 : decode b_T_truthSet 19 = .ok (.iload_n 2, 1) := by decide +kernel
theorem d_T_truthSet_20 : decode b_T_truthSet 20 = .ok (.ifCond .eq 7, 3) := by decide +kernel
theorem d_T_truthSet_23 : decode b_T_truthSet 23 = .ok (.iconst 4, 1) := by decide +kernel
theorem d_T_truthSet_24 : decode b_T_truthSet 24 = .ok (.goto 4, 3) := by decide +kernel
theorem d_T_truthSet_27 : decode b_T_truthSet 27 = .ok (.iconst 0, 1) := by decide +kernel
theorem d_T_truthSet_28 : decode b_T_truthSet 28 = .ok (.ior, 1) := by decide +kernel
theorem d_T_truthSet_29 : decode b_T_truthSet 29 = .ok (.ireturn, 1) := by decide +kernel
theorem d_T_has_0 : decode b_T_has 0 = .ok (.iload_n 0, 1) := by decide +kernel
theorem d_T_has_1 : decode b_T_has 1 = .ok (.iload_n 1, 1) := by decide +kernel
theorem d_T_has_2 : decode b_T_has 2 = .ok (.iand, 1) := by decide +kernel
theorem d_T_has_3 : decode b_T_has 3 = .ok (.ifCond .eq 7, 3) := by decide +kernel
theorem d_T_has_6 : decode b_T_has 6 = .ok (.iconst 1, 1) := by decide +kernel
theorem d_T_has_7 : decode b_T_has 7 = .ok (.goto 4, 3) := by decide +kernel
theorem d_T_has_10 : decode b_T_has 10 = .ok (.iconst 0, 1) := by decide +kernel
theorem d_T_has_11 : decode b_T_has 11 = .ok (.ireturn, 1) := by decide +kernel
theorem d_T_not_0 : decode b_T_not 0 = .ok (.iload_n 0, 1) := by decide +kernel
theorem d_T_not_1 : decode b_T_not 1 = .ok (.iconst 2, 1) := by decide +kernel
theorem d_T_not_2 : decode b_T_not 2 = .ok (.invokestatic 181, 3) := by decide +kernel
theorem d_T_not_5 : decode b_T_not 5 = .ok (.iload_n 0, 1) := by decide +kernel
theorem d_T_not_6 : decode b_T_not 6 = .ok (.iconst 1, 1) := by decide +kernel
theorem d_T_not_7 : decode b_T_not 7 = .ok (.invokestatic 181, 3) := by decide +kernel
theorem d_T_not_10 : decode b_T_not 10 = .ok (.iload_n 0, 1) := by decide +kernel
theorem d_T_not_11 : decode b_T_not 11 = .ok (.iconst 4, 1) := by decide +kernel
theorem d_T_not_12 : decode b_T_not 12 = .ok (.invokestatic 181, 3) := by decide +kernel
theorem d_T_not_15 : decode b_T_not 15 = .ok (.invokestatic 184, 3) := by decide +kernel
theorem d_T_not_18 : decode b_T_not 18 = .ok (.ireturn, 1) := by decide +kernel
theorem d_T_and_0 : decode b_T_and 0 = .ok (.iload_n 0, 1) := by decide +kernel
theorem d_T_and_1 : decode b_T_and 1 = .ok (.iconst 4, 1) := by decide +kernel
theorem d_T_and_2 : decode b_T_and 2 = .ok (.invokestatic 181, 3) := by decide +kernel
theorem d_T_and_5 : decode b_T_and 5 = .ok (.ifCond .eq 12, 3) := by decide +kernel
theorem d_T_and_8 : decode b_T_and 8 = .ok (.iload_n 1, 1) := by decide +kernel
theorem d_T_and_9 : decode b_T_and 9 = .ok (.bipush 6, 2) := by decide +kernel
theorem d_T_and_11 : decode b_T_and 11 = .ok (.invokestatic 181, 3) := by decide +kernel
theorem d_T_and_14 : decode b_T_and 14 = .ok (.ifCond .ne 20, 3) := by decide +kernel
theorem d_T_and_17 : decode b_T_and 17 = .ok (.iload_n 1, 1) := by decide +kernel
theorem d_T_and_18 : decode b_T_and 18 = .ok (.iconst 4, 1) := by decide +kernel
theorem d_T_and_19 : decode b_T_and 19 = .ok (.invokestatic 181, 3) := by decide +kernel
theorem d_T_and_22 : decode b_T_and 22 = .ok (.ifCond .eq 16, 3) := by decide +kernel
theorem d_T_and_25 : decode b_T_and 25 = .ok (.iload_n 0, 1) := by decide +kernel
theorem d_T_and_26 : decode b_T_and 26 = .ok (.bipush 6, 2) := by decide +kernel
theorem d_T_and_28 : decode b_T_and 28 = .ok (.invokestatic 181, 3) := by decide +kernel
theorem d_T_and_31 : decode b_T_and 31 = .ok (.ifCond .eq 7, 3) := by decide +kernel
theorem d_T_and_34 : decode b_T_and 34 = .ok (.iconst 1, 1) := by decide +kernel
theorem d_T_and_35 : decode b_T_and 35 = .ok (.goto 4, 3) := by decide +kernel
theorem d_T_and_38 : decode b_T_and 38 = .ok (.iconst 0, 1) := by decide +kernel
theorem d_T_and_39 : decode b_T_and 39 = .ok (.istore_n 2, 1) := by decide +kernel
theorem d_T_and_40 : decode b_T_and 40 = .ok (.iload_n 0, 1) := by decide +kernel
theorem d_T_and_41 : decode b_T_and 41 = .ok (.iload_n 1, 1) := by decide +kernel
theorem d_T_and_42 : decode b_T_and 42 = .ok (.ior, 1) := by decide +kernel
theorem d_T_and_43 : decode b_T_and 43 = .ok (.iconst 1, 1) := by decide +kernel
theorem d_T_and_44 : decode b_T_and 44 = .ok (.invokestatic 181, 3) := by decide +kernel
theorem d_T_and_47 : decode b_T_and 47 = .ok (.iload_n 0, 1) := by decide +kernel
theorem d_T_and_48 : decode b_T_and 48 = .ok (.iload_n 1, 1) := by decide +kernel
theorem d_T_and_49 : decode b_T_and 49 = .ok (.iand, 1) := by decide +kernel
theorem d_T_and_50 : decode b_T_and 50 = .ok (.iconst 2, 1) := by decide +kernel
theorem d_T_and_51 : decode b_T_and 51 = .ok (.invokestatic 181, 3) := by decide +kernel
theorem d_T_and_54 : decode b_T_and 54 = .ok (.iload_n 2, 1) := by decide +kernel
theorem d_T_and_55 : decode b_T_and 55 = .ok (.invokestatic 184, 3) := by decide +kernel
theorem d_T_and_58 : decode b_T_and 58 = .ok (.ireturn, 1) := by decide +kernel
theorem d_T_or_0 : decode b_T_or 0 = .ok (.iload_n 0, 1) := by decide +kernel
theorem d_T_or_1 : decode b_T_or 1 = .ok (.iconst 4, 1) := by decide +kernel
theorem d_T_or_2 : decode b_T_or 2 = .ok (.invokestatic 181, 3) := by decide +kernel
theorem d_T_or_5 : decode b_T_or 5 = .ok (.ifCond .eq 11, 3) := by decide +kernel
theorem d_T_or_8 : decode b_T_or 8 = .ok (.iload_n 1, 1) := by decide +kernel
theorem d_T_or_9 : decode b_T_or 9 = .ok (.iconst 5, 1) := by decide +kernel
theorem d_T_or_10 : decode b_T_or 10 = .ok (.invokestatic 181, 3) := by decide +kernel
theorem d_T_or_13 : decode b_T_or 13 = .ok (.ifCond .ne 19, 3) := by decide +kernel
theorem d_T_or_16 : decode b_T_or 16 = .ok (.iload_n 1, 1) := by decide +kernel
theorem d_T_or_17 : decode b_T_or 17 = .ok (.iconst 4, 1) := by decide +kernel
theorem d_T_or_18 : decode b_T_or 18 = .ok (.invokestatic 181, 3) := by decide +kernel
theorem d_T_or_21 : decode b_T_or 21 = .ok (.ifCond .eq 15, 3) := by decide +kernel
theorem d_T_or_24 : decode b_T_or 24 = .ok (.iload_n 0, 1) := by decide +kernel
theorem d_T_or_25 : decode b_T_or 25 = .ok (.iconst 5, 1) := by decide +kernel
theorem d_T_or_26 : decode b_T_or 26 = .ok (.invokestatic 181, 3) := by decide +kernel
theorem d_T_or_29 : decode b_T_or 29 = .ok (.ifCond .eq 7, 3) := by decide +kernel
theorem d_T_or_32 : decode b_T_or 32 = .ok (.iconst 1, 1) := by decide +kernel
theorem d_T_or_33 : decode b_T_or 33 = .ok (.goto 4, 3) := by decide +kernel
theorem d_T_or_36 : decode b_T_or 36 = .ok (.iconst 0, 1) := by decide +kernel
theorem d_T_or_37 : decode b_T_or 37 = .ok (.istore_n 2, 1) := by decide +kernel
theorem d_T_or_38 : decode b_T_or 38 = .ok (.iload_n 0, 1) := by decide +kernel
theorem d_T_or_39 : decode b_T_or 39 = .ok (.iload_n 1, 1) := by decide +kernel
theorem d_T_or_40 : decode b_T_or 40 = .ok (.iand, 1) := by decide +kernel
theorem d_T_or_41 : decode b_T_or 41 = .ok (.iconst 1, 1) := by decide +kernel
theorem d_T_or_42 : decode b_T_or 42 = .ok (.invokestatic 181, 3) := by decide +kernel
theorem d_T_or_45 : decode b_T_or 45 = .ok (.iload_n 0, 1) := by decide +kernel
theorem d_T_or_46 : decode b_T_or 46 = .ok (.iload_n 1, 1) := by decide +kernel
theorem d_T_or_47 : decode b_T_or 47 = .ok (.ior, 1) := by decide +kernel
theorem d_T_or_48 : decode b_T_or 48 = .ok (.iconst 2, 1) := by decide +kernel
theorem d_T_or_49 : decode b_T_or 49 = .ok (.invokestatic 181, 3) := by decide +kernel
theorem d_T_or_52 : decode b_T_or 52 = .ok (.iload_n 2, 1) := by decide +kernel
theorem d_T_or_53 : decode b_T_or 53 = .ok (.invokestatic 184, 3) := by decide +kernel
theorem d_T_or_56 : decode b_T_or 56 = .ok (.ireturn, 1) := by decide +kernel
theorem d_T_isAmong_0 : decode b_T_isAmong 0 = .ok (.iload_n 2, 1) := by decide +kernel
theorem d_T_isAmong_1 : decode b_T_isAmong 1 = .ok (.istore 4, 2) := by decide +kernel
theorem d_T_isAmong_3 : decode b_T_isAmong 3 = .ok (.iload 4, 2) := by decide +kernel
theorem d_T_isAmong_5 : decode b_T_isAmong 5 = .ok (.iload_n 2, 1) := by decide +kernel
theorem d_T_isAmong_6 : decode b_T_isAmong 6 = .ok (.iload_n 3, 1) := by decide +kernel
theorem d_T_isAmong_7 : decode b_T_isAmong 7 = .ok (.iadd, 1) := by decide +kernel
theorem d_T_isAmong_8 : decode b_T_isAmong 8 = .ok (.if_icmp .ge 22, 3) := by decide +kernel
theorem d_T_isAmong_11 : decode b_T_isAmong 11 = .ok (.aload_n 0, 1) := by decide +kernel
theorem d_T_isAmong_12 : decode b_T_isAmong 12 = .ok (.aload_n 1, 1) := by decide +kernel
theorem d_T_isAmong_13 : decode b_T_isAmong 13 = .ok (.iload 4, 2) := by decide +kernel
theorem d_T_isAmong_15 : decode b_T_isAmong 15 = .ok (.aaload, 1) := by decide +kernel
theorem d_T_isAmong_16 : decode b_T_isAmong 16 = .ok (.invokevirtual 188, 3) := by decide +kernel
theorem d_T_isAmong_19 : decode b_T_isAmong 19 = .ok (.ifCond .ne 5, 3) := by decide +kernel
theorem d_T_isAmong_22 : decode b_T_isAmong 22 = .ok (.iconst 1, 1) := by decide +kernel
theorem d_T_isAmong_23 : decode b_T_isAmong 23 = .ok (.ireturn, 1) := by decide +kernel
theorem d_T_isAmong_24 : decode b_T_isAmong 24 = .ok (.iinc 4 1, 3) := by decide +kernel
theorem d_T_isAmong_27 : decode b_T_isAmong 27 = .ok (.goto (-24), 3) := by decide +kernel
theorem d_T_isAmong_30 : decode b_T_isAmong 30 = .ok (.iconst 0, 1) := by decide +kernel
theorem d_T_isAmong_31 : decode b_T_isAmong 31 = .ok (.ireturn, 1) := by decide +kernel
theorem d_T_holds_0 : decode b_T_holds 0 = .ok (.iload_n 0, 1) := by decide +kernel
theorem d_T_holds_1 : decode b_T_holds 1 = .ok (.tableswitch 85 0 4 #[35, 45, 55, 65, 75], 35) := by decide +kernel
theorem d_T_holds_36 : decode b_T_holds 36 = .ok (.iload_n 1, 1) := by decide +kernel
theorem d_T_holds_37 : decode b_T_holds 37 = .ok (.ifCond .ne 7, 3) := by decide +kernel
theorem d_T_holds_40 : decode b_T_holds 40 = .ok (.iconst 1, 1) := by decide +kernel
theorem d_T_holds_41 : decode b_T_holds 41 = .ok (.goto 4, 3) := by decide +kernel
theorem d_T_holds_44 : decode b_T_holds 44 = .ok (.iconst 0, 1) := by decide +kernel
theorem d_T_holds_45 : decode b_T_holds 45 = .ok (.ireturn, 1) := by decide +kernel
theorem d_T_holds_46 : decode b_T_holds 46 = .ok (.iload_n 1, 1) := by decide +kernel
theorem d_T_holds_47 : decode b_T_holds 47 = .ok (.ifCond .eq 7, 3) := by decide +kernel
theorem d_T_holds_50 : decode b_T_holds 50 = .ok (.iconst 1, 1) := by decide +kernel
theorem d_T_holds_51 : decode b_T_holds 51 = .ok (.goto 4, 3) := by decide +kernel
theorem d_T_holds_54 : decode b_T_holds 54 = .ok (.iconst 0, 1) := by decide +kernel
theorem d_T_holds_55 : decode b_T_holds 55 = .ok (.ireturn, 1) := by decide +kernel
theorem d_T_holds_56 : decode b_T_holds 56 = .ok (.iload_n 1, 1) := by decide +kernel
theorem d_T_holds_57 : decode b_T_holds 57 = .ok (.ifCond .ge 7, 3) := by decide +kernel
theorem d_T_holds_60 : decode b_T_holds 60 = .ok (.iconst 1, 1) := by decide +kernel
theorem d_T_holds_61 : decode b_T_holds 61 = .ok (.goto 4, 3) := by decide +kernel
theorem d_T_holds_64 : decode b_T_holds 64 = .ok (.iconst 0, 1) := by decide +kernel
theorem d_T_holds_65 : decode b_T_holds 65 = .ok (.ireturn, 1) := by decide +kernel
theorem d_T_holds_66 : decode b_T_holds 66 = .ok (.iload_n 1, 1) := by decide +kernel
theorem d_T_holds_67 : decode b_T_holds 67 = .ok (.ifCond .gt 7, 3) := by decide +kernel
theorem d_T_holds_70 : decode b_T_holds 70 = .ok (.iconst 1, 1) := by decide +kernel
theorem d_T_holds_71 : decode b_T_holds 71 = .ok (.goto 4, 3) := by decide +kernel
theorem d_T_holds_74 : decode b_T_holds 74 = .ok (.iconst 0, 1) := by decide +kernel
theorem d_T_holds_75 : decode b_T_holds 75 = .ok (.ireturn, 1) := by decide +kernel
theorem d_T_holds_76 : decode b_T_holds 76 = .ok (.iload_n 1, 1) := by decide +kernel
theorem d_T_holds_77 : decode b_T_holds 77 = .ok (.ifCond .le 7, 3) := by decide +kernel
theorem d_T_holds_80 : decode b_T_holds 80 = .ok (.iconst 1, 1) := by decide +kernel
theorem d_T_holds_81 : decode b_T_holds 81 = .ok (.goto 4, 3) := by decide +kernel
theorem d_T_holds_84 : decode b_T_holds 84 = .ok (.iconst 0, 1) := by decide +kernel
theorem d_T_holds_85 : decode b_T_holds 85 = .ok (.ireturn, 1) := by decide +kernel
theorem d_T_holds_86 : decode b_T_holds 86 = .ok (.iload_n 1, 1) := by decide +kernel
theorem d_T_holds_87 : decode b_T_holds 87 = .ok (.ifCond .lt 7, 3) := by decide +kernel
theorem d_T_holds_90 : decode b_T_holds 90 = .ok (.iconst 1, 1) := by decide +kernel
theorem d_T_holds_91 : decode b_T_holds 91 = .ok (.goto 4, 3) := by decide +kernel
theorem d_T_holds_94 : decode b_T_holds 94 = .ok (.iconst 0, 1) := by decide +kernel
theorem d_T_holds_95 : decode b_T_holds 95 = .ok (.ireturn, 1) := by decide +kernel
theorem d_T_contrary_0 : decode b_T_contrary 0 = .ok (.iload_n 0, 1) := by decide +kernel
theorem d_T_contrary_1 : decode b_T_contrary 1 = .ok (.iconst 1, 1) := by decide +kernel
theorem d_T_contrary_2 : decode b_T_contrary 2 = .ok (.if_icmp .gt 9, 3) := by decide +kernel
theorem d_T_contrary_5 : decode b_T_contrary 5 = .ok (.iconst 1, 1) := by decide +kernel
theorem d_T_contrary_6 : decode b_T_contrary 6 = .ok (.iload_n 0, 1) := by decide +kernel
theorem d_T_contrary_7 : decode b_T_contrary 7 = .ok (.isub, 1) := by decide +kernel
theorem d_T_contrary_8 : decode b_T_contrary 8 = .ok (.goto 7, 3) := by decide +kernel
theorem d_T_contrary_11 : decode b_T_contrary 11 = .ok (.bipush 7, 2) := by decide +kernel
theorem d_T_contrary_13 : decode b_T_contrary 13 = .ok (.iload_n 0, 1) := by decide +kernel
