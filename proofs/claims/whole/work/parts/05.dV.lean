theorem d_V_init_0 : decode b_V_init 0 = .ok (.aload_n 0, 1) := by decide +kernel
theorem d_V_init_1 : decode b_V_init 1 = .ok (.invokespecial 1, 3) := by decide +kernel
theorem d_V_init_4 : decode b_V_init 4 = .ok (.aload_n 0, 1) := by decide +kernel
theorem d_V_init_5 : decode b_V_init 5 = .ok (.iload_n 1, 1) := by decide +kernel
theorem d_V_init_6 : decode b_V_init 6 = .ok (.putfield 7, 3) := by decide +kernel
theorem d_V_init_9 : decode b_V_init 9 = .ok (.aload_n 0, 1) := by decide +kernel
theorem d_V_init_10 : decode b_V_init 10 = .ok (.lload_n 2, 1) := by decide +kernel
theorem d_V_init_11 : decode b_V_init 11 = .ok (.putfield 13, 3) := by decide +kernel
theorem d_V_init_14 : decode b_V_init 14 = .ok (.aload_n 0, 1) := by decide +kernel
theorem d_V_init_15 : decode b_V_init 15 = .ok (.aload 4, 2) := by decide +kernel
theorem d_V_init_17 : decode b_V_init 17 = .ok (.putfield 17, 3) := by decide +kernel
theorem d_V_init_20 : decode b_V_init 20 = .ok (.return_, 1) := by decide +kernel
theorem d_V_order_0 : decode b_V_order 0 = .ok (.iconst 0, 1) := by decide +kernel
theorem d_V_order_1 : decode b_V_order 1 = .ok (.istore_n 2, 1) := by decide +kernel
theorem d_V_order_2 : decode b_V_order 2 = .ok (.iload_n 2, 1) := by decide +kernel
theorem d_V_order_3 : decode b_V_order 3 = .ok (.aload_n 0, 1) := by decide +kernel
theorem d_V_order_4 : decode b_V_order 4 = .ok (.getfield 17, 3) := by decide +kernel
theorem d_V_order_7 : decode b_V_order 7 = .ok (.arraylength, 1) := by decide +kernel
theorem d_V_order_8 : decode b_V_order 8 = .ok (.if_icmp .ge 46, 3) := by decide +kernel
theorem d_V_order_11 : decode b_V_order 11 = .ok (.iload_n 2, 1) := by decide +kernel
theorem d_V_order_12 : decode b_V_order 12 = .ok (.aload_n 1, 1) := by decide +kernel
theorem d_V_order_13 : decode b_V_order 13 = .ok (.getfield 17, 3) := by decide +kernel
theorem d_V_order_16 : decode b_V_order 16 = .ok (.arraylength, 1) := by decide +kernel
theorem d_V_order_17 : decode b_V_order 17 = .ok (.if_icmp .ge 37, 3) := by decide +kernel
theorem d_V_order_20 : decode b_V_order 20 = .ok (.aload_n 0, 1) := by decide +kernel
theorem d_V_order_21 : decode b_V_order 21 = .ok (.getfield 17, 3) := by decide +kernel
theorem d_V_order_24 : decode b_V_order 24 = .ok (.iload_n 2, 1) := by decide +kernel
theorem d_V_order_25 : decode b_V_order 25 = .ok (.baload, 1) := by decide +kernel
theorem d_V_order_26 : decode b_V_order 26 = .ok (.sipush 255, 3) := by decide +kernel
theorem d_V_order_29 : decode b_V_order 29 = .ok (.iand, 1) := by decide +kernel
theorem d_V_order_30 : decode b_V_order 30 = .ok (.aload_n 1, 1) := by decide +kernel
theorem d_V_order_31 : decode b_V_order 31 = .ok (.getfield 17, 3) := by decide +kernel
theorem d_V_order_34 : decode b_V_order 34 = .ok (.iload_n 2, 1) := by decide +kernel
theorem d_V_order_35 : decode b_V_order 35 = .ok (.baload, 1) := by decide +kernel
theorem d_V_order_36 : decode b_V_order 36 = .ok (.sipush 255, 3) := by decide +kernel
theorem d_V_order_39 : decode b_V_order 39 = .ok (.iand, 1) := by decide +kernel
theorem d_V_order_40 : decode b_V_order 40 = .ok (.isub, 1) := by decide +kernel
theorem d_V_order_41 : decode b_V_order 41 = .ok (.istore_n 3, 1) := by decide +kernel
theorem d_V_order_42 : decode b_V_order 42 = .ok (.iload_n 3, 1) := by decide +kernel
theorem d_V_order_43 : decode b_V_order 43 = .ok (.ifCond .eq 5, 3) := by decide +kernel
theorem d_V_order_46 : decode b_V_order 46 = .ok (.iload_n 3, 1) := by decide +kernel
theorem d_V_order_47 : decode b_V_order 47 = .ok (.ireturn, 1) := by decide +kernel
theorem d_V_order_48 : decode b_V_order 48 = .ok (.iinc 2 1, 3) := by decide +kernel
theorem d_V_order_51 : decode b_V_order 51 = .ok (.goto (-49), 3) := by decide +kernel
theorem d_V_order_54 : decode b_V_order 54 = .ok (.aload_n 0, 1) := by decide +kernel
theorem d_V_order_55 : decode b_V_order 55 = .ok (.getfield 17, 3) := by decide +kernel
theorem d_V_order_58 : decode b_V_order 58 = .ok (.arraylength, 1) := by decide +kernel
theorem d_V_order_59 : decode b_V_order 59 = .ok (.aload_n 1, 1) := by decide +kernel
theorem d_V_order_60 : decode b_V_order 60 = .ok (.getfield 17, 3) := by decide +kernel
theorem d_V_order_63 : decode b_V_order 63 = .ok (.arraylength, 1) := by decide +kernel
theorem d_V_order_64 : decode b_V_order 64 = .ok (.if_icmp .eq 15, 3) := by decide +kernel
theorem d_V_order_67 : decode b_V_order 67 = .ok (.aload_n 0, 1) := by decide +kernel
theorem d_V_order_68 : decode b_V_order 68 = .ok (.getfield 17, 3) := by decide +kernel
theorem d_V_order_71 : decode b_V_order 71 = .ok (.arraylength, 1) := by decide +kernel
theorem d_V_order_72 : decode b_V_order 72 = .ok (.aload_n 1, 1) := by decide +kernel
theorem d_V_order_73 : decode b_V_order 73 = .ok (.getfield 17, 3) := by decide +kernel
theorem d_V_order_76 : decode b_V_order 76 = .ok (.arraylength, 1) := by decide +kernel
theorem d_V_order_77 : decode b_V_order 77 = .ok (.isub, 1) := by decide +kernel
theorem d_V_order_78 : decode b_V_order 78 = .ok (.ireturn, 1) := by decide +kernel
theorem d_V_order_79 : decode b_V_order 79 = .ok (.aload_n 0, 1) := by decide +kernel
theorem d_V_order_80 : decode b_V_order 80 = .ok (.getfield 13, 3) := by decide +kernel
theorem d_V_order_83 : decode b_V_order 83 = .ok (.aload_n 1, 1) := by decide +kernel
theorem d_V_order_84 : decode b_V_order 84 = .ok (.getfield 13, 3) := by decide +kernel
theorem d_V_order_87 : decode b_V_order 87 = .ok (.lcmp, 1) := by decide +kernel
theorem d_V_order_88 : decode b_V_order 88 = .ok (.ifCond .ge 7, 3) := by decide +kernel
theorem d_V_order_91 : decode b_V_order 91 = .ok (.iconst (-1), 1) := by decide +kernel
theorem d_V_order_92 : decode b_V_order 92 = .ok (.goto 20, 3) := by decide +kernel
theorem d_V_order_95 : decode b_V_order 95 = .ok (.aload_n 0, 1) := by decide +kernel
theorem d_V_order_96 : decode b_V_order 96 = .ok (.getfield 13, 3) := by decide +kernel
theorem d_V_order_99 : decode b_V_order 99 = .ok (.aload_n 1, 1) := by decide +kernel
theorem d_V_order_100 : decode b_V_order 100 = .ok (.getfield 13, 3) := by decide +kernel
theorem d_V_order_103 : decode b_V_order 103 = .ok (.lcmp, 1) := by decide +kernel
theorem d_V_order_104 : decode b_V_order 104 = .ok (.ifCond .le 7, 3) := by decide +kernel
theorem d_V_order_107 : decode b_V_order 107 = .ok (.iconst 1, 1) := by decide +kernel
theorem d_V_order_108 : decode b_V_order 108 = .ok (.goto 4, 3) := by decide +kernel
theorem d_V_order_111 : decode b_V_order 111 = .ok (.iconst 0, 1) := by decide +kernel
theorem d_V_order_112 : decode b_V_order 112 = .ok (.ireturn, 1) := by decide +kernel
