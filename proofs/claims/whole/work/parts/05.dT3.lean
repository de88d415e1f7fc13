theorem d_T_contrary_14 : decode b_T_contrary 14 = .ok (.isub, 1) := by decide +kernel
theorem d_T_contrary_15 : decode b_T_contrary 15 = .ok (.ireturn, 1) := by decide +kernel
theorem d_T_canHold_0 : decode b_T_canHold 0 = .ok (.iload_n 0, 1) := by decide +kernel
theorem d_T_canHold_1 : decode b_T_canHold 1 = .ok (.tableswitch 88 0 3 #[31, 54, 77, 77], 31) := by decide +kernel
theorem d_T_canHold_32 : decode b_T_canHold 32 = .ok (.aload_n 2, 1) := by decide +kernel
theorem d_T_canHold_33 : decode b_T_canHold 33 = .ok (.aload_n 3, 1) := by decide +kernel
theorem d_T_canHold_34 : decode b_T_canHold 34 = .ok (.invokevirtual 188, 3) := by decide +kernel
theorem d_T_canHold_37 : decode b_T_canHold 37 = .ok (.ifCond .lt 16, 3) := by decide +kernel
theorem d_T_canHold_40 : decode b_T_canHold 40 = .ok (.aload 4, 2) := by decide +kernel
theorem d_T_canHold_42 : decode b_T_canHold 42 = .ok (.aload_n 1, 1) := by decide +kernel
theorem d_T_canHold_43 : decode b_T_canHold 43 = .ok (.invokevirtual 188, 3) := by decide +kernel
theorem d_T_canHold_46 : decode b_T_canHold 46 = .ok (.ifCond .lt 7, 3) := by decide +kernel
theorem d_T_canHold_49 : decode b_T_canHold 49 = .ok (.iconst 1, 1) := by decide +kernel
theorem d_T_canHold_50 : decode b_T_canHold 50 = .ok (.goto 4, 3) := by decide +kernel
theorem d_T_canHold_53 : decode b_T_canHold 53 = .ok (.iconst 0, 1) := by decide +kernel
theorem d_T_canHold_54 : decode b_T_canHold 54 = .ok (.ireturn, 1) := by decide +kernel
theorem d_T_canHold_55 : decode b_T_canHold 55 = .ok (.aload_n 1, 1) := by decide +kernel
theorem d_T_canHold_56 : decode b_T_canHold 56 = .ok (.aload 4, 2) := by decide +kernel
theorem d_T_canHold_58 : decode b_T_canHold 58 = .ok (.invokevirtual 188, 3) := by decide +kernel
theorem d_T_canHold_61 : decode b_T_canHold 61 = .ok (.ifCond .ne 11, 3) := by decide +kernel
theorem d_T_canHold_64 : decode b_T_canHold 64 = .ok (.aload_n 2, 1) := by decide +kernel
theorem d_T_canHold_65 : decode b_T_canHold 65 = .ok (.aload_n 3, 1) := by decide +kernel
theorem d_T_canHold_66 : decode b_T_canHold 66 = .ok (.invokevirtual 188, 3) := by decide +kernel
theorem d_T_canHold_69 : decode b_T_canHold 69 = .ok (.ifCond .eq 7, 3) := by decide +kernel
theorem d_T_canHold_72 : decode b_T_canHold 72 = .ok (.iconst 1, 1) := by decide +kernel
theorem d_T_canHold_73 : decode b_T_canHold 73 = .ok (.goto 4, 3) := by decide +kernel
theorem d_T_canHold_76 : decode b_T_canHold 76 = .ok (.iconst 0, 1) := by decide +kernel
theorem d_T_canHold_77 : decode b_T_canHold 77 = .ok (.ireturn, 1) := by decide +kernel
theorem d_T_canHold_78 : decode b_T_canHold 78 = .ok (.iload_n 0, 1) := by decide +kernel
theorem d_T_canHold_79 : decode b_T_canHold 79 = .ok (.aload_n 1, 1) := by decide +kernel
theorem d_T_canHold_80 : decode b_T_canHold 80 = .ok (.aload 4, 2) := by decide +kernel
theorem d_T_canHold_82 : decode b_T_canHold 82 = .ok (.invokevirtual 188, 3) := by decide +kernel
theorem d_T_canHold_85 : decode b_T_canHold 85 = .ok (.invokestatic 191, 3) := by decide +kernel
theorem d_T_canHold_88 : decode b_T_canHold 88 = .ok (.ireturn, 1) := by decide +kernel
theorem d_T_canHold_89 : decode b_T_canHold 89 = .ok (.iload_n 0, 1) := by decide +kernel
theorem d_T_canHold_90 : decode b_T_canHold 90 = .ok (.aload_n 2, 1) := by decide +kernel
theorem d_T_canHold_91 : decode b_T_canHold 91 = .ok (.aload_n 3, 1) := by decide +kernel
theorem d_T_canHold_92 : decode b_T_canHold 92 = .ok (.invokevirtual 188, 3) := by decide +kernel
theorem d_T_canHold_95 : decode b_T_canHold 95 = .ok (.invokestatic 191, 3) := by decide +kernel
theorem d_T_canHold_98 : decode b_T_canHold 98 = .ok (.ireturn, 1) := by decide +kernel
