theorem ac_I : Cond.arrayClass .int ∈ jtbl := jt_of 94 (by decide +kernel) rfl
theorem ac_B : Cond.arrayClass .byte ∈ jtbl := jt_of 93 (by decide +kernel) rfl
theorem ac_L : Cond.arrayClass .long ∈ jtbl := jt_of 523 (by decide +kernel) rfl
theorem ac_Z : Cond.arrayClass .boolean ∈ jtbl := jt_of 524 (by decide +kernel) rfl
theorem nw_T_9 : jNw RT 9 1 [.int 0, .null, .int 0, .int 0, .int 0, .int 0, .int 0, .null, .null, .null, .int 0, .null] := ⟨_, tC, rfl, in_C, ty_C, cl_T_9, ii_C, iz_C, by decide +kernel, rfl⟩
theorem nw_T_26 : jNw RT 26 3 [.int 0, .long 0, .null] := ⟨_, tV, rfl, in_V, ty_V, cl_T_26, ii_V, iz_V, by decide +kernel, rfl⟩
theorem nw_T_35 : jNw RT 35 2 [.int 0, .null, .int 0, .null, .null, .int 0, .int 0] := ⟨_, tS, rfl, in_S, ty_S, cl_T_35, ii_S, iz_S, by decide +kernel, rfl⟩
theorem nw_L_7 : jNw RL 7 0 [.null, .int 0, .null, .int 0, .null, .int 0, .null, .int 0, .null, .null, .int 0, .null, .int 0] := ⟨_, tT, rfl, in_T, ty_T, cl_L_7, ii_T, iz_T, by decide +kernel, rfl⟩
theorem nw_L_10 : jNw RL 10 4 [.int 0, .null, .int 0, .null, .null, .null, .null, .null, .null, .null, .null, .null, .null, .null, .null, .null, .int 0, .int 0, .int 0, .null, .null, .null, .null, .null, .null, .null, .null, .int 0] := ⟨_, tM, rfl, in_M, ty_M, cl_L_10, ii_M, iz_M, by decide +kernel, rfl⟩
theorem ml_A_min : Cond.methodLink RA 304 Lib.Math.min.name ∈ jtbl := (jt_of 218 (by decide +kernel) rfl)
theorem ml_A_ac : Cond.methodLink RA 150 arraycopyName ∈ jtbl := (jt_of 221 (by decide +kernel) rfl)
theorem st_min : Cond.static Lib.Math.min.name ∈ jtbl := (jt_of 219 (by decide +kernel) rfl)
theorem iz_min : Cond.initialized "java/lang/Math" ∈ jtbl := (jt_of 36 (by decide +kernel) rfl)
theorem cd_min : Cond.code Lib.Math.min.name Lib.Math.min.code 2 (some .int) ∈ jtbl := (jt_of 220 (by decide +kernel) rfl)
theorem nt_ac : Cond.native arraycopyName ∈ jtbl := (jt_of 223 (by decide +kernel) rfl)
theorem st_ac : Cond.static arraycopyName ∈ jtbl := (jt_of 222 (by decide +kernel) rfl)
theorem iz_ac : Cond.initialized "java/lang/System" ∈ jtbl := (jt_of 37 (by decide +kernel) rfl)
theorem d_A_copyOf_0 : decode b_A_copyOf 0 = .ok (.iload_n 1, 1) := by decide +kernel
theorem d_A_copyOf_1 : decode b_A_copyOf 1 = .ok (.aload_n 0, 1) := by decide +kernel
theorem d_A_copyOf_2 : decode b_A_copyOf 2 = .ok (.arraylength, 1) := by decide +kernel
theorem d_A_copyOf_3 : decode b_A_copyOf 3 = .ok (.if_icmp .ne 11, 3) := by decide +kernel
theorem d_A_copyOf_6 : decode b_A_copyOf 6 = .ok (.aload_n 0, 1) := by decide +kernel
theorem d_A_copyOf_14 : decode b_A_copyOf 14 = .ok (.iload_n 1, 1) := by decide +kernel
theorem d_A_copyOf_15 : decode b_A_copyOf 15 = .ok (.newarray .byte, 2) := by decide +kernel
theorem d_A_copyOf_17 : decode b_A_copyOf 17 = .ok (.astore_n 2, 1) := by decide +kernel
theorem d_A_copyOf_18 : decode b_A_copyOf 18 = .ok (.aload_n 0, 1) := by decide +kernel
theorem d_A_copyOf_19 : decode b_A_copyOf 19 = .ok (.iconst 0, 1) := by decide +kernel
theorem d_A_copyOf_20 : decode b_A_copyOf 20 = .ok (.aload_n 2, 1) := by decide +kernel
theorem d_A_copyOf_21 : decode b_A_copyOf 21 = .ok (.iconst 0, 1) := by decide +kernel
theorem d_A_copyOf_22 : decode b_A_copyOf 22 = .ok (.aload_n 0, 1) := by decide +kernel
theorem d_A_copyOf_23 : decode b_A_copyOf 23 = .ok (.arraylength, 1) := by decide +kernel
theorem d_A_copyOf_24 : decode b_A_copyOf 24 = .ok (.iload_n 1, 1) := by decide +kernel
theorem d_A_copyOf_25 : decode b_A_copyOf 25 = .ok (.invokestatic 304, 3) := by decide +kernel
theorem d_A_copyOf_28 : decode b_A_copyOf 28 = .ok (.invokestatic 150, 3) := by decide +kernel
theorem d_A_copyOf_31 : decode b_A_copyOf 31 = .ok (.aload_n 2, 1) := by decide +kernel
theorem d_A_copyOf_32 : decode b_A_copyOf 32 = .ok (.areturn, 1) := by decide +kernel
