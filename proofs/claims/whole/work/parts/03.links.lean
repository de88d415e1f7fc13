theorem jt_of {w : Cond} (i : Nat) (h : lw_tbl[i]? = some w) (hg : goodWord w = true) : w ∈ jtbl := List.mem_filter.mpr ⟨List.mem_of_getElem? h, hg⟩
theorem in_T_0 : u_lay RT FT 0 ∈ jtbl := (jt_of 66 (by decide +kernel) rfl)
theorem in_T_1 : u_lay RT FT 1 ∈ jtbl := (jt_of 68 (by decide +kernel) rfl)
theorem in_T_2 : u_lay RT FT 2 ∈ jtbl := (jt_of 70 (by decide +kernel) rfl)
theorem in_T_3 : u_lay RT FT 3 ∈ jtbl := (jt_of 72 (by decide +kernel) rfl)
theorem in_T_4 : u_lay RT FT 4 ∈ jtbl := (jt_of 74 (by decide +kernel) rfl)
theorem in_T_5 : u_lay RT FT 5 ∈ jtbl := (jt_of 76 (by decide +kernel) rfl)
theorem in_T_6 : u_lay RT FT 6 ∈ jtbl := (jt_of 78 (by decide +kernel) rfl)
theorem in_T_7 : u_lay RT FT 7 ∈ jtbl := (jt_of 80 (by decide +kernel) rfl)
theorem in_T_8 : u_lay RT FT 8 ∈ jtbl := (jt_of 82 (by decide +kernel) rfl)
theorem in_T_9 : u_lay RT FT 9 ∈ jtbl := (jt_of 84 (by decide +kernel) rfl)
theorem in_T_10 : u_lay RT FT 10 ∈ jtbl := (jt_of 86 (by decide +kernel) rfl)
theorem in_T_11 : u_lay RT FT 11 ∈ jtbl := (jt_of 88 (by decide +kernel) rfl)
theorem in_T_12 : u_lay RT FT 12 ∈ jtbl := (jt_of 90 (by decide +kernel) rfl)
theorem in_T : ∀ w ∈ u_ws RT FT 13, w ∈ jtbl := by
  intro w hw
  simp only [u_ws, List.range, List.range.loop, List.map_cons, List.map_nil, List.mem_cons, List.not_mem_nil, or_false] at hw
  rcases hw with rfl | rfl | rfl | rfl | rfl | rfl | rfl | rfl | rfl | rfl | rfl | rfl | rfl
  · exact in_T_0
  · exact in_T_1
  · exact in_T_2
  · exact in_T_3
  · exact in_T_4
  · exact in_T_5
  · exact in_T_6
  · exact in_T_7
  · exact in_T_8
  · exact in_T_9
  · exact in_T_10
  · exact in_T_11
  · exact in_T_12
theorem in_C_0 : u_lay RC FC 0 ∈ jtbl := (jt_of 133 (by decide +kernel) rfl)
theorem in_C_1 : u_lay RC FC 1 ∈ jtbl := (jt_of 135 (by decide +kernel) rfl)
theorem in_C_2 : u_lay RC FC 2 ∈ jtbl := (jt_of 137 (by decide +kernel) rfl)
theorem in_C_3 : u_lay RC FC 3 ∈ jtbl := (jt_of 139 (by decide +kernel) rfl)
theorem in_C_4 : u_lay RC FC 4 ∈ jtbl := (jt_of 141 (by decide +kernel) rfl)
theorem in_C_5 : u_lay RC FC 5 ∈ jtbl := (jt_of 143 (by decide +kernel) rfl)
theorem in_C_6 : u_lay RC FC 6 ∈ jtbl := (jt_of 145 (by decide +kernel) rfl)
theorem in_C_7 : u_lay RC FC 7 ∈ jtbl := (jt_of 147 (by decide +kernel) rfl)
theorem in_C_8 : u_lay RC FC 8 ∈ jtbl := (jt_of 149 (by decide +kernel) rfl)
theorem in_C_9 : u_lay RC FC 9 ∈ jtbl := (jt_of 151 (by decide +kernel) rfl)
theorem in_C_10 : u_lay RC FC 10 ∈ jtbl := (jt_of 153 (by decide +kernel) rfl)
theorem in_C_11 : u_lay RC FC 11 ∈ jtbl := (jt_of 155 (by decide +kernel) rfl)
theorem in_C : ∀ w ∈ u_ws RC FC 12, w ∈ jtbl := by
  intro w hw
  simp only [u_ws, List.range, List.range.loop, List.map_cons, List.map_nil, List.mem_cons, List.not_mem_nil, or_false] at hw
  rcases hw with rfl | rfl | rfl | rfl | rfl | rfl | rfl | rfl | rfl | rfl | rfl | rfl
  · exact in_C_0
  · exact in_C_1
  · exact in_C_2
  · exact in_C_3
  · exact in_C_4
  · exact in_C_5
  · exact in_C_6
  · exact in_C_7
  · exact in_C_8
  · exact in_C_9
  · exact in_C_10
  · exact in_C_11
theorem in_S_0 : u_lay RS FS 0 ∈ jtbl := (jt_of 278 (by decide +kernel) rfl)
theorem in_S_1 : u_lay RS FS 1 ∈ jtbl := (jt_of 280 (by decide +kernel) rfl)
theorem in_S_2 : u_lay RS FS 2 ∈ jtbl := (jt_of 282 (by decide +kernel) rfl)
theorem in_S_3 : u_lay RS FS 3 ∈ jtbl := (jt_of 284 (by decide +kernel) rfl)
theorem in_S_4 : u_lay RS FS 4 ∈ jtbl := (jt_of 286 (by decide +kernel) rfl)
theorem in_S_5 : u_lay RS FS 5 ∈ jtbl := (jt_of 288 (by decide +kernel) rfl)
theorem in_S_6 : u_lay RS FS 6 ∈ jtbl := (jt_of 290 (by decide +kernel) rfl)
theorem in_S : ∀ w ∈ u_ws RS FS 7, w ∈ jtbl := by
  intro w hw
  simp only [u_ws, List.range, List.range.loop, List.map_cons, List.map_nil, List.mem_cons, List.not_mem_nil, or_false] at hw
  rcases hw with rfl | rfl | rfl | rfl | rfl | rfl | rfl
  · exact in_S_0
  · exact in_S_1
  · exact in_S_2
  · exact in_S_3
  · exact in_S_4
  · exact in_S_5
  · exact in_S_6
theorem in_V_0 : u_lay RV FV 0 ∈ jtbl := (jt_of 185 (by decide +kernel) rfl)
theorem in_V_1 : u_lay RV FV 1 ∈ jtbl := (jt_of 187 (by decide +kernel) rfl)
theorem in_V_2 : u_lay RV FV 2 ∈ jtbl := (jt_of 189 (by decide +kernel) rfl)
theorem in_V : ∀ w ∈ u_ws RV FV 3, w ∈ jtbl := by
  intro w hw
  simp only [u_ws, List.range, List.range.loop, List.map_cons, List.map_nil, List.mem_cons, List.not_mem_nil, or_false] at hw
  rcases hw with rfl | rfl | rfl
  · exact in_V_0
  · exact in_V_1
  · exact in_V_2
theorem in_M_0 : u_lay RM FM 0 ∈ jtbl := (jt_of 466 (by decide +kernel) rfl)
theorem in_M_1 : u_lay RM FM 1 ∈ jtbl := (jt_of 468 (by decide +kernel) rfl)
theorem in_M_2 : u_lay RM FM 2 ∈ jtbl := (jt_of 470 (by decide +kernel) rfl)
theorem in_M_3 : u_lay RM FM 3 ∈ jtbl := (jt_of 472 (by decide +kernel) rfl)
theorem in_M_4 : u_lay RM FM 4 ∈ jtbl := (jt_of 474 (by decide +kernel) rfl)
theorem in_M_5 : u_lay RM FM 5 ∈ jtbl := (jt_of 476 (by decide +kernel) rfl)
theorem in_M_6 : u_lay RM FM 6 ∈ jtbl := (jt_of 478 (by decide +kernel) rfl)
theorem in_M_7 : u_lay RM FM 7 ∈ jtbl := (jt_of 480 (by decide +kernel) rfl)
theorem in_M_8 : u_lay RM FM 8 ∈ jtbl := (jt_of 482 (by decide +kernel) rfl)
theorem in_M_9 : u_lay RM FM 9 ∈ jtbl := (jt_of 484 (by decide +kernel) rfl)
theorem in_M_10 : u_lay RM FM 10 ∈ jtbl := (jt_of 486 (by decide +kernel) rfl)
theorem in_M_11 : u_lay RM FM 11 ∈ jtbl := (jt_of 488 (by decide +kernel) rfl)
theorem in_M_12 : u_lay RM FM 12 ∈ jtbl := (jt_of 490 (by decide +kernel) rfl)
theorem in_M_13 : u_lay RM FM 13 ∈ jtbl := (jt_of 492 (by decide +kernel) rfl)
theorem in_M_14 : u_lay RM FM 14 ∈ jtbl := (jt_of 494 (by decide +kernel) rfl)
theorem in_M_15 : u_lay RM FM 15 ∈ jtbl := (jt_of 496 (by decide +kernel) rfl)
theorem in_M_16 : u_lay RM FM 16 ∈ jtbl := (jt_of 498 (by decide +kernel) rfl)
theorem in_M_17 : u_lay RM FM 17 ∈ jtbl := (jt_of 500 (by decide +kernel) rfl)
theorem in_M_18 : u_lay RM FM 18 ∈ jtbl := (jt_of 502 (by decide +kernel) rfl)
theorem in_M_19 : u_lay RM FM 19 ∈ jtbl := (jt_of 504 (by decide +kernel) rfl)
theorem in_M_20 : u_lay RM FM 20 ∈ jtbl := (jt_of 506 (by decide +kernel) rfl)
theorem in_M_21 : u_lay RM FM 21 ∈ jtbl := (jt_of 508 (by decide +kernel) rfl)
theorem in_M_22 : u_lay RM FM 22 ∈ jtbl := (jt_of 510 (by decide +kernel) rfl)
theorem in_M_23 : u_lay RM FM 23 ∈ jtbl := (jt_of 512 (by decide +kernel) rfl)
theorem in_M_24 : u_lay RM FM 24 ∈ jtbl := (jt_of 514 (by decide +kernel) rfl)
theorem in_M_25 : u_lay RM FM 25 ∈ jtbl := (jt_of 516 (by decide +kernel) rfl)
theorem in_M_26 : u_lay RM FM 26 ∈ jtbl := (jt_of 518 (by decide +kernel) rfl)
theorem in_M_27 : u_lay RM FM 27 ∈ jtbl := (jt_of 520 (by decide +kernel) rfl)
theorem in_M : ∀ w ∈ u_ws RM FM 28, w ∈ jtbl := by
  intro w hw
  simp only [u_ws, List.range, List.range.loop, List.map_cons, List.map_nil, List.mem_cons, List.not_mem_nil, or_false] at hw
  rcases hw with rfl | rfl | rfl | rfl | rfl | rfl | rfl | rfl | rfl | rfl | rfl | rfl | rfl | rfl | rfl | rfl | rfl | rfl | rfl | rfl | rfl | rfl | rfl | rfl | rfl | rfl | rfl | rfl
  · exact in_M_0
  · exact in_M_1
  · exact in_M_2
  · exact in_M_3
  · exact in_M_4
  · exact in_M_5
  · exact in_M_6
  · exact in_M_7
  · exact in_M_8
  · exact in_M_9
  · exact in_M_10
  · exact in_M_11
  · exact in_M_12
  · exact in_M_13
  · exact in_M_14
  · exact in_M_15
  · exact in_M_16
  · exact in_M_17
  · exact in_M_18
  · exact in_M_19
  · exact in_M_20
  · exact in_M_21
  · exact in_M_22
  · exact in_M_23
  · exact in_M_24
  · exact in_M_25
  · exact in_M_26
  · exact in_M_27
theorem fl_T_11 : jF RT 11 0 0 := ⟨_, rfl, by decide, (jt_of 53 (by decide +kernel) rfl), in_T⟩
theorem fp_T_11 : jFp RT 11 0 0 true (.array (.object "TruthScan$Column")) := ⟨_, rfl, by decide, (jt_of 53 (by decide +kernel) rfl), in_T, rfl, by decide +kernel, (fun _ => rfl), ⟨tT, ty_T⟩, nm_T⟩
theorem fl_T_15 : jF RT 15 0 1 := ⟨_, rfl, by decide, (jt_of 54 (by decide +kernel) rfl), in_T⟩
theorem fp_T_15 : jFp RT 15 0 1 false (.int) := ⟨_, rfl, by decide, (jt_of 54 (by decide +kernel) rfl), in_T, rfl, by decide +kernel, (fun _ => rfl), ⟨tT, ty_T⟩, nm_T⟩
theorem fl_T_19 : jF RT 19 0 2 := ⟨_, rfl, by decide, (jt_of 55 (by decide +kernel) rfl), in_T⟩
theorem fp_T_19 : jFp RT 19 0 2 true (.array .byte) := ⟨_, rfl, by decide, (jt_of 55 (by decide +kernel) rfl), in_T, rfl, by decide +kernel, (fun _ => rfl), ⟨tT, ty_T⟩, nm_T⟩
theorem fl_T_23 : jF RT 23 0 3 := ⟨_, rfl, by decide, (jt_of 56 (by decide +kernel) rfl), in_T⟩
theorem fp_T_23 : jFp RT 23 0 3 false (.int) := ⟨_, rfl, by decide, (jt_of 56 (by decide +kernel) rfl), in_T, rfl, by decide +kernel, (fun _ => rfl), ⟨tT, ty_T⟩, nm_T⟩
theorem fl_T_28 : jF RT 28 0 4 := ⟨_, rfl, by decide, (jt_of 57 (by decide +kernel) rfl), in_T⟩
theorem fp_T_28 : jFp RT 28 0 4 true (.array (.object "TruthScan$Value")) := ⟨_, rfl, by decide, (jt_of 57 (by decide +kernel) rfl), in_T, rfl, by decide +kernel, (fun _ => rfl), ⟨tT, ty_T⟩, nm_T⟩
theorem fl_T_32 : jF RT 32 0 5 := ⟨_, rfl, by decide, (jt_of 58 (by decide +kernel) rfl), in_T⟩
theorem fp_T_32 : jFp RT 32 0 5 false (.int) := ⟨_, rfl, by decide, (jt_of 58 (by decide +kernel) rfl), in_T, rfl, by decide +kernel, (fun _ => rfl), ⟨tT, ty_T⟩, nm_T⟩
theorem fl_T_37 : jF RT 37 0 6 := ⟨_, rfl, by decide, (jt_of 59 (by decide +kernel) rfl), in_T⟩
theorem fp_T_37 : jFp RT 37 0 6 true (.array (.object "TruthScan$Step")) := ⟨_, rfl, by decide, (jt_of 59 (by decide +kernel) rfl), in_T, rfl, by decide +kernel, (fun _ => rfl), ⟨tT, ty_T⟩, nm_T⟩
theorem fl_T_41 : jF RT 41 0 7 := ⟨_, rfl, by decide, (jt_of 60 (by decide +kernel) rfl), in_T⟩
theorem fp_T_41 : jFp RT 41 0 7 false (.int) := ⟨_, rfl, by decide, (jt_of 60 (by decide +kernel) rfl), in_T, rfl, by decide +kernel, (fun _ => rfl), ⟨tT, ty_T⟩, nm_T⟩
theorem fl_T_44 : jF RT 44 0 8 := ⟨_, rfl, by decide, (jt_of 61 (by decide +kernel) rfl), in_T⟩
theorem fp_T_44 : jFp RT 44 0 8 true (.array .int) := ⟨_, rfl, by decide, (jt_of 61 (by decide +kernel) rfl), in_T, rfl, by decide +kernel, (fun _ => rfl), ⟨tT, ty_T⟩, nm_T⟩
theorem fl_T_48 : jF RT 48 0 9 := ⟨_, rfl, by decide, (jt_of 62 (by decide +kernel) rfl), in_T⟩
theorem fp_T_48 : jFp RT 48 0 9 true (.array .int) := ⟨_, rfl, by decide, (jt_of 62 (by decide +kernel) rfl), in_T, rfl, by decide +kernel, (fun _ => rfl), ⟨tT, ty_T⟩, nm_T⟩
theorem fl_T_51 : jF RT 51 0 10 := ⟨_, rfl, by decide, (jt_of 63 (by decide +kernel) rfl), in_T⟩
theorem fp_T_51 : jFp RT 51 0 10 false (.int) := ⟨_, rfl, by decide, (jt_of 63 (by decide +kernel) rfl), in_T, rfl, by decide +kernel, (fun _ => rfl), ⟨tT, ty_T⟩, nm_T⟩
theorem fl_T_54 : jF RT 54 0 11 := ⟨_, rfl, by decide, (jt_of 64 (by decide +kernel) rfl), in_T⟩
theorem fp_T_54 : jFp RT 54 0 11 true (.array .int) := ⟨_, rfl, by decide, (jt_of 64 (by decide +kernel) rfl), in_T, rfl, by decide +kernel, (fun _ => rfl), ⟨tT, ty_T⟩, nm_T⟩
theorem fl_T_57 : jF RT 57 0 12 := ⟨_, rfl, by decide, (jt_of 65 (by decide +kernel) rfl), in_T⟩
theorem fp_T_57 : jFp RT 57 0 12 false (.int) := ⟨_, rfl, by decide, (jt_of 65 (by decide +kernel) rfl), in_T, rfl, by decide +kernel, (fun _ => rfl), ⟨tT, ty_T⟩, nm_T⟩
theorem fl_T_70 : jF RT 70 1 0 := ⟨_, rfl, by decide, (jt_of 114 (by decide +kernel) rfl), in_C⟩
theorem fz_T_81 : Cond.fieldLink RT 81 "TruthScan" "NO_TEXT" "[B" ∈ jtbl := (jt_of 174 (by decide +kernel) rfl)
theorem fl_T_136 : jF RT 136 1 4 := ⟨_, rfl, by decide, (jt_of 121 (by decide +kernel) rfl), in_C⟩
theorem fp_T_136 : jFp RT 136 1 4 false (.boolean) := ⟨_, rfl, by decide, (jt_of 121 (by decide +kernel) rfl), in_C, rfl, by decide +kernel, (fun h => by cases h), ⟨tC, ty_C⟩, nm_C⟩
theorem fl_T_147 : jF RT 147 3 0 := ⟨_, rfl, by decide, (jt_of 181 (by decide +kernel) rfl), in_V⟩
theorem fl_T_152 : jF RT 152 2 1 := ⟨_, rfl, by decide, (jt_of 271 (by decide +kernel) rfl), in_S⟩
theorem fl_T_156 : jF RT 156 1 2 := ⟨_, rfl, by decide, (jt_of 117 (by decide +kernel) rfl), in_C⟩
theorem fl_T_159 : jF RT 159 2 3 := ⟨_, rfl, by decide, (jt_of 274 (by decide +kernel) rfl), in_S⟩
theorem fl_T_171 : jF RT 171 2 0 := ⟨_, rfl, by decide, (jt_of 269 (by decide +kernel) rfl), in_S⟩
theorem fl_C_11 : jF RC 11 1 1 := ⟨_, rfl, by decide, (jt_of 115 (by decide +kernel) rfl), in_C⟩
theorem fp_C_11 : jFp RC 11 1 1 true (.array (.object "TruthScan$Value")) := ⟨_, rfl, by decide, (jt_of 115 (by decide +kernel) rfl), in_C, rfl, by decide +kernel, (fun _ => rfl), ⟨tC, ty_C⟩, nm_C⟩
theorem fl_C_17 : jF RC 17 1 2 := ⟨_, rfl, by decide, (jt_of 116 (by decide +kernel) rfl), in_C⟩
theorem fp_C_17 : jFp RC 17 1 2 false (.int) := ⟨_, rfl, by decide, (jt_of 116 (by decide +kernel) rfl), in_C, rfl, by decide +kernel, (fun _ => rfl), ⟨tC, ty_C⟩, nm_C⟩
theorem fl_C_21 : jF RC 21 1 3 := ⟨_, rfl, by decide, (jt_of 118 (by decide +kernel) rfl), in_C⟩
theorem fp_C_21 : jFp RC 21 1 3 false (.int) := ⟨_, rfl, by decide, (jt_of 118 (by decide +kernel) rfl), in_C, rfl, by decide +kernel, (fun _ => rfl), ⟨tC, ty_C⟩, nm_C⟩
theorem fl_C_24 : jF RC 24 1 4 := ⟨_, rfl, by decide, (jt_of 119 (by decide +kernel) rfl), in_C⟩
theorem fp_C_24 : jFp RC 24 1 4 false (.boolean) := ⟨_, rfl, by decide, (jt_of 119 (by decide +kernel) rfl), in_C, rfl, by decide +kernel, (fun _ => rfl), ⟨tC, ty_C⟩, nm_C⟩
theorem fl_C_28 : jF RC 28 1 5 := ⟨_, rfl, by decide, (jt_of 122 (by decide +kernel) rfl), in_C⟩
theorem fp_C_28 : jFp RC 28 1 5 false (.int) := ⟨_, rfl, by decide, (jt_of 122 (by decide +kernel) rfl), in_C, rfl, by decide +kernel, (fun _ => rfl), ⟨tC, ty_C⟩, nm_C⟩
theorem fl_C_31 : jF RC 31 1 6 := ⟨_, rfl, by decide, (jt_of 123 (by decide +kernel) rfl), in_C⟩
theorem fp_C_31 : jFp RC 31 1 6 false (.int) := ⟨_, rfl, by decide, (jt_of 123 (by decide +kernel) rfl), in_C, rfl, by decide +kernel, (fun _ => rfl), ⟨tC, ty_C⟩, nm_C⟩
theorem fl_C_34 : jF RC 34 1 7 := ⟨_, rfl, by decide, (jt_of 124 (by decide +kernel) rfl), in_C⟩
theorem fp_C_34 : jFp RC 34 1 7 false (.object "TruthScan$Value") := ⟨_, rfl, by decide, (jt_of 124 (by decide +kernel) rfl), in_C, rfl, by decide +kernel, (fun _ => rfl), ⟨tC, ty_C⟩, nm_C⟩
theorem fl_C_38 : jF RC 38 1 8 := ⟨_, rfl, by decide, (jt_of 126 (by decide +kernel) rfl), in_C⟩
theorem fp_C_38 : jFp RC 38 1 8 false (.object "TruthScan$Value") := ⟨_, rfl, by decide, (jt_of 126 (by decide +kernel) rfl), in_C, rfl, by decide +kernel, (fun _ => rfl), ⟨tC, ty_C⟩, nm_C⟩
theorem fl_C_41 : jF RC 41 1 9 := ⟨_, rfl, by decide, (jt_of 128 (by decide +kernel) rfl), in_C⟩
theorem fp_C_41 : jFp RC 41 1 9 false (.array (.object "TruthScan$Value")) := ⟨_, rfl, by decide, (jt_of 128 (by decide +kernel) rfl), in_C, rfl, by decide +kernel, (fun _ => rfl), ⟨tC, ty_C⟩, nm_C⟩
theorem fl_C_44 : jF RC 44 1 10 := ⟨_, rfl, by decide, (jt_of 130 (by decide +kernel) rfl), in_C⟩
theorem fp_C_44 : jFp RC 44 1 10 false (.int) := ⟨_, rfl, by decide, (jt_of 130 (by decide +kernel) rfl), in_C, rfl, by decide +kernel, (fun _ => rfl), ⟨tC, ty_C⟩, nm_C⟩
theorem fl_C_47 : jF RC 47 1 11 := ⟨_, rfl, by decide, (jt_of 132 (by decide +kernel) rfl), in_C⟩
theorem fp_C_47 : jFp RC 47 1 11 false (.array (.object "TruthScan$Value")) := ⟨_, rfl, by decide, (jt_of 132 (by decide +kernel) rfl), in_C, rfl, by decide +kernel, (fun _ => rfl), ⟨tC, ty_C⟩, nm_C⟩
theorem fl_C_50 : jF RC 50 1 0 := ⟨_, rfl, by decide, (jt_of 113 (by decide +kernel) rfl), in_C⟩
theorem fp_C_50 : jFp RC 50 1 0 true (.int) := ⟨_, rfl, by decide, (jt_of 113 (by decide +kernel) rfl), in_C, rfl, by decide +kernel, (fun _ => rfl), ⟨tC, ty_C⟩, nm_C⟩
theorem fl_C_53 : jF RC 53 3 2 := ⟨_, rfl, by decide, (jt_of 184 (by decide +kernel) rfl), in_V⟩
theorem fl_S_9 : jF RS 9 2 0 := ⟨_, rfl, by decide, (jt_of 268 (by decide +kernel) rfl), in_S⟩
theorem fp_S_9 : jFp RS 9 2 0 true (.int) := ⟨_, rfl, by decide, (jt_of 268 (by decide +kernel) rfl), in_S, rfl, by decide +kernel, (fun _ => rfl), ⟨tS, ty_S⟩, nm_S⟩
theorem fl_S_15 : jF RS 15 2 1 := ⟨_, rfl, by decide, (jt_of 270 (by decide +kernel) rfl), in_S⟩
theorem fp_S_15 : jFp RS 15 2 1 true (.object "TruthScan$Column") := ⟨_, rfl, by decide, (jt_of 270 (by decide +kernel) rfl), in_S, rfl, by decide +kernel, (fun _ => rfl), ⟨tS, ty_S⟩, nm_S⟩
theorem fl_S_19 : jF RS 19 2 2 := ⟨_, rfl, by decide, (jt_of 272 (by decide +kernel) rfl), in_S⟩
theorem fp_S_19 : jFp RS 19 2 2 true (.int) := ⟨_, rfl, by decide, (jt_of 272 (by decide +kernel) rfl), in_S, rfl, by decide +kernel, (fun _ => rfl), ⟨tS, ty_S⟩, nm_S⟩
theorem fl_S_22 : jF RS 22 2 3 := ⟨_, rfl, by decide, (jt_of 273 (by decide +kernel) rfl), in_S⟩
theorem fp_S_22 : jFp RS 22 2 3 true (.object "TruthScan$Column") := ⟨_, rfl, by decide, (jt_of 273 (by decide +kernel) rfl), in_S, rfl, by decide +kernel, (fun _ => rfl), ⟨tS, ty_S⟩, nm_S⟩
theorem fl_S_25 : jF RS 25 2 4 := ⟨_, rfl, by decide, (jt_of 275 (by decide +kernel) rfl), in_S⟩
theorem fp_S_25 : jFp RS 25 2 4 true (.array (.object "TruthScan$Value")) := ⟨_, rfl, by decide, (jt_of 275 (by decide +kernel) rfl), in_S, rfl, by decide +kernel, (fun _ => rfl), ⟨tS, ty_S⟩, nm_S⟩
theorem fl_S_29 : jF RS 29 2 5 := ⟨_, rfl, by decide, (jt_of 276 (by decide +kernel) rfl), in_S⟩
theorem fp_S_29 : jFp RS 29 2 5 true (.int) := ⟨_, rfl, by decide, (jt_of 276 (by decide +kernel) rfl), in_S, rfl, by decide +kernel, (fun _ => rfl), ⟨tS, ty_S⟩, nm_S⟩
theorem fl_S_32 : jF RS 32 2 6 := ⟨_, rfl, by decide, (jt_of 277 (by decide +kernel) rfl), in_S⟩
theorem fp_S_32 : jFp RS 32 2 6 true (.int) := ⟨_, rfl, by decide, (jt_of 277 (by decide +kernel) rfl), in_S, rfl, by decide +kernel, (fun _ => rfl), ⟨tS, ty_S⟩, nm_S⟩
theorem fl_S_58 : jF RS 58 1 4 := ⟨_, rfl, by decide, (jt_of 120 (by decide +kernel) rfl), in_C⟩
theorem fl_S_94 : jF RS 94 1 10 := ⟨_, rfl, by decide, (jt_of 131 (by decide +kernel) rfl), in_C⟩
theorem fl_S_97 : jF RS 97 1 7 := ⟨_, rfl, by decide, (jt_of 125 (by decide +kernel) rfl), in_C⟩
theorem fl_S_101 : jF RS 101 1 8 := ⟨_, rfl, by decide, (jt_of 127 (by decide +kernel) rfl), in_C⟩
theorem fl_S_107 : jF RS 107 1 9 := ⟨_, rfl, by decide, (jt_of 129 (by decide +kernel) rfl), in_C⟩
theorem fl_V_7 : jF RV 7 3 0 := ⟨_, rfl, by decide, (jt_of 180 (by decide +kernel) rfl), in_V⟩
theorem fp_V_7 : jFp RV 7 3 0 true (.int) := ⟨_, rfl, by decide, (jt_of 180 (by decide +kernel) rfl), in_V, rfl, by decide +kernel, (fun _ => rfl), ⟨tV, ty_V⟩, nm_V⟩
theorem fl_V_13 : jF RV 13 3 1 := ⟨_, rfl, by decide, (jt_of 182 (by decide +kernel) rfl), in_V⟩
theorem fp_V_13 : jFp RV 13 3 1 true (.long) := ⟨_, rfl, by decide, (jt_of 182 (by decide +kernel) rfl), in_V, rfl, by decide +kernel, (fun _ => rfl), ⟨tV, ty_V⟩, nm_V⟩
theorem fl_V_17 : jF RV 17 3 2 := ⟨_, rfl, by decide, (jt_of 183 (by decide +kernel) rfl), in_V⟩
theorem fp_V_17 : jFp RV 17 3 2 true (.array .byte) := ⟨_, rfl, by decide, (jt_of 183 (by decide +kernel) rfl), in_V, rfl, by decide +kernel, (fun _ => rfl), ⟨tV, ty_V⟩, nm_V⟩
theorem fl_M_7 : jF RM 7 4 1 := ⟨_, rfl, by decide, (jt_of 439 (by decide +kernel) rfl), in_M⟩
theorem fp_M_7 : jFp RM 7 4 1 true (.array .int) := ⟨_, rfl, by decide, (jt_of 439 (by decide +kernel) rfl), in_M, rfl, by decide +kernel, (fun _ => rfl), ⟨tM, ty_M⟩, nm_M⟩
theorem fl_M_13 : jF RM 13 4 3 := ⟨_, rfl, by decide, (jt_of 441 (by decide +kernel) rfl), in_M⟩
theorem fp_M_13 : jFp RM 13 4 3 true (.array .long) := ⟨_, rfl, by decide, (jt_of 441 (by decide +kernel) rfl), in_M, rfl, by decide +kernel, (fun _ => rfl), ⟨tM, ty_M⟩, nm_M⟩
theorem fl_M_17 : jF RM 17 4 4 := ⟨_, rfl, by decide, (jt_of 442 (by decide +kernel) rfl), in_M⟩
theorem fp_M_17 : jFp RM 17 4 4 true (.array .int) := ⟨_, rfl, by decide, (jt_of 442 (by decide +kernel) rfl), in_M, rfl, by decide +kernel, (fun _ => rfl), ⟨tM, ty_M⟩, nm_M⟩
theorem fl_M_20 : jF RM 20 4 5 := ⟨_, rfl, by decide, (jt_of 443 (by decide +kernel) rfl), in_M⟩
theorem fp_M_20 : jFp RM 20 4 5 true (.array .int) := ⟨_, rfl, by decide, (jt_of 443 (by decide +kernel) rfl), in_M, rfl, by decide +kernel, (fun _ => rfl), ⟨tM, ty_M⟩, nm_M⟩
theorem fl_M_24 : jF RM 24 4 6 := ⟨_, rfl, by decide, (jt_of 444 (by decide +kernel) rfl), in_M⟩
theorem fp_M_24 : jFp RM 24 4 6 true (.array .int) := ⟨_, rfl, by decide, (jt_of 444 (by decide +kernel) rfl), in_M, rfl, by decide +kernel, (fun _ => rfl), ⟨tM, ty_M⟩, nm_M⟩
theorem fl_M_27 : jF RM 27 4 7 := ⟨_, rfl, by decide, (jt_of 445 (by decide +kernel) rfl), in_M⟩
theorem fp_M_27 : jFp RM 27 4 7 true (.array .int) := ⟨_, rfl, by decide, (jt_of 445 (by decide +kernel) rfl), in_M, rfl, by decide +kernel, (fun _ => rfl), ⟨tM, ty_M⟩, nm_M⟩
theorem fl_M_30 : jF RM 30 4 8 := ⟨_, rfl, by decide, (jt_of 446 (by decide +kernel) rfl), in_M⟩
theorem fp_M_30 : jFp RM 30 4 8 true (.array .int) := ⟨_, rfl, by decide, (jt_of 446 (by decide +kernel) rfl), in_M, rfl, by decide +kernel, (fun _ => rfl), ⟨tM, ty_M⟩, nm_M⟩
theorem fl_M_33 : jF RM 33 4 9 := ⟨_, rfl, by decide, (jt_of 447 (by decide +kernel) rfl), in_M⟩
theorem fp_M_33 : jFp RM 33 4 9 true (.array .int) := ⟨_, rfl, by decide, (jt_of 447 (by decide +kernel) rfl), in_M, rfl, by decide +kernel, (fun _ => rfl), ⟨tM, ty_M⟩, nm_M⟩
theorem fl_M_36 : jF RM 36 4 10 := ⟨_, rfl, by decide, (jt_of 448 (by decide +kernel) rfl), in_M⟩
theorem fp_M_36 : jFp RM 36 4 10 true (.array .int) := ⟨_, rfl, by decide, (jt_of 448 (by decide +kernel) rfl), in_M, rfl, by decide +kernel, (fun _ => rfl), ⟨tM, ty_M⟩, nm_M⟩
theorem fl_M_39 : jF RM 39 4 11 := ⟨_, rfl, by decide, (jt_of 449 (by decide +kernel) rfl), in_M⟩
theorem fp_M_39 : jFp RM 39 4 11 true (.array .int) := ⟨_, rfl, by decide, (jt_of 449 (by decide +kernel) rfl), in_M, rfl, by decide +kernel, (fun _ => rfl), ⟨tM, ty_M⟩, nm_M⟩
theorem fl_M_42 : jF RM 42 4 12 := ⟨_, rfl, by decide, (jt_of 450 (by decide +kernel) rfl), in_M⟩
theorem fp_M_42 : jFp RM 42 4 12 true (.array .int) := ⟨_, rfl, by decide, (jt_of 450 (by decide +kernel) rfl), in_M, rfl, by decide +kernel, (fun _ => rfl), ⟨tM, ty_M⟩, nm_M⟩
theorem fl_M_45 : jF RM 45 4 13 := ⟨_, rfl, by decide, (jt_of 451 (by decide +kernel) rfl), in_M⟩
theorem fp_M_45 : jFp RM 45 4 13 true (.array .boolean) := ⟨_, rfl, by decide, (jt_of 451 (by decide +kernel) rfl), in_M, rfl, by decide +kernel, (fun _ => rfl), ⟨tM, ty_M⟩, nm_M⟩
theorem fl_M_49 : jF RM 49 4 14 := ⟨_, rfl, by decide, (jt_of 452 (by decide +kernel) rfl), in_M⟩
theorem fp_M_49 : jFp RM 49 4 14 true (.array .boolean) := ⟨_, rfl, by decide, (jt_of 452 (by decide +kernel) rfl), in_M, rfl, by decide +kernel, (fun _ => rfl), ⟨tM, ty_M⟩, nm_M⟩
theorem fl_M_52 : jF RM 52 4 15 := ⟨_, rfl, by decide, (jt_of 453 (by decide +kernel) rfl), in_M⟩
theorem fp_M_52 : jFp RM 52 4 15 true (.array .boolean) := ⟨_, rfl, by decide, (jt_of 453 (by decide +kernel) rfl), in_M, rfl, by decide +kernel, (fun _ => rfl), ⟨tM, ty_M⟩, nm_M⟩
theorem fl_M_55 : jF RM 55 4 19 := ⟨_, rfl, by decide, (jt_of 457 (by decide +kernel) rfl), in_M⟩
theorem fp_M_55 : jFp RM 55 4 19 true (.array .int) := ⟨_, rfl, by decide, (jt_of 457 (by decide +kernel) rfl), in_M, rfl, by decide +kernel, (fun _ => rfl), ⟨tM, ty_M⟩, nm_M⟩
theorem fl_M_58 : jF RM 58 4 20 := ⟨_, rfl, by decide, (jt_of 458 (by decide +kernel) rfl), in_M⟩
theorem fp_M_58 : jFp RM 58 4 20 true (.array .int) := ⟨_, rfl, by decide, (jt_of 458 (by decide +kernel) rfl), in_M, rfl, by decide +kernel, (fun _ => rfl), ⟨tM, ty_M⟩, nm_M⟩
theorem fl_M_61 : jF RM 61 4 21 := ⟨_, rfl, by decide, (jt_of 459 (by decide +kernel) rfl), in_M⟩
theorem fp_M_61 : jFp RM 61 4 21 true (.array .int) := ⟨_, rfl, by decide, (jt_of 459 (by decide +kernel) rfl), in_M, rfl, by decide +kernel, (fun _ => rfl), ⟨tM, ty_M⟩, nm_M⟩
theorem fl_M_64 : jF RM 64 4 22 := ⟨_, rfl, by decide, (jt_of 460 (by decide +kernel) rfl), in_M⟩
theorem fp_M_64 : jFp RM 64 4 22 true (.array .int) := ⟨_, rfl, by decide, (jt_of 460 (by decide +kernel) rfl), in_M, rfl, by decide +kernel, (fun _ => rfl), ⟨tM, ty_M⟩, nm_M⟩
theorem fl_M_67 : jF RM 67 4 23 := ⟨_, rfl, by decide, (jt_of 461 (by decide +kernel) rfl), in_M⟩
theorem fp_M_67 : jFp RM 67 4 23 true (.array .int) := ⟨_, rfl, by decide, (jt_of 461 (by decide +kernel) rfl), in_M, rfl, by decide +kernel, (fun _ => rfl), ⟨tM, ty_M⟩, nm_M⟩
theorem fl_M_70 : jF RM 70 4 24 := ⟨_, rfl, by decide, (jt_of 462 (by decide +kernel) rfl), in_M⟩
theorem fp_M_70 : jFp RM 70 4 24 true (.array .int) := ⟨_, rfl, by decide, (jt_of 462 (by decide +kernel) rfl), in_M, rfl, by decide +kernel, (fun _ => rfl), ⟨tM, ty_M⟩, nm_M⟩
theorem fl_M_73 : jF RM 73 4 25 := ⟨_, rfl, by decide, (jt_of 463 (by decide +kernel) rfl), in_M⟩
theorem fp_M_73 : jFp RM 73 4 25 true (.array .int) := ⟨_, rfl, by decide, (jt_of 463 (by decide +kernel) rfl), in_M, rfl, by decide +kernel, (fun _ => rfl), ⟨tM, ty_M⟩, nm_M⟩
theorem fl_M_76 : jF RM 76 4 26 := ⟨_, rfl, by decide, (jt_of 464 (by decide +kernel) rfl), in_M⟩
theorem fp_M_76 : jFp RM 76 4 26 true (.array .int) := ⟨_, rfl, by decide, (jt_of 464 (by decide +kernel) rfl), in_M, rfl, by decide +kernel, (fun _ => rfl), ⟨tM, ty_M⟩, nm_M⟩
theorem fl_M_79 : jF RM 79 4 0 := ⟨_, rfl, by decide, (jt_of 438 (by decide +kernel) rfl), in_M⟩
theorem fp_M_79 : jFp RM 79 4 0 false (.int) := ⟨_, rfl, by decide, (jt_of 438 (by decide +kernel) rfl), in_M, rfl, by decide +kernel, (fun _ => rfl), ⟨tM, ty_M⟩, nm_M⟩
theorem fl_M_83 : jF RM 83 4 2 := ⟨_, rfl, by decide, (jt_of 440 (by decide +kernel) rfl), in_M⟩
theorem fp_M_83 : jFp RM 83 4 2 false (.int) := ⟨_, rfl, by decide, (jt_of 440 (by decide +kernel) rfl), in_M, rfl, by decide +kernel, (fun _ => rfl), ⟨tM, ty_M⟩, nm_M⟩
theorem fl_M_86 : jF RM 86 4 16 := ⟨_, rfl, by decide, (jt_of 454 (by decide +kernel) rfl), in_M⟩
theorem fp_M_86 : jFp RM 86 4 16 false (.int) := ⟨_, rfl, by decide, (jt_of 454 (by decide +kernel) rfl), in_M, rfl, by decide +kernel, (fun _ => rfl), ⟨tM, ty_M⟩, nm_M⟩
theorem fl_M_101 : jF RM 101 4 17 := ⟨_, rfl, by decide, (jt_of 455 (by decide +kernel) rfl), in_M⟩
theorem fp_M_101 : jFp RM 101 4 17 false (.int) := ⟨_, rfl, by decide, (jt_of 455 (by decide +kernel) rfl), in_M, rfl, by decide +kernel, (fun _ => rfl), ⟨tM, ty_M⟩, nm_M⟩
theorem fl_M_109 : jF RM 109 4 18 := ⟨_, rfl, by decide, (jt_of 456 (by decide +kernel) rfl), in_M⟩
theorem fp_M_109 : jFp RM 109 4 18 false (.int) := ⟨_, rfl, by decide, (jt_of 456 (by decide +kernel) rfl), in_M, rfl, by decide +kernel, (fun _ => rfl), ⟨tM, ty_M⟩, nm_M⟩
theorem fl_M_145 : jF RM 145 4 27 := ⟨_, rfl, by decide, (jt_of 465 (by decide +kernel) rfl), in_M⟩
theorem fp_M_145 : jFp RM 145 4 27 false (.int) := ⟨_, rfl, by decide, (jt_of 465 (by decide +kernel) rfl), in_M, rfl, by decide +kernel, (fun _ => rfl), ⟨tM, ty_M⟩, nm_M⟩
theorem ml_T_1 : Cond.methodLink RT 1 objectInit ∈ jtbl := (jt_of 44 (by decide +kernel) rfl)
theorem ml_T_60 : Cond.methodLink RT 60 y_T_putOnTape ∈ jtbl := (jt_of 99 (by decide +kernel) rfl)
theorem ml_T_64 : Cond.methodLink RT 64 y_C_init ∈ jtbl := (jt_of 108 (by decide +kernel) rfl)
theorem ml_T_66 : Cond.methodLink RT 66 y_T_columnAt ∈ jtbl := (jt_of 162 (by decide +kernel) rfl)
theorem ml_T_73 : Cond.methodLink RT 73 y_T_isNumberOf ∈ jtbl := (jt_of 166 (by decide +kernel) rfl)
theorem ml_T_77 : Cond.methodLink RT 77 y_C_hasRoomFor ∈ jtbl := (jt_of 169 (by decide +kernel) rfl)
theorem ml_T_84 : Cond.methodLink RT 84 y_V_init ∈ jtbl := (jt_of 176 (by decide +kernel) rfl)
theorem ml_T_87 : Cond.methodLink RT 87 y_C_append ∈ jtbl := (jt_of 192 (by decide +kernel) rfl)
theorem ml_T_91 : Cond.methodLink RT 91 y_T_isOnTape ∈ jtbl := (jt_of 200 (by decide +kernel) rfl)
theorem ml_T_94 : Cond.methodLink RT 94 y_C_hasRoomForBytes ∈ jtbl := (jt_of 204 (by decide +kernel) rfl)
theorem ml_T_97 : Cond.methodLink RT 97 y_A_copyOf ∈ jtbl := (jt_of 208 (by decide +kernel) rfl)
theorem ml_T_103 : Cond.methodLink RT 103 y_C_removeRows ∈ jtbl := (jt_of 232 (by decide +kernel) rfl)
theorem ml_T_106 : Cond.methodLink RT 106 y_T_keepLiteral ∈ jtbl := (jt_of 240 (by decide +kernel) rfl)
theorem ml_T_110 : Cond.methodLink RT 110 y_T_fits ∈ jtbl := (jt_of 252 (by decide +kernel) rfl)
theorem ml_T_114 : Cond.methodLink RT 114 y_S_init ∈ jtbl := (jt_of 264 (by decide +kernel) rfl)
theorem ml_T_117 : Cond.methodLink RT 117 y_T_isCondition ∈ jtbl := (jt_of 301 (by decide +kernel) rfl)
theorem ml_T_121 : Cond.methodLink RT 121 y_T_stepsHaveRows ∈ jtbl := (jt_of 309 (by decide +kernel) rfl)
theorem ml_T_124 : Cond.methodLink RT 124 y_T_outcome ∈ jtbl := (jt_of 313 (by decide +kernel) rfl)
theorem ml_T_129 : Cond.methodLink RT 129 y_C_learn ∈ jtbl := (jt_of 411 (by decide +kernel) rfl)
theorem ml_T_133 : Cond.methodLink RT 133 y_C_learnDictionary ∈ jtbl := (jt_of 419 (by decide +kernel) rfl)
theorem ml_T_140 : Cond.methodLink RT 140 y_T_areLiterals ∈ jtbl := (jt_of 256 (by decide +kernel) rfl)
theorem ml_T_144 : Cond.methodLink RT 144 y_T_isOperator ∈ jtbl := (jt_of 260 (by decide +kernel) rfl)
theorem ml_T_148 : Cond.methodLink RT 148 y_S_takes ∈ jtbl := (jt_of 305 (by decide +kernel) rfl)
theorem ml_T_162 : Cond.methodLink RT 162 y_S_canBe ∈ jtbl := (jt_of 317 (by decide +kernel) rfl)
theorem ml_T_165 : Cond.methodLink RT 165 y_S_atRow ∈ jtbl := (jt_of 379 (by decide +kernel) rfl)
theorem ml_T_168 : Cond.methodLink RT 168 y_T_not ∈ jtbl := (jt_of 391 (by decide +kernel) rfl)
theorem ml_T_174 : Cond.methodLink RT 174 y_T_and ∈ jtbl := (jt_of 392 (by decide +kernel) rfl)
theorem ml_T_178 : Cond.methodLink RT 178 y_T_or ∈ jtbl := (jt_of 395 (by decide +kernel) rfl)
theorem ml_T_181 : Cond.methodLink RT 181 y_T_has ∈ jtbl := (jt_of 335 (by decide +kernel) rfl)
theorem ml_T_184 : Cond.methodLink RT 184 y_T_truthSet ∈ jtbl := (jt_of 338 (by decide +kernel) rfl)
theorem ml_T_188 : Cond.methodLink RT 188 y_V_order ∈ jtbl := (jt_of 354 (by decide +kernel) rfl)
theorem ml_T_191 : Cond.methodLink RT 191 y_T_holds ∈ jtbl := (jt_of 375 (by decide +kernel) rfl)
theorem ml_C_3 : Cond.methodLink RC 3 objectInit ∈ jtbl := (jt_of 111 (by decide +kernel) rfl)
theorem ml_C_57 : Cond.methodLink RC 57 y_V_order ∈ jtbl := (jt_of 364 (by decide +kernel) rfl)
theorem ml_S_3 : Cond.methodLink RS 3 objectInit ∈ jtbl := (jt_of 267 (by decide +kernel) rfl)
theorem ml_S_35 : Cond.methodLink RS 35 y_C_valueAt ∈ jtbl := (jt_of 383 (by decide +kernel) rfl)
theorem ml_S_45 : Cond.methodLink RS 45 y_S_valueOfOther ∈ jtbl := (jt_of 387 (by decide +kernel) rfl)
theorem ml_S_48 : Cond.methodLink RS 48 y_V_order ∈ jtbl := (jt_of 343 (by decide +kernel) rfl)
theorem ml_S_66 : Cond.methodLink RS 66 y_C_mayHaveValues ∈ jtbl := (jt_of 324 (by decide +kernel) rfl)
theorem ml_S_70 : Cond.methodLink RS 70 y_C_mayMiss ∈ jtbl := (jt_of 328 (by decide +kernel) rfl)
theorem ml_S_77 : Cond.methodLink RS 77 y_S_canBeOutside ∈ jtbl := (jt_of 339 (by decide +kernel) rfl)
theorem ml_S_80 : Cond.methodLink RS 80 y_S_canBeInside ∈ jtbl := (jt_of 355 (by decide +kernel) rfl)
theorem ml_S_86 : Cond.methodLink RS 86 y_S_canCompare ∈ jtbl := (jt_of 368 (by decide +kernel) rfl)
theorem ml_S_90 : Cond.methodLink RS 90 y_C_mayHold ∈ jtbl := (jt_of 359 (by decide +kernel) rfl)
theorem ml_S_104 : Cond.methodLink RS 104 y_S_isOutside ∈ jtbl := (jt_of 347 (by decide +kernel) rfl)
theorem ml_V_1 : Cond.methodLink RV 1 objectInit ∈ jtbl := (jt_of 179 (by decide +kernel) rfl)
theorem ml_L_9 : Cond.methodLink RL 9 y_T_init ∈ jtbl := (jt_of 41 (by decide +kernel) rfl)
theorem ml_L_12 : Cond.methodLink RL 12 y_M_init ∈ jtbl := (jt_of 433 (by decide +kernel) rfl)
theorem ml_L_13 : Cond.methodLink RL 13 y_T_feed ∈ jtbl := (jt_of 95 (by decide +kernel) rfl)
theorem ml_L_17 : Cond.methodLink RL 17 y_M_feed ∈ jtbl := (jt_of 525 (by decide +kernel) rfl)
theorem ml_L_18 : Cond.methodLink RL 18 y_T_column ∈ jtbl := (jt_of 103 (by decide +kernel) rfl)
theorem ml_L_22 : Cond.methodLink RL 22 y_M_column ∈ jtbl := (jt_of 529 (by decide +kernel) rfl)
theorem ml_L_25 : Cond.methodLink RL 25 y_T_add ∈ jtbl := (jt_of 158 (by decide +kernel) rfl)
theorem ml_L_29 : Cond.methodLink RL 29 y_M_add ∈ jtbl := (jt_of 533 (by decide +kernel) rfl)
theorem ml_L_30 : Cond.methodLink RL 30 y_T_addText ∈ jtbl := (jt_of 196 (by decide +kernel) rfl)
theorem ml_L_34 : Cond.methodLink RL 34 y_M_addText ∈ jtbl := (jt_of 544 (by decide +kernel) rfl)
theorem ml_L_35 : Cond.methodLink RL 35 y_T_miss ∈ jtbl := (jt_of 224 (by decide +kernel) rfl)
theorem ml_L_38 : Cond.methodLink RL 38 y_M_miss ∈ jtbl := (jt_of 552 (by decide +kernel) rfl)
theorem ml_L_39 : Cond.methodLink RL 39 y_T_clear ∈ jtbl := (jt_of 228 (by decide +kernel) rfl)
theorem ml_L_43 : Cond.methodLink RL 43 y_M_clear ∈ jtbl := (jt_of 556 (by decide +kernel) rfl)
theorem ml_L_44 : Cond.methodLink RL 44 y_T_literal ∈ jtbl := (jt_of 236 (by decide +kernel) rfl)
theorem ml_L_48 : Cond.methodLink RL 48 y_M_literal ∈ jtbl := (jt_of 560 (by decide +kernel) rfl)
theorem ml_L_49 : Cond.methodLink RL 49 y_T_literalText ∈ jtbl := (jt_of 244 (by decide +kernel) rfl)
theorem ml_L_52 : Cond.methodLink RL 52 y_M_literalText ∈ jtbl := (jt_of 564 (by decide +kernel) rfl)
theorem ml_L_53 : Cond.methodLink RL 53 y_T_step ∈ jtbl := (jt_of 248 (by decide +kernel) rfl)
theorem ml_L_57 : Cond.methodLink RL 57 y_M_step ∈ jtbl := (jt_of 569 (by decide +kernel) rfl)
theorem ml_L_58 : Cond.methodLink RL 58 y_T_forget ∈ jtbl := (jt_of 293 (by decide +kernel) rfl)
theorem ml_L_61 : Cond.methodLink RL 61 y_M_forget ∈ jtbl := (jt_of 581 (by decide +kernel) rfl)
theorem ml_L_62 : Cond.methodLink RL 62 y_T_scan ∈ jtbl := (jt_of 297 (by decide +kernel) rfl)
theorem ml_L_65 : Cond.methodLink RL 65 y_M_scan ∈ jtbl := (jt_of 585 (by decide +kernel) rfl)
theorem ml_L_66 : Cond.methodLink RL 66 y_T_truth ∈ jtbl := (jt_of 398 (by decide +kernel) rfl)
theorem ml_L_69 : Cond.methodLink RL 69 y_M_truth ∈ jtbl := (jt_of 637 (by decide +kernel) rfl)
theorem ml_L_70 : Cond.methodLink RL 70 y_T_chosen ∈ jtbl := (jt_of 402 (by decide +kernel) rfl)
theorem ml_L_73 : Cond.methodLink RL 73 y_M_chosen ∈ jtbl := (jt_of 641 (by decide +kernel) rfl)
theorem ml_L_74 : Cond.methodLink RL 74 y_T_known ∈ jtbl := (jt_of 406 (by decide +kernel) rfl)
theorem ml_L_78 : Cond.methodLink RL 78 y_M_known ∈ jtbl := (jt_of 645 (by decide +kernel) rfl)
theorem ml_L_79 : Cond.methodLink RL 79 y_T_dictionary ∈ jtbl := (jt_of 415 (by decide +kernel) rfl)
theorem ml_L_82 : Cond.methodLink RL 82 y_M_dictionary ∈ jtbl := (jt_of 659 (by decide +kernel) rfl)
theorem ml_L_83 : Cond.methodLink RL 83 y_T_unknown ∈ jtbl := (jt_of 423 (by decide +kernel) rfl)
theorem ml_L_86 : Cond.methodLink RL 86 y_M_unknown ∈ jtbl := (jt_of 668 (by decide +kernel) rfl)
theorem ml_L_87 : Cond.methodLink RL 87 y_T_can ∈ jtbl := (jt_of 427 (by decide +kernel) rfl)
theorem ml_L_91 : Cond.methodLink RL 91 y_M_can ∈ jtbl := (jt_of 672 (by decide +kernel) rfl)
theorem ml_M_1 : Cond.methodLink RM 1 objectInit ∈ jtbl := (jt_of 436 (by decide +kernel) rfl)
theorem ml_M_89 : Cond.methodLink RM 89 y_M_isColumn ∈ jtbl := (jt_of 537 (by decide +kernel) rfl)
theorem ml_M_93 : Cond.methodLink RM 93 y_M_isValue ∈ jtbl := (jt_of 541 (by decide +kernel) rfl)
theorem ml_M_97 : Cond.methodLink RM 97 y_M_fromTape ∈ jtbl := (jt_of 548 (by decide +kernel) rfl)
theorem ml_M_105 : Cond.methodLink RM 105 y_M_areLiterals ∈ jtbl := (jt_of 577 (by decide +kernel) rfl)
theorem ml_M_112 : Cond.methodLink RM 112 y_M_isTest ∈ jtbl := (jt_of 573 (by decide +kernel) rfl)
theorem ml_M_116 : Cond.methodLink RM 116 y_M_compare ∈ jtbl := (jt_of 605 (by decide +kernel) rfl)
theorem ml_M_120 : Cond.methodLink RM 120 y_M_holds ∈ jtbl := (jt_of 609 (by decide +kernel) rfl)
theorem ml_M_124 : Cond.methodLink RM 124 y_M_canOf ∈ jtbl := (jt_of 597 (by decide +kernel) rfl)
theorem ml_M_128 : Cond.methodLink RM 128 y_M_truthOf ∈ jtbl := (jt_of 627 (by decide +kernel) rfl)
theorem ml_M_132 : Cond.methodLink RM 132 y_M_turned ∈ jtbl := (jt_of 631 (by decide +kernel) rfl)
theorem ml_M_135 : Cond.methodLink RM 135 y_M_joined ∈ jtbl := (jt_of 634 (by decide +kernel) rfl)
theorem ml_M_138 : Cond.methodLink RM 138 y_M_isCondition ∈ jtbl := (jt_of 589 (by decide +kernel) rfl)
theorem ml_M_142 : Cond.methodLink RM 142 y_M_condition ∈ jtbl := (jt_of 593 (by decide +kernel) rfl)
theorem ml_M_149 : Cond.methodLink RM 149 y_M_most ∈ jtbl := (jt_of 650 (by decide +kernel) rfl)
theorem ml_M_153 : Cond.methodLink RM 153 y_M_copy ∈ jtbl := (jt_of 655 (by decide +kernel) rfl)
theorem ml_M_156 : Cond.methodLink RM 156 y_M_isFirst ∈ jtbl := (jt_of 663 (by decide +kernel) rfl)
theorem ml_M_160 : Cond.methodLink RM 160 y_M_isIn ∈ jtbl := (jt_of 623 (by decide +kernel) rfl)
theorem ml_M_163 : Cond.methodLink RM 163 y_M_mayMeet ∈ jtbl := (jt_of 601 (by decide +kernel) rfl)
theorem ml_M_166 : Cond.methodLink RM 166 y_M_may ∈ jtbl := (jt_of 612 (by decide +kernel) rfl)
theorem ml_M_169 : Cond.methodLink RM 169 y_M_contrary ∈ jtbl := (jt_of 616 (by decide +kernel) rfl)
theorem ml_M_172 : Cond.methodLink RM 172 y_M_mayBeNone ∈ jtbl := (jt_of 619 (by decide +kernel) rfl)
theorem ml_C_61 : Cond.methodLinkNest RC 61 y_T_isAmong RT ∈ jnest := by decide +kernel
theorem ml_S_41 : Cond.methodLinkNest RS 41 y_T_isAmong RT ∈ jnest := by decide +kernel
theorem ml_S_54 : Cond.methodLinkNest RS 54 y_T_holds RT ∈ jnest := by decide +kernel
theorem ml_S_62 : Cond.methodLinkNest RS 62 y_T_truthSet RT ∈ jnest := by decide +kernel
theorem ml_S_73 : Cond.methodLinkNest RS 73 y_T_not RT ∈ jnest := by decide +kernel
theorem ml_S_83 : Cond.methodLinkNest RS 83 y_T_contrary RT ∈ jnest := by decide +kernel
theorem ml_S_110 : Cond.methodLinkNest RS 110 y_T_canHold RT ∈ jnest := by decide +kernel
theorem cl_T_9 : Cond.classLink RT 9 RC ∈ jtbl := (jt_of 47 (by decide +kernel) rfl)
theorem cl_T_26 : Cond.classLink RT 26 RV ∈ jtbl := (jt_of 49 (by decide +kernel) rfl)
theorem cl_T_35 : Cond.classLink RT 35 RS ∈ jtbl := (jt_of 51 (by decide +kernel) rfl)
theorem cl_C_9 : Cond.classLink RC 9 RV ∈ jtbl := (jt_of 112 (by decide +kernel) rfl)
theorem cl_L_7 : Cond.classLink RL 7 RT ∈ jtbl := (jt_of 39 (by decide +kernel) rfl)
theorem cl_L_10 : Cond.classLink RL 10 RM ∈ jtbl := (jt_of 431 (by decide +kernel) rfl)
theorem ii_T : Cond.instantiable RT 13 ∈ jtbl := (jt_of 40 (by decide +kernel) rfl)
theorem iz_T : Cond.initialized RT ∈ jtbl := (jt_of 31 (by decide +kernel) rfl)
theorem ii_C : Cond.instantiable RC 12 ∈ jtbl := (jt_of 107 (by decide +kernel) rfl)
theorem iz_C : Cond.initialized RC ∈ jtbl := (jt_of 33 (by decide +kernel) rfl)
theorem ii_S : Cond.instantiable RS 7 ∈ jtbl := (jt_of 263 (by decide +kernel) rfl)
theorem iz_S : Cond.initialized RS ∈ jtbl := (jt_of 38 (by decide +kernel) rfl)
theorem ii_V : Cond.instantiable RV 3 ∈ jtbl := (jt_of 173 (by decide +kernel) rfl)
theorem iz_V : Cond.initialized RV ∈ jtbl := (jt_of 34 (by decide +kernel) rfl)
theorem ii_M : Cond.instantiable RM 28 ∈ jtbl := (jt_of 432 (by decide +kernel) rfl)
theorem iz_M : Cond.initialized RM ∈ jtbl := (jt_of 32 (by decide +kernel) rfl)
theorem iz_A : Cond.initialized RA ∈ jtbl := (jt_of 35 (by decide +kernel) rfl)
theorem ct_T_128 : Cond.constant RT 128 1000000 ∈ jtbl := (jt_of 410 (by decide +kernel) rfl)
theorem ct_L_23 : Cond.constantLong RL 23 4294967295 ∈ jtbl := (jt_of 676 (by decide +kernel) rfl)
theorem ct_M_23 : Cond.constant RM 23 280576 ∈ jtbl := (jt_of 437 (by decide +kernel) rfl)
theorem ct_M_104 : Cond.constant RM 104 264192 ∈ jtbl := (jt_of 568 (by decide +kernel) rfl)
theorem ct_M_148 : Cond.constant RM 148 1000000 ∈ jtbl := (jt_of 649 (by decide +kernel) rfl)
theorem ct_M_152 : Cond.constant RM 152 128000 ∈ jtbl := (jt_of 654 (by decide +kernel) rfl)
theorem ct_M_159 : Cond.constant RM 159 136192 ∈ jtbl := (jt_of 667 (by decide +kernel) rfl)
theorem im_O : Cond.instanceMethod objectInit ∈ jtbl := (jt_of 45 (by decide +kernel) rfl)
theorem cd_O : Cond.code objectInit ⟨#[0xb1]⟩ 1 none ∈ jtbl := (jt_of 46 (by decide +kernel) rfl)
theorem jb_T_init : jB y_T_init b_T_init 1 none 0 := ⟨(jt_of 43 (by decide +kernel) rfl), iz_T, by decide +kernel, by decide⟩
theorem im_T_init : Cond.instanceMethod y_T_init ∈ jtbl := (jt_of 42 (by decide +kernel) rfl)
theorem jb_T_feed : jB y_T_feed b_T_feed 6 (some .boolean) 5 := ⟨(jt_of 98 (by decide +kernel) rfl), iz_T, by decide +kernel, by decide⟩
theorem im_T_feed : Cond.instanceMethod y_T_feed ∈ jtbl := (jt_of 96 (by decide +kernel) rfl)
theorem jv_T_feed : jBV y_T_feed := ⟨im_T_feed, (jt_of 97 (by decide +kernel) rfl)⟩
theorem jb_T_putOnTape : jB y_T_putOnTape b_T_putOnTape 3 none 1 := ⟨(jt_of 102 (by decide +kernel) rfl), iz_T, by decide +kernel, by decide⟩
theorem im_T_putOnTape : Cond.instanceMethod y_T_putOnTape ∈ jtbl := (jt_of 101 (by decide +kernel) rfl)
theorem jv_T_putOnTape : jBV y_T_putOnTape := ⟨im_T_putOnTape, (jt_of 0 (by decide +kernel) rfl)⟩
theorem jb_T_column : jB y_T_column b_T_column 2 (some .int) 1 := ⟨(jt_of 106 (by decide +kernel) rfl), iz_T, by decide +kernel, by decide⟩
theorem im_T_column : Cond.instanceMethod y_T_column ∈ jtbl := (jt_of 104 (by decide +kernel) rfl)
theorem jv_T_column : jBV y_T_column := ⟨im_T_column, (jt_of 105 (by decide +kernel) rfl)⟩
theorem jb_C_init : jB y_C_init b_C_init 2 none 1 := ⟨(jt_of 110 (by decide +kernel) rfl), iz_C, by decide +kernel, by decide⟩
theorem im_C_init : Cond.instanceMethod y_C_init ∈ jtbl := (jt_of 109 (by decide +kernel) rfl)
theorem jb_T_add : jB y_T_add b_T_add 6 (some .boolean) 3 := ⟨(jt_of 161 (by decide +kernel) rfl), iz_T, by decide +kernel, by decide⟩
theorem im_T_add : Cond.instanceMethod y_T_add ∈ jtbl := (jt_of 159 (by decide +kernel) rfl)
theorem jv_T_add : jBV y_T_add := ⟨im_T_add, (jt_of 160 (by decide +kernel) rfl)⟩
theorem jb_T_columnAt : jB y_T_columnAt b_T_columnAt 2 (some (.object "TruthScan$Column")) 1 := ⟨(jt_of 165 (by decide +kernel) rfl), iz_T, by decide +kernel, by decide⟩
theorem im_T_columnAt : Cond.instanceMethod y_T_columnAt ∈ jtbl := (jt_of 164 (by decide +kernel) rfl)
theorem jv_T_columnAt : jBV y_T_columnAt := ⟨im_T_columnAt, (jt_of 1 (by decide +kernel) rfl)⟩
theorem jb_T_isNumberOf : jB y_T_isNumberOf b_T_isNumberOf 3 (some .boolean) 2 := ⟨(jt_of 168 (by decide +kernel) rfl), iz_T, by decide +kernel, by decide⟩
theorem st_T_isNumberOf : Cond.static y_T_isNumberOf ∈ jtbl := (jt_of 167 (by decide +kernel) rfl)
theorem jb_C_hasRoomFor : jB y_C_hasRoomFor b_C_hasRoomFor 2 (some .boolean) 1 := ⟨(jt_of 172 (by decide +kernel) rfl), iz_C, by decide +kernel, by decide⟩
theorem im_C_hasRoomFor : Cond.instanceMethod y_C_hasRoomFor ∈ jtbl := (jt_of 170 (by decide +kernel) rfl)
theorem jv_C_hasRoomFor : jBV y_C_hasRoomFor := ⟨im_C_hasRoomFor, (jt_of 171 (by decide +kernel) rfl)⟩
theorem jb_V_init : jB y_V_init b_V_init 5 none 3 := ⟨(jt_of 178 (by decide +kernel) rfl), iz_V, by decide +kernel, by decide⟩
theorem im_V_init : Cond.instanceMethod y_V_init ∈ jtbl := (jt_of 177 (by decide +kernel) rfl)
theorem jb_C_append : jB y_C_append b_C_append 4 none 2 := ⟨(jt_of 195 (by decide +kernel) rfl), iz_C, by decide +kernel, by decide⟩
theorem im_C_append : Cond.instanceMethod y_C_append ∈ jtbl := (jt_of 193 (by decide +kernel) rfl)
theorem jv_C_append : jBV y_C_append := ⟨im_C_append, (jt_of 194 (by decide +kernel) rfl)⟩
theorem jb_T_addText : jB y_T_addText b_T_addText 4 (some .boolean) 2 := ⟨(jt_of 199 (by decide +kernel) rfl), iz_T, by decide +kernel, by decide⟩
theorem im_T_addText : Cond.instanceMethod y_T_addText ∈ jtbl := (jt_of 197 (by decide +kernel) rfl)
theorem jv_T_addText : jBV y_T_addText := ⟨im_T_addText, (jt_of 198 (by decide +kernel) rfl)⟩
theorem jb_T_isOnTape : jB y_T_isOnTape b_T_isOnTape 2 (some .boolean) 1 := ⟨(jt_of 203 (by decide +kernel) rfl), iz_T, by decide +kernel, by decide⟩
theorem im_T_isOnTape : Cond.instanceMethod y_T_isOnTape ∈ jtbl := (jt_of 202 (by decide +kernel) rfl)
theorem jv_T_isOnTape : jBV y_T_isOnTape := ⟨im_T_isOnTape, (jt_of 2 (by decide +kernel) rfl)⟩
theorem jb_C_hasRoomForBytes : jB y_C_hasRoomForBytes b_C_hasRoomForBytes 2 (some .boolean) 1 := ⟨(jt_of 207 (by decide +kernel) rfl), iz_C, by decide +kernel, by decide⟩
theorem im_C_hasRoomForBytes : Cond.instanceMethod y_C_hasRoomForBytes ∈ jtbl := (jt_of 205 (by decide +kernel) rfl)
theorem jv_C_hasRoomForBytes : jBV y_C_hasRoomForBytes := ⟨im_C_hasRoomForBytes, (jt_of 206 (by decide +kernel) rfl)⟩
theorem jb_A_copyOf : jB y_A_copyOf b_A_copyOf 3 (some (.array .byte)) 2 := ⟨(jt_of 210 (by decide +kernel) rfl), iz_A, by decide +kernel, by decide⟩
theorem st_A_copyOf : Cond.static y_A_copyOf ∈ jtbl := (jt_of 209 (by decide +kernel) rfl)
theorem jb_T_miss : jB y_T_miss b_T_miss 4 (some .boolean) 2 := ⟨(jt_of 227 (by decide +kernel) rfl), iz_T, by decide +kernel, by decide⟩
theorem im_T_miss : Cond.instanceMethod y_T_miss ∈ jtbl := (jt_of 225 (by decide +kernel) rfl)
theorem jv_T_miss : jBV y_T_miss := ⟨im_T_miss, (jt_of 226 (by decide +kernel) rfl)⟩
theorem jb_T_clear : jB y_T_clear b_T_clear 3 (some .boolean) 1 := ⟨(jt_of 231 (by decide +kernel) rfl), iz_T, by decide +kernel, by decide⟩
theorem im_T_clear : Cond.instanceMethod y_T_clear ∈ jtbl := (jt_of 229 (by decide +kernel) rfl)
theorem jv_T_clear : jBV y_T_clear := ⟨im_T_clear, (jt_of 230 (by decide +kernel) rfl)⟩
theorem jb_C_removeRows : jB y_C_removeRows b_C_removeRows 1 none 0 := ⟨(jt_of 235 (by decide +kernel) rfl), iz_C, by decide +kernel, by decide⟩
theorem im_C_removeRows : Cond.instanceMethod y_C_removeRows ∈ jtbl := (jt_of 233 (by decide +kernel) rfl)
theorem jv_C_removeRows : jBV y_C_removeRows := ⟨im_C_removeRows, (jt_of 234 (by decide +kernel) rfl)⟩
theorem jb_T_literal : jB y_T_literal b_T_literal 4 (some .int) 2 := ⟨(jt_of 239 (by decide +kernel) rfl), iz_T, by decide +kernel, by decide⟩
theorem im_T_literal : Cond.instanceMethod y_T_literal ∈ jtbl := (jt_of 237 (by decide +kernel) rfl)
theorem jv_T_literal : jBV y_T_literal := ⟨im_T_literal, (jt_of 238 (by decide +kernel) rfl)⟩
theorem jb_T_keepLiteral : jB y_T_keepLiteral b_T_keepLiteral 2 (some .int) 1 := ⟨(jt_of 243 (by decide +kernel) rfl), iz_T, by decide +kernel, by decide⟩
theorem im_T_keepLiteral : Cond.instanceMethod y_T_keepLiteral ∈ jtbl := (jt_of 242 (by decide +kernel) rfl)
theorem jv_T_keepLiteral : jBV y_T_keepLiteral := ⟨im_T_keepLiteral, (jt_of 3 (by decide +kernel) rfl)⟩
theorem jb_T_literalText : jB y_T_literalText b_T_literalText 2 (some .int) 1 := ⟨(jt_of 247 (by decide +kernel) rfl), iz_T, by decide +kernel, by decide⟩
theorem im_T_literalText : Cond.instanceMethod y_T_literalText ∈ jtbl := (jt_of 245 (by decide +kernel) rfl)
theorem jv_T_literalText : jBV y_T_literalText := ⟨im_T_literalText, (jt_of 246 (by decide +kernel) rfl)⟩
theorem jb_T_step : jB y_T_step b_T_step 9 (some .int) 5 := ⟨(jt_of 251 (by decide +kernel) rfl), iz_T, by decide +kernel, by decide⟩
theorem im_T_step : Cond.instanceMethod y_T_step ∈ jtbl := (jt_of 249 (by decide +kernel) rfl)
theorem jv_T_step : jBV y_T_step := ⟨im_T_step, (jt_of 250 (by decide +kernel) rfl)⟩
theorem jb_T_fits : jB y_T_fits b_T_fits 7 (some .boolean) 6 := ⟨(jt_of 255 (by decide +kernel) rfl), iz_T, by decide +kernel, by decide⟩
theorem im_T_fits : Cond.instanceMethod y_T_fits ∈ jtbl := (jt_of 254 (by decide +kernel) rfl)
theorem jv_T_fits : jBV y_T_fits := ⟨im_T_fits, (jt_of 4 (by decide +kernel) rfl)⟩
theorem jb_T_areLiterals : jB y_T_areLiterals b_T_areLiterals 5 (some .boolean) 3 := ⟨(jt_of 259 (by decide +kernel) rfl), iz_T, by decide +kernel, by decide⟩
theorem im_T_areLiterals : Cond.instanceMethod y_T_areLiterals ∈ jtbl := (jt_of 258 (by decide +kernel) rfl)
theorem jv_T_areLiterals : jBV y_T_areLiterals := ⟨im_T_areLiterals, (jt_of 5 (by decide +kernel) rfl)⟩
theorem jb_T_isOperator : jB y_T_isOperator b_T_isOperator 1 (some .boolean) 1 := ⟨(jt_of 262 (by decide +kernel) rfl), iz_T, by decide +kernel, by decide⟩
theorem st_T_isOperator : Cond.static y_T_isOperator ∈ jtbl := (jt_of 261 (by decide +kernel) rfl)
theorem jb_S_init : jB y_S_init b_S_init 8 none 7 := ⟨(jt_of 266 (by decide +kernel) rfl), iz_S, by decide +kernel, by decide⟩
theorem im_S_init : Cond.instanceMethod y_S_init ∈ jtbl := (jt_of 265 (by decide +kernel) rfl)
theorem jb_T_forget : jB y_T_forget b_T_forget 1 none 0 := ⟨(jt_of 296 (by decide +kernel) rfl), iz_T, by decide +kernel, by decide⟩
theorem im_T_forget : Cond.instanceMethod y_T_forget ∈ jtbl := (jt_of 294 (by decide +kernel) rfl)
theorem jv_T_forget : jBV y_T_forget := ⟨im_T_forget, (jt_of 295 (by decide +kernel) rfl)⟩
theorem jb_T_scan : jB y_T_scan b_T_scan 3 (some .int) 1 := ⟨(jt_of 300 (by decide +kernel) rfl), iz_T, by decide +kernel, by decide⟩
theorem im_T_scan : Cond.instanceMethod y_T_scan ∈ jtbl := (jt_of 298 (by decide +kernel) rfl)
theorem jv_T_scan : jBV y_T_scan := ⟨im_T_scan, (jt_of 299 (by decide +kernel) rfl)⟩
theorem jb_T_isCondition : jB y_T_isCondition b_T_isCondition 4 (some .boolean) 0 := ⟨(jt_of 304 (by decide +kernel) rfl), iz_T, by decide +kernel, by decide⟩
theorem im_T_isCondition : Cond.instanceMethod y_T_isCondition ∈ jtbl := (jt_of 303 (by decide +kernel) rfl)
theorem jv_T_isCondition : jBV y_T_isCondition := ⟨im_T_isCondition, (jt_of 6 (by decide +kernel) rfl)⟩
theorem jb_S_takes : jB y_S_takes b_S_takes 1 (some .int) 0 := ⟨(jt_of 308 (by decide +kernel) rfl), iz_S, by decide +kernel, by decide⟩
theorem im_S_takes : Cond.instanceMethod y_S_takes ∈ jtbl := (jt_of 306 (by decide +kernel) rfl)
theorem jv_S_takes : jBV y_S_takes := ⟨im_S_takes, (jt_of 307 (by decide +kernel) rfl)⟩
theorem jb_T_stepsHaveRows : jB y_T_stepsHaveRows b_T_stepsHaveRows 4 (some .boolean) 1 := ⟨(jt_of 312 (by decide +kernel) rfl), iz_T, by decide +kernel, by decide⟩
theorem im_T_stepsHaveRows : Cond.instanceMethod y_T_stepsHaveRows ∈ jtbl := (jt_of 311 (by decide +kernel) rfl)
theorem jv_T_stepsHaveRows : jBV y_T_stepsHaveRows := ⟨im_T_stepsHaveRows, (jt_of 7 (by decide +kernel) rfl)⟩
theorem jb_T_outcome : jB y_T_outcome b_T_outcome 6 (some .int) 1 := ⟨(jt_of 316 (by decide +kernel) rfl), iz_T, by decide +kernel, by decide⟩
theorem im_T_outcome : Cond.instanceMethod y_T_outcome ∈ jtbl := (jt_of 315 (by decide +kernel) rfl)
theorem jv_T_outcome : jBV y_T_outcome := ⟨im_T_outcome, (jt_of 8 (by decide +kernel) rfl)⟩
theorem jb_S_canBe : jB y_S_canBe b_S_canBe 3 (some .int) 0 := ⟨(jt_of 320 (by decide +kernel) rfl), iz_S, by decide +kernel, by decide⟩
theorem im_S_canBe : Cond.instanceMethod y_S_canBe ∈ jtbl := (jt_of 318 (by decide +kernel) rfl)
theorem jv_S_canBe : jBV y_S_canBe := ⟨im_S_canBe, (jt_of 319 (by decide +kernel) rfl)⟩
theorem jb_T_truthSet : jB y_T_truthSet b_T_truthSet 3 (some .int) 3 := ⟨(jt_of 323 (by decide +kernel) rfl), iz_T, by decide +kernel, by decide⟩
theorem st_T_truthSet : Cond.static y_T_truthSet ∈ jtbl := (jt_of 322 (by decide +kernel) rfl)
theorem jb_C_mayHaveValues : jB y_C_mayHaveValues b_C_mayHaveValues 1 (some .boolean) 0 := ⟨(jt_of 327 (by decide +kernel) rfl), iz_C, by decide +kernel, by decide⟩
theorem im_C_mayHaveValues : Cond.instanceMethod y_C_mayHaveValues ∈ jtbl := (jt_of 325 (by decide +kernel) rfl)
theorem jv_C_mayHaveValues : jBV y_C_mayHaveValues := ⟨im_C_mayHaveValues, (jt_of 326 (by decide +kernel) rfl)⟩
theorem jb_C_mayMiss : jB y_C_mayMiss b_C_mayMiss 1 (some .boolean) 0 := ⟨(jt_of 331 (by decide +kernel) rfl), iz_C, by decide +kernel, by decide⟩
theorem im_C_mayMiss : Cond.instanceMethod y_C_mayMiss ∈ jtbl := (jt_of 329 (by decide +kernel) rfl)
theorem jv_C_mayMiss : jBV y_C_mayMiss := ⟨im_C_mayMiss, (jt_of 330 (by decide +kernel) rfl)⟩
theorem jb_T_not : jB y_T_not b_T_not 1 (some .int) 1 := ⟨(jt_of 334 (by decide +kernel) rfl), iz_T, by decide +kernel, by decide⟩
theorem st_T_not : Cond.static y_T_not ∈ jtbl := (jt_of 333 (by decide +kernel) rfl)
theorem jb_T_has : jB y_T_has b_T_has 2 (some .boolean) 2 := ⟨(jt_of 337 (by decide +kernel) rfl), iz_T, by decide +kernel, by decide⟩
theorem st_T_has : Cond.static y_T_has ∈ jtbl := (jt_of 336 (by decide +kernel) rfl)
theorem jb_S_canBeOutside : jB y_S_canBeOutside b_S_canBeOutside 2 (some .boolean) 0 := ⟨(jt_of 342 (by decide +kernel) rfl), iz_S, by decide +kernel, by decide⟩
theorem im_S_canBeOutside : Cond.instanceMethod y_S_canBeOutside ∈ jtbl := (jt_of 341 (by decide +kernel) rfl)
theorem jv_S_canBeOutside : jBV y_S_canBeOutside := ⟨im_S_canBeOutside, (jt_of 9 (by decide +kernel) rfl)⟩
theorem jb_V_order : jB y_V_order b_V_order 4 (some .int) 1 := ⟨(jt_of 346 (by decide +kernel) rfl), iz_V, by decide +kernel, by decide⟩
theorem im_V_order : Cond.instanceMethod y_V_order ∈ jtbl := (jt_of 344 (by decide +kernel) rfl)
theorem jv_V_order : jBV y_V_order := ⟨im_V_order, (jt_of 345 (by decide +kernel) rfl)⟩
theorem jb_S_isOutside : jB y_S_isOutside b_S_isOutside 2 (some .boolean) 1 := ⟨(jt_of 350 (by decide +kernel) rfl), iz_S, by decide +kernel, by decide⟩
theorem im_S_isOutside : Cond.instanceMethod y_S_isOutside ∈ jtbl := (jt_of 349 (by decide +kernel) rfl)
theorem jv_S_isOutside : jBV y_S_isOutside := ⟨im_S_isOutside, (jt_of 10 (by decide +kernel) rfl)⟩
theorem jb_T_isAmong : jB y_T_isAmong b_T_isAmong 5 (some .boolean) 4 := ⟨(jt_of 353 (by decide +kernel) rfl), iz_T, by decide +kernel, by decide⟩
theorem st_T_isAmong : Cond.static y_T_isAmong ∈ jtbl := (jt_of 352 (by decide +kernel) rfl)
theorem jb_S_canBeInside : jB y_S_canBeInside b_S_canBeInside 2 (some .boolean) 0 := ⟨(jt_of 358 (by decide +kernel) rfl), iz_S, by decide +kernel, by decide⟩
theorem im_S_canBeInside : Cond.instanceMethod y_S_canBeInside ∈ jtbl := (jt_of 357 (by decide +kernel) rfl)
theorem jv_S_canBeInside : jBV y_S_canBeInside := ⟨im_S_canBeInside, (jt_of 11 (by decide +kernel) rfl)⟩
theorem jb_C_mayHold : jB y_C_mayHold b_C_mayHold 2 (some .boolean) 1 := ⟨(jt_of 362 (by decide +kernel) rfl), iz_C, by decide +kernel, by decide⟩
theorem im_C_mayHold : Cond.instanceMethod y_C_mayHold ∈ jtbl := (jt_of 360 (by decide +kernel) rfl)
theorem jv_C_mayHold : jBV y_C_mayHold := ⟨im_C_mayHold, (jt_of 361 (by decide +kernel) rfl)⟩
theorem jb_T_contrary : jB y_T_contrary b_T_contrary 1 (some .int) 1 := ⟨(jt_of 367 (by decide +kernel) rfl), iz_T, by decide +kernel, by decide⟩
theorem st_T_contrary : Cond.static y_T_contrary ∈ jtbl := (jt_of 366 (by decide +kernel) rfl)
theorem jb_S_canCompare : jB y_S_canCompare b_S_canCompare 4 (some .boolean) 1 := ⟨(jt_of 371 (by decide +kernel) rfl), iz_S, by decide +kernel, by decide⟩
theorem im_S_canCompare : Cond.instanceMethod y_S_canCompare ∈ jtbl := (jt_of 370 (by decide +kernel) rfl)
theorem jv_S_canCompare : jBV y_S_canCompare := ⟨im_S_canCompare, (jt_of 12 (by decide +kernel) rfl)⟩
theorem jb_T_canHold : jB y_T_canHold b_T_canHold 5 (some .boolean) 5 := ⟨(jt_of 374 (by decide +kernel) rfl), iz_T, by decide +kernel, by decide⟩
theorem st_T_canHold : Cond.static y_T_canHold ∈ jtbl := (jt_of 373 (by decide +kernel) rfl)
theorem jb_T_holds : jB y_T_holds b_T_holds 2 (some .boolean) 2 := ⟨(jt_of 377 (by decide +kernel) rfl), iz_T, by decide +kernel, by decide⟩
theorem st_T_holds : Cond.static y_T_holds ∈ jtbl := (jt_of 376 (by decide +kernel) rfl)
theorem jb_S_atRow : jB y_S_atRow b_S_atRow 4 (some .int) 1 := ⟨(jt_of 382 (by decide +kernel) rfl), iz_S, by decide +kernel, by decide⟩
theorem im_S_atRow : Cond.instanceMethod y_S_atRow ∈ jtbl := (jt_of 380 (by decide +kernel) rfl)
theorem jv_S_atRow : jBV y_S_atRow := ⟨im_S_atRow, (jt_of 381 (by decide +kernel) rfl)⟩
theorem jb_C_valueAt : jB y_C_valueAt b_C_valueAt 2 (some (.object "TruthScan$Value")) 1 := ⟨(jt_of 386 (by decide +kernel) rfl), iz_C, by decide +kernel, by decide⟩
theorem im_C_valueAt : Cond.instanceMethod y_C_valueAt ∈ jtbl := (jt_of 384 (by decide +kernel) rfl)
theorem jv_C_valueAt : jBV y_C_valueAt := ⟨im_C_valueAt, (jt_of 385 (by decide +kernel) rfl)⟩
theorem jb_S_valueOfOther : jB y_S_valueOfOther b_S_valueOfOther 2 (some (.object "TruthScan$Value")) 1 := ⟨(jt_of 390 (by decide +kernel) rfl), iz_S, by decide +kernel, by decide⟩
theorem im_S_valueOfOther : Cond.instanceMethod y_S_valueOfOther ∈ jtbl := (jt_of 389 (by decide +kernel) rfl)
theorem jv_S_valueOfOther : jBV y_S_valueOfOther := ⟨im_S_valueOfOther, (jt_of 13 (by decide +kernel) rfl)⟩
theorem jb_T_and : jB y_T_and b_T_and 3 (some .int) 2 := ⟨(jt_of 394 (by decide +kernel) rfl), iz_T, by decide +kernel, by decide⟩
theorem st_T_and : Cond.static y_T_and ∈ jtbl := (jt_of 393 (by decide +kernel) rfl)
theorem jb_T_or : jB y_T_or b_T_or 3 (some .int) 2 := ⟨(jt_of 397 (by decide +kernel) rfl), iz_T, by decide +kernel, by decide⟩
theorem st_T_or : Cond.static y_T_or ∈ jtbl := (jt_of 396 (by decide +kernel) rfl)
theorem jb_T_truth : jB y_T_truth b_T_truth 2 (some .int) 1 := ⟨(jt_of 401 (by decide +kernel) rfl), iz_T, by decide +kernel, by decide⟩
theorem im_T_truth : Cond.instanceMethod y_T_truth ∈ jtbl := (jt_of 399 (by decide +kernel) rfl)
theorem jv_T_truth : jBV y_T_truth := ⟨im_T_truth, (jt_of 400 (by decide +kernel) rfl)⟩
theorem jb_T_chosen : jB y_T_chosen b_T_chosen 2 (some .int) 1 := ⟨(jt_of 405 (by decide +kernel) rfl), iz_T, by decide +kernel, by decide⟩
theorem im_T_chosen : Cond.instanceMethod y_T_chosen ∈ jtbl := (jt_of 403 (by decide +kernel) rfl)
theorem jv_T_chosen : jBV y_T_chosen := ⟨im_T_chosen, (jt_of 404 (by decide +kernel) rfl)⟩
theorem jb_T_known : jB y_T_known b_T_known 5 (some .boolean) 3 := ⟨(jt_of 409 (by decide +kernel) rfl), iz_T, by decide +kernel, by decide⟩
theorem im_T_known : Cond.instanceMethod y_T_known ∈ jtbl := (jt_of 407 (by decide +kernel) rfl)
theorem jv_T_known : jBV y_T_known := ⟨im_T_known, (jt_of 408 (by decide +kernel) rfl)⟩
theorem jb_C_learn : jB y_C_learn b_C_learn 7 (some .boolean) 2 := ⟨(jt_of 414 (by decide +kernel) rfl), iz_C, by decide +kernel, by decide⟩
theorem im_C_learn : Cond.instanceMethod y_C_learn ∈ jtbl := (jt_of 412 (by decide +kernel) rfl)
theorem jv_C_learn : jBV y_C_learn := ⟨im_C_learn, (jt_of 413 (by decide +kernel) rfl)⟩
theorem jb_T_dictionary : jB y_T_dictionary b_T_dictionary 3 (some .boolean) 1 := ⟨(jt_of 418 (by decide +kernel) rfl), iz_T, by decide +kernel, by decide⟩
theorem im_T_dictionary : Cond.instanceMethod y_T_dictionary ∈ jtbl := (jt_of 416 (by decide +kernel) rfl)
theorem jv_T_dictionary : jBV y_T_dictionary := ⟨im_T_dictionary, (jt_of 417 (by decide +kernel) rfl)⟩
theorem jb_C_learnDictionary : jB y_C_learnDictionary b_C_learnDictionary 4 (some .boolean) 0 := ⟨(jt_of 422 (by decide +kernel) rfl), iz_C, by decide +kernel, by decide⟩
theorem im_C_learnDictionary : Cond.instanceMethod y_C_learnDictionary ∈ jtbl := (jt_of 420 (by decide +kernel) rfl)
theorem jv_C_learnDictionary : jBV y_C_learnDictionary := ⟨im_C_learnDictionary, (jt_of 421 (by decide +kernel) rfl)⟩
theorem jb_T_unknown : jB y_T_unknown b_T_unknown 3 (some .boolean) 1 := ⟨(jt_of 426 (by decide +kernel) rfl), iz_T, by decide +kernel, by decide⟩
theorem im_T_unknown : Cond.instanceMethod y_T_unknown ∈ jtbl := (jt_of 424 (by decide +kernel) rfl)
theorem jv_T_unknown : jBV y_T_unknown := ⟨im_T_unknown, (jt_of 425 (by decide +kernel) rfl)⟩
theorem jb_T_can : jB y_T_can b_T_can 1 (some .int) 0 := ⟨(jt_of 430 (by decide +kernel) rfl), iz_T, by decide +kernel, by decide⟩
theorem im_T_can : Cond.instanceMethod y_T_can ∈ jtbl := (jt_of 428 (by decide +kernel) rfl)
theorem jv_T_can : jBV y_T_can := ⟨im_T_can, (jt_of 429 (by decide +kernel) rfl)⟩
theorem jb_M_init : jB y_M_init b_M_init 1 none 0 := ⟨(jt_of 435 (by decide +kernel) rfl), iz_M, by decide +kernel, by decide⟩
theorem im_M_init : Cond.instanceMethod y_M_init ∈ jtbl := (jt_of 434 (by decide +kernel) rfl)
theorem jb_M_feed : jB y_M_feed b_M_feed 8 (some .boolean) 5 := ⟨(jt_of 528 (by decide +kernel) rfl), iz_M, by decide +kernel, by decide⟩
theorem im_M_feed : Cond.instanceMethod y_M_feed ∈ jtbl := (jt_of 526 (by decide +kernel) rfl)
theorem jv_M_feed : jBV y_M_feed := ⟨im_M_feed, (jt_of 527 (by decide +kernel) rfl)⟩
theorem jb_M_column : jB y_M_column b_M_column 2 (some .int) 1 := ⟨(jt_of 532 (by decide +kernel) rfl), iz_M, by decide +kernel, by decide⟩
theorem im_M_column : Cond.instanceMethod y_M_column ∈ jtbl := (jt_of 530 (by decide +kernel) rfl)
theorem jv_M_column : jBV y_M_column := ⟨im_M_column, (jt_of 531 (by decide +kernel) rfl)⟩
theorem jb_M_add : jB y_M_add b_M_add 6 (some .boolean) 3 := ⟨(jt_of 536 (by decide +kernel) rfl), iz_M, by decide +kernel, by decide⟩
theorem im_M_add : Cond.instanceMethod y_M_add ∈ jtbl := (jt_of 534 (by decide +kernel) rfl)
theorem jv_M_add : jBV y_M_add := ⟨im_M_add, (jt_of 535 (by decide +kernel) rfl)⟩
theorem jb_M_isColumn : jB y_M_isColumn b_M_isColumn 2 (some .boolean) 1 := ⟨(jt_of 540 (by decide +kernel) rfl), iz_M, by decide +kernel, by decide⟩
theorem im_M_isColumn : Cond.instanceMethod y_M_isColumn ∈ jtbl := (jt_of 539 (by decide +kernel) rfl)
theorem jv_M_isColumn : jBV y_M_isColumn := ⟨im_M_isColumn, (jt_of 14 (by decide +kernel) rfl)⟩
theorem jb_M_isValue : jB y_M_isValue b_M_isValue 3 (some .boolean) 2 := ⟨(jt_of 543 (by decide +kernel) rfl), iz_M, by decide +kernel, by decide⟩
theorem st_M_isValue : Cond.static y_M_isValue ∈ jtbl := (jt_of 542 (by decide +kernel) rfl)
theorem jb_M_addText : jB y_M_addText b_M_addText 3 (some .boolean) 2 := ⟨(jt_of 547 (by decide +kernel) rfl), iz_M, by decide +kernel, by decide⟩
theorem im_M_addText : Cond.instanceMethod y_M_addText ∈ jtbl := (jt_of 545 (by decide +kernel) rfl)
theorem jv_M_addText : jBV y_M_addText := ⟨im_M_addText, (jt_of 546 (by decide +kernel) rfl)⟩
theorem jb_M_fromTape : jB y_M_fromTape b_M_fromTape 5 none 3 := ⟨(jt_of 551 (by decide +kernel) rfl), iz_M, by decide +kernel, by decide⟩
theorem im_M_fromTape : Cond.instanceMethod y_M_fromTape ∈ jtbl := (jt_of 550 (by decide +kernel) rfl)
theorem jv_M_fromTape : jBV y_M_fromTape := ⟨im_M_fromTape, (jt_of 15 (by decide +kernel) rfl)⟩
theorem jb_M_miss : jB y_M_miss b_M_miss 4 (some .boolean) 2 := ⟨(jt_of 555 (by decide +kernel) rfl), iz_M, by decide +kernel, by decide⟩
theorem im_M_miss : Cond.instanceMethod y_M_miss ∈ jtbl := (jt_of 553 (by decide +kernel) rfl)
theorem jv_M_miss : jBV y_M_miss := ⟨im_M_miss, (jt_of 554 (by decide +kernel) rfl)⟩
theorem jb_M_clear : jB y_M_clear b_M_clear 2 (some .boolean) 1 := ⟨(jt_of 559 (by decide +kernel) rfl), iz_M, by decide +kernel, by decide⟩
theorem im_M_clear : Cond.instanceMethod y_M_clear ∈ jtbl := (jt_of 557 (by decide +kernel) rfl)
theorem jv_M_clear : jBV y_M_clear := ⟨im_M_clear, (jt_of 558 (by decide +kernel) rfl)⟩
theorem jb_M_literal : jB y_M_literal b_M_literal 4 (some .int) 2 := ⟨(jt_of 563 (by decide +kernel) rfl), iz_M, by decide +kernel, by decide⟩
theorem im_M_literal : Cond.instanceMethod y_M_literal ∈ jtbl := (jt_of 561 (by decide +kernel) rfl)
theorem jv_M_literal : jBV y_M_literal := ⟨im_M_literal, (jt_of 562 (by decide +kernel) rfl)⟩
theorem jb_M_literalText : jB y_M_literalText b_M_literalText 2 (some .int) 1 := ⟨(jt_of 567 (by decide +kernel) rfl), iz_M, by decide +kernel, by decide⟩
theorem im_M_literalText : Cond.instanceMethod y_M_literalText ∈ jtbl := (jt_of 565 (by decide +kernel) rfl)
theorem jv_M_literalText : jBV y_M_literalText := ⟨im_M_literalText, (jt_of 566 (by decide +kernel) rfl)⟩
theorem jb_M_step : jB y_M_step b_M_step 6 (some .int) 5 := ⟨(jt_of 572 (by decide +kernel) rfl), iz_M, by decide +kernel, by decide⟩
theorem im_M_step : Cond.instanceMethod y_M_step ∈ jtbl := (jt_of 570 (by decide +kernel) rfl)
theorem jv_M_step : jBV y_M_step := ⟨im_M_step, (jt_of 571 (by decide +kernel) rfl)⟩
theorem jb_M_isTest : jB y_M_isTest b_M_isTest 6 (some .boolean) 5 := ⟨(jt_of 576 (by decide +kernel) rfl), iz_M, by decide +kernel, by decide⟩
theorem im_M_isTest : Cond.instanceMethod y_M_isTest ∈ jtbl := (jt_of 575 (by decide +kernel) rfl)
theorem jv_M_isTest : jBV y_M_isTest := ⟨im_M_isTest, (jt_of 16 (by decide +kernel) rfl)⟩
theorem jb_M_areLiterals : jB y_M_areLiterals b_M_areLiterals 6 (some .boolean) 3 := ⟨(jt_of 580 (by decide +kernel) rfl), iz_M, by decide +kernel, by decide⟩
theorem im_M_areLiterals : Cond.instanceMethod y_M_areLiterals ∈ jtbl := (jt_of 579 (by decide +kernel) rfl)
theorem jv_M_areLiterals : jBV y_M_areLiterals := ⟨im_M_areLiterals, (jt_of 17 (by decide +kernel) rfl)⟩
theorem jb_M_forget : jB y_M_forget b_M_forget 1 none 0 := ⟨(jt_of 584 (by decide +kernel) rfl), iz_M, by decide +kernel, by decide⟩
theorem im_M_forget : Cond.instanceMethod y_M_forget ∈ jtbl := (jt_of 582 (by decide +kernel) rfl)
theorem jv_M_forget : jBV y_M_forget := ⟨im_M_forget, (jt_of 583 (by decide +kernel) rfl)⟩
theorem jb_M_scan : jB y_M_scan b_M_scan 5 (some .int) 1 := ⟨(jt_of 588 (by decide +kernel) rfl), iz_M, by decide +kernel, by decide⟩
theorem im_M_scan : Cond.instanceMethod y_M_scan ∈ jtbl := (jt_of 586 (by decide +kernel) rfl)
theorem jv_M_scan : jBV y_M_scan := ⟨im_M_scan, (jt_of 587 (by decide +kernel) rfl)⟩
theorem jb_M_isCondition : jB y_M_isCondition b_M_isCondition 4 (some .boolean) 0 := ⟨(jt_of 592 (by decide +kernel) rfl), iz_M, by decide +kernel, by decide⟩
theorem im_M_isCondition : Cond.instanceMethod y_M_isCondition ∈ jtbl := (jt_of 591 (by decide +kernel) rfl)
theorem jv_M_isCondition : jBV y_M_isCondition := ⟨im_M_isCondition, (jt_of 18 (by decide +kernel) rfl)⟩
theorem jb_M_condition : jB y_M_condition b_M_condition 6 (some .int) 1 := ⟨(jt_of 596 (by decide +kernel) rfl), iz_M, by decide +kernel, by decide⟩
theorem im_M_condition : Cond.instanceMethod y_M_condition ∈ jtbl := (jt_of 595 (by decide +kernel) rfl)
theorem jv_M_condition : jBV y_M_condition := ⟨im_M_condition, (jt_of 19 (by decide +kernel) rfl)⟩
theorem jb_M_canOf : jB y_M_canOf b_M_canOf 9 (some .int) 1 := ⟨(jt_of 600 (by decide +kernel) rfl), iz_M, by decide +kernel, by decide⟩
theorem im_M_canOf : Cond.instanceMethod y_M_canOf ∈ jtbl := (jt_of 599 (by decide +kernel) rfl)
theorem jv_M_canOf : jBV y_M_canOf := ⟨im_M_canOf, (jt_of 20 (by decide +kernel) rfl)⟩
theorem jb_M_mayMeet : jB y_M_mayMeet b_M_mayMeet 6 (some .boolean) 3 := ⟨(jt_of 604 (by decide +kernel) rfl), iz_M, by decide +kernel, by decide⟩
theorem im_M_mayMeet : Cond.instanceMethod y_M_mayMeet ∈ jtbl := (jt_of 603 (by decide +kernel) rfl)
theorem jv_M_mayMeet : jBV y_M_mayMeet := ⟨im_M_mayMeet, (jt_of 21 (by decide +kernel) rfl)⟩
theorem jb_M_compare : jB y_M_compare b_M_compare 5 (some .int) 3 := ⟨(jt_of 608 (by decide +kernel) rfl), iz_M, by decide +kernel, by decide⟩
theorem im_M_compare : Cond.instanceMethod y_M_compare ∈ jtbl := (jt_of 607 (by decide +kernel) rfl)
theorem jv_M_compare : jBV y_M_compare := ⟨im_M_compare, (jt_of 22 (by decide +kernel) rfl)⟩
theorem jb_M_holds : jB y_M_holds b_M_holds 2 (some .boolean) 2 := ⟨(jt_of 611 (by decide +kernel) rfl), iz_M, by decide +kernel, by decide⟩
theorem st_M_holds : Cond.static y_M_holds ∈ jtbl := (jt_of 610 (by decide +kernel) rfl)
theorem jb_M_may : jB y_M_may b_M_may 7 (some .boolean) 3 := ⟨(jt_of 615 (by decide +kernel) rfl), iz_M, by decide +kernel, by decide⟩
theorem im_M_may : Cond.instanceMethod y_M_may ∈ jtbl := (jt_of 614 (by decide +kernel) rfl)
theorem jv_M_may : jBV y_M_may := ⟨im_M_may, (jt_of 23 (by decide +kernel) rfl)⟩
theorem jb_M_contrary : jB y_M_contrary b_M_contrary 1 (some .int) 1 := ⟨(jt_of 618 (by decide +kernel) rfl), iz_M, by decide +kernel, by decide⟩
theorem st_M_contrary : Cond.static y_M_contrary ∈ jtbl := (jt_of 617 (by decide +kernel) rfl)
theorem jb_M_mayBeNone : jB y_M_mayBeNone b_M_mayBeNone 5 (some .boolean) 1 := ⟨(jt_of 622 (by decide +kernel) rfl), iz_M, by decide +kernel, by decide⟩
theorem im_M_mayBeNone : Cond.instanceMethod y_M_mayBeNone ∈ jtbl := (jt_of 621 (by decide +kernel) rfl)
theorem jv_M_mayBeNone : jBV y_M_mayBeNone := ⟨im_M_mayBeNone, (jt_of 24 (by decide +kernel) rfl)⟩
theorem jb_M_isIn : jB y_M_isIn b_M_isIn 5 (some .boolean) 2 := ⟨(jt_of 626 (by decide +kernel) rfl), iz_M, by decide +kernel, by decide⟩
theorem im_M_isIn : Cond.instanceMethod y_M_isIn ∈ jtbl := (jt_of 625 (by decide +kernel) rfl)
theorem jv_M_isIn : jBV y_M_isIn := ⟨im_M_isIn, (jt_of 25 (by decide +kernel) rfl)⟩
theorem jb_M_truthOf : jB y_M_truthOf b_M_truthOf 8 (some .int) 2 := ⟨(jt_of 630 (by decide +kernel) rfl), iz_M, by decide +kernel, by decide⟩
theorem im_M_truthOf : Cond.instanceMethod y_M_truthOf ∈ jtbl := (jt_of 629 (by decide +kernel) rfl)
theorem jv_M_truthOf : jBV y_M_truthOf := ⟨im_M_truthOf, (jt_of 26 (by decide +kernel) rfl)⟩
theorem jb_M_turned : jB y_M_turned b_M_turned 1 (some .int) 1 := ⟨(jt_of 633 (by decide +kernel) rfl), iz_M, by decide +kernel, by decide⟩
theorem st_M_turned : Cond.static y_M_turned ∈ jtbl := (jt_of 632 (by decide +kernel) rfl)
theorem jb_M_joined : jB y_M_joined b_M_joined 3 (some .int) 2 := ⟨(jt_of 636 (by decide +kernel) rfl), iz_M, by decide +kernel, by decide⟩
theorem st_M_joined : Cond.static y_M_joined ∈ jtbl := (jt_of 635 (by decide +kernel) rfl)
theorem jb_M_truth : jB y_M_truth b_M_truth 2 (some .int) 1 := ⟨(jt_of 640 (by decide +kernel) rfl), iz_M, by decide +kernel, by decide⟩
theorem im_M_truth : Cond.instanceMethod y_M_truth ∈ jtbl := (jt_of 638 (by decide +kernel) rfl)
theorem jv_M_truth : jBV y_M_truth := ⟨im_M_truth, (jt_of 639 (by decide +kernel) rfl)⟩
theorem jb_M_chosen : jB y_M_chosen b_M_chosen 4 (some .int) 1 := ⟨(jt_of 644 (by decide +kernel) rfl), iz_M, by decide +kernel, by decide⟩
theorem im_M_chosen : Cond.instanceMethod y_M_chosen ∈ jtbl := (jt_of 642 (by decide +kernel) rfl)
theorem jv_M_chosen : jBV y_M_chosen := ⟨im_M_chosen, (jt_of 643 (by decide +kernel) rfl)⟩
theorem jb_M_known : jB y_M_known b_M_known 5 (some .boolean) 3 := ⟨(jt_of 648 (by decide +kernel) rfl), iz_M, by decide +kernel, by decide⟩
theorem im_M_known : Cond.instanceMethod y_M_known ∈ jtbl := (jt_of 646 (by decide +kernel) rfl)
theorem jv_M_known : jBV y_M_known := ⟨im_M_known, (jt_of 647 (by decide +kernel) rfl)⟩
theorem jb_M_most : jB y_M_most b_M_most 5 (some .int) 2 := ⟨(jt_of 653 (by decide +kernel) rfl), iz_M, by decide +kernel, by decide⟩
theorem im_M_most : Cond.instanceMethod y_M_most ∈ jtbl := (jt_of 652 (by decide +kernel) rfl)
theorem jv_M_most : jBV y_M_most := ⟨im_M_most, (jt_of 27 (by decide +kernel) rfl)⟩
theorem jb_M_copy : jB y_M_copy b_M_copy 5 none 3 := ⟨(jt_of 658 (by decide +kernel) rfl), iz_M, by decide +kernel, by decide⟩
theorem im_M_copy : Cond.instanceMethod y_M_copy ∈ jtbl := (jt_of 657 (by decide +kernel) rfl)
theorem jv_M_copy : jBV y_M_copy := ⟨im_M_copy, (jt_of 28 (by decide +kernel) rfl)⟩
theorem jb_M_dictionary : jB y_M_dictionary b_M_dictionary 5 (some .boolean) 1 := ⟨(jt_of 662 (by decide +kernel) rfl), iz_M, by decide +kernel, by decide⟩
theorem im_M_dictionary : Cond.instanceMethod y_M_dictionary ∈ jtbl := (jt_of 660 (by decide +kernel) rfl)
theorem jv_M_dictionary : jBV y_M_dictionary := ⟨im_M_dictionary, (jt_of 661 (by decide +kernel) rfl)⟩
theorem jb_M_isFirst : jB y_M_isFirst b_M_isFirst 5 (some .boolean) 2 := ⟨(jt_of 666 (by decide +kernel) rfl), iz_M, by decide +kernel, by decide⟩
theorem im_M_isFirst : Cond.instanceMethod y_M_isFirst ∈ jtbl := (jt_of 665 (by decide +kernel) rfl)
theorem jv_M_isFirst : jBV y_M_isFirst := ⟨im_M_isFirst, (jt_of 29 (by decide +kernel) rfl)⟩
theorem jb_M_unknown : jB y_M_unknown b_M_unknown 2 (some .boolean) 1 := ⟨(jt_of 671 (by decide +kernel) rfl), iz_M, by decide +kernel, by decide⟩
theorem im_M_unknown : Cond.instanceMethod y_M_unknown ∈ jtbl := (jt_of 669 (by decide +kernel) rfl)
theorem jv_M_unknown : jBV y_M_unknown := ⟨im_M_unknown, (jt_of 670 (by decide +kernel) rfl)⟩
theorem jb_M_can : jB y_M_can b_M_can 1 (some .int) 0 := ⟨(jt_of 675 (by decide +kernel) rfl), iz_M, by decide +kernel, by decide⟩
theorem im_M_can : Cond.instanceMethod y_M_can ∈ jtbl := (jt_of 673 (by decide +kernel) rfl)
theorem jv_M_can : jBV y_M_can := ⟨im_M_can, (jt_of 674 (by decide +kernel) rfl)⟩
