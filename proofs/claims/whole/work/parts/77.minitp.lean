set_option maxHeartbeats 4000000 in
set_option maxRecDepth 100000 in
/-- TruthScanModel() -/
theorem c_M_init (l : Launch) (o : Nat) : MC l y_M_init b_M_init 1 (none) 1 22 352240
    (fun G w av => av = [.ref o] ∧ jh w o (eO cM [.int 0, .null, .int 0, .null, .null, .null, .null, .null, .null, .null, .null, .null, .null, .null, .null, .null, .int 0, .int 0, .int 0, .null, .null, .null, .null, .null, .null, .null, .null, .int 0]))
    (fun G w av r w' => r = none ∧ RepM G w' o sZ) := by
  refine MC.of 99 (by decide) ?_
  intro X w av hl C hnm hp
  obtain ⟨rfl, ha⟩ := hp
  have I0 : IA w o [] := IA.nil
  refine ⟨[(0, _)], rfl, Nat.le_of_ble_eq_true rfl, rfl, ?_⟩
  refine j_aload_n (i := 0) (t := 1) C d_M_init_0 rfl rfl (by first | exact jrv_r | exact jrv_n | exact jrv_f) rfl ?_
  refine j_oinit (t := 4) C d_M_init_1 ml_M_1 im_O cd_O (by decide) (Nat.le_of_ble_eq_true rfl) rfl ?_
  refine j_aload_n (i := 0) (t := 5) C d_M_init_4 rfl rfl (by first | exact jrv_r | exact jrv_n | exact jrv_f) rfl ?_
  refine j_sipush (x := 1000) (t := 8) C d_M_init_5 rfl rfl ?_
  refine j_newIW (N := 1000) (t := 10) C d_M_init_8 ac_I rfl (by decide) (by omega) (by omega) rfl (fun a8 w8 n8 e8 h8 f8 => ?_)
  have I8 := I0.new ha n8 h8 f8
  have ho8 := f8 _ _ ha
  clear f8 n8 e8 ha I0
  refine j_putFW (t := 13) C hnm fp_M_7 d_M_init_10 ho8 (by first | rfl | exact jnar_rf) (by first | rfl | exact jfit_rf) (Nat.le_of_ble_eq_true rfl) rfl (fun w10 e10 h10 f10 => ?_)
  have I10 := I8.put f10
  replace h10 : jh w10 o (eO cM [.int 0, .ref a8, .int 0, .null, .null, .null, .null, .null, .null, .null, .null, .null, .null, .null, .null, .null, .int 0, .int 0, .int 0, .null, .null, .null, .null, .null, .null, .null, .null, .int 0]) := h10
  clear e10 f10 I8 ho8 h8
  refine j_aload_n (i := 0) (t := 14) C d_M_init_13 rfl rfl (by first | exact jrv_r | exact jrv_n | exact jrv_f) rfl ?_
  refine j_sipush (x := 17696) (t := 17) C d_M_init_14 rfl rfl ?_
  refine j_newLW (N := 17696) (t := 19) C d_M_init_17 ac_L rfl (by decide) (by omega) (by omega) rfl (fun a17 w17 n17 e17 h17 f17 => ?_)
  have I17 := I10.new h10 n17 h17 f17
  have ho17 := f17 _ _ h10
  clear f17 n17 e17 h10 I10
  refine j_putFW (t := 22) C hnm fp_M_13 d_M_init_19 ho17 (by first | rfl | exact jnar_rf) (by first | rfl | exact jfit_rf) (Nat.le_of_ble_eq_true rfl) rfl (fun w19 e19 h19 f19 => ?_)
  have I19 := I17.put f19
  replace h19 : jh w19 o (eO cM [.int 0, .ref a8, .int 0, .ref a17, .null, .null, .null, .null, .null, .null, .null, .null, .null, .null, .null, .null, .int 0, .int 0, .int 0, .null, .null, .null, .null, .null, .null, .null, .null, .int 0]) := h19
  clear e19 f19 I17 ho17 h17
  refine j_aload_n (i := 0) (t := 23) C d_M_init_22 rfl rfl (by first | exact jrv_r | exact jrv_n | exact jrv_f) rfl ?_
  refine j_sipush (x := 17696) (t := 26) C d_M_init_23 rfl rfl ?_
  refine j_newIW (N := 17696) (t := 28) C d_M_init_26 ac_I rfl (by decide) (by omega) (by omega) rfl (fun a26 w26 n26 e26 h26 f26 => ?_)
  have I26 := I19.new h19 n26 h26 f26
  have ho26 := f26 _ _ h19
  clear f26 n26 e26 h19 I19
  refine j_putFW (t := 31) C hnm fp_M_17 d_M_init_28 ho26 (by first | rfl | exact jnar_rf) (by first | rfl | exact jfit_rf) (Nat.le_of_ble_eq_true rfl) rfl (fun w28 e28 h28 f28 => ?_)
  have I28 := I26.put f28
  replace h28 : jh w28 o (eO cM [.int 0, .ref a8, .int 0, .ref a17, .ref a26, .null, .null, .null, .null, .null, .null, .null, .null, .null, .null, .null, .int 0, .int 0, .int 0, .null, .null, .null, .null, .null, .null, .null, .null, .int 0]) := h28
  clear e28 f28 I26 ho26 h26
  refine j_aload_n (i := 0) (t := 32) C d_M_init_31 rfl rfl (by first | exact jrv_r | exact jrv_n | exact jrv_f) rfl ?_
  refine j_sipush (x := 17696) (t := 35) C d_M_init_32 rfl rfl ?_
  refine j_newIW (N := 17696) (t := 37) C d_M_init_35 ac_I rfl (by decide) (by omega) (by omega) rfl (fun a35 w35 n35 e35 h35 f35 => ?_)
  have I35 := I28.new h28 n35 h35 f35
  have ho35 := f35 _ _ h28
  clear f35 n35 e35 h28 I28
  refine j_putFW (t := 40) C hnm fp_M_20 d_M_init_37 ho35 (by first | rfl | exact jnar_rf) (by first | rfl | exact jfit_rf) (Nat.le_of_ble_eq_true rfl) rfl (fun w37 e37 h37 f37 => ?_)
  have I37 := I35.put f37
  replace h37 : jh w37 o (eO cM [.int 0, .ref a8, .int 0, .ref a17, .ref a26, .ref a35, .null, .null, .null, .null, .null, .null, .null, .null, .null, .null, .int 0, .int 0, .int 0, .null, .null, .null, .null, .null, .null, .null, .null, .int 0]) := h37
  clear e37 f37 I35 ho35 h35
  refine j_aload_n (i := 0) (t := 41) C d_M_init_40 rfl rfl (by first | exact jrv_r | exact jrv_n | exact jrv_f) rfl ?_
  refine j_ldc (t := 43) C d_M_init_41 ct_M_23 rfl ?_
  refine j_newIW (N := 280576) (t := 45) C d_M_init_43 ac_I rfl (by decide) (by omega) (by omega) rfl (fun a43 w43 n43 e43 h43 f43 => ?_)
  have I43 := I37.new h37 n43 h43 f43
  have ho43 := f43 _ _ h37
  clear f43 n43 e43 h37 I37
  refine j_putFW (t := 48) C hnm fp_M_24 d_M_init_45 ho43 (by first | rfl | exact jnar_rf) (by first | rfl | exact jfit_rf) (Nat.le_of_ble_eq_true rfl) rfl (fun w45 e45 h45 f45 => ?_)
  have I45 := I43.put f45
  replace h45 : jh w45 o (eO cM [.int 0, .ref a8, .int 0, .ref a17, .ref a26, .ref a35, .ref a43, .null, .null, .null, .null, .null, .null, .null, .null, .null, .int 0, .int 0, .int 0, .null, .null, .null, .null, .null, .null, .null, .null, .int 0]) := h45
  clear e45 f45 I43 ho43 h43
  refine j_aload_n (i := 0) (t := 49) C d_M_init_48 rfl rfl (by first | exact jrv_r | exact jrv_n | exact jrv_f) rfl ?_
  refine j_bipush (x := 16) (t := 51) C d_M_init_49 rfl rfl ?_
  refine j_newIW (N := 16) (t := 53) C d_M_init_51 ac_I rfl (by decide) (by omega) (by omega) rfl (fun a51 w51 n51 e51 h51 f51 => ?_)
  have I51 := I45.new h45 n51 h51 f51
  have ho51 := f51 _ _ h45
  clear f51 n51 e51 h45 I45
  refine j_putFW (t := 56) C hnm fp_M_27 d_M_init_53 ho51 (by first | rfl | exact jnar_rf) (by first | rfl | exact jfit_rf) (Nat.le_of_ble_eq_true rfl) rfl (fun w53 e53 h53 f53 => ?_)
  have I53 := I51.put f53
  replace h53 : jh w53 o (eO cM [.int 0, .ref a8, .int 0, .ref a17, .ref a26, .ref a35, .ref a43, .ref a51, .null, .null, .null, .null, .null, .null, .null, .null, .int 0, .int 0, .int 0, .null, .null, .null, .null, .null, .null, .null, .null, .int 0]) := h53
  clear e53 f53 I51 ho51 h51
  refine j_aload_n (i := 0) (t := 57) C d_M_init_56 rfl rfl (by first | exact jrv_r | exact jrv_n | exact jrv_f) rfl ?_
  refine j_bipush (x := 16) (t := 59) C d_M_init_57 rfl rfl ?_
  refine j_newIW (N := 16) (t := 61) C d_M_init_59 ac_I rfl (by decide) (by omega) (by omega) rfl (fun a59 w59 n59 e59 h59 f59 => ?_)
  have I59 := I53.new h53 n59 h59 f59
  have ho59 := f59 _ _ h53
  clear f59 n59 e59 h53 I53
  refine j_putFW (t := 64) C hnm fp_M_30 d_M_init_61 ho59 (by first | rfl | exact jnar_rf) (by first | rfl | exact jfit_rf) (Nat.le_of_ble_eq_true rfl) rfl (fun w61 e61 h61 f61 => ?_)
  have I61 := I59.put f61
  replace h61 : jh w61 o (eO cM [.int 0, .ref a8, .int 0, .ref a17, .ref a26, .ref a35, .ref a43, .ref a51, .ref a59, .null, .null, .null, .null, .null, .null, .null, .int 0, .int 0, .int 0, .null, .null, .null, .null, .null, .null, .null, .null, .int 0]) := h61
  clear e61 f61 I59 ho59 h59
  refine j_aload_n (i := 0) (t := 65) C d_M_init_64 rfl rfl (by first | exact jrv_r | exact jrv_n | exact jrv_f) rfl ?_
  refine j_bipush (x := 16) (t := 67) C d_M_init_65 rfl rfl ?_
  refine j_newIW (N := 16) (t := 69) C d_M_init_67 ac_I rfl (by decide) (by omega) (by omega) rfl (fun a67 w67 n67 e67 h67 f67 => ?_)
  have I67 := I61.new h61 n67 h67 f67
  have ho67 := f67 _ _ h61
  clear f67 n67 e67 h61 I61
  refine j_putFW (t := 72) C hnm fp_M_33 d_M_init_69 ho67 (by first | rfl | exact jnar_rf) (by first | rfl | exact jfit_rf) (Nat.le_of_ble_eq_true rfl) rfl (fun w69 e69 h69 f69 => ?_)
  have I69 := I67.put f69
  replace h69 : jh w69 o (eO cM [.int 0, .ref a8, .int 0, .ref a17, .ref a26, .ref a35, .ref a43, .ref a51, .ref a59, .ref a67, .null, .null, .null, .null, .null, .null, .int 0, .int 0, .int 0, .null, .null, .null, .null, .null, .null, .null, .null, .int 0]) := h69
  clear e69 f69 I67 ho67 h67
  refine j_aload_n (i := 0) (t := 73) C d_M_init_72 rfl rfl (by first | exact jrv_r | exact jrv_n | exact jrv_f) rfl ?_
  refine j_bipush (x := 16) (t := 75) C d_M_init_73 rfl rfl ?_
  refine j_newIW (N := 16) (t := 77) C d_M_init_75 ac_I rfl (by decide) (by omega) (by omega) rfl (fun a75 w75 n75 e75 h75 f75 => ?_)
  have I75 := I69.new h69 n75 h75 f75
  have ho75 := f75 _ _ h69
  clear f75 n75 e75 h69 I69
  refine j_putFW (t := 80) C hnm fp_M_36 d_M_init_77 ho75 (by first | rfl | exact jnar_rf) (by first | rfl | exact jfit_rf) (Nat.le_of_ble_eq_true rfl) rfl (fun w77 e77 h77 f77 => ?_)
  have I77 := I75.put f77
  replace h77 : jh w77 o (eO cM [.int 0, .ref a8, .int 0, .ref a17, .ref a26, .ref a35, .ref a43, .ref a51, .ref a59, .ref a67, .ref a75, .null, .null, .null, .null, .null, .int 0, .int 0, .int 0, .null, .null, .null, .null, .null, .null, .null, .null, .int 0]) := h77
  clear e77 f77 I75 ho75 h75
  refine j_aload_n (i := 0) (t := 81) C d_M_init_80 rfl rfl (by first | exact jrv_r | exact jrv_n | exact jrv_f) rfl ?_
  refine j_bipush (x := 16) (t := 83) C d_M_init_81 rfl rfl ?_
  refine j_newIW (N := 16) (t := 85) C d_M_init_83 ac_I rfl (by decide) (by omega) (by omega) rfl (fun a83 w83 n83 e83 h83 f83 => ?_)
  have I83 := I77.new h77 n83 h83 f83
  have ho83 := f83 _ _ h77
  clear f83 n83 e83 h77 I77
  refine j_putFW (t := 88) C hnm fp_M_39 d_M_init_85 ho83 (by first | rfl | exact jnar_rf) (by first | rfl | exact jfit_rf) (Nat.le_of_ble_eq_true rfl) rfl (fun w85 e85 h85 f85 => ?_)
  have I85 := I83.put f85
  replace h85 : jh w85 o (eO cM [.int 0, .ref a8, .int 0, .ref a17, .ref a26, .ref a35, .ref a43, .ref a51, .ref a59, .ref a67, .ref a75, .ref a83, .null, .null, .null, .null, .int 0, .int 0, .int 0, .null, .null, .null, .null, .null, .null, .null, .null, .int 0]) := h85
  clear e85 f85 I83 ho83 h83
  refine j_aload_n (i := 0) (t := 89) C d_M_init_88 rfl rfl (by first | exact jrv_r | exact jrv_n | exact jrv_f) rfl ?_
  refine j_bipush (x := 16) (t := 91) C d_M_init_89 rfl rfl ?_
  refine j_newIW (N := 16) (t := 93) C d_M_init_91 ac_I rfl (by decide) (by omega) (by omega) rfl (fun a91 w91 n91 e91 h91 f91 => ?_)
  have I91 := I85.new h85 n91 h91 f91
  have ho91 := f91 _ _ h85
  clear f91 n91 e91 h85 I85
  refine j_putFW (t := 96) C hnm fp_M_42 d_M_init_93 ho91 (by first | rfl | exact jnar_rf) (by first | rfl | exact jfit_rf) (Nat.le_of_ble_eq_true rfl) rfl (fun w93 e93 h93 f93 => ?_)
  have I93 := I91.put f93
  replace h93 : jh w93 o (eO cM [.int 0, .ref a8, .int 0, .ref a17, .ref a26, .ref a35, .ref a43, .ref a51, .ref a59, .ref a67, .ref a75, .ref a83, .ref a91, .null, .null, .null, .int 0, .int 0, .int 0, .null, .null, .null, .null, .null, .null, .null, .null, .int 0]) := h93
  clear e93 f93 I91 ho91 h91
  refine j_aload_n (i := 0) (t := 97) C d_M_init_96 rfl rfl (by first | exact jrv_r | exact jrv_n | exact jrv_f) rfl ?_
  refine j_bipush (x := 16) (t := 99) C d_M_init_97 rfl rfl ?_
  refine j_newZW (N := 16) (t := 101) C d_M_init_99 ac_Z rfl (by decide) (by omega) (by omega) rfl (fun a99 w99 n99 e99 h99 f99 => ?_)
  have I99 := I93.new h93 n99 h99 f99
  have ho99 := f99 _ _ h93
  clear f99 n99 e99 h93 I93
  refine j_putFW (t := 104) C hnm fp_M_45 d_M_init_101 ho99 (by first | rfl | exact jnar_rf) (by first | rfl | exact jfit_rf) (Nat.le_of_ble_eq_true rfl) rfl (fun w101 e101 h101 f101 => ?_)
  have I101 := I99.put f101
  replace h101 : jh w101 o (eO cM [.int 0, .ref a8, .int 0, .ref a17, .ref a26, .ref a35, .ref a43, .ref a51, .ref a59, .ref a67, .ref a75, .ref a83, .ref a91, .ref a99, .null, .null, .int 0, .int 0, .int 0, .null, .null, .null, .null, .null, .null, .null, .null, .int 0]) := h101
  clear e101 f101 I99 ho99 h99
  refine j_aload_n (i := 0) (t := 105) C d_M_init_104 rfl rfl (by first | exact jrv_r | exact jrv_n | exact jrv_f) rfl ?_
  refine j_bipush (x := 16) (t := 107) C d_M_init_105 rfl rfl ?_
  refine j_newZW (N := 16) (t := 109) C d_M_init_107 ac_Z rfl (by decide) (by omega) (by omega) rfl (fun a107 w107 n107 e107 h107 f107 => ?_)
  have I107 := I101.new h101 n107 h107 f107
  have ho107 := f107 _ _ h101
  clear f107 n107 e107 h101 I101
  refine j_putFW (t := 112) C hnm fp_M_49 d_M_init_109 ho107 (by first | rfl | exact jnar_rf) (by first | rfl | exact jfit_rf) (Nat.le_of_ble_eq_true rfl) rfl (fun w109 e109 h109 f109 => ?_)
  have I109 := I107.put f109
  replace h109 : jh w109 o (eO cM [.int 0, .ref a8, .int 0, .ref a17, .ref a26, .ref a35, .ref a43, .ref a51, .ref a59, .ref a67, .ref a75, .ref a83, .ref a91, .ref a99, .ref a107, .null, .int 0, .int 0, .int 0, .null, .null, .null, .null, .null, .null, .null, .null, .int 0]) := h109
  clear e109 f109 I107 ho107 h107
  refine j_aload_n (i := 0) (t := 113) C d_M_init_112 rfl rfl (by first | exact jrv_r | exact jrv_n | exact jrv_f) rfl ?_
  refine j_sipush (x := 16000) (t := 116) C d_M_init_113 rfl rfl ?_
  refine j_newZW (N := 16000) (t := 118) C d_M_init_116 ac_Z rfl (by decide) (by omega) (by omega) rfl (fun a116 w116 n116 e116 h116 f116 => ?_)
  have I116 := I109.new h109 n116 h116 f116
  have ho116 := f116 _ _ h109
  clear f116 n116 e116 h109 I109
  refine j_putFW (t := 121) C hnm fp_M_52 d_M_init_118 ho116 (by first | rfl | exact jnar_rf) (by first | rfl | exact jfit_rf) (Nat.le_of_ble_eq_true rfl) rfl (fun w118 e118 h118 f118 => ?_)
  have I118 := I116.put f118
  replace h118 : jh w118 o (eO cM [.int 0, .ref a8, .int 0, .ref a17, .ref a26, .ref a35, .ref a43, .ref a51, .ref a59, .ref a67, .ref a75, .ref a83, .ref a91, .ref a99, .ref a107, .ref a116, .int 0, .int 0, .int 0, .null, .null, .null, .null, .null, .null, .null, .null, .int 0]) := h118
  clear e118 f118 I116 ho116 h116
  refine j_aload_n (i := 0) (t := 122) C d_M_init_121 rfl rfl (by first | exact jrv_r | exact jrv_n | exact jrv_f) rfl ?_
  refine j_bipush (x := 64) (t := 124) C d_M_init_122 rfl rfl ?_
  refine j_newIW (N := 64) (t := 126) C d_M_init_124 ac_I rfl (by decide) (by omega) (by omega) rfl (fun a124 w124 n124 e124 h124 f124 => ?_)
  have I124 := I118.new h118 n124 h124 f124
  have ho124 := f124 _ _ h118
  clear f124 n124 e124 h118 I118
  refine j_putFW (t := 129) C hnm fp_M_55 d_M_init_126 ho124 (by first | rfl | exact jnar_rf) (by first | rfl | exact jfit_rf) (Nat.le_of_ble_eq_true rfl) rfl (fun w126 e126 h126 f126 => ?_)
  have I126 := I124.put f126
  replace h126 : jh w126 o (eO cM [.int 0, .ref a8, .int 0, .ref a17, .ref a26, .ref a35, .ref a43, .ref a51, .ref a59, .ref a67, .ref a75, .ref a83, .ref a91, .ref a99, .ref a107, .ref a116, .int 0, .int 0, .int 0, .ref a124, .null, .null, .null, .null, .null, .null, .null, .int 0]) := h126
  clear e126 f126 I124 ho124 h124
  refine j_aload_n (i := 0) (t := 130) C d_M_init_129 rfl rfl (by first | exact jrv_r | exact jrv_n | exact jrv_f) rfl ?_
  refine j_bipush (x := 64) (t := 132) C d_M_init_130 rfl rfl ?_
  refine j_newIW (N := 64) (t := 134) C d_M_init_132 ac_I rfl (by decide) (by omega) (by omega) rfl (fun a132 w132 n132 e132 h132 f132 => ?_)
  have I132 := I126.new h126 n132 h132 f132
  have ho132 := f132 _ _ h126
  clear f132 n132 e132 h126 I126
  refine j_putFW (t := 137) C hnm fp_M_58 d_M_init_134 ho132 (by first | rfl | exact jnar_rf) (by first | rfl | exact jfit_rf) (Nat.le_of_ble_eq_true rfl) rfl (fun w134 e134 h134 f134 => ?_)
  have I134 := I132.put f134
  replace h134 : jh w134 o (eO cM [.int 0, .ref a8, .int 0, .ref a17, .ref a26, .ref a35, .ref a43, .ref a51, .ref a59, .ref a67, .ref a75, .ref a83, .ref a91, .ref a99, .ref a107, .ref a116, .int 0, .int 0, .int 0, .ref a124, .ref a132, .null, .null, .null, .null, .null, .null, .int 0]) := h134
  clear e134 f134 I132 ho132 h132
  refine j_aload_n (i := 0) (t := 138) C d_M_init_137 rfl rfl (by first | exact jrv_r | exact jrv_n | exact jrv_f) rfl ?_
  refine j_bipush (x := 64) (t := 140) C d_M_init_138 rfl rfl ?_
  refine j_newIW (N := 64) (t := 142) C d_M_init_140 ac_I rfl (by decide) (by omega) (by omega) rfl (fun a140 w140 n140 e140 h140 f140 => ?_)
  have I140 := I134.new h134 n140 h140 f140
  have ho140 := f140 _ _ h134
  clear f140 n140 e140 h134 I134
  refine j_putFW (t := 145) C hnm fp_M_61 d_M_init_142 ho140 (by first | rfl | exact jnar_rf) (by first | rfl | exact jfit_rf) (Nat.le_of_ble_eq_true rfl) rfl (fun w142 e142 h142 f142 => ?_)
  have I142 := I140.put f142
  replace h142 : jh w142 o (eO cM [.int 0, .ref a8, .int 0, .ref a17, .ref a26, .ref a35, .ref a43, .ref a51, .ref a59, .ref a67, .ref a75, .ref a83, .ref a91, .ref a99, .ref a107, .ref a116, .int 0, .int 0, .int 0, .ref a124, .ref a132, .ref a140, .null, .null, .null, .null, .null, .int 0]) := h142
  clear e142 f142 I140 ho140 h140
  refine j_aload_n (i := 0) (t := 146) C d_M_init_145 rfl rfl (by first | exact jrv_r | exact jrv_n | exact jrv_f) rfl ?_
  refine j_bipush (x := 64) (t := 148) C d_M_init_146 rfl rfl ?_
  refine j_newIW (N := 64) (t := 150) C d_M_init_148 ac_I rfl (by decide) (by omega) (by omega) rfl (fun a148 w148 n148 e148 h148 f148 => ?_)
  have I148 := I142.new h142 n148 h148 f148
  have ho148 := f148 _ _ h142
  clear f148 n148 e148 h142 I142
  refine j_putFW (t := 153) C hnm fp_M_64 d_M_init_150 ho148 (by first | rfl | exact jnar_rf) (by first | rfl | exact jfit_rf) (Nat.le_of_ble_eq_true rfl) rfl (fun w150 e150 h150 f150 => ?_)
  have I150 := I148.put f150
  replace h150 : jh w150 o (eO cM [.int 0, .ref a8, .int 0, .ref a17, .ref a26, .ref a35, .ref a43, .ref a51, .ref a59, .ref a67, .ref a75, .ref a83, .ref a91, .ref a99, .ref a107, .ref a116, .int 0, .int 0, .int 0, .ref a124, .ref a132, .ref a140, .ref a148, .null, .null, .null, .null, .int 0]) := h150
  clear e150 f150 I148 ho148 h148
  refine j_aload_n (i := 0) (t := 154) C d_M_init_153 rfl rfl (by first | exact jrv_r | exact jrv_n | exact jrv_f) rfl ?_
  refine j_bipush (x := 64) (t := 156) C d_M_init_154 rfl rfl ?_
  refine j_newIW (N := 64) (t := 158) C d_M_init_156 ac_I rfl (by decide) (by omega) (by omega) rfl (fun a156 w156 n156 e156 h156 f156 => ?_)
  have I156 := I150.new h150 n156 h156 f156
  have ho156 := f156 _ _ h150
  clear f156 n156 e156 h150 I150
  refine j_putFW (t := 161) C hnm fp_M_67 d_M_init_158 ho156 (by first | rfl | exact jnar_rf) (by first | rfl | exact jfit_rf) (Nat.le_of_ble_eq_true rfl) rfl (fun w158 e158 h158 f158 => ?_)
  have I158 := I156.put f158
  replace h158 : jh w158 o (eO cM [.int 0, .ref a8, .int 0, .ref a17, .ref a26, .ref a35, .ref a43, .ref a51, .ref a59, .ref a67, .ref a75, .ref a83, .ref a91, .ref a99, .ref a107, .ref a116, .int 0, .int 0, .int 0, .ref a124, .ref a132, .ref a140, .ref a148, .ref a156, .null, .null, .null, .int 0]) := h158
  clear e158 f158 I156 ho156 h156
  refine j_aload_n (i := 0) (t := 162) C d_M_init_161 rfl rfl (by first | exact jrv_r | exact jrv_n | exact jrv_f) rfl ?_
  refine j_bipush (x := 64) (t := 164) C d_M_init_162 rfl rfl ?_
  refine j_newIW (N := 64) (t := 166) C d_M_init_164 ac_I rfl (by decide) (by omega) (by omega) rfl (fun a164 w164 n164 e164 h164 f164 => ?_)
  have I164 := I158.new h158 n164 h164 f164
  have ho164 := f164 _ _ h158
  clear f164 n164 e164 h158 I158
  refine j_putFW (t := 169) C hnm fp_M_70 d_M_init_166 ho164 (by first | rfl | exact jnar_rf) (by first | rfl | exact jfit_rf) (Nat.le_of_ble_eq_true rfl) rfl (fun w166 e166 h166 f166 => ?_)
  have I166 := I164.put f166
  replace h166 : jh w166 o (eO cM [.int 0, .ref a8, .int 0, .ref a17, .ref a26, .ref a35, .ref a43, .ref a51, .ref a59, .ref a67, .ref a75, .ref a83, .ref a91, .ref a99, .ref a107, .ref a116, .int 0, .int 0, .int 0, .ref a124, .ref a132, .ref a140, .ref a148, .ref a156, .ref a164, .null, .null, .int 0]) := h166
  clear e166 f166 I164 ho164 h164
  refine j_aload_n (i := 0) (t := 170) C d_M_init_169 rfl rfl (by first | exact jrv_r | exact jrv_n | exact jrv_f) rfl ?_
  refine j_sipush (x := 1000) (t := 173) C d_M_init_170 rfl rfl ?_
  refine j_newIW (N := 1000) (t := 175) C d_M_init_173 ac_I rfl (by decide) (by omega) (by omega) rfl (fun a173 w173 n173 e173 h173 f173 => ?_)
  have I173 := I166.new h166 n173 h173 f173
  have ho173 := f173 _ _ h166
  clear f173 n173 e173 h166 I166
  refine j_putFW (t := 178) C hnm fp_M_73 d_M_init_175 ho173 (by first | rfl | exact jnar_rf) (by first | rfl | exact jfit_rf) (Nat.le_of_ble_eq_true rfl) rfl (fun w175 e175 h175 f175 => ?_)
  have I175 := I173.put f175
  replace h175 : jh w175 o (eO cM [.int 0, .ref a8, .int 0, .ref a17, .ref a26, .ref a35, .ref a43, .ref a51, .ref a59, .ref a67, .ref a75, .ref a83, .ref a91, .ref a99, .ref a107, .ref a116, .int 0, .int 0, .int 0, .ref a124, .ref a132, .ref a140, .ref a148, .ref a156, .ref a164, .ref a173, .null, .int 0]) := h175
  clear e175 f175 I173 ho173 h173
  refine j_aload_n (i := 0) (t := 179) C d_M_init_178 rfl rfl (by first | exact jrv_r | exact jrv_n | exact jrv_f) rfl ?_
  refine j_bipush (x := 64) (t := 181) C d_M_init_179 rfl rfl ?_
  refine j_newIW (N := 64) (t := 183) C d_M_init_181 ac_I rfl (by decide) (by omega) (by omega) rfl (fun a181 w181 n181 e181 h181 f181 => ?_)
  have I181 := I175.new h175 n181 h181 f181
  have ho181 := f181 _ _ h175
  clear f181 n181 e181 h175 I175
  refine j_putFW (t := 186) C hnm fp_M_76 d_M_init_183 ho181 (by first | rfl | exact jnar_rf) (by first | rfl | exact jfit_rf) (Nat.le_of_ble_eq_true rfl) rfl (fun w183 e183 h183 f183 => ?_)
  have I183 := I181.put f183
  replace h183 : jh w183 o (eO cM [.int 0, .ref a8, .int 0, .ref a17, .ref a26, .ref a35, .ref a43, .ref a51, .ref a59, .ref a67, .ref a75, .ref a83, .ref a91, .ref a99, .ref a107, .ref a116, .int 0, .int 0, .int 0, .ref a124, .ref a132, .ref a140, .ref a148, .ref a156, .ref a164, .ref a173, .ref a181, .int 0]) := h183
  clear e183 f183 I181 ho181 h181
  have hnd : ([a181, a173, a164, a156, a148, a140, a132, a124, a116, a107, a99, a91, a83, a75, a67, a59, a51, a43, a35, a26, a17, a8] : List Nat).Nodup := (List.nodup_cons.mp I183.2).2
  have hq : ∀ i j, i < 22 → j < 22 → ([a181, a173, a164, a156, a148, a140, a132, a124, a116, a107, a99, a91, a83, a75, a67, a59, a51, a43, a35, a26, a17, a8] : List Nat).getD (21 - i) 0 = ([a181, a173, a164, a156, a148, a140, a132, a124, a116, a107, a99, a91, a83, a75, a67, a59, a51, a43, a35, a26, a17, a8] : List Nat).getD (21 - j) 0 → i = j := fun i j hi hj e => by
    have := nd_inj hnd (21 - i) (21 - j) (by simp only [List.length_cons, List.length_nil]; omega) (by simp only [List.length_cons, List.length_nil]; omega) e
    omega
  exact j_vret C d_M_init_186 (⟨rfl, RepM.of (q := fun i => ([a181, a173, a164, a156, a148, a140, a132, a124, a116, a107, a99, a91, a83, a75, a67, a59, a51, a43, a35, a26, a17, a8] : List Nat).getD (21 - i) 0) (m := mZ) ⟨h183, I183.1 _ (List.Mem.tail _ (List.Mem.tail _ (List.Mem.tail _ (List.Mem.tail _ (List.Mem.tail _ (List.Mem.tail _ (List.Mem.tail _ (List.Mem.tail _ (List.Mem.tail _ (List.Mem.tail _ (List.Mem.tail _ (List.Mem.tail _ (List.Mem.tail _ (List.Mem.tail _ (List.Mem.tail _ (List.Mem.tail _ (List.Mem.tail _ (List.Mem.tail _ (List.Mem.tail _ (List.Mem.tail _ (List.Mem.tail _ (List.Mem.head _)))))))))))))))))))))), I183.1 _ (List.Mem.tail _ (List.Mem.tail _ (List.Mem.tail _ (List.Mem.tail _ (List.Mem.tail _ (List.Mem.tail _ (List.Mem.tail _ (List.Mem.tail _ (List.Mem.tail _ (List.Mem.tail _ (List.Mem.tail _ (List.Mem.tail _ (List.Mem.tail _ (List.Mem.tail _ (List.Mem.tail _ (List.Mem.tail _ (List.Mem.tail _ (List.Mem.tail _ (List.Mem.tail _ (List.Mem.tail _ (List.Mem.head _))))))))))))))))))))), I183.1 _ (List.Mem.tail _ (List.Mem.tail _ (List.Mem.tail _ (List.Mem.tail _ (List.Mem.tail _ (List.Mem.tail _ (List.Mem.tail _ (List.Mem.tail _ (List.Mem.tail _ (List.Mem.tail _ (List.Mem.tail _ (List.Mem.tail _ (List.Mem.tail _ (List.Mem.tail _ (List.Mem.tail _ (List.Mem.tail _ (List.Mem.tail _ (List.Mem.tail _ (List.Mem.tail _ (List.Mem.head _)))))))))))))))))))), I183.1 _ (List.Mem.tail _ (List.Mem.tail _ (List.Mem.tail _ (List.Mem.tail _ (List.Mem.tail _ (List.Mem.tail _ (List.Mem.tail _ (List.Mem.tail _ (List.Mem.tail _ (List.Mem.tail _ (List.Mem.tail _ (List.Mem.tail _ (List.Mem.tail _ (List.Mem.tail _ (List.Mem.tail _ (List.Mem.tail _ (List.Mem.tail _ (List.Mem.tail _ (List.Mem.head _))))))))))))))))))), I183.1 _ (List.Mem.tail _ (List.Mem.tail _ (List.Mem.tail _ (List.Mem.tail _ (List.Mem.tail _ (List.Mem.tail _ (List.Mem.tail _ (List.Mem.tail _ (List.Mem.tail _ (List.Mem.tail _ (List.Mem.tail _ (List.Mem.tail _ (List.Mem.tail _ (List.Mem.tail _ (List.Mem.tail _ (List.Mem.tail _ (List.Mem.tail _ (List.Mem.head _)))))))))))))))))), I183.1 _ (List.Mem.tail _ (List.Mem.tail _ (List.Mem.tail _ (List.Mem.tail _ (List.Mem.tail _ (List.Mem.tail _ (List.Mem.tail _ (List.Mem.tail _ (List.Mem.tail _ (List.Mem.tail _ (List.Mem.tail _ (List.Mem.tail _ (List.Mem.tail _ (List.Mem.tail _ (List.Mem.tail _ (List.Mem.tail _ (List.Mem.head _))))))))))))))))), I183.1 _ (List.Mem.tail _ (List.Mem.tail _ (List.Mem.tail _ (List.Mem.tail _ (List.Mem.tail _ (List.Mem.tail _ (List.Mem.tail _ (List.Mem.tail _ (List.Mem.tail _ (List.Mem.tail _ (List.Mem.tail _ (List.Mem.tail _ (List.Mem.tail _ (List.Mem.tail _ (List.Mem.tail _ (List.Mem.head _)))))))))))))))), I183.1 _ (List.Mem.tail _ (List.Mem.tail _ (List.Mem.tail _ (List.Mem.tail _ (List.Mem.tail _ (List.Mem.tail _ (List.Mem.tail _ (List.Mem.tail _ (List.Mem.tail _ (List.Mem.tail _ (List.Mem.tail _ (List.Mem.tail _ (List.Mem.tail _ (List.Mem.tail _ (List.Mem.head _))))))))))))))), I183.1 _ (List.Mem.tail _ (List.Mem.tail _ (List.Mem.tail _ (List.Mem.tail _ (List.Mem.tail _ (List.Mem.tail _ (List.Mem.tail _ (List.Mem.tail _ (List.Mem.tail _ (List.Mem.tail _ (List.Mem.tail _ (List.Mem.tail _ (List.Mem.tail _ (List.Mem.head _)))))))))))))), I183.1 _ (List.Mem.tail _ (List.Mem.tail _ (List.Mem.tail _ (List.Mem.tail _ (List.Mem.tail _ (List.Mem.tail _ (List.Mem.tail _ (List.Mem.tail _ (List.Mem.tail _ (List.Mem.tail _ (List.Mem.tail _ (List.Mem.tail _ (List.Mem.head _))))))))))))), I183.1 _ (List.Mem.tail _ (List.Mem.tail _ (List.Mem.tail _ (List.Mem.tail _ (List.Mem.tail _ (List.Mem.tail _ (List.Mem.tail _ (List.Mem.tail _ (List.Mem.tail _ (List.Mem.tail _ (List.Mem.tail _ (List.Mem.head _)))))))))))), I183.1 _ (List.Mem.tail _ (List.Mem.tail _ (List.Mem.tail _ (List.Mem.tail _ (List.Mem.tail _ (List.Mem.tail _ (List.Mem.tail _ (List.Mem.tail _ (List.Mem.tail _ (List.Mem.tail _ (List.Mem.head _))))))))))), I183.1 _ (List.Mem.tail _ (List.Mem.tail _ (List.Mem.tail _ (List.Mem.tail _ (List.Mem.tail _ (List.Mem.tail _ (List.Mem.tail _ (List.Mem.tail _ (List.Mem.tail _ (List.Mem.head _)))))))))), I183.1 _ (List.Mem.tail _ (List.Mem.tail _ (List.Mem.tail _ (List.Mem.tail _ (List.Mem.tail _ (List.Mem.tail _ (List.Mem.tail _ (List.Mem.tail _ (List.Mem.head _))))))))), I183.1 _ (List.Mem.tail _ (List.Mem.tail _ (List.Mem.tail _ (List.Mem.tail _ (List.Mem.tail _ (List.Mem.tail _ (List.Mem.tail _ (List.Mem.head _)))))))), I183.1 _ (List.Mem.tail _ (List.Mem.tail _ (List.Mem.tail _ (List.Mem.tail _ (List.Mem.tail _ (List.Mem.tail _ (List.Mem.head _))))))), I183.1 _ (List.Mem.tail _ (List.Mem.tail _ (List.Mem.tail _ (List.Mem.tail _ (List.Mem.tail _ (List.Mem.head _)))))), I183.1 _ (List.Mem.tail _ (List.Mem.tail _ (List.Mem.tail _ (List.Mem.tail _ (List.Mem.head _))))), I183.1 _ (List.Mem.tail _ (List.Mem.tail _ (List.Mem.tail _ (List.Mem.head _)))), I183.1 _ (List.Mem.tail _ (List.Mem.tail _ (List.Mem.head _))), I183.1 _ (List.Mem.tail _ (List.Mem.head _)), I183.1 _ (List.Mem.head _), hq⟩ relM_Z⟩) (by omega) (by omega)
