theorem ju_ju {w : jw} {a : Nat} {e e' : va_E} : ju (ju w a e) a e' = ju w a e' := by
  unfold ju
  refine Prod.ext rfl ?_
  funext j
  by_cases h : j = a
  · subst h; simp [va_up]
  · simp [va_up, h]
set_option maxHeartbeats 4000000 in
set_option maxRecDepth 100000 in
/-- Value(type, number, text) -/
theorem c_V_init (l : Launch) (a t : Nat) (ty : Int32) (x : Int64) : MC l y_V_init b_V_init 5 (none) 1 0 0
    (fun G w av => av = [.ref a, .int ty, .long x, .ref t] ∧ jh w a (eO cV [.int 0, .long 0, .null]))
    (fun G w av r w' => r = none ∧ w' = ju w a (eO cV [.int ty, .long x, .ref t])) := by
  refine MC.of 2 (by decide) ?_
  intro X w av hl C hnm hp
  obtain ⟨rfl, ha⟩ := hp
  refine ⟨[(0, _), (1, _), (2, _), (4, _)], rfl, Nat.le_of_ble_eq_true rfl, rfl, ?_⟩
  refine j_aload_n (i := 0) (t := 1) C d_V_init_0 rfl rfl (by first | exact jrv_r | exact jrv_n | exact jrv_f) rfl ?_
  refine j_oinit (t := 4) C d_V_init_1 ml_V_1 im_O cd_O (by decide) (Nat.le_of_ble_eq_true rfl) rfl ?_
  refine j_aload_n (i := 0) (t := 5) C d_V_init_4 rfl rfl (by first | exact jrv_r | exact jrv_n | exact jrv_f) rfl ?_
  refine j_iload_n (i := 1) (t := 6) C d_V_init_5 rfl rfl rfl ?_
  refine j_putF (t := 9) C hnm fp_V_7 d_V_init_6 ha rfl rfl (Nat.le_of_ble_eq_true rfl) rfl ?_
  have ha1 := jh_us (e := eO cV [.int ty, .long 0, .null]) ha
  refine j_aload_n (i := 0) (t := 10) C d_V_init_9 rfl rfl (by first | exact jrv_r | exact jrv_n | exact jrv_f) rfl ?_
  refine j_lload_n (i := 2) (t := 11) C d_V_init_10 rfl rfl rfl ?_
  refine j_putF (t := 14) C hnm fp_V_13 d_V_init_11 ha1 rfl rfl (Nat.le_of_ble_eq_true rfl) rfl ?_
  have ha2 := jh_us (e := eO cV [.int ty, .long x, .null]) ha1
  refine j_aload_n (i := 0) (t := 15) C d_V_init_14 rfl rfl (by first | exact jrv_r | exact jrv_n | exact jrv_f) rfl ?_
  refine j_aload (t := 17) C d_V_init_15 rfl (by first | exact jrv_r | exact jrv_n | exact jrv_f) rfl ?_
  refine j_putF (t := 20) C hnm fp_V_17 d_V_init_17 ha2 rfl rfl (Nat.le_of_ble_eq_true rfl) rfl ?_
  exact j_vret C d_V_init_20 (⟨rfl, by rw [ju_ju, ju_ju]; rfl⟩) (by omega) (by omega)
set_option maxHeartbeats 4000000 in
set_option maxRecDepth 100000 in
/-- Value.order: the sign of the order of two values -/
theorem c_V_order (l : Launch) (a b : Nat) (x y : jv) : MC l y_V_order b_V_order 4 (some .int) 0 0 0
    (fun G w av => av = [.ref a, .ref b] ∧ isV G w a x ∧ isV G w b y)
    (fun G w av r w' => w' = w ∧ ∃ i, r = some (.int i) ∧ sg i (vc x y)) := by
  refine MC.of 99 (by decide) ?_
  intro X w av hl C hnm hp
  obtain ⟨rfl, ⟨ta, ha, hta⟩, ⟨tb, hb, htb⟩⟩ := hp
  obtain ⟨hxl, -⟩ := id hta
  obtain ⟨hyl, -⟩ := id htb
  refine ⟨[(0, _), (1, _)], rfl, Nat.le_of_ble_eq_true rfl, rfl, ?_⟩
  have tail : ∀ (i : Nat), i ≤ x.2.2.length → i ≤ y.2.2.length → (x.2.2.length ≤ i ∨ y.2.2.length ≤ i) → tc (x.2.2.drop i) (y.2.2.drop i) = tc x.2.2 y.2.2 → J X (4, 99) (jQ X (fun r w' => w' = w ∧ ∃ i, r = some (.int i) ∧ sg i (vc x y)) 0 0) w 0 0 54 [(0, .ref a), (1, .ref b), (2, .int (nI i))] [] := by
    intro i hi1 hi2 hi3 htc
    have hte := tc_end hi1 hi2 hi3
    rw [htc] at hte
    refine j_aload_n (i := 0) (t := 55) C d_V_order_54 rfl rfl (by first | exact jrv_r | exact jrv_n | exact jrv_f) rfl ?_
    refine j_get (t := 58) C fl_V_17 d_V_order_55 (by assumption) (by first | rfl | assumption) rfl ?_
    refine j_tlen (t := 59) C d_V_order_58 hta rfl ?_
    refine j_aload_n (i := 1) (t := 60) C d_V_order_59 rfl rfl (by first | exact jrv_r | exact jrv_n | exact jrv_f) rfl ?_
    refine j_get (t := 63) C fl_V_17 d_V_order_60 (by assumption) (by first | rfl | assumption) rfl ?_
    refine j_tlen (t := 64) C d_V_order_63 htb rfl ?_
    refine j_icmp_eq (tgt := 79) (t := 67) C d_V_order_64 (by decide) rfl (fun h64 => ?_) (fun h64 => ?_)
    · refine j_aload_n (i := 0) (t := 80) C d_V_order_79 rfl rfl (by first | exact jrv_r | exact jrv_n | exact jrv_f) rfl ?_
      refine j_get (t := 83) C fl_V_13 d_V_order_80 (by assumption) (by first | rfl | assumption) rfl ?_
      refine j_aload_n (i := 1) (t := 84) C d_V_order_83 rfl rfl (by first | exact jrv_r | exact jrv_n | exact jrv_f) rfl ?_
      refine j_get (t := 87) C fl_V_13 d_V_order_84 (by assumption) (by first | rfl | assumption) rfl ?_
      refine j_lcmp (t := 88) C d_V_order_87 rfl ?_
      refine j_if_ge (tgt := 95) (t := 91) C d_V_order_88 (by decide) rfl (fun h88 => ?_) (fun h88 => ?_)
      · refine j_aload_n (i := 0) (t := 96) C d_V_order_95 rfl rfl (by first | exact jrv_r | exact jrv_n | exact jrv_f) rfl ?_
        refine j_get (t := 99) C fl_V_13 d_V_order_96 (by assumption) (by first | rfl | assumption) rfl ?_
        refine j_aload_n (i := 1) (t := 100) C d_V_order_99 rfl rfl (by first | exact jrv_r | exact jrv_n | exact jrv_f) rfl ?_
        refine j_get (t := 103) C fl_V_13 d_V_order_100 (by assumption) (by first | rfl | assumption) rfl ?_
        refine j_lcmp (t := 104) C d_V_order_103 rfl ?_
        refine j_if_le (tgt := 111) (t := 107) C d_V_order_104 (by decide) rfl (fun h104 => ?_) (fun h104 => ?_)
        · refine j_iconst (x := 0) (t := 112) C d_V_order_111 rfl rfl ?_
          exact j_iret C d_V_order_112 rfl (⟨rfl, _, rfl, by first | exact order_num_lt (hte.2.mpr (order_leneq hxl hyl h64)) h88 | exact order_num_gt (hte.2.mpr (order_leneq hxl hyl h64)) h88 h104 | exact order_num_eq (hte.2.mpr (order_leneq hxl hyl h64)) h88 h104⟩) (by omega) (by omega)
        · refine j_iconst (x := 1) (t := 108) C d_V_order_107 rfl rfl ?_
          refine j_goto (tgt := 112) C d_V_order_108 (by decide) ?_
          exact j_iret C d_V_order_112 rfl (⟨rfl, _, rfl, by first | exact order_num_lt (hte.2.mpr (order_leneq hxl hyl h64)) h88 | exact order_num_gt (hte.2.mpr (order_leneq hxl hyl h64)) h88 h104 | exact order_num_eq (hte.2.mpr (order_leneq hxl hyl h64)) h88 h104⟩) (by omega) (by omega)
      · refine j_iconst (x := (-1)) (t := 92) C d_V_order_91 rfl rfl ?_
        refine j_goto (tgt := 112) C d_V_order_92 (by decide) ?_
        exact j_iret C d_V_order_112 rfl (⟨rfl, _, rfl, by first | exact order_num_lt (hte.2.mpr (order_leneq hxl hyl h64)) h88 | exact order_num_gt (hte.2.mpr (order_leneq hxl hyl h64)) h88 h104 | exact order_num_eq (hte.2.mpr (order_leneq hxl hyl h64)) h88 h104⟩) (by omega) (by omega)
    · refine j_aload_n (i := 0) (t := 68) C d_V_order_67 rfl rfl (by first | exact jrv_r | exact jrv_n | exact jrv_f) rfl ?_
      refine j_get (t := 71) C fl_V_17 d_V_order_68 (by assumption) (by first | rfl | assumption) rfl ?_
      refine j_tlen (t := 72) C d_V_order_71 hta rfl ?_
      refine j_aload_n (i := 1) (t := 73) C d_V_order_72 rfl rfl (by first | exact jrv_r | exact jrv_n | exact jrv_f) rfl ?_
      refine j_get (t := 76) C fl_V_17 d_V_order_73 (by assumption) (by first | rfl | assumption) rfl ?_
      refine j_tlen (t := 77) C d_V_order_76 htb rfl ?_
      refine j_isub (t := 78) C d_V_order_77 rfl ?_
      exact j_iret C d_V_order_78 rfl (⟨rfl, _, rfl, order_len hxl hyl h64 hte⟩) (by omega) (by omega)
  have loop : ∀ (m i : Nat), x.2.2.length + 1 ≤ i + m → i ≤ x.2.2.length → i ≤ y.2.2.length → tc (x.2.2.drop i) (y.2.2.drop i) = tc x.2.2 y.2.2 → J X (4, 99) (jQ X (fun r w' => w' = w ∧ ∃ i, r = some (.int i) ∧ sg i (vc x y)) 0 0) w 0 0 2 [(0, .ref a), (1, .ref b), (2, .int (nI i))] [] := by
    intro m
    induction m with
    | zero => intro i h1 h2; omega
    | succ m ih =>
      intro i hm hi1 hi2 htc
      refine j_iload_n (i := 2) (t := 3) C d_V_order_2 rfl rfl rfl ?_
      refine j_aload_n (i := 0) (t := 4) C d_V_order_3 rfl rfl (by first | exact jrv_r | exact jrv_n | exact jrv_f) rfl ?_
      refine j_get (t := 7) C fl_V_17 d_V_order_4 (by assumption) (by first | rfl | assumption) rfl ?_
      refine j_tlen (t := 8) C d_V_order_7 hta rfl ?_
      refine j_icmp_ge (tgt := 54) (t := 11) C d_V_order_8 (by decide) rfl (fun h8 => ?_) (fun h8 => ?_)
      · first | exact tail i hi1 hi2 (Or.inl ((nI_leI (by omega) (by omega)).mp h8)) htc | exact tail i hi1 hi2 (Or.inr ((nI_leI (by omega) (by omega)).mp h17)) htc
      · have hi3 : i < x.2.2.length := by rcases Nat.lt_or_ge i x.2.2.length with q | q; exact q; exact absurd ((nI_leI (by omega) (by omega)).mpr q) h8
        refine j_iload_n (i := 2) (t := 12) C d_V_order_11 rfl rfl rfl ?_
        refine j_aload_n (i := 1) (t := 13) C d_V_order_12 rfl rfl (by first | exact jrv_r | exact jrv_n | exact jrv_f) rfl ?_
        refine j_get (t := 16) C fl_V_17 d_V_order_13 (by assumption) (by first | rfl | assumption) rfl ?_
        refine j_tlen (t := 17) C d_V_order_16 htb rfl ?_
        refine j_icmp_ge (tgt := 54) (t := 20) C d_V_order_17 (by decide) rfl (fun h17 => ?_) (fun h17 => ?_)
        · first | exact tail i hi1 hi2 (Or.inl ((nI_leI (by omega) (by omega)).mp h8)) htc | exact tail i hi1 hi2 (Or.inr ((nI_leI (by omega) (by omega)).mp h17)) htc
        · have hi4 : i < y.2.2.length := by rcases Nat.lt_or_ge i y.2.2.length with q | q; exact q; exact absurd ((nI_leI (by omega) (by omega)).mpr q) h17
          refine j_aload_n (i := 0) (t := 21) C d_V_order_20 rfl rfl (by first | exact jrv_r | exact jrv_n | exact jrv_f) rfl ?_
          refine j_get (t := 24) C fl_V_17 d_V_order_21 (by assumption) (by first | rfl | assumption) rfl ?_
          refine j_iload_n (i := 2) (t := 25) C d_V_order_24 rfl rfl rfl ?_
          refine j_tld (t := 26) C d_V_order_25 hta hi3 rfl (fun u hu => ?_)
          refine j_sipush (x := 255) (t := 29) C d_V_order_26 rfl rfl ?_
          refine j_iand (t := 30) C d_V_order_29 rfl ?_
          refine j_aload_n (i := 1) (t := 31) C d_V_order_30 rfl rfl (by first | exact jrv_r | exact jrv_n | exact jrv_f) rfl ?_
          refine j_get (t := 34) C fl_V_17 d_V_order_31 (by assumption) (by first | rfl | assumption) rfl ?_
          refine j_iload_n (i := 2) (t := 35) C d_V_order_34 rfl rfl rfl ?_
          refine j_tld (t := 36) C d_V_order_35 htb hi4 rfl (fun u2 hu2 => ?_)
          refine j_sipush (x := 255) (t := 39) C d_V_order_36 rfl rfl ?_
          refine j_iand (t := 40) C d_V_order_39 rfl ?_
          refine j_isub (t := 41) C d_V_order_40 rfl ?_
          rw [ub_and, ub_and, hu, hu2]
          have hua : x.2.2.getD i 0 < 256 := hu ▸ ub_lt u
          have hub : y.2.2.getD i 0 < 256 := hu2 ▸ ub_lt u2
          refine j_istore_n (i := 3) (t := 42) (lv' := [(0, _), (1, _), (2, _), (3, _)]) C d_V_order_41 rfl (by decide) (by decide) rfl rfl ?_
          refine j_iload_n (i := 3) (t := 43) C d_V_order_42 rfl rfl rfl ?_
          refine j_if_eq (tgt := 48) (t := 46) C d_V_order_43 (by decide) rfl (fun h43 => ?_) (fun h43 => ?_)
          · refine j_iinc (y := _ + 1) (t := 51) (lv' := [(0, _), (1, _), (2, _), (3, _)]) C d_V_order_48 rfl rfl (by decide) (by decide) rfl rfl ?_
            refine j_goto (tgt := 2) C d_V_order_51 (by decide) ?_
            refine j_pick [0, 1, 2] rfl ?_
            rw [nI_1]
            exact ih (i + 1) (by omega) (by omega) (by omega) (order_next hi3 hi4 hua hub htc h43)
          · refine j_iload_n (i := 3) (t := 47) C d_V_order_46 rfl rfl rfl ?_
            exact j_iret C d_V_order_47 rfl (⟨rfl, _, rfl, order_byte hi3 hi4 hua hub htc h43⟩) (by omega) (by omega)
  refine j_iconst (x := 0) (t := 1) C d_V_order_0 rfl rfl ?_
  refine j_istore_n (i := 2) (t := 2) (lv' := [(0, _), (1, _), (2, _)]) C d_V_order_1 rfl (by decide) (by decide) rfl rfl ?_
  exact loop (x.2.2.length + 1) 0 (by omega) (Nat.zero_le _) (Nat.zero_le _) rfl
