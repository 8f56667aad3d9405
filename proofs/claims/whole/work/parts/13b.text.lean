set_option maxHeartbeats 1000000 in
set_option maxRecDepth 100000 in
theorem c_X1_readOrder (l : Launch) (D : va_G) (q : Nat → Nat) (cI cJ : ClassId) (T : TS) (o : Nat) (ho : o < 34) : kV l yX1_readOrder wsX1_readOrder ({ frames := 4, cells := 0, slots := 0, locals := 84 } : Room) D [(cI, .int), (cJ, .long)] [.ref (q 0), .int (nI o)] (txW q cI T) (txW q cI (t_order T o)) := by
  refine kBody.met (cc := cX1_readOrder) (maxL := 5) (ret := none) (by decide) rfl (Nat.le_of_ble_eq_true rfl) ?_
  intro p9 e9 s9 m9 below meth c9 A9 ls hx hb hr hml hts hown hlk hK hP hD hA hl
  have hown : s9.vm.findClass RX1 = some m9.cls := hown
  have inX1 : ∀ w ∈ wsX10, w ∈ wsX1_readOrder := fun w h => List.mem_cons_of_mem _ (List.mem_append_right _ (h))
  have hS : va_S A9 s9.heap s9.heap [] := va_S.rf
  have hl : lv_has ls 5 [(0, .ref (q 0)), (1, .int (nI o))] := hl
  refine lv_aload_n hx hb dX1_readOrder_0 rfl (lv_at hl 0 rfl) ?_
  refine k_calli (a := []) (z := []) (wc := txW q cI T) (wc' := txW q cI T) (w' := txW q cI T) (va_runV (As := []) (rest := []) ⟨hx, hb, hml, hown, hts⟩ (c_X1_peek l D q cI cJ T  _) (cwV 0 hts gX1_readOrder_X1_peek rfl rfl rfl (by decide +kernel) ⟨Nat.le_of_ble_eq_true rfl, Nat.le_of_ble_eq_true rfl⟩) ⟨kB_blind, va_recv hK hP (ci := 1) (q0 := 0) rfl rfl, k_pre (a := []) (z := []) (k_w0 _) hK hP hD⟩ rfl rfl hl.1 rfl (lv_room (Nat.le_of_ble_eq_true rfl)) dX1_readOrder_1 ⟨Nat.zero_le _, Nat.zero_le _⟩) (k_w0 _) (k_w0 _) (txW_ad _ _ _ _) hP hD hS hA (fun H locs hP hD hS => ?_)
  refine lv_istore_n (lv' := [(2, .int (t_peek T)), (0, .ref (q 0)), (1, .int (nI o))]) hx hb dX1_readOrder_4 rfl hl (by decide) rfl (fun ls hl => ?_)
  refine lv_iconst (v := (-1)) hx hb dX1_readOrder_5 (by decide) ?_
  refine lv_istore_n (lv' := [(3, .int (-1)), (2, .int (t_peek T)), (0, .ref (q 0)), (1, .int (nI o))]) hx hb dX1_readOrder_6 rfl hl (by decide) rfl (fun ls hl => ?_)
  refine lv_iconst (v := (-1)) hx hb dX1_readOrder_7 (by decide) ?_
  refine lv_istore (lv' := [(4, .int (-1)), (3, .int (-1)), (2, .int (t_peek T)), (0, .ref (q 0)), (1, .int (nI o))]) hx hb dX1_readOrder_8 hl (by decide) rfl (fun ls hl => ?_)
  refine lv_aload_n hx hb dX1_readOrder_10 rfl (lv_at hl 3 rfl) ?_
  refine lv_dup hx hb dX1_readOrder_11 rfl ?_
  refine va_get (D := D) (ci := 1) (v := .int (T.1 2)) (C := RX1) (T := TX1) (N := 6) hx hb hts inX1 hown hK hP 0 rfl rfl 4 (by decide) (hts (.fieldLink RX1 22 "PumpOaths$OrderText" "at" "I") (List.mem_of_getElem? (i := 1) rfl)) (fun _ h9 => h9) rfl dX1_readOrder_12 ?_
  refine lv_iconst (v := 1) hx hb dX1_readOrder_15 (by decide) ?_
  refine lv_iadd hx hb dX1_readOrder_16 ?_
  refine va_put (D := D) (ci := 1) (v := .int ((T.1 2) + 1)) (ty := .int) (C := RX1) (T := TX1) (N := 6) hx hb hts inX1 tyX1 tyX1_ok nmX1 hown hK hP hD hS 0 rfl rfl 4 (by decide) (hts (.fieldLink RX1 22 "PumpOaths$OrderText" "at" "I") (List.mem_of_getElem? (i := 1) rfl)) (fun _ h9 => h9) rfl (by decide +kernel) rfl rfl (Nat.le_of_ble_eq_true rfl) dX1_readOrder_17 (fun H locs hP hD hS => ?_)
  have hP : va_P D vwCl (txW q cI (t_setI T 2 ((T.1 2) + 1))) H := hP
  have hD : va_D A9 (txW q cI (t_setI T 2 ((T.1 2) + 1))) := hD
  refine lv_iload_n hx hb dX1_readOrder_20 rfl (lv_at hl 2 rfl) ?_
  by_cases c_21_0 : t_peek T = 100
  · refine lv_lookup (off := 97) (tgt := 118) hx hb dX1_readOrder_21 (by decide) (by rw [c_21_0]; decide) (by decide) ?_
    refine lv_aload_n hx hb dX1_readOrder_118 rfl (lv_at hl 3 rfl) ?_
    refine k_calli (a := []) (z := []) (wc := txW q cI (t_setI T 2 ((T.1 2) + 1))) (wc' := txW q cI (t_hour (t_setI T 2 ((T.1 2) + 1)))) (w' := txW q cI (t_hour (t_setI T 2 ((T.1 2) + 1)))) (va_runV (As := []) (rest := []) ⟨hx, hb, hml, hown, hts⟩ (c_X1_readHour l D q cI cJ (t_setI T 2 ((T.1 2) + 1))  _) (cwV 0 hts gX1_readOrder_X1_readHour rfl rfl rfl (by decide +kernel) ⟨Nat.le_of_ble_eq_true rfl, Nat.le_of_ble_eq_true rfl⟩) ⟨kB_blind, va_recv hK hP (ci := 1) (q0 := 0) rfl rfl, k_pre (a := []) (z := []) (k_w0 _) hK hP hD⟩ rfl rfl hl.1 rfl (lv_room (Nat.le_of_ble_eq_true rfl)) dX1_readOrder_119 ⟨Nat.zero_le _, Nat.zero_le _⟩) (k_w0 _) (k_w0 _) (txW_ad _ _ _ _) hP hD hS hA (fun H locs hP hD hS => ?_)
    obtain ⟨T_2, hT_2⟩ : ∃ T9, T9 = t_hour (t_setI T 2 ((T.1 2) + 1)) := ⟨_, rfl⟩
    rw [← hT_2] at hP hD
    refine lv_istore_n (lv' := [(3, .int (t_hourR (t_setI T 2 ((T.1 2) + 1)))), (4, .int (-1)), (2, .int (t_peek T)), (0, .ref (q 0)), (1, .int (nI o))]) hx hb dX1_readOrder_122 rfl hl (by decide) rfl (fun ls hl => ?_)
    refine lv_aload_n hx hb dX1_readOrder_123 rfl (lv_at hl 3 rfl) ?_
    refine lv_bipush (v := 61) hx hb dX1_readOrder_124 (by decide) ?_
    refine k_callv (a := []) (z := []) (wc := txW q cI T_2) (wc' := txW q cI (t_exp T_2 61)) (w' := txW q cI (t_exp T_2 61)) (va_runV (As := [.int 61]) (rest := []) ⟨hx, hb, hml, hown, hts⟩ (c_X1_expect l D q cI cJ T_2 61 _) (cwV 1 hts gX1_readOrder_X1_expect rfl rfl rfl (by decide +kernel) ⟨Nat.le_of_ble_eq_true rfl, Nat.le_of_ble_eq_true rfl⟩) ⟨kB_blind, va_recv hK hP (ci := 1) (q0 := 0) rfl rfl, k_pre (a := []) (z := []) (k_w0 _) hK hP hD⟩ rfl rfl hl.1 rfl (lv_room (Nat.le_of_ble_eq_true rfl)) dX1_readOrder_126 ⟨Nat.zero_le _, Nat.zero_le _⟩) (k_w0 _) (k_w0 _) (txW_ad _ _ _ _) hP hD hS hA (fun H locs hP hD hS => ?_)
    obtain ⟨T_3, hT_3⟩ : ∃ T9, T9 = t_exp T_2 61 := ⟨_, rfl⟩
    rw [← hT_3] at hP hD
    refine lv_aload_n hx hb dX1_readOrder_129 rfl (lv_at hl 3 rfl) ?_
    refine lv_iconst (v := 4) hx hb dX1_readOrder_130 (by decide) ?_
    refine lv_iconst (v := 0) hx hb dX1_readOrder_131 (by decide) ?_
    refine lv_sipush (v := 1000) hx hb dX1_readOrder_132 (by decide) ?_
    refine k_calli (a := []) (z := []) (wc := txW q cI T_3) (wc' := txW q cI (t_num T_3 4 0 1000)) (w' := txW q cI (t_num T_3 4 0 1000)) (va_runV (As := [.int 4, .int 0, .int 1000]) (rest := []) ⟨hx, hb, hml, hown, hts⟩ (c_X1_readNumber l D q cI cJ T_3 4 0 1000 4 rfl _) (cwV 3 hts gX1_readOrder_X1_readNumber rfl rfl rfl (by decide +kernel) ⟨Nat.le_of_ble_eq_true rfl, Nat.le_of_ble_eq_true rfl⟩) ⟨kB_blind, va_recv hK hP (ci := 1) (q0 := 0) rfl rfl, k_pre (a := []) (z := []) (k_w0 _) hK hP hD⟩ rfl rfl hl.1 rfl (lv_room (Nat.le_of_ble_eq_true rfl)) dX1_readOrder_135 ⟨Nat.zero_le _, Nat.zero_le _⟩) (k_w0 _) (k_w0 _) (txW_ad _ _ _ _) hP hD hS hA (fun H locs hP hD hS => ?_)
    obtain ⟨T_4, hT_4⟩ : ∃ T9, T9 = t_num T_3 4 0 1000 := ⟨_, rfl⟩
    rw [← hT_4] at hP hD
    refine lv_istore (lv' := [(4, .int (t_numR T_3 4)), (3, .int (t_hourR (t_setI T 2 ((T.1 2) + 1)))), (2, .int (t_peek T)), (0, .ref (q 0)), (1, .int (nI o))]) hx hb dX1_readOrder_138 hl (by decide) rfl (fun ls hl => ?_)
    refine lv_goto (tgt := 153) hx hb dX1_readOrder_140 (by decide) ?_
    refine lv_aload_n hx hb dX1_readOrder_153 rfl (lv_at hl 3 rfl) ?_
    refine lv_bipush (v := 59) hx hb dX1_readOrder_154 (by decide) ?_
    refine k_callv (a := []) (z := []) (wc := txW q cI T_4) (wc' := txW q cI (t_exp T_4 59)) (w' := txW q cI (t_exp T_4 59)) (va_runV (As := [.int 59]) (rest := []) ⟨hx, hb, hml, hown, hts⟩ (c_X1_expect l D q cI cJ T_4 59 _) (cwV 1 hts gX1_readOrder_X1_expect rfl rfl rfl (by decide +kernel) ⟨Nat.le_of_ble_eq_true rfl, Nat.le_of_ble_eq_true rfl⟩) ⟨kB_blind, va_recv hK hP (ci := 1) (q0 := 0) rfl rfl, k_pre (a := []) (z := []) (k_w0 _) hK hP hD⟩ rfl rfl hl.1 rfl (lv_room (Nat.le_of_ble_eq_true rfl)) dX1_readOrder_156 ⟨Nat.zero_le _, Nat.zero_le _⟩) (k_w0 _) (k_w0 _) (txW_ad _ _ _ _) hP hD hS hA (fun H locs hP hD hS => ?_)
    obtain ⟨T_5, hT_5⟩ : ∃ T9, T9 = t_exp T_4 59 := ⟨_, rfl⟩
    rw [← hT_5] at hP hD
    refine lv_aload_n hx hb dX1_readOrder_159 rfl (lv_at hl 3 rfl) ?_
    refine lv_iload_n hx hb dX1_readOrder_160 rfl (lv_at hl 4 rfl) ?_
    refine lv_iload_n hx hb dX1_readOrder_161 rfl (lv_at hl 2 rfl) ?_
    refine lv_iload_n hx hb dX1_readOrder_162 rfl (lv_at hl 1 rfl) ?_
    refine lv_iload hx hb dX1_readOrder_163 (lv_at hl 0 rfl) ?_
    refine k_callv (a := []) (z := []) (wc := txW q cI T_5) (wc' := txW q cI (t_keep T_5 o (t_peek T) (t_hourR (t_setI T 2 ((T.1 2) + 1))) (t_numR T_3 4))) (w' := txW q cI (t_keep T_5 o (t_peek T) (t_hourR (t_setI T 2 ((T.1 2) + 1))) (t_numR T_3 4))) (va_runV (As := [.int (nI o), .int (t_peek T), .int (t_hourR (t_setI T 2 ((T.1 2) + 1))), .int (t_numR T_3 4)]) (rest := []) ⟨hx, hb, hml, hown, hts⟩ (c_X1_keep l D q cI cJ T_5 o (t_peek T) (t_hourR (t_setI T 2 ((T.1 2) + 1))) (t_numR T_3 4) ho _) (cwV 4 hts gX1_readOrder_X1_keep rfl rfl rfl (by decide +kernel) ⟨Nat.le_of_ble_eq_true rfl, Nat.le_of_ble_eq_true rfl⟩) ⟨kB_blind, va_recv hK hP (ci := 1) (q0 := 0) rfl rfl, k_pre (a := []) (z := []) (k_w0 _) hK hP hD⟩ rfl rfl hl.1 rfl (lv_room (Nat.le_of_ble_eq_true rfl)) dX1_readOrder_165 ⟨Nat.zero_le _, Nat.zero_le _⟩) (k_w0 _) (k_w0 _) (txW_ad _ _ _ _) hP hD hS hA (fun H locs hP hD hS => ?_)
    obtain ⟨T_6, hT_6⟩ : ∃ T9, T9 = t_keep T_5 o (t_peek T) (t_hourR (t_setI T 2 ((T.1 2) + 1))) (t_numR T_3 4) := ⟨_, rfl⟩
    rw [← hT_6] at hP hD
    exact k_vret hx hb hr hlk hP hS dX1_readOrder_168 (k_P (congrArg (fun T9 => txW q cI T9) (by rw [hT_6, hT_5, hT_4, hT_3, hT_2]; (rw [t_order, t_at1, t_body, if_pos c_21_0]) <;> rfl)))
  by_cases c_21_6 : t_peek T = 109
  · refine lv_lookup (off := 51) (tgt := 72) hx hb dX1_readOrder_21 (by decide) (by rw [c_21_6]; decide) (by decide) ?_
    refine lv_aload_n hx hb dX1_readOrder_72 rfl (lv_at hl 3 rfl) ?_
    refine lv_iconst (v := 3) hx hb dX1_readOrder_73 (by decide) ?_
    refine lv_iconst (v := 1) hx hb dX1_readOrder_74 (by decide) ?_
    refine lv_sipush (v := 720) hx hb dX1_readOrder_75 (by decide) ?_
    refine k_calli (a := []) (z := []) (wc := txW q cI (t_setI T 2 ((T.1 2) + 1))) (wc' := txW q cI (t_num (t_setI T 2 ((T.1 2) + 1)) 3 1 720)) (w' := txW q cI (t_num (t_setI T 2 ((T.1 2) + 1)) 3 1 720)) (va_runV (As := [.int 3, .int 1, .int 720]) (rest := []) ⟨hx, hb, hml, hown, hts⟩ (c_X1_readNumber l D q cI cJ (t_setI T 2 ((T.1 2) + 1)) 3 1 720 3 rfl _) (cwV 3 hts gX1_readOrder_X1_readNumber rfl rfl rfl (by decide +kernel) ⟨Nat.le_of_ble_eq_true rfl, Nat.le_of_ble_eq_true rfl⟩) ⟨kB_blind, va_recv hK hP (ci := 1) (q0 := 0) rfl rfl, k_pre (a := []) (z := []) (k_w0 _) hK hP hD⟩ rfl rfl hl.1 rfl (lv_room (Nat.le_of_ble_eq_true rfl)) dX1_readOrder_78 ⟨Nat.zero_le _, Nat.zero_le _⟩) (k_w0 _) (k_w0 _) (txW_ad _ _ _ _) hP hD hS hA (fun H locs hP hD hS => ?_)
    obtain ⟨T_8, hT_8⟩ : ∃ T9, T9 = t_num (t_setI T 2 ((T.1 2) + 1)) 3 1 720 := ⟨_, rfl⟩
    rw [← hT_8] at hP hD
    refine lv_istore (lv' := [(4, .int (t_numR (t_setI T 2 ((T.1 2) + 1)) 3)), (3, .int (-1)), (2, .int (t_peek T)), (0, .ref (q 0)), (1, .int (nI o))]) hx hb dX1_readOrder_81 hl (by decide) rfl (fun ls hl => ?_)
    refine lv_goto (tgt := 153) hx hb dX1_readOrder_83 (by decide) ?_
    refine lv_aload_n hx hb dX1_readOrder_153 rfl (lv_at hl 3 rfl) ?_
    refine lv_bipush (v := 59) hx hb dX1_readOrder_154 (by decide) ?_
    refine k_callv (a := []) (z := []) (wc := txW q cI T_8) (wc' := txW q cI (t_exp T_8 59)) (w' := txW q cI (t_exp T_8 59)) (va_runV (As := [.int 59]) (rest := []) ⟨hx, hb, hml, hown, hts⟩ (c_X1_expect l D q cI cJ T_8 59 _) (cwV 1 hts gX1_readOrder_X1_expect rfl rfl rfl (by decide +kernel) ⟨Nat.le_of_ble_eq_true rfl, Nat.le_of_ble_eq_true rfl⟩) ⟨kB_blind, va_recv hK hP (ci := 1) (q0 := 0) rfl rfl, k_pre (a := []) (z := []) (k_w0 _) hK hP hD⟩ rfl rfl hl.1 rfl (lv_room (Nat.le_of_ble_eq_true rfl)) dX1_readOrder_156 ⟨Nat.zero_le _, Nat.zero_le _⟩) (k_w0 _) (k_w0 _) (txW_ad _ _ _ _) hP hD hS hA (fun H locs hP hD hS => ?_)
    obtain ⟨T_9, hT_9⟩ : ∃ T9, T9 = t_exp T_8 59 := ⟨_, rfl⟩
    rw [← hT_9] at hP hD
    refine lv_aload_n hx hb dX1_readOrder_159 rfl (lv_at hl 3 rfl) ?_
    refine lv_iload_n hx hb dX1_readOrder_160 rfl (lv_at hl 4 rfl) ?_
    refine lv_iload_n hx hb dX1_readOrder_161 rfl (lv_at hl 2 rfl) ?_
    refine lv_iload_n hx hb dX1_readOrder_162 rfl (lv_at hl 1 rfl) ?_
    refine lv_iload hx hb dX1_readOrder_163 (lv_at hl 0 rfl) ?_
    refine k_callv (a := []) (z := []) (wc := txW q cI T_9) (wc' := txW q cI (t_keep T_9 o (t_peek T) (-1) (t_numR (t_setI T 2 ((T.1 2) + 1)) 3))) (w' := txW q cI (t_keep T_9 o (t_peek T) (-1) (t_numR (t_setI T 2 ((T.1 2) + 1)) 3))) (va_runV (As := [.int (nI o), .int (t_peek T), .int (-1), .int (t_numR (t_setI T 2 ((T.1 2) + 1)) 3)]) (rest := []) ⟨hx, hb, hml, hown, hts⟩ (c_X1_keep l D q cI cJ T_9 o (t_peek T) (-1) (t_numR (t_setI T 2 ((T.1 2) + 1)) 3) ho _) (cwV 4 hts gX1_readOrder_X1_keep rfl rfl rfl (by decide +kernel) ⟨Nat.le_of_ble_eq_true rfl, Nat.le_of_ble_eq_true rfl⟩) ⟨kB_blind, va_recv hK hP (ci := 1) (q0 := 0) rfl rfl, k_pre (a := []) (z := []) (k_w0 _) hK hP hD⟩ rfl rfl hl.1 rfl (lv_room (Nat.le_of_ble_eq_true rfl)) dX1_readOrder_165 ⟨Nat.zero_le _, Nat.zero_le _⟩) (k_w0 _) (k_w0 _) (txW_ad _ _ _ _) hP hD hS hA (fun H locs hP hD hS => ?_)
    obtain ⟨T_10, hT_10⟩ : ∃ T9, T9 = t_keep T_9 o (t_peek T) (-1) (t_numR (t_setI T 2 ((T.1 2) + 1)) 3) := ⟨_, rfl⟩
    rw [← hT_10] at hP hD
    exact k_vret hx hb hr hlk hP hS dX1_readOrder_168 (k_P (congrArg (fun T9 => txW q cI T9) (by rw [hT_10, hT_9, hT_8]; (rw [t_order, t_at1, t_body, if_neg c_21_0, if_pos c_21_6]) <;> rfl)))
  by_cases c_21_10 : t_peek T = 111
  · refine lv_lookup (off := 65) (tgt := 86) hx hb dX1_readOrder_21 (by decide) (by rw [c_21_10]; decide) (by decide) ?_
    refine lv_aload_n hx hb dX1_readOrder_86 rfl (lv_at hl 3 rfl) ?_
    refine k_calli (a := []) (z := []) (wc := txW q cI (t_setI T 2 ((T.1 2) + 1))) (wc' := txW q cI (t_pump (t_setI T 2 ((T.1 2) + 1)))) (w' := txW q cI (t_pump (t_setI T 2 ((T.1 2) + 1)))) (va_runV (As := []) (rest := []) ⟨hx, hb, hml, hown, hts⟩ (c_X1_readPump l D q cI cJ (t_setI T 2 ((T.1 2) + 1))  _) (cwV 0 hts gX1_readOrder_X1_readPump rfl rfl rfl (by decide +kernel) ⟨Nat.le_of_ble_eq_true rfl, Nat.le_of_ble_eq_true rfl⟩) ⟨kB_blind, va_recv hK hP (ci := 1) (q0 := 0) rfl rfl, k_pre (a := []) (z := []) (k_w0 _) hK hP hD⟩ rfl rfl hl.1 rfl (lv_room (Nat.le_of_ble_eq_true rfl)) dX1_readOrder_87 ⟨Nat.zero_le _, Nat.zero_le _⟩) (k_w0 _) (k_w0 _) (txW_ad _ _ _ _) hP hD hS hA (fun H locs hP hD hS => ?_)
    obtain ⟨T_12, hT_12⟩ : ∃ T9, T9 = t_pump (t_setI T 2 ((T.1 2) + 1)) := ⟨_, rfl⟩
    rw [← hT_12] at hP hD
    refine lv_istore_n (lv' := [(3, .int (t_peek (t_setI T 2 ((T.1 2) + 1)) - 48)), (4, .int (-1)), (2, .int (t_peek T)), (0, .ref (q 0)), (1, .int (nI o))]) hx hb dX1_readOrder_90 rfl hl (by decide) rfl (fun ls hl => ?_)
    refine lv_aload_n hx hb dX1_readOrder_91 rfl (lv_at hl 3 rfl) ?_
    refine lv_bipush (v := 61) hx hb dX1_readOrder_92 (by decide) ?_
    refine k_callv (a := []) (z := []) (wc := txW q cI T_12) (wc' := txW q cI (t_exp T_12 61)) (w' := txW q cI (t_exp T_12 61)) (va_runV (As := [.int 61]) (rest := []) ⟨hx, hb, hml, hown, hts⟩ (c_X1_expect l D q cI cJ T_12 61 _) (cwV 1 hts gX1_readOrder_X1_expect rfl rfl rfl (by decide +kernel) ⟨Nat.le_of_ble_eq_true rfl, Nat.le_of_ble_eq_true rfl⟩) ⟨kB_blind, va_recv hK hP (ci := 1) (q0 := 0) rfl rfl, k_pre (a := []) (z := []) (k_w0 _) hK hP hD⟩ rfl rfl hl.1 rfl (lv_room (Nat.le_of_ble_eq_true rfl)) dX1_readOrder_94 ⟨Nat.zero_le _, Nat.zero_le _⟩) (k_w0 _) (k_w0 _) (txW_ad _ _ _ _) hP hD hS hA (fun H locs hP hD hS => ?_)
    obtain ⟨T_13, hT_13⟩ : ∃ T9, T9 = t_exp T_12 61 := ⟨_, rfl⟩
    rw [← hT_13] at hP hD
    refine lv_aload_n hx hb dX1_readOrder_97 rfl (lv_at hl 3 rfl) ?_
    refine lv_iconst (v := 2) hx hb dX1_readOrder_98 (by decide) ?_
    refine lv_iconst (v := 1) hx hb dX1_readOrder_99 (by decide) ?_
    refine lv_bipush (v := 12) hx hb dX1_readOrder_100 (by decide) ?_
    refine k_calli (a := []) (z := []) (wc := txW q cI T_13) (wc' := txW q cI (t_num T_13 2 1 12)) (w' := txW q cI (t_num T_13 2 1 12)) (va_runV (As := [.int 2, .int 1, .int 12]) (rest := []) ⟨hx, hb, hml, hown, hts⟩ (c_X1_readNumber l D q cI cJ T_13 2 1 12 2 rfl _) (cwV 3 hts gX1_readOrder_X1_readNumber rfl rfl rfl (by decide +kernel) ⟨Nat.le_of_ble_eq_true rfl, Nat.le_of_ble_eq_true rfl⟩) ⟨kB_blind, va_recv hK hP (ci := 1) (q0 := 0) rfl rfl, k_pre (a := []) (z := []) (k_w0 _) hK hP hD⟩ rfl rfl hl.1 rfl (lv_room (Nat.le_of_ble_eq_true rfl)) dX1_readOrder_102 ⟨Nat.zero_le _, Nat.zero_le _⟩) (k_w0 _) (k_w0 _) (txW_ad _ _ _ _) hP hD hS hA (fun H locs hP hD hS => ?_)
    obtain ⟨T_14, hT_14⟩ : ∃ T9, T9 = t_num T_13 2 1 12 := ⟨_, rfl⟩
    rw [← hT_14] at hP hD
    refine lv_istore (lv' := [(4, .int (t_numR T_13 2)), (3, .int (t_peek (t_setI T 2 ((T.1 2) + 1)) - 48)), (2, .int (t_peek T)), (0, .ref (q 0)), (1, .int (nI o))]) hx hb dX1_readOrder_105 hl (by decide) rfl (fun ls hl => ?_)
    refine lv_goto (tgt := 153) hx hb dX1_readOrder_107 (by decide) ?_
    refine lv_aload_n hx hb dX1_readOrder_153 rfl (lv_at hl 3 rfl) ?_
    refine lv_bipush (v := 59) hx hb dX1_readOrder_154 (by decide) ?_
    refine k_callv (a := []) (z := []) (wc := txW q cI T_14) (wc' := txW q cI (t_exp T_14 59)) (w' := txW q cI (t_exp T_14 59)) (va_runV (As := [.int 59]) (rest := []) ⟨hx, hb, hml, hown, hts⟩ (c_X1_expect l D q cI cJ T_14 59 _) (cwV 1 hts gX1_readOrder_X1_expect rfl rfl rfl (by decide +kernel) ⟨Nat.le_of_ble_eq_true rfl, Nat.le_of_ble_eq_true rfl⟩) ⟨kB_blind, va_recv hK hP (ci := 1) (q0 := 0) rfl rfl, k_pre (a := []) (z := []) (k_w0 _) hK hP hD⟩ rfl rfl hl.1 rfl (lv_room (Nat.le_of_ble_eq_true rfl)) dX1_readOrder_156 ⟨Nat.zero_le _, Nat.zero_le _⟩) (k_w0 _) (k_w0 _) (txW_ad _ _ _ _) hP hD hS hA (fun H locs hP hD hS => ?_)
    obtain ⟨T_15, hT_15⟩ : ∃ T9, T9 = t_exp T_14 59 := ⟨_, rfl⟩
    rw [← hT_15] at hP hD
    refine lv_aload_n hx hb dX1_readOrder_159 rfl (lv_at hl 3 rfl) ?_
    refine lv_iload_n hx hb dX1_readOrder_160 rfl (lv_at hl 4 rfl) ?_
    refine lv_iload_n hx hb dX1_readOrder_161 rfl (lv_at hl 2 rfl) ?_
    refine lv_iload_n hx hb dX1_readOrder_162 rfl (lv_at hl 1 rfl) ?_
    refine lv_iload hx hb dX1_readOrder_163 (lv_at hl 0 rfl) ?_
    refine k_callv (a := []) (z := []) (wc := txW q cI T_15) (wc' := txW q cI (t_keep T_15 o (t_peek T) (t_peek (t_setI T 2 ((T.1 2) + 1)) - 48) (t_numR T_13 2))) (w' := txW q cI (t_keep T_15 o (t_peek T) (t_peek (t_setI T 2 ((T.1 2) + 1)) - 48) (t_numR T_13 2))) (va_runV (As := [.int (nI o), .int (t_peek T), .int (t_peek (t_setI T 2 ((T.1 2) + 1)) - 48), .int (t_numR T_13 2)]) (rest := []) ⟨hx, hb, hml, hown, hts⟩ (c_X1_keep l D q cI cJ T_15 o (t_peek T) (t_peek (t_setI T 2 ((T.1 2) + 1)) - 48) (t_numR T_13 2) ho _) (cwV 4 hts gX1_readOrder_X1_keep rfl rfl rfl (by decide +kernel) ⟨Nat.le_of_ble_eq_true rfl, Nat.le_of_ble_eq_true rfl⟩) ⟨kB_blind, va_recv hK hP (ci := 1) (q0 := 0) rfl rfl, k_pre (a := []) (z := []) (k_w0 _) hK hP hD⟩ rfl rfl hl.1 rfl (lv_room (Nat.le_of_ble_eq_true rfl)) dX1_readOrder_165 ⟨Nat.zero_le _, Nat.zero_le _⟩) (k_w0 _) (k_w0 _) (txW_ad _ _ _ _) hP hD hS hA (fun H locs hP hD hS => ?_)
    obtain ⟨T_16, hT_16⟩ : ∃ T9, T9 = t_keep T_15 o (t_peek T) (t_peek (t_setI T 2 ((T.1 2) + 1)) - 48) (t_numR T_13 2) := ⟨_, rfl⟩
    rw [← hT_16] at hP hD
    exact k_vret hx hb hr hlk hP hS dX1_readOrder_168 (k_P (congrArg (fun T9 => txW q cI T9) (by rw [hT_16, hT_15, hT_14, hT_13, hT_12]; (rw [t_order, t_at1, t_body, if_neg c_21_0, if_neg c_21_6, if_pos c_21_10]) <;> rfl)))
  by_cases c_21_16 : t_peek T = 120
  · refine lv_lookup (off := 89) (tgt := 110) hx hb dX1_readOrder_21 (by decide) (by rw [c_21_16]; decide) (by decide) ?_
    refine lv_aload_n hx hb dX1_readOrder_110 rfl (lv_at hl 3 rfl) ?_
    refine k_calli (a := []) (z := []) (wc := txW q cI (t_setI T 2 ((T.1 2) + 1))) (wc' := txW q cI (t_pump (t_setI T 2 ((T.1 2) + 1)))) (w' := txW q cI (t_pump (t_setI T 2 ((T.1 2) + 1)))) (va_runV (As := []) (rest := []) ⟨hx, hb, hml, hown, hts⟩ (c_X1_readPump l D q cI cJ (t_setI T 2 ((T.1 2) + 1))  _) (cwV 0 hts gX1_readOrder_X1_readPump rfl rfl rfl (by decide +kernel) ⟨Nat.le_of_ble_eq_true rfl, Nat.le_of_ble_eq_true rfl⟩) ⟨kB_blind, va_recv hK hP (ci := 1) (q0 := 0) rfl rfl, k_pre (a := []) (z := []) (k_w0 _) hK hP hD⟩ rfl rfl hl.1 rfl (lv_room (Nat.le_of_ble_eq_true rfl)) dX1_readOrder_111 ⟨Nat.zero_le _, Nat.zero_le _⟩) (k_w0 _) (k_w0 _) (txW_ad _ _ _ _) hP hD hS hA (fun H locs hP hD hS => ?_)
    obtain ⟨T_18, hT_18⟩ : ∃ T9, T9 = t_pump (t_setI T 2 ((T.1 2) + 1)) := ⟨_, rfl⟩
    rw [← hT_18] at hP hD
    refine lv_istore_n (lv' := [(3, .int (t_peek (t_setI T 2 ((T.1 2) + 1)) - 48)), (4, .int (-1)), (2, .int (t_peek T)), (0, .ref (q 0)), (1, .int (nI o))]) hx hb dX1_readOrder_114 rfl hl (by decide) rfl (fun ls hl => ?_)
    refine lv_goto (tgt := 153) hx hb dX1_readOrder_115 (by decide) ?_
    refine lv_aload_n hx hb dX1_readOrder_153 rfl (lv_at hl 3 rfl) ?_
    refine lv_bipush (v := 59) hx hb dX1_readOrder_154 (by decide) ?_
    refine k_callv (a := []) (z := []) (wc := txW q cI T_18) (wc' := txW q cI (t_exp T_18 59)) (w' := txW q cI (t_exp T_18 59)) (va_runV (As := [.int 59]) (rest := []) ⟨hx, hb, hml, hown, hts⟩ (c_X1_expect l D q cI cJ T_18 59 _) (cwV 1 hts gX1_readOrder_X1_expect rfl rfl rfl (by decide +kernel) ⟨Nat.le_of_ble_eq_true rfl, Nat.le_of_ble_eq_true rfl⟩) ⟨kB_blind, va_recv hK hP (ci := 1) (q0 := 0) rfl rfl, k_pre (a := []) (z := []) (k_w0 _) hK hP hD⟩ rfl rfl hl.1 rfl (lv_room (Nat.le_of_ble_eq_true rfl)) dX1_readOrder_156 ⟨Nat.zero_le _, Nat.zero_le _⟩) (k_w0 _) (k_w0 _) (txW_ad _ _ _ _) hP hD hS hA (fun H locs hP hD hS => ?_)
    obtain ⟨T_19, hT_19⟩ : ∃ T9, T9 = t_exp T_18 59 := ⟨_, rfl⟩
    rw [← hT_19] at hP hD
    refine lv_aload_n hx hb dX1_readOrder_159 rfl (lv_at hl 3 rfl) ?_
    refine lv_iload_n hx hb dX1_readOrder_160 rfl (lv_at hl 4 rfl) ?_
    refine lv_iload_n hx hb dX1_readOrder_161 rfl (lv_at hl 2 rfl) ?_
    refine lv_iload_n hx hb dX1_readOrder_162 rfl (lv_at hl 0 rfl) ?_
    refine lv_iload hx hb dX1_readOrder_163 (lv_at hl 1 rfl) ?_
    refine k_callv (a := []) (z := []) (wc := txW q cI T_19) (wc' := txW q cI (t_keep T_19 o (t_peek T) (t_peek (t_setI T 2 ((T.1 2) + 1)) - 48) (-1))) (w' := txW q cI (t_keep T_19 o (t_peek T) (t_peek (t_setI T 2 ((T.1 2) + 1)) - 48) (-1))) (va_runV (As := [.int (nI o), .int (t_peek T), .int (t_peek (t_setI T 2 ((T.1 2) + 1)) - 48), .int (-1)]) (rest := []) ⟨hx, hb, hml, hown, hts⟩ (c_X1_keep l D q cI cJ T_19 o (t_peek T) (t_peek (t_setI T 2 ((T.1 2) + 1)) - 48) (-1) ho _) (cwV 4 hts gX1_readOrder_X1_keep rfl rfl rfl (by decide +kernel) ⟨Nat.le_of_ble_eq_true rfl, Nat.le_of_ble_eq_true rfl⟩) ⟨kB_blind, va_recv hK hP (ci := 1) (q0 := 0) rfl rfl, k_pre (a := []) (z := []) (k_w0 _) hK hP hD⟩ rfl rfl hl.1 rfl (lv_room (Nat.le_of_ble_eq_true rfl)) dX1_readOrder_165 ⟨Nat.zero_le _, Nat.zero_le _⟩) (k_w0 _) (k_w0 _) (txW_ad _ _ _ _) hP hD hS hA (fun H locs hP hD hS => ?_)
    obtain ⟨T_20, hT_20⟩ : ∃ T9, T9 = t_keep T_19 o (t_peek T) (t_peek (t_setI T 2 ((T.1 2) + 1)) - 48) (-1) := ⟨_, rfl⟩
    rw [← hT_20] at hP hD
    exact k_vret hx hb hr hlk hP hS dX1_readOrder_168 (k_P (congrArg (fun T9 => txW q cI T9) (by rw [hT_20, hT_19, hT_18]; (rw [t_order, t_at1, t_body, if_neg c_21_0, if_neg c_21_6, if_neg c_21_10, if_pos c_21_16]) <;> rfl)))
  by_cases c_21_20 : t_peek T = 121
  · refine lv_lookup (off := 89) (tgt := 110) hx hb dX1_readOrder_21 (by decide) (by rw [c_21_20]; decide) (by decide) ?_
    refine lv_aload_n hx hb dX1_readOrder_110 rfl (lv_at hl 3 rfl) ?_
    refine k_calli (a := []) (z := []) (wc := txW q cI (t_setI T 2 ((T.1 2) + 1))) (wc' := txW q cI (t_pump (t_setI T 2 ((T.1 2) + 1)))) (w' := txW q cI (t_pump (t_setI T 2 ((T.1 2) + 1)))) (va_runV (As := []) (rest := []) ⟨hx, hb, hml, hown, hts⟩ (c_X1_readPump l D q cI cJ (t_setI T 2 ((T.1 2) + 1))  _) (cwV 0 hts gX1_readOrder_X1_readPump rfl rfl rfl (by decide +kernel) ⟨Nat.le_of_ble_eq_true rfl, Nat.le_of_ble_eq_true rfl⟩) ⟨kB_blind, va_recv hK hP (ci := 1) (q0 := 0) rfl rfl, k_pre (a := []) (z := []) (k_w0 _) hK hP hD⟩ rfl rfl hl.1 rfl (lv_room (Nat.le_of_ble_eq_true rfl)) dX1_readOrder_111 ⟨Nat.zero_le _, Nat.zero_le _⟩) (k_w0 _) (k_w0 _) (txW_ad _ _ _ _) hP hD hS hA (fun H locs hP hD hS => ?_)
    obtain ⟨T_22, hT_22⟩ : ∃ T9, T9 = t_pump (t_setI T 2 ((T.1 2) + 1)) := ⟨_, rfl⟩
    rw [← hT_22] at hP hD
    refine lv_istore_n (lv' := [(3, .int (t_peek (t_setI T 2 ((T.1 2) + 1)) - 48)), (4, .int (-1)), (2, .int (t_peek T)), (0, .ref (q 0)), (1, .int (nI o))]) hx hb dX1_readOrder_114 rfl hl (by decide) rfl (fun ls hl => ?_)
    refine lv_goto (tgt := 153) hx hb dX1_readOrder_115 (by decide) ?_
    refine lv_aload_n hx hb dX1_readOrder_153 rfl (lv_at hl 3 rfl) ?_
    refine lv_bipush (v := 59) hx hb dX1_readOrder_154 (by decide) ?_
    refine k_callv (a := []) (z := []) (wc := txW q cI T_22) (wc' := txW q cI (t_exp T_22 59)) (w' := txW q cI (t_exp T_22 59)) (va_runV (As := [.int 59]) (rest := []) ⟨hx, hb, hml, hown, hts⟩ (c_X1_expect l D q cI cJ T_22 59 _) (cwV 1 hts gX1_readOrder_X1_expect rfl rfl rfl (by decide +kernel) ⟨Nat.le_of_ble_eq_true rfl, Nat.le_of_ble_eq_true rfl⟩) ⟨kB_blind, va_recv hK hP (ci := 1) (q0 := 0) rfl rfl, k_pre (a := []) (z := []) (k_w0 _) hK hP hD⟩ rfl rfl hl.1 rfl (lv_room (Nat.le_of_ble_eq_true rfl)) dX1_readOrder_156 ⟨Nat.zero_le _, Nat.zero_le _⟩) (k_w0 _) (k_w0 _) (txW_ad _ _ _ _) hP hD hS hA (fun H locs hP hD hS => ?_)
    obtain ⟨T_23, hT_23⟩ : ∃ T9, T9 = t_exp T_22 59 := ⟨_, rfl⟩
    rw [← hT_23] at hP hD
    refine lv_aload_n hx hb dX1_readOrder_159 rfl (lv_at hl 3 rfl) ?_
    refine lv_iload_n hx hb dX1_readOrder_160 rfl (lv_at hl 4 rfl) ?_
    refine lv_iload_n hx hb dX1_readOrder_161 rfl (lv_at hl 2 rfl) ?_
    refine lv_iload_n hx hb dX1_readOrder_162 rfl (lv_at hl 0 rfl) ?_
    refine lv_iload hx hb dX1_readOrder_163 (lv_at hl 1 rfl) ?_
    refine k_callv (a := []) (z := []) (wc := txW q cI T_23) (wc' := txW q cI (t_keep T_23 o (t_peek T) (t_peek (t_setI T 2 ((T.1 2) + 1)) - 48) (-1))) (w' := txW q cI (t_keep T_23 o (t_peek T) (t_peek (t_setI T 2 ((T.1 2) + 1)) - 48) (-1))) (va_runV (As := [.int (nI o), .int (t_peek T), .int (t_peek (t_setI T 2 ((T.1 2) + 1)) - 48), .int (-1)]) (rest := []) ⟨hx, hb, hml, hown, hts⟩ (c_X1_keep l D q cI cJ T_23 o (t_peek T) (t_peek (t_setI T 2 ((T.1 2) + 1)) - 48) (-1) ho _) (cwV 4 hts gX1_readOrder_X1_keep rfl rfl rfl (by decide +kernel) ⟨Nat.le_of_ble_eq_true rfl, Nat.le_of_ble_eq_true rfl⟩) ⟨kB_blind, va_recv hK hP (ci := 1) (q0 := 0) rfl rfl, k_pre (a := []) (z := []) (k_w0 _) hK hP hD⟩ rfl rfl hl.1 rfl (lv_room (Nat.le_of_ble_eq_true rfl)) dX1_readOrder_165 ⟨Nat.zero_le _, Nat.zero_le _⟩) (k_w0 _) (k_w0 _) (txW_ad _ _ _ _) hP hD hS hA (fun H locs hP hD hS => ?_)
    obtain ⟨T_24, hT_24⟩ : ∃ T9, T9 = t_keep T_23 o (t_peek T) (t_peek (t_setI T 2 ((T.1 2) + 1)) - 48) (-1) := ⟨_, rfl⟩
    rw [← hT_24] at hP hD
    exact k_vret hx hb hr hlk hP hS dX1_readOrder_168 (k_P (congrArg (fun T9 => txW q cI T9) (by rw [hT_24, hT_23, hT_22]; (rw [t_order, t_at1, t_body, if_neg c_21_0, if_neg c_21_6, if_neg c_21_10, if_neg c_21_16, if_pos c_21_20]) <;> rfl)))
  refine lv_lookup (off := 122) (tgt := 143) hx hb dX1_readOrder_21 (by decide) (k_look5 c_21_0 c_21_6 c_21_10 c_21_16 c_21_20) (by decide) ?_
  refine lv_aload_n hx hb dX1_readOrder_143 rfl (lv_at hl 3 rfl) ?_
  refine lv_aload_n hx hb dX1_readOrder_144 rfl (lv_at hl 3 rfl) ?_
  refine va_get (D := D) (ci := 1) (v := .int ((T.1 2) + 1)) (C := RX1) (T := TX1) (N := 6) hx hb hts inX1 hown hK hP 0 rfl rfl 4 (by decide) (hts (.fieldLink RX1 22 "PumpOaths$OrderText" "at" "I") (List.mem_of_getElem? (i := 1) rfl)) (fun _ h9 => h9) rfl dX1_readOrder_145 ?_
  refine lv_iconst (v := 1) hx hb dX1_readOrder_148 (by decide) ?_
  refine lv_isub hx hb dX1_readOrder_149 ?_
  refine k_callv (a := []) (z := []) (wc := txW q cI (t_setI T 2 ((T.1 2) + 1))) (wc' := txW q cI (t_fail (t_setI T 2 ((T.1 2) + 1)) (((T.1 2) + 1) - 1))) (w' := txW q cI (t_fail (t_setI T 2 ((T.1 2) + 1)) (((T.1 2) + 1) - 1))) (va_runV (As := [.int (((T.1 2) + 1) - 1)]) (rest := []) ⟨hx, hb, hml, hown, hts⟩ (c_X1_fail l D q cI cJ (t_setI T 2 ((T.1 2) + 1)) (((T.1 2) + 1) - 1) _) (cwV 1 hts gX1_readOrder_X1_fail rfl rfl rfl (by decide +kernel) ⟨Nat.le_of_ble_eq_true rfl, Nat.le_of_ble_eq_true rfl⟩) ⟨kB_blind, va_recv hK hP (ci := 1) (q0 := 0) rfl rfl, k_pre (a := []) (z := []) (k_w0 _) hK hP hD⟩ rfl rfl hl.1 rfl (lv_room (Nat.le_of_ble_eq_true rfl)) dX1_readOrder_150 ⟨Nat.zero_le _, Nat.zero_le _⟩) (k_w0 _) (k_w0 _) (txW_ad _ _ _ _) hP hD hS hA (fun H locs hP hD hS => ?_)
  obtain ⟨T_25, hT_25⟩ : ∃ T9, T9 = t_fail (t_setI T 2 ((T.1 2) + 1)) (((T.1 2) + 1) - 1) := ⟨_, rfl⟩
  rw [← hT_25] at hP hD
  refine lv_aload_n hx hb dX1_readOrder_153 rfl (lv_at hl 3 rfl) ?_
  refine lv_bipush (v := 59) hx hb dX1_readOrder_154 (by decide) ?_
  refine k_callv (a := []) (z := []) (wc := txW q cI T_25) (wc' := txW q cI (t_exp T_25 59)) (w' := txW q cI (t_exp T_25 59)) (va_runV (As := [.int 59]) (rest := []) ⟨hx, hb, hml, hown, hts⟩ (c_X1_expect l D q cI cJ T_25 59 _) (cwV 1 hts gX1_readOrder_X1_expect rfl rfl rfl (by decide +kernel) ⟨Nat.le_of_ble_eq_true rfl, Nat.le_of_ble_eq_true rfl⟩) ⟨kB_blind, va_recv hK hP (ci := 1) (q0 := 0) rfl rfl, k_pre (a := []) (z := []) (k_w0 _) hK hP hD⟩ rfl rfl hl.1 rfl (lv_room (Nat.le_of_ble_eq_true rfl)) dX1_readOrder_156 ⟨Nat.zero_le _, Nat.zero_le _⟩) (k_w0 _) (k_w0 _) (txW_ad _ _ _ _) hP hD hS hA (fun H locs hP hD hS => ?_)
  obtain ⟨T_26, hT_26⟩ : ∃ T9, T9 = t_exp T_25 59 := ⟨_, rfl⟩
  rw [← hT_26] at hP hD
  refine lv_aload_n hx hb dX1_readOrder_159 rfl (lv_at hl 3 rfl) ?_
  refine lv_iload_n hx hb dX1_readOrder_160 rfl (lv_at hl 4 rfl) ?_
  refine lv_iload_n hx hb dX1_readOrder_161 rfl (lv_at hl 2 rfl) ?_
  refine lv_iload_n hx hb dX1_readOrder_162 rfl (lv_at hl 1 rfl) ?_
  refine lv_iload hx hb dX1_readOrder_163 (lv_at hl 0 rfl) ?_
  refine k_callv (a := []) (z := []) (wc := txW q cI T_26) (wc' := txW q cI (t_keep T_26 o (t_peek T) (-1) (-1))) (w' := txW q cI (t_keep T_26 o (t_peek T) (-1) (-1))) (va_runV (As := [.int (nI o), .int (t_peek T), .int (-1), .int (-1)]) (rest := []) ⟨hx, hb, hml, hown, hts⟩ (c_X1_keep l D q cI cJ T_26 o (t_peek T) (-1) (-1) ho _) (cwV 4 hts gX1_readOrder_X1_keep rfl rfl rfl (by decide +kernel) ⟨Nat.le_of_ble_eq_true rfl, Nat.le_of_ble_eq_true rfl⟩) ⟨kB_blind, va_recv hK hP (ci := 1) (q0 := 0) rfl rfl, k_pre (a := []) (z := []) (k_w0 _) hK hP hD⟩ rfl rfl hl.1 rfl (lv_room (Nat.le_of_ble_eq_true rfl)) dX1_readOrder_165 ⟨Nat.zero_le _, Nat.zero_le _⟩) (k_w0 _) (k_w0 _) (txW_ad _ _ _ _) hP hD hS hA (fun H locs hP hD hS => ?_)
  obtain ⟨T_27, hT_27⟩ : ∃ T9, T9 = t_keep T_26 o (t_peek T) (-1) (-1) := ⟨_, rfl⟩
  rw [← hT_27] at hP hD
  exact k_vret hx hb hr hlk hP hS dX1_readOrder_168 (k_P (congrArg (fun T9 => txW q cI T9) (by rw [hT_27, hT_26, hT_25]; (rw [t_order, t_at1, t_body, if_neg c_21_0, if_neg c_21_6, if_neg c_21_10, if_neg c_21_16, if_neg c_21_20]) <;> rfl)))

set_option maxHeartbeats 1000000 in
set_option maxRecDepth 100000 in
theorem c_X1_readOrders (l : Launch) (D : va_G) (q : Nat → Nat) (cI cJ : ClassId) (T : TS)  : kI l yX1_readOrders wsX1_readOrders ({ frames := 5, cells := 0, slots := 0, locals := 108 } : Room) D [(cI, .int), (cJ, .long)] [.ref (q 0)] (txW q cI T) ((t_read T).1 3) (txW q cI (t_read T)) := by
  refine kBody.met (cc := cX1_readOrders) (maxL := 2) (ret := (some .int)) (by decide) rfl (Nat.le_of_ble_eq_true rfl) ?_
  intro p9 e9 s9 m9 below meth c9 A9 ls hx hb hr hml hts hown hlk hK hP hD hA hl
  have hown : s9.vm.findClass RX1 = some m9.cls := hown
  have inX1 : ∀ w ∈ wsX10, w ∈ wsX1_readOrders := fun w h => List.mem_cons_of_mem _ (List.mem_append_right _ (h))
  have hS : va_S A9 s9.heap s9.heap [] := va_S.rf
  have hl : lv_has ls 2 [(0, .ref (q 0))] := hl
  refine lv_aload_n hx hb dX1_readOrders_0 rfl (lv_at hl 0 rfl) ?_
  refine lv_iconst (v := 0) hx hb dX1_readOrders_1 (by decide) ?_
  refine va_put (D := D) (ci := 1) (v := .int 0) (ty := .int) (C := RX1) (T := TX1) (N := 6) hx hb hts inX1 tyX1 tyX1_ok nmX1 hown hK hP hD hS 0 rfl rfl 4 (by decide) (hts (.fieldLink RX1 22 "PumpOaths$OrderText" "at" "I") (List.mem_of_getElem? (i := 1) rfl)) (fun _ h9 => h9) rfl (by decide +kernel) rfl rfl (Nat.le_of_ble_eq_true rfl) dX1_readOrders_2 (fun H locs hP hD hS => ?_)
  have hP : va_P D vwCl (txW q cI (t_setI T 2 0)) H := hP
  have hD : va_D A9 (txW q cI (t_setI T 2 0)) := hD
  refine lv_aload_n hx hb dX1_readOrders_5 rfl (lv_at hl 0 rfl) ?_
  refine lv_iconst (v := (-1)) hx hb dX1_readOrders_6 (by decide) ?_
  refine va_put (D := D) (ci := 1) (v := .int (-1)) (ty := .int) (C := RX1) (T := TX1) (N := 6) hx hb hts inX1 tyX1 tyX1_ok nmX1 hown hK hP hD hS 0 rfl rfl 5 (by decide) (hts (.fieldLink RX1 25 "PumpOaths$OrderText" "error" "I") (List.mem_of_getElem? (i := 2) rfl)) (fun _ h9 => h9) rfl (by decide +kernel) rfl rfl (Nat.le_of_ble_eq_true rfl) dX1_readOrders_7 (fun H locs hP hD hS => ?_)
  have hP : va_P D vwCl (txW q cI (t_setI (t_setI T 2 0) 3 (-1))) H := hP
  have hD : va_D A9 (txW q cI (t_setI (t_setI T 2 0) 3 (-1))) := hD
  refine lv_aload_n hx hb dX1_readOrders_10 rfl (lv_at hl 0 rfl) ?_
  refine lv_iconst (v := 0) hx hb dX1_readOrders_11 (by decide) ?_
  refine va_put (D := D) (ci := 1) (v := .int 0) (ty := .int) (C := RX1) (T := TX1) (N := 6) hx hb hts inX1 tyX1 tyX1_ok nmX1 hown hK hP hD hS 0 rfl rfl 3 (by decide) (hts (.fieldLink RX1 28 "PumpOaths$OrderText" "orders" "I") (List.mem_of_getElem? (i := 3) rfl)) (fun _ h9 => h9) rfl (by decide +kernel) rfl rfl (Nat.le_of_ble_eq_true rfl) dX1_readOrders_12 (fun H locs hP hD hS => ?_)
  have hP : va_P D vwCl (txW q cI (t_setI (t_setI (t_setI T 2 0) 3 (-1)) 1 0)) H := hP
  have hD : va_D A9 (txW q cI (t_setI (t_setI (t_setI T 2 0) 3 (-1)) 1 0)) := hD
  refine lv_iconst (v := 0) hx hb dX1_readOrders_15 (by decide) ?_
  refine lv_istore_n (lv' := [(1, .int 0), (0, .ref (q 0))]) hx hb dX1_readOrders_16 rfl hl (by decide) rfl (fun ls hl => ?_)
  have L_17_0 : ∀ (d : Nat) (k : Nat) (U : TS), 34 < k + d → k ≤ 34 → ∀  (e17 : itr t_ordB k (t_ord0 T) = U) (H : Heap) (locs : List Loc) (ls : Array Slot), va_P D vwCl (txW q cI U) H → va_D A9 (txW q cI U) → va_S A9 s9.heap H locs → lv_has ls 2 [(0, .ref (q 0)), (1, .int (nI k))] → W p9 l e9 ({ frames := 5, cells := 0, slots := 0, locals := 108 } : Room) s9 m9 (List.toArray [.ref (q 0)]) below meth c9 H locs 0 0 (MQ below (va_Qi (fun r (_ : Unit) => r = ((t_read T).1 3)) (fun _ t9 => va_P D vwCl (txW q cI (t_read T)) t9.heap) A9) (List.toArray [.ref (q 0)]) s9 0 0 A9) (F0 m9 17 ls []) := by
    intro d
    induction d with
    | zero =>
      intro k U hf
      intro hkn; exact absurd hf (by omega)
    | succ d ih_17 =>
      intro k U hf_17 hkn_17 e17 H locs ls hP hD hS hl
      refine lv_iload_n hx hb dX1_readOrders_17 rfl (lv_at hl 1 rfl) ?_
      refine lv_bipush (v := 34) hx hb dX1_readOrders_18 (by decide) ?_
      refine lv_icmp_ge (tgt := 63) hx hb dX1_readOrders_20 (by decide) (fun c_20_1 => ?_) (fun c_20_1 => ?_)
      · have c_20_1 : 34 ≤ (nI k) := c_20_1
        have eL : t_read T = U := by rw [t_read, ← k_exitN c_20_1 (n := 34) rfl hkn_17 (by decide)]; exact e17
        refine lv_aload_n hx hb dX1_readOrders_63 rfl (lv_at hl 0 rfl) ?_
        refine va_get (D := D) (ci := 1) (v := .int (U.1 3)) (C := RX1) (T := TX1) (N := 6) hx hb hts inX1 hown hK hP 0 rfl rfl 5 (by decide) (hts (.fieldLink RX1 25 "PumpOaths$OrderText" "error" "I") (List.mem_of_getElem? (i := 2) rfl)) (fun _ h9 => h9) rfl dX1_readOrders_64 ?_
        exact k_iret hx hb hr hlk hP hS dX1_readOrders_67 rfl (by rw [eL]) (k_P (by rw [eL]))
      · have c_20_1 : ¬ 34 ≤ (nI k) := c_20_1
        have hkl_17 : k < 34 := k_bodyN c_20_1 rfl hkn_17 (by decide)
        refine lv_aload_n hx hb dX1_readOrders_23 rfl (lv_at hl 0 rfl) ?_
        refine va_get (D := D) (ci := 1) (v := .int (U.1 2)) (C := RX1) (T := TX1) (N := 6) hx hb hts inX1 hown hK hP 0 rfl rfl 4 (by decide) (hts (.fieldLink RX1 22 "PumpOaths$OrderText" "at" "I") (List.mem_of_getElem? (i := 1) rfl)) (fun _ h9 => h9) rfl dX1_readOrders_24 ?_
        refine lv_aload_n hx hb dX1_readOrders_27 rfl (lv_at hl 0 rfl) ?_
        refine va_get (D := D) (ci := 1) (v := .int (U.1 0)) (C := RX1) (T := TX1) (N := 6) hx hb hts inX1 hown hK hP 0 rfl rfl 2 (by decide) (hts (.fieldLink RX1 18 "PumpOaths$OrderText" "length" "I") (List.mem_of_getElem? (i := 4) rfl)) (fun _ h9 => h9) rfl dX1_readOrders_28 ?_
        refine lv_icmp_ge (tgt := 63) hx hb dX1_readOrders_31 (by decide) (fun c_31_2 => ?_) (fun c_31_2 => ?_)
        · have c_31_2 : (U.1 0) ≤ (U.1 2) := c_31_2
          have eL : t_read T = U := itr_stop e17 (fun j => by simp [t_ordB, c_31_2]) _ hkn_17
          refine lv_aload_n hx hb dX1_readOrders_63 rfl (lv_at hl 0 rfl) ?_
          refine va_get (D := D) (ci := 1) (v := .int (U.1 3)) (C := RX1) (T := TX1) (N := 6) hx hb hts inX1 hown hK hP 0 rfl rfl 5 (by decide) (hts (.fieldLink RX1 25 "PumpOaths$OrderText" "error" "I") (List.mem_of_getElem? (i := 2) rfl)) (fun _ h9 => h9) rfl dX1_readOrders_64 ?_
          exact k_iret hx hb hr hlk hP hS dX1_readOrders_67 rfl (by rw [eL]) (k_P (by rw [eL]))
        · have c_31_2 : ¬ (U.1 0) ≤ (U.1 2) := c_31_2
          refine lv_aload_n hx hb dX1_readOrders_34 rfl (lv_at hl 0 rfl) ?_
          refine va_get (D := D) (ci := 1) (v := .int (U.1 3)) (C := RX1) (T := TX1) (N := 6) hx hb hts inX1 hown hK hP 0 rfl rfl 5 (by decide) (hts (.fieldLink RX1 25 "PumpOaths$OrderText" "error" "I") (List.mem_of_getElem? (i := 2) rfl)) (fun _ h9 => h9) rfl dX1_readOrders_35 ?_
          refine lv_iconst (v := (-1)) hx hb dX1_readOrders_38 (by decide) ?_
          refine lv_icmp_ne (tgt := 63) hx hb dX1_readOrders_39 (by decide) (fun c_39_3 => ?_) (fun c_39_3 => ?_)
          · have c_39_3 : ¬ (U.1 3) = (-1) := c_39_3
            have eL : t_read T = U := itr_stop e17 (fun j => by simp [t_ordB, c_39_3]) _ hkn_17
            refine lv_aload_n hx hb dX1_readOrders_63 rfl (lv_at hl 0 rfl) ?_
            refine va_get (D := D) (ci := 1) (v := .int (U.1 3)) (C := RX1) (T := TX1) (N := 6) hx hb hts inX1 hown hK hP 0 rfl rfl 5 (by decide) (hts (.fieldLink RX1 25 "PumpOaths$OrderText" "error" "I") (List.mem_of_getElem? (i := 2) rfl)) (fun _ h9 => h9) rfl dX1_readOrders_64 ?_
            exact k_iret hx hb hr hlk hP hS dX1_readOrders_67 rfl (by rw [eL]) (k_P (by rw [eL]))
          · have c_39_3 : (U.1 3) = (-1) := c_39_3
            refine lv_aload_n hx hb dX1_readOrders_42 rfl (lv_at hl 0 rfl) ?_
            refine lv_iload_n hx hb dX1_readOrders_43 rfl (lv_at hl 1 rfl) ?_
            refine k_callv (a := []) (z := []) (wc := txW q cI U) (wc' := txW q cI (t_order U k)) (w' := txW q cI (t_order U k)) (va_runV (As := [.int (nI k)]) (rest := []) ⟨hx, hb, hml, hown, hts⟩ (c_X1_readOrder l D q cI cJ U k hkl_17 _) (cwV 1 hts gX1_readOrders_X1_readOrder rfl rfl rfl (by decide +kernel) ⟨Nat.le_of_ble_eq_true rfl, Nat.le_of_ble_eq_true rfl⟩) ⟨kB_blind, va_recv hK hP (ci := 1) (q0 := 0) rfl rfl, k_pre (a := []) (z := []) (k_w0 _) hK hP hD⟩ rfl rfl hl.1 rfl (lv_room (Nat.le_of_ble_eq_true rfl)) dX1_readOrders_44 ⟨Nat.zero_le _, Nat.zero_le _⟩) (k_w0 _) (k_w0 _) (txW_ad _ _ _ _) hP hD hS hA (fun H locs hP hD hS => ?_)
            refine lv_aload_n hx hb dX1_readOrders_47 rfl (lv_at hl 0 rfl) ?_
            refine lv_dup hx hb dX1_readOrders_48 rfl ?_
            refine va_get (D := D) (ci := 1) (v := .int ((t_order U k).1 1)) (C := RX1) (T := TX1) (N := 6) hx hb hts inX1 hown hK hP 0 rfl rfl 3 (by decide) (hts (.fieldLink RX1 28 "PumpOaths$OrderText" "orders" "I") (List.mem_of_getElem? (i := 3) rfl)) (fun _ h9 => h9) rfl dX1_readOrders_49 ?_
            refine lv_iconst (v := 1) hx hb dX1_readOrders_52 (by decide) ?_
            refine lv_iadd hx hb dX1_readOrders_53 ?_
            refine va_put (D := D) (ci := 1) (v := .int (((t_order U k).1 1) + 1)) (ty := .int) (C := RX1) (T := TX1) (N := 6) hx hb hts inX1 tyX1 tyX1_ok nmX1 hown hK hP hD hS 0 rfl rfl 3 (by decide) (hts (.fieldLink RX1 28 "PumpOaths$OrderText" "orders" "I") (List.mem_of_getElem? (i := 3) rfl)) (fun _ h9 => h9) rfl (by decide +kernel) rfl rfl (Nat.le_of_ble_eq_true rfl) dX1_readOrders_54 (fun H locs hP hD hS => ?_)
            have hP : va_P D vwCl (txW q cI (t_setI (t_order U k) 1 (((t_order U k).1 1) + 1))) H := hP
            have hD : va_D A9 (txW q cI (t_setI (t_order U k) 1 (((t_order U k).1 1) + 1))) := hD
            refine lv_iinc (v := (nI k) + 1) (lv' := [(1, .int ((nI k) + 1)), (0, .ref (q 0))]) hx hb dX1_readOrders_57 hl (k := 1) rfl rfl (by decide) rfl (fun ls hl => ?_)
            refine lv_goto (tgt := 17) hx hb dX1_readOrders_60 (by decide) ?_
            rw [show ((nI k) + 1) = (nI (k + 1)) from nI_1 _] at hl
            exact ih_17 (k + 1) (t_setI (t_order U k) 1 (((t_order U k).1 1) + 1)) (by omega) (by omega) (by rw [itr_s, e17]; simp [t_ordB, c_20_1, c_31_2, c_39_3]) _ _ _ hP hD hS (lv_sub hl [1, 0] rfl)
  exact L_17_0 (34 + 1) 0 (t_setI (t_setI (t_setI T 2 0) 3 (-1)) 1 0) (by omega) (by omega) (rfl) _ _ _ hP hD hS (lv_sub hl [1, 0] rfl)

set_option maxHeartbeats 1000000 in
set_option maxRecDepth 100000 in
theorem c_X1_addByte (l : Launch) (D : va_G) (q : Nat → Nat) (cI cJ : ClassId) (T : TS) (w : Int32)  : kV l yX1_addByte wsX1_addByte ({ frames := 0, cells := 0, slots := 0, locals := 0 } : Room) D [(cI, .int), (cJ, .long)] [.ref (q 0), .int w] (txW q cI T) (txW q cI (t_add T w)) := by
  refine kBody.met (cc := cX1_addByte) (maxL := 2) (ret := none) (by decide) rfl (Nat.le_of_ble_eq_true rfl) ?_
  intro p9 e9 s9 m9 below meth c9 A9 ls hx hb hr hml hts hown hlk hK hP hD hA hl
  have hown : s9.vm.findClass RX1 = some m9.cls := hown
  have inX1 : ∀ w ∈ wsX10, w ∈ wsX1_addByte := fun w h => List.mem_cons_of_mem _ (List.mem_append_right _ (h))
  have hS : va_S A9 s9.heap s9.heap [] := va_S.rf
  have hl : lv_has ls 2 [(0, .ref (q 0)), (1, .int w)] := hl
  refine lv_aload_n hx hb dX1_addByte_0 rfl (lv_at hl 0 rfl) ?_
  refine va_get (D := D) (ci := 1) (v := .int (T.1 0)) (C := RX1) (T := TX1) (N := 6) hx hb hts inX1 hown hK hP 0 rfl rfl 2 (by decide) (hts (.fieldLink RX1 18 "PumpOaths$OrderText" "length" "I") (List.mem_of_getElem? (i := 1) rfl)) (fun _ h9 => h9) rfl dX1_addByte_1 ?_
  refine lv_if_lt (tgt := 39) hx hb dX1_addByte_4 (by decide) (fun c_4_0 => ?_) (fun c_4_0 => ?_)
  · have c_4_0 : (T.1 0) < 0 := c_4_0
    exact k_vret hx hb hr hlk hP hS dX1_addByte_39 (k_P (by simp [t_add, c_4_0]))
  · have c_4_0 : ¬ (T.1 0) < 0 := c_4_0
    refine lv_aload_n hx hb dX1_addByte_7 rfl (lv_at hl 0 rfl) ?_
    refine va_get (D := D) (ci := 1) (v := .int (T.1 0)) (C := RX1) (T := TX1) (N := 6) hx hb hts inX1 hown hK hP 0 rfl rfl 2 (by decide) (hts (.fieldLink RX1 18 "PumpOaths$OrderText" "length" "I") (List.mem_of_getElem? (i := 1) rfl)) (fun _ h9 => h9) rfl dX1_addByte_8 ?_
    refine lv_aload_n hx hb dX1_addByte_11 rfl (lv_at hl 0 rfl) ?_
    refine va_get (D := D) (ci := 1) (v := .ref (q 1)) (C := RX1) (T := TX1) (N := 6) hx hb hts inX1 hown hK hP 0 rfl rfl 0 (by decide) (hts (.fieldLink RX1 11 "PumpOaths$OrderText" "bytes" "[I") (List.mem_of_getElem? (i := 2) rfl)) (fun _ h9 => h9) rfl dX1_addByte_12 ?_
    refine va_alen hx hb hK hP 1 0 rfl rfl (v := 100) rfl dX1_addByte_15 ?_
    refine lv_icmp_ge (tgt := 39) hx hb dX1_addByte_16 (by decide) (fun c_16_1 => ?_) (fun c_16_1 => ?_)
    · have c_16_1 : 100 ≤ (T.1 0) := c_16_1
      exact k_vret hx hb hr hlk hP hS dX1_addByte_39 (k_P (by simp [t_add, c_4_0, c_16_1]))
    · have c_16_1 : ¬ 100 ≤ (T.1 0) := c_16_1
      have hin := k_in0 (N := 100) rfl c_4_0 c_16_1
      refine lv_aload_n hx hb dX1_addByte_19 rfl (lv_at hl 0 rfl) ?_
      refine va_get (D := D) (ci := 1) (v := .ref (q 1)) (C := RX1) (T := TX1) (N := 6) hx hb hts inX1 hown hK hP 0 rfl rfl 0 (by decide) (hts (.fieldLink RX1 11 "PumpOaths$OrderText" "bytes" "[I") (List.mem_of_getElem? (i := 2) rfl)) (fun _ h9 => h9) rfl dX1_addByte_20 ?_
      refine lv_aload_n hx hb dX1_addByte_23 rfl (lv_at hl 0 rfl) ?_
      refine va_get (D := D) (ci := 1) (v := .int (T.1 0)) (C := RX1) (T := TX1) (N := 6) hx hb hts inX1 hown hK hP 0 rfl rfl 2 (by decide) (hts (.fieldLink RX1 18 "PumpOaths$OrderText" "length" "I") (List.mem_of_getElem? (i := 1) rfl)) (fun _ h9 => h9) rfl dX1_addByte_24 ?_
      refine lv_iload_n hx hb dX1_addByte_27 rfl (lv_at hl 1 rfl) ?_
      refine va_iast (f := T.2 0) hx hb hK hP hD hS 1 0 rfl rfl (hin) dX1_addByte_28 (fun H locs hP hD hS => ?_)
      have hP : va_P D vwCl (txW q cI (t_setA T 0 (upd (T.2 0) ((T.1 0).toNatClampNeg) w))) H := hP
      have hD : va_D A9 (txW q cI (t_setA T 0 (upd (T.2 0) ((T.1 0).toNatClampNeg) w))) := hD
      refine lv_aload_n hx hb dX1_addByte_29 rfl (lv_at hl 0 rfl) ?_
      refine lv_dup hx hb dX1_addByte_30 rfl ?_
      refine va_get (D := D) (ci := 1) (v := .int (T.1 0)) (C := RX1) (T := TX1) (N := 6) hx hb hts inX1 hown hK hP 0 rfl rfl 2 (by decide) (hts (.fieldLink RX1 18 "PumpOaths$OrderText" "length" "I") (List.mem_of_getElem? (i := 1) rfl)) (fun _ h9 => h9) rfl dX1_addByte_31 ?_
      refine lv_iconst (v := 1) hx hb dX1_addByte_34 (by decide) ?_
      refine lv_iadd hx hb dX1_addByte_35 ?_
      refine va_put (D := D) (ci := 1) (v := .int ((T.1 0) + 1)) (ty := .int) (C := RX1) (T := TX1) (N := 6) hx hb hts inX1 tyX1 tyX1_ok nmX1 hown hK hP hD hS 0 rfl rfl 2 (by decide) (hts (.fieldLink RX1 18 "PumpOaths$OrderText" "length" "I") (List.mem_of_getElem? (i := 1) rfl)) (fun _ h9 => h9) rfl (by decide +kernel) rfl rfl (Nat.le_of_ble_eq_true rfl) dX1_addByte_36 (fun H locs hP hD hS => ?_)
      have hP : va_P D vwCl (txW q cI (t_setI (t_setA T 0 (upd (T.2 0) ((T.1 0).toNatClampNeg) w)) 0 ((T.1 0) + 1))) H := hP
      have hD : va_D A9 (txW q cI (t_setI (t_setA T 0 (upd (T.2 0) ((T.1 0).toNatClampNeg) w)) 0 ((T.1 0) + 1))) := hD
      exact k_vret hx hb hr hlk hP hS dX1_addByte_39 (k_P (by simp [t_add, c_4_0, c_16_1]))

set_option maxHeartbeats 1000000 in
set_option maxRecDepth 100000 in
theorem c_X1_part (l : Launch) (D : va_G) (q : Nat → Nat) (cI cJ : ClassId) (T : TS) (a b : Int32)  : kI l yX1_part wsX1_part ({ frames := 0, cells := 0, slots := 0, locals := 0 } : Room) D [(cI, .int), (cJ, .long)] [.ref (q 0), .int a, .int b] (txW q cI T) (t_part T a b) (txW q cI T) := by
  refine kBody.met (cc := cX1_part) (maxL := 4) (ret := (some .int)) (by decide) rfl (Nat.le_of_ble_eq_true rfl) ?_
  intro p9 e9 s9 m9 below meth c9 A9 ls hx hb hr hml hts hown hlk hK hP hD hA hl
  have hown : s9.vm.findClass RX1 = some m9.cls := hown
  have inX1 : ∀ w ∈ wsX10, w ∈ wsX1_part := fun w h => List.mem_cons_of_mem _ (List.mem_append_right _ (h))
  have hS : va_S A9 s9.heap s9.heap [] := va_S.rf
  have hl : lv_has ls 4 [(0, .ref (q 0)), (1, .int a), (2, .int b)] := hl
  refine lv_iload_n hx hb dX1_part_0 rfl (lv_at hl 1 rfl) ?_
  refine lv_iconst (v := 3) hx hb dX1_part_1 (by decide) ?_
  refine lv_imul hx hb dX1_part_2 ?_
  refine lv_iload_n hx hb dX1_part_3 rfl (lv_at hl 2 rfl) ?_
  refine lv_iadd hx hb dX1_part_4 ?_
  refine lv_istore_n (lv' := [(3, .int ((a * 3) + b)), (0, .ref (q 0)), (1, .int a), (2, .int b)]) hx hb dX1_part_5 rfl hl (by decide) rfl (fun ls hl => ?_)
  refine lv_iload_n hx hb dX1_part_6 rfl (lv_at hl 0 rfl) ?_
  refine lv_if_lt (tgt := 28) hx hb dX1_part_7 (by decide) (fun c_7_0 => ?_) (fun c_7_0 => ?_)
  · have c_7_0 : ((a * 3) + b) < 0 := c_7_0
    refine lv_iconst (v := 0) hx hb dX1_part_28 (by decide) ?_
    exact k_iret hx hb hr hlk hP hS dX1_part_29 rfl (by simp [t_part, c_7_0]) (fun h => h)
  · have c_7_0 : ¬ ((a * 3) + b) < 0 := c_7_0
    refine lv_iload_n hx hb dX1_part_10 rfl (lv_at hl 0 rfl) ?_
    refine lv_aload_n hx hb dX1_part_11 rfl (lv_at hl 1 rfl) ?_
    refine va_get (D := D) (ci := 1) (v := .ref (q 2)) (C := RX1) (T := TX1) (N := 6) hx hb hts inX1 hown hK hP 0 rfl rfl 1 (by decide) (hts (.fieldLink RX1 15 "PumpOaths$OrderText" "parts" "[I") (List.mem_of_getElem? (i := 1) rfl)) (fun _ h9 => h9) rfl dX1_part_12 ?_
    refine va_alen hx hb hK hP 2 0 rfl rfl (v := 102) rfl dX1_part_15 ?_
    refine lv_icmp_ge (tgt := 28) hx hb dX1_part_16 (by decide) (fun c_16_1 => ?_) (fun c_16_1 => ?_)
    · have c_16_1 : 102 ≤ ((a * 3) + b) := c_16_1
      refine lv_iconst (v := 0) hx hb dX1_part_28 (by decide) ?_
      exact k_iret hx hb hr hlk hP hS dX1_part_29 rfl (by simp [t_part, c_7_0, c_16_1]) (fun h => h)
    · have c_16_1 : ¬ 102 ≤ ((a * 3) + b) := c_16_1
      have hin := k_in0 (N := 102) rfl c_7_0 c_16_1
      refine lv_aload_n hx hb dX1_part_19 rfl (lv_at hl 1 rfl) ?_
      refine va_get (D := D) (ci := 1) (v := .ref (q 2)) (C := RX1) (T := TX1) (N := 6) hx hb hts inX1 hown hK hP 0 rfl rfl 1 (by decide) (hts (.fieldLink RX1 15 "PumpOaths$OrderText" "parts" "[I") (List.mem_of_getElem? (i := 1) rfl)) (fun _ h9 => h9) rfl dX1_part_20 ?_
      refine lv_iload_n hx hb dX1_part_23 rfl (lv_at hl 0 rfl) ?_
      refine va_iald (f := T.2 1) hx hb hK hP 2 0 rfl rfl (hin) dX1_part_24 ?_
      refine lv_goto (tgt := 29) hx hb dX1_part_25 (by decide) ?_
      exact k_iret hx hb hr hlk hP hS dX1_part_29 rfl (by simp [t_part, c_7_0, c_16_1]) (fun h => h)
