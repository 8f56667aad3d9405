def A_X5_readsHour_s0 (M : MS) : MS := (if ((A_X5_digit_s0 (A_X5_digit_s0 M 9) 9).1 4) = (-1) then (if (((A_X5_digit_s0 (A_X5_digit_s0 M 9) 9).1 5) + (10 * ((A_X5_digit_s0 M 9).1 5))) ≤ 23 then o_setI (A_X5_digit_s0 (A_X5_digit_s0 M 9) 9) 5 (((A_X5_digit_s0 (A_X5_digit_s0 M 9) 9).1 5) + (10 * ((A_X5_digit_s0 M 9).1 5))) else (o_fail (o_setI (A_X5_digit_s0 (A_X5_digit_s0 M 9) 9) 5 (((A_X5_digit_s0 (A_X5_digit_s0 M 9) 9).1 5) + (10 * ((A_X5_digit_s0 M 9).1 5)))) (M.1 3))) else o_setI (A_X5_digit_s0 (A_X5_digit_s0 M 9) 9) 5 (((A_X5_digit_s0 (A_X5_digit_s0 M 9) 9).1 5) + (10 * ((A_X5_digit_s0 M 9).1 5))))
set_option maxHeartbeats 1000000 in
set_option maxRecDepth 100000 in
theorem c_X5_readsHour (l : Launch) (D : va_G) (q : Nat → Nat) (cI cJ : ClassId) (M : MS) (le : Nat) (hle : M.1 1 = nI le) (hle1 : le ≤ 100) (hav : tB M 900) : kV l yX5_readsHour wsX5_readsHour ({ frames := 3, cells := 0, slots := 0, locals := 66 } : Room) D [(cI, .int), (cJ, .long)] [.ref (q 0)] (moW q cI cJ M) (moW q cI cJ (A_X5_readsHour_s0 M)) := by
  refine kBody.met (cc := cX5_readsHour) (maxL := 3) (ret := none) (by decide) rfl (Nat.le_of_ble_eq_true rfl) ?_
  intro p9 e9 s9 m9 below meth c9 A9 ls hx hb hr hml hts hown hlk hK hP hD hA hl
  have hown : s9.vm.findClass RX5 = some m9.cls := hown
  have inX5 : ∀ w ∈ wsX50, w ∈ wsX5_readsHour := fun w h => List.mem_cons_of_mem _ (List.mem_append_right _ (h))
  have hS : va_S A9 s9.heap s9.heap [] := va_S.rf
  have hl : lv_has ls 3 [(0, .ref (q 0))] := hl
  refine lv_aload_n hx hb dX5_readsHour_0 rfl (lv_at hl 0 rfl) ?_
  refine va_get (D := D) (ci := 5) (v := .int (M.1 3)) (C := RX5) (T := TX5) (N := 14) hx hb hts inX5 hown hK hP 0 rfl rfl 7 (by decide) (hts (.fieldLink RX5 170 "PumpOathsModel" "at" "I") (List.mem_of_getElem? (i := 1) rfl)) (fun _ h9 => h9) rfl dX5_readsHour_1 ?_
  refine lv_istore_n (lv' := [(1, .int (M.1 3)), (0, .ref (q 0))]) hx hb dX5_readsHour_4 rfl hl (by decide) rfl (fun ls hl => ?_)
  refine lv_aload_n hx hb dX5_readsHour_5 rfl (lv_at hl 1 rfl) ?_
  refine lv_bipush (v := 9) hx hb dX5_readsHour_6 (by decide) ?_
  refine k_callv (a := []) (z := []) (wc := moW q cI cJ M) (wc' := moW q cI cJ (A_X5_digit_s0 M 9)) (w' := moW q cI cJ (A_X5_digit_s0 M 9)) (va_runV (As := [.int 9]) (rest := []) ⟨hx, hb, hml, hown, hts⟩ (c_X5_digit l D q cI cJ M 9 le hle hle1 (tB_le hav (by decide)) _) (cwV 1 hts gX5_readsHour_X5_digit rfl rfl rfl (by decide +kernel) ⟨Nat.le_of_ble_eq_true rfl, Nat.le_of_ble_eq_true rfl⟩) ⟨kB_blind, va_recv hK hP (ci := 5) (q0 := 0) rfl rfl, k_pre (a := []) (z := []) (k_w0 _) hK hP hD⟩ rfl rfl hl.1 rfl (lv_room (Nat.le_of_ble_eq_true rfl)) dX5_readsHour_8 ⟨Nat.zero_le _, Nat.zero_le _⟩) (k_w0 _) (k_w0 _) (moW_ad _ _ _ _ _) hP hD hS hA (fun H locs hP hD hS => ?_)
  obtain ⟨T_1, hT_1⟩ : ∃ T9, T9 = A_X5_digit_s0 M 9 := ⟨_, rfl⟩
  rw [← hT_1] at hP hD
  refine lv_aload_n hx hb dX5_readsHour_11 rfl (lv_at hl 1 rfl) ?_
  refine va_get (D := D) (ci := 5) (v := .int (T_1.1 5)) (C := RX5) (T := TX5) (N := 14) hx hb hts inX5 hown hK hP 0 rfl rfl 9 (by decide) (hts (.fieldLink RX5 186 "PumpOathsModel" "number" "I") (List.mem_of_getElem? (i := 2) rfl)) (fun _ h9 => h9) rfl dX5_readsHour_12 ?_
  refine lv_istore_n (lv' := [(2, .int (T_1.1 5)), (1, .int (M.1 3)), (0, .ref (q 0))]) hx hb dX5_readsHour_15 rfl hl (by decide) rfl (fun ls hl => ?_)
  refine lv_aload_n hx hb dX5_readsHour_16 rfl (lv_at hl 2 rfl) ?_
  refine lv_bipush (v := 9) hx hb dX5_readsHour_17 (by decide) ?_
  refine k_callv (a := []) (z := []) (wc := moW q cI cJ T_1) (wc' := moW q cI cJ (A_X5_digit_s0 T_1 9)) (w' := moW q cI cJ (A_X5_digit_s0 T_1 9)) (va_runV (As := [.int 9]) (rest := []) ⟨hx, hb, hml, hown, hts⟩ (c_X5_digit l D q cI cJ T_1 9 le (by rw [hT_1]; exact (o_digit_I _ _ (by decide) (by decide) (by decide)).trans hle) hle1 (tB_le (tB_1 hav (by rw [hT_1]; exact o_digit_3 _ _)) (by decide)) _) (cwV 1 hts gX5_readsHour_X5_digit rfl rfl rfl (by decide +kernel) ⟨Nat.le_of_ble_eq_true rfl, Nat.le_of_ble_eq_true rfl⟩) ⟨kB_blind, va_recv hK hP (ci := 5) (q0 := 0) rfl rfl, k_pre (a := []) (z := []) (k_w0 _) hK hP hD⟩ rfl rfl hl.1 rfl (lv_room (Nat.le_of_ble_eq_true rfl)) dX5_readsHour_19 ⟨Nat.zero_le _, Nat.zero_le _⟩) (k_w0 _) (k_w0 _) (moW_ad _ _ _ _ _) hP hD hS hA (fun H locs hP hD hS => ?_)
  obtain ⟨T_2, hT_2⟩ : ∃ T9, T9 = A_X5_digit_s0 T_1 9 := ⟨_, rfl⟩
  rw [← hT_2] at hP hD
  refine lv_aload_n hx hb dX5_readsHour_22 rfl (lv_at hl 2 rfl) ?_
  refine lv_dup hx hb dX5_readsHour_23 rfl ?_
  refine va_get (D := D) (ci := 5) (v := .int (T_2.1 5)) (C := RX5) (T := TX5) (N := 14) hx hb hts inX5 hown hK hP 0 rfl rfl 9 (by decide) (hts (.fieldLink RX5 186 "PumpOathsModel" "number" "I") (List.mem_of_getElem? (i := 2) rfl)) (fun _ h9 => h9) rfl dX5_readsHour_24 ?_
  refine lv_bipush (v := 10) hx hb dX5_readsHour_27 (by decide) ?_
  refine lv_iload_n hx hb dX5_readsHour_29 rfl (lv_at hl 0 rfl) ?_
  refine lv_imul hx hb dX5_readsHour_30 ?_
  refine lv_iadd hx hb dX5_readsHour_31 ?_
  refine va_put (D := D) (ci := 5) (v := .int ((T_2.1 5) + (10 * (T_1.1 5)))) (ty := .int) (C := RX5) (T := TX5) (N := 14) hx hb hts inX5 tyX5 tyX5_ok nmX5 hown hK hP hD hS 0 rfl rfl 9 (by decide) (hts (.fieldLink RX5 186 "PumpOathsModel" "number" "I") (List.mem_of_getElem? (i := 2) rfl)) (fun _ h9 => h9) rfl (by decide +kernel) rfl rfl (Nat.le_of_ble_eq_true rfl) dX5_readsHour_32 (fun H locs hP hD hS => ?_)
  have hP : va_P D vwCl (moW q cI cJ (o_setI T_2 5 ((T_2.1 5) + (10 * (T_1.1 5))))) H := hP
  have hD : va_D A9 (moW q cI cJ (o_setI T_2 5 ((T_2.1 5) + (10 * (T_1.1 5))))) := hD
  refine lv_aload_n hx hb dX5_readsHour_35 rfl (lv_at hl 2 rfl) ?_
  refine va_get (D := D) (ci := 5) (v := .int (T_2.1 4)) (C := RX5) (T := TX5) (N := 14) hx hb hts inX5 hown hK hP 0 rfl rfl 8 (by decide) (hts (.fieldLink RX5 180 "PumpOathsModel" "wrong" "I") (List.mem_of_getElem? (i := 3) rfl)) (fun _ h9 => h9) rfl dX5_readsHour_36 ?_
  refine lv_iconst (v := (-1)) hx hb dX5_readsHour_39 (by decide) ?_
  refine lv_icmp_ne (tgt := 57) hx hb dX5_readsHour_40 (by decide) (fun c_40_2 => ?_) (fun c_40_2 => ?_)
  · have c_40_2 : ¬ (T_2.1 4) = (-1) := c_40_2
    rw [hT_2] at c_40_2
    rw [hT_1] at c_40_2
    exact k_vret hx hb hr hlk hP hS dX5_readsHour_57 (k_P (congrArg (fun T9 => moW q cI cJ T9) (show (o_setI T_2 5 ((T_2.1 5) + (10 * (T_1.1 5)))) = (A_X5_readsHour_s0 M) from by rw [hT_2, hT_1, A_X5_readsHour_s0, if_neg c_40_2])))
  · have c_40_2 : (T_2.1 4) = (-1) := c_40_2
    refine lv_aload_n hx hb dX5_readsHour_43 rfl (lv_at hl 2 rfl) ?_
    refine va_get (D := D) (ci := 5) (v := .int ((T_2.1 5) + (10 * (T_1.1 5)))) (C := RX5) (T := TX5) (N := 14) hx hb hts inX5 hown hK hP 0 rfl rfl 9 (by decide) (hts (.fieldLink RX5 186 "PumpOathsModel" "number" "I") (List.mem_of_getElem? (i := 2) rfl)) (fun _ h9 => h9) rfl dX5_readsHour_44 ?_
    refine lv_bipush (v := 23) hx hb dX5_readsHour_47 (by decide) ?_
    refine lv_icmp_le (tgt := 57) hx hb dX5_readsHour_49 (by decide) (fun c_49_3 => ?_) (fun c_49_3 => ?_)
    · have c_49_3 : ((T_2.1 5) + (10 * (T_1.1 5))) ≤ 23 := c_49_3
      rw [hT_2] at c_40_2
      rw [hT_1] at c_40_2
      rw [hT_2] at c_49_3
      rw [hT_1] at c_49_3
      exact k_vret hx hb hr hlk hP hS dX5_readsHour_57 (k_P (congrArg (fun T9 => moW q cI cJ T9) (show (o_setI T_2 5 ((T_2.1 5) + (10 * (T_1.1 5)))) = (A_X5_readsHour_s0 M) from by rw [hT_2, hT_1, A_X5_readsHour_s0, if_pos c_40_2, if_pos c_49_3])))
    · have c_49_3 : ¬ ((T_2.1 5) + (10 * (T_1.1 5))) ≤ 23 := c_49_3
      refine lv_aload_n hx hb dX5_readsHour_52 rfl (lv_at hl 2 rfl) ?_
      refine lv_iload_n hx hb dX5_readsHour_53 rfl (lv_at hl 1 rfl) ?_
      refine k_callv (a := []) (z := []) (wc := moW q cI cJ (o_setI T_2 5 ((T_2.1 5) + (10 * (T_1.1 5))))) (wc' := moW q cI cJ (o_fail (o_setI T_2 5 ((T_2.1 5) + (10 * (T_1.1 5)))) (M.1 3))) (w' := moW q cI cJ (o_fail (o_setI T_2 5 ((T_2.1 5) + (10 * (T_1.1 5)))) (M.1 3))) (va_runV (As := [.int (M.1 3)]) (rest := []) ⟨hx, hb, hml, hown, hts⟩ (c_X5_fails l D q cI cJ (o_setI T_2 5 ((T_2.1 5) + (10 * (T_1.1 5)))) (M.1 3) _) (cwV 1 hts gX5_readsHour_X5_fails rfl rfl rfl (by decide +kernel) ⟨Nat.le_of_ble_eq_true rfl, Nat.le_of_ble_eq_true rfl⟩) ⟨kB_blind, va_recv hK hP (ci := 5) (q0 := 0) rfl rfl, k_pre (a := []) (z := []) (k_w0 _) hK hP hD⟩ rfl rfl hl.1 rfl (lv_room (Nat.le_of_ble_eq_true rfl)) dX5_readsHour_54 ⟨Nat.zero_le _, Nat.zero_le _⟩) (k_w0 _) (k_w0 _) (moW_ad _ _ _ _ _) hP hD hS hA (fun H locs hP hD hS => ?_)
      obtain ⟨T_5, hT_5⟩ : ∃ T9, T9 = o_fail (o_setI T_2 5 ((T_2.1 5) + (10 * (T_1.1 5)))) (M.1 3) := ⟨_, rfl⟩
      rw [← hT_5] at hP hD
      rw [hT_2] at c_40_2
      rw [hT_1] at c_40_2
      rw [hT_2] at c_49_3
      rw [hT_1] at c_49_3
      exact k_vret hx hb hr hlk hP hS dX5_readsHour_57 (k_P (congrArg (fun T9 => moW q cI cJ T9) (show T_5 = (A_X5_readsHour_s0 M) from by rw [hT_5, hT_2, hT_1, A_X5_readsHour_s0, if_pos c_40_2, if_neg c_49_3])))
