set_option maxHeartbeats 1000000 in
set_option maxRecDepth 100000 in
theorem n_X4_setSize (l : Launch) (D : va_G) (o : Nat) (q1 q2 q3 q4 q5 q6 qt : Nat → Nat) (cI cJ : ClassId) (S1 S2 S3 S4 S5 S6 : SS) (T : TS) (sv : Int32) (x : Int32) (hc : c_in x 100 100000 = true) (h1 : ¬ x < S2.1 1) (h3 : S2.1 3 ≤ x) : kI l yX4_setSize wsX4_setSize ({ frames := 4, cells := 0, slots := 0, locals := 102 } : Room) D [(cI, .int), (cJ, .long)] [.ref o, .int x] (poC o q1 q2 q3 q4 q5 q6 qt sv ++ (stW q1 cI cJ S1 ++ (stW q2 cI cJ S2 ++ (stW q3 cI cJ S3 ++ (stW q4 cI cJ S4 ++ (stW q5 cI cJ S5 ++ (stW q6 cI cJ S6 ++ (txW qt cI T)))))))) (S2.1 0) (poC o q1 q2 q3 q4 q5 q6 qt (c_sv sv) ++ (stW q1 cI cJ S1 ++ (stW q2 cI cJ (setI S2 0 x) ++ (stW q3 cI cJ S2 ++ (stW q4 cI cJ S3 ++ (stW q5 cI cJ S4 ++ (stW q6 cI cJ S5 ++ (txW qt cI T)))))))) := by
  refine kBody.met (cc := cX4_setSize) (maxL := 3) (ret := (some .int)) (by decide) rfl (Nat.le_of_ble_eq_true rfl) ?_
  intro p9 e9 s9 m9 below meth c9 A9 ls hx hb hr hml hts hown hlk hK hP hD hA hl
  have hown : s9.vm.findClass RX4 = some m9.cls := hown
  have inX0 : ∀ w ∈ wsX00, w ∈ wsX4_setSize := fun w h => List.mem_cons_of_mem _ (List.mem_append_left _ (List.mem_append_left _ (List.mem_append_right _ (h))))
  have inX2 : ∀ w ∈ wsX20, w ∈ wsX4_setSize := fun w h => List.mem_cons_of_mem _ (List.mem_append_left _ (List.mem_append_left _ (List.mem_append_left _ (List.mem_append_right _ (h)))))
  have inX3 : ∀ w ∈ wsX30, w ∈ wsX4_setSize := fun w h => List.mem_cons_of_mem _ (List.mem_append_left _ (List.mem_append_left _ (List.mem_append_left _ (List.mem_append_left _ (List.mem_append_right _ (h))))))
  have inX4 : ∀ w ∈ wsX40, w ∈ wsX4_setSize := fun w h => List.mem_cons_of_mem _ (List.mem_append_left _ (List.mem_append_left _ (List.mem_append_left _ (List.mem_append_left _ (List.mem_append_left _ (List.mem_append_right _ (h)))))))
  have hS : va_S A9 s9.heap s9.heap [] := va_S.rf
  have hl : lv_has ls 3 [(0, .ref o), (1, .int x)] := hl
  refine lv_iload_n hx hb dX4_setSize_0 rfl (lv_at hl 1 rfl) ?_
  refine lv_bipush (v := 100) hx hb dX4_setSize_1 (by decide) ?_
  refine lv_ldc (v := 100000) hx hb hown (hts (.constant RX4 42 (100000)) (List.mem_of_getElem? (i := 5) rfl)) dX4_setSize_3 ?_
  refine k_calli (a := []) (z := (poC o q1 q2 q3 q4 q5 q6 qt sv ++ (stW q1 cI cJ S1 ++ (stW q2 cI cJ S2 ++ (stW q3 cI cJ S3 ++ (stW q4 cI cJ S4 ++ (stW q5 cI cJ S5 ++ (stW q6 cI cJ S6 ++ (txW qt cI T))))))))) (wc := []) (wc' := []) (w' := (poC o q1 q2 q3 q4 q5 q6 qt sv ++ (stW q1 cI cJ S1 ++ (stW q2 cI cJ S2 ++ (stW q3 cI cJ S3 ++ (stW q4 cI cJ S4 ++ (stW q5 cI cJ S5 ++ (stW q6 cI cJ S6 ++ (txW qt cI T))))))))) (va_runS (As := [.int x, .int 100, .int 100000]) (rest := []) ⟨hx, hb, hml, hown, hts⟩ (c_X4_isIn l D cI cJ x 100 100000 _) (cwS 3 hts gX4_setSize_X4_isIn rfl rfl rfl (by decide +kernel) ⟨Nat.le_of_ble_eq_true rfl, Nat.le_of_ble_eq_true rfl⟩) ⟨kB_blind, k_pre (a := []) (z := (poC o q1 q2 q3 q4 q5 q6 qt sv ++ (stW q1 cI cJ S1 ++ (stW q2 cI cJ S2 ++ (stW q3 cI cJ S3 ++ (stW q4 cI cJ S4 ++ (stW q5 cI cJ S5 ++ (stW q6 cI cJ S6 ++ (txW qt cI T))))))))) rfl hK hP hD⟩ rfl rfl hl.1 rfl (lv_room (Nat.le_of_ble_eq_true rfl)) dX4_setSize_5 ⟨Nat.zero_le _, Nat.zero_le _⟩) rfl rfl rfl hP hD hS hA (fun H locs hP hD hS => ?_)
  refine lv_if_ne (tgt := 21) hx hb dX4_setSize_8 (by decide) (fun c_8_0 => ?_) (fun c_8_0 => ?_)
  · have c_8_0 : (c_in x 100 100000) = true := bi_n.mp c_8_0
    refine lv_aload_n hx hb dX4_setSize_21 rfl (lv_at hl 0 rfl) ?_
    refine va_get (D := D) (ci := 4) (v := .ref (q2 0)) (C := RX4) (T := TX4) (N := 8) hx hb hts inX4 hown hK hP 0 rfl rfl 0 (by decide) (hts (.fieldLink RX4 10 "PumpOaths" "now" "LPumpOaths$Station;") (List.mem_of_getElem? (i := 6) rfl)) (fun _ h9 => h9) rfl dX4_setSize_22 ?_
    refine va_get (D := D) (ci := 3) (v := .int (S2.1 1)) (C := RX3) (T := TX3) (N := 15) hx hb hts inX3 hown hK hP 16 rfl rfl 1 (by decide) (hts (.fieldLink RX4 54 "PumpOaths$Station" "level" "I") (List.mem_of_getElem? (i := 7) rfl)) (fun _ h9 => h9) rfl dX4_setSize_25 ?_
    refine lv_iload_n hx hb dX4_setSize_28 rfl (lv_at hl 1 rfl) ?_
    refine lv_icmp_gt (tgt := 43) hx hb dX4_setSize_29 (by decide) (fun c_29_1 => ?_) (fun c_29_1 => ?_)
    · have c_29_1 : x < (S2.1 1) := c_29_1
      exact absurd c_29_1 h1
    · have c_29_1 : ¬ x < (S2.1 1) := c_29_1
      refine lv_aload_n hx hb dX4_setSize_32 rfl (lv_at hl 0 rfl) ?_
      refine va_get (D := D) (ci := 4) (v := .ref (q2 0)) (C := RX4) (T := TX4) (N := 8) hx hb hts inX4 hown hK hP 0 rfl rfl 0 (by decide) (hts (.fieldLink RX4 10 "PumpOaths" "now" "LPumpOaths$Station;") (List.mem_of_getElem? (i := 6) rfl)) (fun _ h9 => h9) rfl dX4_setSize_33 ?_
      refine va_get (D := D) (ci := 3) (v := .int (S2.1 3)) (C := RX3) (T := TX3) (N := 15) hx hb hts inX3 hown hK hP 16 rfl rfl 3 (by decide) (hts (.fieldLink RX4 57 "PumpOaths$Station" "high" "I") (List.mem_of_getElem? (i := 8) rfl)) (fun _ h9 => h9) rfl dX4_setSize_36 ?_
      refine lv_iload_n hx hb dX4_setSize_39 rfl (lv_at hl 1 rfl) ?_
      refine lv_icmp_le (tgt := 53) hx hb dX4_setSize_40 (by decide) (fun c_40_2 => ?_) (fun c_40_2 => ?_)
      · have c_40_2 : (S2.1 3) ≤ x := c_40_2
        refine lv_aload_n hx hb dX4_setSize_53 rfl (lv_at hl 0 rfl) ?_
        refine k_callv (a := []) (z := []) (wc := (poC o q1 q2 q3 q4 q5 q6 qt sv ++ (stW q1 cI cJ S1 ++ (stW q2 cI cJ S2 ++ (stW q3 cI cJ S3 ++ (stW q4 cI cJ S4 ++ (stW q5 cI cJ S5 ++ (stW q6 cI cJ S6 ++ (txW qt cI T))))))))) (wc' := (poC o q1 q2 q3 q4 q5 q6 qt (c_sv sv) ++ (stW q1 cI cJ S1 ++ (stW q2 cI cJ S2 ++ (stW q3 cI cJ S2 ++ (stW q4 cI cJ S3 ++ (stW q5 cI cJ S4 ++ (stW q6 cI cJ S5 ++ (txW qt cI T))))))))) (w' := (poC o q1 q2 q3 q4 q5 q6 qt (c_sv sv) ++ (stW q1 cI cJ S1 ++ (stW q2 cI cJ S2 ++ (stW q3 cI cJ S2 ++ (stW q4 cI cJ S3 ++ (stW q5 cI cJ S4 ++ (stW q6 cI cJ S5 ++ (txW qt cI T))))))))) (va_runV (As := []) (rest := []) ⟨hx, hb, hml, hown, hts⟩ (c_X4_save l D o q1 q2 q3 q4 q5 q6 qt cI cJ S1 S2 S3 S4 S5 S6 T sv  _) (cwV 0 hts gX4_setSize_X4_save rfl rfl rfl (by decide +kernel) ⟨Nat.le_of_ble_eq_true rfl, Nat.le_of_ble_eq_true rfl⟩) ⟨kB_blind, va_recv hK hP (ci := 4) (q0 := 0) rfl rfl, k_pre (a := []) (z := []) (k_w0 _) hK hP hD⟩ rfl rfl hl.1 rfl (lv_room (Nat.le_of_ble_eq_true rfl)) dX4_setSize_54 ⟨Nat.zero_le _, Nat.zero_le _⟩) (k_w0 _) (k_w0 _) rfl hP hD hS hA (fun H locs hP hD hS => ?_)
        refine lv_aload_n hx hb dX4_setSize_57 rfl (lv_at hl 0 rfl) ?_
        refine va_get (D := D) (ci := 4) (v := .ref (q2 0)) (C := RX4) (T := TX4) (N := 8) hx hb hts inX4 hown hK hP 0 rfl rfl 0 (by decide) (hts (.fieldLink RX4 10 "PumpOaths" "now" "LPumpOaths$Station;") (List.mem_of_getElem? (i := 6) rfl)) (fun _ h9 => h9) rfl dX4_setSize_58 ?_
        refine va_get (D := D) (ci := 3) (v := .int (S2.1 0)) (C := RX3) (T := TX3) (N := 15) hx hb hts inX3 hown hK hP 16 rfl rfl 0 (by decide) (hts (.fieldLink RX4 68 "PumpOaths$Station" "size" "I") (List.mem_of_getElem? (i := 9) rfl)) (fun _ h9 => h9) rfl dX4_setSize_61 ?_
        refine lv_istore_n (lv' := [(2, .int (S2.1 0)), (0, .ref o), (1, .int x)]) hx hb dX4_setSize_64 rfl hl (by decide) rfl (fun ls hl => ?_)
        refine lv_aload_n hx hb dX4_setSize_65 rfl (lv_at hl 1 rfl) ?_
        refine va_get (D := D) (ci := 4) (v := .ref (q2 0)) (C := RX4) (T := TX4) (N := 8) hx hb hts inX4 hown hK hP 0 rfl rfl 0 (by decide) (hts (.fieldLink RX4 10 "PumpOaths" "now" "LPumpOaths$Station;") (List.mem_of_getElem? (i := 6) rfl)) (fun _ h9 => h9) rfl dX4_setSize_66 ?_
        refine lv_iload_n hx hb dX4_setSize_69 rfl (lv_at hl 2 rfl) ?_
        refine va_put (D := D) (ci := 3) (v := .int x) (ty := .int) (C := RX3) (T := TX3) (N := 15) hx hb hts inX3 tyX3 tyX3_ok nmX3 hown hK hP hD hS 16 rfl rfl 0 (by decide) (hts (.fieldLink RX4 68 "PumpOaths$Station" "size" "I") (List.mem_of_getElem? (i := 9) rfl)) (fun _ h9 => h9) rfl (by decide +kernel) rfl rfl (Nat.le_of_ble_eq_true rfl) dX4_setSize_70 (fun H locs hP hD hS => ?_)
        have hP : va_P D vwCl (poC o q1 q2 q3 q4 q5 q6 qt (c_sv sv) ++ (stW q1 cI cJ S1 ++ (stW q2 cI cJ (setI S2 0 x) ++ (stW q3 cI cJ S2 ++ (stW q4 cI cJ S3 ++ (stW q5 cI cJ S4 ++ (stW q6 cI cJ S5 ++ (txW qt cI T)))))))) H := hP
        have hD : va_D A9 (poC o q1 q2 q3 q4 q5 q6 qt (c_sv sv) ++ (stW q1 cI cJ S1 ++ (stW q2 cI cJ (setI S2 0 x) ++ (stW q3 cI cJ S2 ++ (stW q4 cI cJ S3 ++ (stW q5 cI cJ S4 ++ (stW q6 cI cJ S5 ++ (txW qt cI T)))))))) := hD
        refine lv_iload_n hx hb dX4_setSize_73 rfl (lv_at hl 0 rfl) ?_
        exact k_iret hx hb hr hlk hP hS dX4_setSize_74 rfl (by first | rfl | (simp only [c_8_0, c_29_1, c_40_2]; done) | (simp [c_8_0, c_29_1, c_40_2]; done)) (fun h => h)
      · have c_40_2 : ¬ (S2.1 3) ≤ x := c_40_2
        exact absurd h3 c_40_2
  · have c_8_0 : (c_in x 100 100000) = false := bi_0.mp c_8_0
    exact absurd (hc.symm.trans c_8_0) (by decide)

set_option maxHeartbeats 1000000 in
set_option maxRecDepth 100000 in
theorem n_X4_setBand (l : Launch) (D : va_G) (o : Nat) (q1 q2 q3 q4 q5 q6 qt : Nat → Nat) (cI cJ : ClassId) (S1 S2 S3 S4 S5 S6 : SS) (T : TS) (sv : Int32) (x y : Int32) (h1 : ¬ x < 1) (h2 : x < y) (h3 : y ≤ S2.1 0) : kI l yX4_setBand wsX4_setBand ({ frames := 4, cells := 0, slots := 0, locals := 102 } : Room) D [(cI, .int), (cJ, .long)] [.ref o, .int x, .int y] (poC o q1 q2 q3 q4 q5 q6 qt sv ++ (stW q1 cI cJ S1 ++ (stW q2 cI cJ S2 ++ (stW q3 cI cJ S3 ++ (stW q4 cI cJ S4 ++ (stW q5 cI cJ S5 ++ (stW q6 cI cJ S6 ++ (txW qt cI T)))))))) (S2.1 3 - S2.1 2) (poC o q1 q2 q3 q4 q5 q6 qt (c_sv sv) ++ (stW q1 cI cJ S1 ++ (stW q2 cI cJ (setI (setI S2 2 x) 3 y) ++ (stW q3 cI cJ S2 ++ (stW q4 cI cJ S3 ++ (stW q5 cI cJ S4 ++ (stW q6 cI cJ S5 ++ (txW qt cI T)))))))) := by
  refine kBody.met (cc := cX4_setBand) (maxL := 4) (ret := (some .int)) (by decide) rfl (Nat.le_of_ble_eq_true rfl) ?_
  intro p9 e9 s9 m9 below meth c9 A9 ls hx hb hr hml hts hown hlk hK hP hD hA hl
  have hown : s9.vm.findClass RX4 = some m9.cls := hown
  have inX0 : ∀ w ∈ wsX00, w ∈ wsX4_setBand := fun w h => List.mem_cons_of_mem _ (List.mem_append_left _ (List.mem_append_left _ (List.mem_append_right _ (h))))
  have inX2 : ∀ w ∈ wsX20, w ∈ wsX4_setBand := fun w h => List.mem_cons_of_mem _ (List.mem_append_left _ (List.mem_append_left _ (List.mem_append_left _ (List.mem_append_right _ (h)))))
  have inX3 : ∀ w ∈ wsX30, w ∈ wsX4_setBand := fun w h => List.mem_cons_of_mem _ (List.mem_append_left _ (List.mem_append_left _ (List.mem_append_left _ (List.mem_append_left _ (List.mem_append_right _ (h))))))
  have inX4 : ∀ w ∈ wsX40, w ∈ wsX4_setBand := fun w h => List.mem_cons_of_mem _ (List.mem_append_left _ (List.mem_append_left _ (List.mem_append_left _ (List.mem_append_left _ (List.mem_append_left _ (List.mem_append_right _ (h)))))))
  have hS : va_S A9 s9.heap s9.heap [] := va_S.rf
  have hl : lv_has ls 4 [(0, .ref o), (1, .int x), (2, .int y)] := hl
  refine lv_iload_n hx hb dX4_setBand_0 rfl (lv_at hl 1 rfl) ?_
  refine lv_iconst (v := 1) hx hb dX4_setBand_1 (by decide) ?_
  refine lv_icmp_lt (tgt := 10) hx hb dX4_setBand_2 (by decide) (fun c_2_0 => ?_) (fun c_2_0 => ?_)
  · have c_2_0 : x < 1 := c_2_0
    exact absurd c_2_0 h1
  · have c_2_0 : ¬ x < 1 := c_2_0
    refine lv_iload_n hx hb dX4_setBand_5 rfl (lv_at hl 2 rfl) ?_
    refine lv_iload_n hx hb dX4_setBand_6 rfl (lv_at hl 1 rfl) ?_
    refine lv_icmp_gt (tgt := 20) hx hb dX4_setBand_7 (by decide) (fun c_7_1 => ?_) (fun c_7_1 => ?_)
    · have c_7_1 : x < y := c_7_1
      refine lv_iload_n hx hb dX4_setBand_20 rfl (lv_at hl 2 rfl) ?_
      refine lv_aload_n hx hb dX4_setBand_21 rfl (lv_at hl 0 rfl) ?_
      refine va_get (D := D) (ci := 4) (v := .ref (q2 0)) (C := RX4) (T := TX4) (N := 8) hx hb hts inX4 hown hK hP 0 rfl rfl 0 (by decide) (hts (.fieldLink RX4 10 "PumpOaths" "now" "LPumpOaths$Station;") (List.mem_of_getElem? (i := 5) rfl)) (fun _ h9 => h9) rfl dX4_setBand_22 ?_
      refine va_get (D := D) (ci := 3) (v := .int (S2.1 0)) (C := RX3) (T := TX3) (N := 15) hx hb hts inX3 hown hK hP 16 rfl rfl 0 (by decide) (hts (.fieldLink RX4 68 "PumpOaths$Station" "size" "I") (List.mem_of_getElem? (i := 6) rfl)) (fun _ h9 => h9) rfl dX4_setBand_25 ?_
      refine lv_icmp_le (tgt := 41) hx hb dX4_setBand_28 (by decide) (fun c_28_2 => ?_) (fun c_28_2 => ?_)
      · have c_28_2 : y ≤ (S2.1 0) := c_28_2
        refine lv_aload_n hx hb dX4_setBand_41 rfl (lv_at hl 0 rfl) ?_
        refine k_callv (a := []) (z := []) (wc := (poC o q1 q2 q3 q4 q5 q6 qt sv ++ (stW q1 cI cJ S1 ++ (stW q2 cI cJ S2 ++ (stW q3 cI cJ S3 ++ (stW q4 cI cJ S4 ++ (stW q5 cI cJ S5 ++ (stW q6 cI cJ S6 ++ (txW qt cI T))))))))) (wc' := (poC o q1 q2 q3 q4 q5 q6 qt (c_sv sv) ++ (stW q1 cI cJ S1 ++ (stW q2 cI cJ S2 ++ (stW q3 cI cJ S2 ++ (stW q4 cI cJ S3 ++ (stW q5 cI cJ S4 ++ (stW q6 cI cJ S5 ++ (txW qt cI T))))))))) (w' := (poC o q1 q2 q3 q4 q5 q6 qt (c_sv sv) ++ (stW q1 cI cJ S1 ++ (stW q2 cI cJ S2 ++ (stW q3 cI cJ S2 ++ (stW q4 cI cJ S3 ++ (stW q5 cI cJ S4 ++ (stW q6 cI cJ S5 ++ (txW qt cI T))))))))) (va_runV (As := []) (rest := []) ⟨hx, hb, hml, hown, hts⟩ (c_X4_save l D o q1 q2 q3 q4 q5 q6 qt cI cJ S1 S2 S3 S4 S5 S6 T sv  _) (cwV 0 hts gX4_setBand_X4_save rfl rfl rfl (by decide +kernel) ⟨Nat.le_of_ble_eq_true rfl, Nat.le_of_ble_eq_true rfl⟩) ⟨kB_blind, va_recv hK hP (ci := 4) (q0 := 0) rfl rfl, k_pre (a := []) (z := []) (k_w0 _) hK hP hD⟩ rfl rfl hl.1 rfl (lv_room (Nat.le_of_ble_eq_true rfl)) dX4_setBand_42 ⟨Nat.zero_le _, Nat.zero_le _⟩) (k_w0 _) (k_w0 _) rfl hP hD hS hA (fun H locs hP hD hS => ?_)
        refine lv_aload_n hx hb dX4_setBand_45 rfl (lv_at hl 0 rfl) ?_
        refine va_get (D := D) (ci := 4) (v := .ref (q2 0)) (C := RX4) (T := TX4) (N := 8) hx hb hts inX4 hown hK hP 0 rfl rfl 0 (by decide) (hts (.fieldLink RX4 10 "PumpOaths" "now" "LPumpOaths$Station;") (List.mem_of_getElem? (i := 5) rfl)) (fun _ h9 => h9) rfl dX4_setBand_46 ?_
        refine va_get (D := D) (ci := 3) (v := .int (S2.1 3)) (C := RX3) (T := TX3) (N := 15) hx hb hts inX3 hown hK hP 16 rfl rfl 3 (by decide) (hts (.fieldLink RX4 57 "PumpOaths$Station" "high" "I") (List.mem_of_getElem? (i := 7) rfl)) (fun _ h9 => h9) rfl dX4_setBand_49 ?_
        refine lv_aload_n hx hb dX4_setBand_52 rfl (lv_at hl 0 rfl) ?_
        refine va_get (D := D) (ci := 4) (v := .ref (q2 0)) (C := RX4) (T := TX4) (N := 8) hx hb hts inX4 hown hK hP 0 rfl rfl 0 (by decide) (hts (.fieldLink RX4 10 "PumpOaths" "now" "LPumpOaths$Station;") (List.mem_of_getElem? (i := 5) rfl)) (fun _ h9 => h9) rfl dX4_setBand_53 ?_
        refine va_get (D := D) (ci := 3) (v := .int (S2.1 2)) (C := RX3) (T := TX3) (N := 15) hx hb hts inX3 hown hK hP 16 rfl rfl 2 (by decide) (hts (.fieldLink RX4 75 "PumpOaths$Station" "low" "I") (List.mem_of_getElem? (i := 8) rfl)) (fun _ h9 => h9) rfl dX4_setBand_56 ?_
        refine lv_isub hx hb dX4_setBand_59 ?_
        refine lv_istore_n (lv' := [(3, .int ((S2.1 3) - (S2.1 2))), (0, .ref o), (1, .int x), (2, .int y)]) hx hb dX4_setBand_60 rfl hl (by decide) rfl (fun ls hl => ?_)
        refine lv_aload_n hx hb dX4_setBand_61 rfl (lv_at hl 1 rfl) ?_
        refine va_get (D := D) (ci := 4) (v := .ref (q2 0)) (C := RX4) (T := TX4) (N := 8) hx hb hts inX4 hown hK hP 0 rfl rfl 0 (by decide) (hts (.fieldLink RX4 10 "PumpOaths" "now" "LPumpOaths$Station;") (List.mem_of_getElem? (i := 5) rfl)) (fun _ h9 => h9) rfl dX4_setBand_62 ?_
        refine lv_iload_n hx hb dX4_setBand_65 rfl (lv_at hl 2 rfl) ?_
        refine va_put (D := D) (ci := 3) (v := .int x) (ty := .int) (C := RX3) (T := TX3) (N := 15) hx hb hts inX3 tyX3 tyX3_ok nmX3 hown hK hP hD hS 16 rfl rfl 2 (by decide) (hts (.fieldLink RX4 75 "PumpOaths$Station" "low" "I") (List.mem_of_getElem? (i := 8) rfl)) (fun _ h9 => h9) rfl (by decide +kernel) rfl rfl (Nat.le_of_ble_eq_true rfl) dX4_setBand_66 (fun H locs hP hD hS => ?_)
        have hP : va_P D vwCl (poC o q1 q2 q3 q4 q5 q6 qt (c_sv sv) ++ (stW q1 cI cJ S1 ++ (stW q2 cI cJ (setI S2 2 x) ++ (stW q3 cI cJ S2 ++ (stW q4 cI cJ S3 ++ (stW q5 cI cJ S4 ++ (stW q6 cI cJ S5 ++ (txW qt cI T)))))))) H := hP
        have hD : va_D A9 (poC o q1 q2 q3 q4 q5 q6 qt (c_sv sv) ++ (stW q1 cI cJ S1 ++ (stW q2 cI cJ (setI S2 2 x) ++ (stW q3 cI cJ S2 ++ (stW q4 cI cJ S3 ++ (stW q5 cI cJ S4 ++ (stW q6 cI cJ S5 ++ (txW qt cI T)))))))) := hD
        refine lv_aload_n hx hb dX4_setBand_69 rfl (lv_at hl 1 rfl) ?_
        refine va_get (D := D) (ci := 4) (v := .ref (q2 0)) (C := RX4) (T := TX4) (N := 8) hx hb hts inX4 hown hK hP 0 rfl rfl 0 (by decide) (hts (.fieldLink RX4 10 "PumpOaths" "now" "LPumpOaths$Station;") (List.mem_of_getElem? (i := 5) rfl)) (fun _ h9 => h9) rfl dX4_setBand_70 ?_
        refine lv_iload_n hx hb dX4_setBand_73 rfl (lv_at hl 3 rfl) ?_
        refine va_put (D := D) (ci := 3) (v := .int y) (ty := .int) (C := RX3) (T := TX3) (N := 15) hx hb hts inX3 tyX3 tyX3_ok nmX3 hown hK hP hD hS 16 rfl rfl 3 (by decide) (hts (.fieldLink RX4 57 "PumpOaths$Station" "high" "I") (List.mem_of_getElem? (i := 7) rfl)) (fun _ h9 => h9) rfl (by decide +kernel) rfl rfl (Nat.le_of_ble_eq_true rfl) dX4_setBand_74 (fun H locs hP hD hS => ?_)
        have hP : va_P D vwCl (poC o q1 q2 q3 q4 q5 q6 qt (c_sv sv) ++ (stW q1 cI cJ S1 ++ (stW q2 cI cJ (setI (setI S2 2 x) 3 y) ++ (stW q3 cI cJ S2 ++ (stW q4 cI cJ S3 ++ (stW q5 cI cJ S4 ++ (stW q6 cI cJ S5 ++ (txW qt cI T)))))))) H := hP
        have hD : va_D A9 (poC o q1 q2 q3 q4 q5 q6 qt (c_sv sv) ++ (stW q1 cI cJ S1 ++ (stW q2 cI cJ (setI (setI S2 2 x) 3 y) ++ (stW q3 cI cJ S2 ++ (stW q4 cI cJ S3 ++ (stW q5 cI cJ S4 ++ (stW q6 cI cJ S5 ++ (txW qt cI T)))))))) := hD
        refine lv_iload_n hx hb dX4_setBand_77 rfl (lv_at hl 0 rfl) ?_
        exact k_iret hx hb hr hlk hP hS dX4_setBand_78 rfl (by first | rfl | (simp only [c_2_0, c_7_1, c_28_2]; done) | (simp [c_2_0, c_7_1, c_28_2]; done)) (fun h => h)
      · have c_28_2 : ¬ y ≤ (S2.1 0) := c_28_2
        exact absurd h3 c_28_2
    · have c_7_1 : ¬ x < y := c_7_1
      exact absurd h2 c_7_1

set_option maxHeartbeats 1000000 in
set_option maxRecDepth 100000 in
theorem n_X4_setLevel (l : Launch) (D : va_G) (o : Nat) (q1 q2 q3 q4 q5 q6 qt : Nat → Nat) (cI cJ : ClassId) (S1 S2 S3 S4 S5 S6 : SS) (T : TS) (sv : Int32) (x : Int32) (h1 : 0 ≤ x) (h3 : x ≤ S2.1 0) : kI l yX4_setLevel wsX4_setLevel ({ frames := 4, cells := 0, slots := 0, locals := 102 } : Room) D [(cI, .int), (cJ, .long)] [.ref o, .int x] (poC o q1 q2 q3 q4 q5 q6 qt sv ++ (stW q1 cI cJ S1 ++ (stW q2 cI cJ S2 ++ (stW q3 cI cJ S3 ++ (stW q4 cI cJ S4 ++ (stW q5 cI cJ S5 ++ (stW q6 cI cJ S6 ++ (txW qt cI T)))))))) (S2.1 1) (poC o q1 q2 q3 q4 q5 q6 qt (c_sv sv) ++ (stW q1 cI cJ S1 ++ (stW q2 cI cJ (setI S2 1 x) ++ (stW q3 cI cJ S2 ++ (stW q4 cI cJ S3 ++ (stW q5 cI cJ S4 ++ (stW q6 cI cJ S5 ++ (txW qt cI T)))))))) := by
  refine kBody.met (cc := cX4_setLevel) (maxL := 3) (ret := (some .int)) (by decide) rfl (Nat.le_of_ble_eq_true rfl) ?_
  intro p9 e9 s9 m9 below meth c9 A9 ls hx hb hr hml hts hown hlk hK hP hD hA hl
  have hown : s9.vm.findClass RX4 = some m9.cls := hown
  have inX0 : ∀ w ∈ wsX00, w ∈ wsX4_setLevel := fun w h => List.mem_cons_of_mem _ (List.mem_append_left _ (List.mem_append_left _ (List.mem_append_right _ (h))))
  have inX2 : ∀ w ∈ wsX20, w ∈ wsX4_setLevel := fun w h => List.mem_cons_of_mem _ (List.mem_append_left _ (List.mem_append_left _ (List.mem_append_left _ (List.mem_append_right _ (h)))))
  have inX3 : ∀ w ∈ wsX30, w ∈ wsX4_setLevel := fun w h => List.mem_cons_of_mem _ (List.mem_append_left _ (List.mem_append_left _ (List.mem_append_left _ (List.mem_append_left _ (List.mem_append_right _ (h))))))
  have inX4 : ∀ w ∈ wsX40, w ∈ wsX4_setLevel := fun w h => List.mem_cons_of_mem _ (List.mem_append_left _ (List.mem_append_left _ (List.mem_append_left _ (List.mem_append_left _ (List.mem_append_left _ (List.mem_append_right _ (h)))))))
  have hS : va_S A9 s9.heap s9.heap [] := va_S.rf
  have hl : lv_has ls 3 [(0, .ref o), (1, .int x)] := hl
  refine lv_iload_n hx hb dX4_setLevel_0 rfl (lv_at hl 1 rfl) ?_
  refine lv_if_ge (tgt := 14) hx hb dX4_setLevel_1 (by decide) (fun c_1_0 => ?_) (fun c_1_0 => ?_)
  · have c_1_0 : 0 ≤ x := c_1_0
    refine lv_iload_n hx hb dX4_setLevel_14 rfl (lv_at hl 1 rfl) ?_
    refine lv_aload_n hx hb dX4_setLevel_15 rfl (lv_at hl 0 rfl) ?_
    refine va_get (D := D) (ci := 4) (v := .ref (q2 0)) (C := RX4) (T := TX4) (N := 8) hx hb hts inX4 hown hK hP 0 rfl rfl 0 (by decide) (hts (.fieldLink RX4 10 "PumpOaths" "now" "LPumpOaths$Station;") (List.mem_of_getElem? (i := 5) rfl)) (fun _ h9 => h9) rfl dX4_setLevel_16 ?_
    refine va_get (D := D) (ci := 3) (v := .int (S2.1 0)) (C := RX3) (T := TX3) (N := 15) hx hb hts inX3 hown hK hP 16 rfl rfl 0 (by decide) (hts (.fieldLink RX4 68 "PumpOaths$Station" "size" "I") (List.mem_of_getElem? (i := 6) rfl)) (fun _ h9 => h9) rfl dX4_setLevel_19 ?_
    refine lv_icmp_le (tgt := 35) hx hb dX4_setLevel_22 (by decide) (fun c_22_1 => ?_) (fun c_22_1 => ?_)
    · have c_22_1 : x ≤ (S2.1 0) := c_22_1
      refine lv_aload_n hx hb dX4_setLevel_35 rfl (lv_at hl 0 rfl) ?_
      refine k_callv (a := []) (z := []) (wc := (poC o q1 q2 q3 q4 q5 q6 qt sv ++ (stW q1 cI cJ S1 ++ (stW q2 cI cJ S2 ++ (stW q3 cI cJ S3 ++ (stW q4 cI cJ S4 ++ (stW q5 cI cJ S5 ++ (stW q6 cI cJ S6 ++ (txW qt cI T))))))))) (wc' := (poC o q1 q2 q3 q4 q5 q6 qt (c_sv sv) ++ (stW q1 cI cJ S1 ++ (stW q2 cI cJ S2 ++ (stW q3 cI cJ S2 ++ (stW q4 cI cJ S3 ++ (stW q5 cI cJ S4 ++ (stW q6 cI cJ S5 ++ (txW qt cI T))))))))) (w' := (poC o q1 q2 q3 q4 q5 q6 qt (c_sv sv) ++ (stW q1 cI cJ S1 ++ (stW q2 cI cJ S2 ++ (stW q3 cI cJ S2 ++ (stW q4 cI cJ S3 ++ (stW q5 cI cJ S4 ++ (stW q6 cI cJ S5 ++ (txW qt cI T))))))))) (va_runV (As := []) (rest := []) ⟨hx, hb, hml, hown, hts⟩ (c_X4_save l D o q1 q2 q3 q4 q5 q6 qt cI cJ S1 S2 S3 S4 S5 S6 T sv  _) (cwV 0 hts gX4_setLevel_X4_save rfl rfl rfl (by decide +kernel) ⟨Nat.le_of_ble_eq_true rfl, Nat.le_of_ble_eq_true rfl⟩) ⟨kB_blind, va_recv hK hP (ci := 4) (q0 := 0) rfl rfl, k_pre (a := []) (z := []) (k_w0 _) hK hP hD⟩ rfl rfl hl.1 rfl (lv_room (Nat.le_of_ble_eq_true rfl)) dX4_setLevel_36 ⟨Nat.zero_le _, Nat.zero_le _⟩) (k_w0 _) (k_w0 _) rfl hP hD hS hA (fun H locs hP hD hS => ?_)
      refine lv_aload_n hx hb dX4_setLevel_39 rfl (lv_at hl 0 rfl) ?_
      refine va_get (D := D) (ci := 4) (v := .ref (q2 0)) (C := RX4) (T := TX4) (N := 8) hx hb hts inX4 hown hK hP 0 rfl rfl 0 (by decide) (hts (.fieldLink RX4 10 "PumpOaths" "now" "LPumpOaths$Station;") (List.mem_of_getElem? (i := 5) rfl)) (fun _ h9 => h9) rfl dX4_setLevel_40 ?_
      refine va_get (D := D) (ci := 3) (v := .int (S2.1 1)) (C := RX3) (T := TX3) (N := 15) hx hb hts inX3 hown hK hP 16 rfl rfl 1 (by decide) (hts (.fieldLink RX4 54 "PumpOaths$Station" "level" "I") (List.mem_of_getElem? (i := 7) rfl)) (fun _ h9 => h9) rfl dX4_setLevel_43 ?_
      refine lv_istore_n (lv' := [(2, .int (S2.1 1)), (0, .ref o), (1, .int x)]) hx hb dX4_setLevel_46 rfl hl (by decide) rfl (fun ls hl => ?_)
      refine lv_aload_n hx hb dX4_setLevel_47 rfl (lv_at hl 1 rfl) ?_
      refine va_get (D := D) (ci := 4) (v := .ref (q2 0)) (C := RX4) (T := TX4) (N := 8) hx hb hts inX4 hown hK hP 0 rfl rfl 0 (by decide) (hts (.fieldLink RX4 10 "PumpOaths" "now" "LPumpOaths$Station;") (List.mem_of_getElem? (i := 5) rfl)) (fun _ h9 => h9) rfl dX4_setLevel_48 ?_
      refine lv_iload_n hx hb dX4_setLevel_51 rfl (lv_at hl 2 rfl) ?_
      refine va_put (D := D) (ci := 3) (v := .int x) (ty := .int) (C := RX3) (T := TX3) (N := 15) hx hb hts inX3 tyX3 tyX3_ok nmX3 hown hK hP hD hS 16 rfl rfl 1 (by decide) (hts (.fieldLink RX4 54 "PumpOaths$Station" "level" "I") (List.mem_of_getElem? (i := 7) rfl)) (fun _ h9 => h9) rfl (by decide +kernel) rfl rfl (Nat.le_of_ble_eq_true rfl) dX4_setLevel_52 (fun H locs hP hD hS => ?_)
      have hP : va_P D vwCl (poC o q1 q2 q3 q4 q5 q6 qt (c_sv sv) ++ (stW q1 cI cJ S1 ++ (stW q2 cI cJ (setI S2 1 x) ++ (stW q3 cI cJ S2 ++ (stW q4 cI cJ S3 ++ (stW q5 cI cJ S4 ++ (stW q6 cI cJ S5 ++ (txW qt cI T)))))))) H := hP
      have hD : va_D A9 (poC o q1 q2 q3 q4 q5 q6 qt (c_sv sv) ++ (stW q1 cI cJ S1 ++ (stW q2 cI cJ (setI S2 1 x) ++ (stW q3 cI cJ S2 ++ (stW q4 cI cJ S3 ++ (stW q5 cI cJ S4 ++ (stW q6 cI cJ S5 ++ (txW qt cI T)))))))) := hD
      refine lv_iload_n hx hb dX4_setLevel_55 rfl (lv_at hl 0 rfl) ?_
      exact k_iret hx hb hr hlk hP hS dX4_setLevel_56 rfl (by first | rfl | (simp only [c_1_0, c_22_1]; done) | (simp [c_1_0, c_22_1]; done)) (fun h => h)
    · have c_22_1 : ¬ x ≤ (S2.1 0) := c_22_1
      exact absurd h3 c_22_1
  · have c_1_0 : ¬ 0 ≤ x := c_1_0
    exact absurd h1 c_1_0

set_option maxHeartbeats 1000000 in
set_option maxRecDepth 100000 in
theorem n_X4_set (l : Launch) (D : va_G) (o : Nat) (q1 q2 q3 q4 q5 q6 qt : Nat → Nat) (cI cJ : ClassId) (S1 S2 S3 S4 S5 S6 : SS) (T : TS) (sv : Int32) (x y : Int32) (hc : c_isSet x y = true) : kTI l yX4_set wsX4_set ({ frames := 4, cells := 0, slots := 0, locals := 102 } : Room) D [(cI, .int), (cJ, .long)] [.ref o, .int x, .int y] (poC o q1 q2 q3 q4 q5 q6 qt sv ++ (stW q1 cI cJ S1 ++ (stW q2 cI cJ S2 ++ (stW q3 cI cJ S3 ++ (stW q4 cI cJ S4 ++ (stW q5 cI cJ S5 ++ (stW q6 cI cJ S6 ++ (txW qt cI T)))))))) (s_set S2 x) (poC o q1 q2 q3 q4 q5 q6 qt (c_sv sv) ++ (stW q1 cI cJ S1 ++ (stW q2 cI cJ (s_chS S2 x y) ++ (stW q3 cI cJ S2 ++ (stW q4 cI cJ S3 ++ (stW q5 cI cJ S4 ++ (stW q6 cI cJ S5 ++ (txW qt cI T)))))))) := by
  refine kTBody.met (cc := cX4_set) (maxL := 3) (ret := (some .int)) (by decide) rfl (Nat.le_of_ble_eq_true rfl) ?_
  intro p9 e9 s9 m9 below meth c9 A9 ls hx hb hr hml hts hown hlk hK hP hD hA hTT hl
  have hown : s9.vm.findClass RX4 = some m9.cls := hown
  have inX0 : ∀ w ∈ wsX00, w ∈ wsX4_set := fun w h => List.mem_cons_of_mem _ (List.mem_append_left _ (List.mem_append_right _ (h)))
  have inX2 : ∀ w ∈ wsX20, w ∈ wsX4_set := fun w h => List.mem_cons_of_mem _ (List.mem_append_left _ (List.mem_append_left _ (List.mem_append_right _ (h))))
  have inX3 : ∀ w ∈ wsX30, w ∈ wsX4_set := fun w h => List.mem_cons_of_mem _ (List.mem_append_left _ (List.mem_append_left _ (List.mem_append_left _ (List.mem_append_right _ (h)))))
  have inX4 : ∀ w ∈ wsX40, w ∈ wsX4_set := fun w h => List.mem_cons_of_mem _ (List.mem_append_left _ (List.mem_append_left _ (List.mem_append_left _ (List.mem_append_left _ (List.mem_append_right _ (h))))))
  have hS : va_S A9 s9.heap s9.heap [] := va_S.rf
  have hl : lv_has ls 3 [(0, .ref o), (1, .int x), (2, .int y)] := hl
  refine lv_iload_n hx hb dX4_set_0 rfl (lv_at hl 1 rfl) ?_
  refine lv_iload_n hx hb dX4_set_1 rfl (lv_at hl 2 rfl) ?_
  refine k_calli (a := []) (z := (poC o q1 q2 q3 q4 q5 q6 qt sv ++ (stW q1 cI cJ S1 ++ (stW q2 cI cJ S2 ++ (stW q3 cI cJ S3 ++ (stW q4 cI cJ S4 ++ (stW q5 cI cJ S5 ++ (stW q6 cI cJ S6 ++ (txW qt cI T))))))))) (wc := []) (wc' := []) (w' := (poC o q1 q2 q3 q4 q5 q6 qt sv ++ (stW q1 cI cJ S1 ++ (stW q2 cI cJ S2 ++ (stW q3 cI cJ S3 ++ (stW q4 cI cJ S4 ++ (stW q5 cI cJ S5 ++ (stW q6 cI cJ S6 ++ (txW qt cI T))))))))) (va_runS (As := [.int x, .int y]) (rest := []) ⟨hx, hb, hml, hown, hts⟩ (c_X3_isSettingValue l D cI cJ x y _) (va_cwS 2 hts gX4_set_X3_isSettingValue rfl rfl rfl (by decide +kernel) ⟨Nat.le_of_ble_eq_true rfl, Nat.le_of_ble_eq_true rfl⟩) ⟨kBT_blind, k_preT (a := []) (z := (poC o q1 q2 q3 q4 q5 q6 qt sv ++ (stW q1 cI cJ S1 ++ (stW q2 cI cJ S2 ++ (stW q3 cI cJ S3 ++ (stW q4 cI cJ S4 ++ (stW q5 cI cJ S5 ++ (stW q6 cI cJ S6 ++ (txW qt cI T))))))))) rfl hK hP hD hS hA hTT⟩ rfl rfl hl.1 rfl (lv_room (Nat.le_of_ble_eq_true rfl)) dX4_set_2 ⟨Nat.zero_le _, Nat.zero_le _⟩) rfl rfl rfl hP hD hS hA (fun H locs hP hD hS => ?_)
  refine lv_if_ne (tgt := 18) hx hb dX4_set_5 (by decide) (fun c_5_0 => ?_) (fun c_5_0 => ?_)
  · have c_5_0 : (c_isSet x y) = true := bi_n.mp c_5_0
    refine lv_aload_n hx hb dX4_set_18 rfl (lv_at hl 0 rfl) ?_
    refine k_callv (a := []) (z := []) (wc := (poC o q1 q2 q3 q4 q5 q6 qt sv ++ (stW q1 cI cJ S1 ++ (stW q2 cI cJ S2 ++ (stW q3 cI cJ S3 ++ (stW q4 cI cJ S4 ++ (stW q5 cI cJ S5 ++ (stW q6 cI cJ S6 ++ (txW qt cI T))))))))) (wc' := (poC o q1 q2 q3 q4 q5 q6 qt (c_sv sv) ++ (stW q1 cI cJ S1 ++ (stW q2 cI cJ S2 ++ (stW q3 cI cJ S2 ++ (stW q4 cI cJ S3 ++ (stW q5 cI cJ S4 ++ (stW q6 cI cJ S5 ++ (txW qt cI T))))))))) (w' := (poC o q1 q2 q3 q4 q5 q6 qt (c_sv sv) ++ (stW q1 cI cJ S1 ++ (stW q2 cI cJ S2 ++ (stW q3 cI cJ S2 ++ (stW q4 cI cJ S3 ++ (stW q5 cI cJ S4 ++ (stW q6 cI cJ S5 ++ (txW qt cI T))))))))) (va_runV (As := []) (rest := []) ⟨hx, hb, hml, hown, hts⟩ (c_X4_save l D o q1 q2 q3 q4 q5 q6 qt cI cJ S1 S2 S3 S4 S5 S6 T sv  _) (cwV 0 hts gX4_set_X4_save rfl rfl rfl (by decide +kernel) ⟨Nat.le_of_ble_eq_true rfl, Nat.le_of_ble_eq_true rfl⟩) ⟨kB_blind, va_recv hK hP (ci := 4) (q0 := 0) rfl rfl, k_pre (a := []) (z := []) (k_w0 _) hK hP hD⟩ rfl rfl hl.1 rfl (lv_room (Nat.le_of_ble_eq_true rfl)) dX4_set_19 ⟨Nat.zero_le _, Nat.zero_le _⟩) (k_w0 _) (k_w0 _) rfl hP hD hS hA (fun H locs hP hD hS => ?_)
    refine lv_aload_n hx hb dX4_set_22 rfl (lv_at hl 0 rfl) ?_
    refine va_get (D := D) (ci := 4) (v := .ref (q2 0)) (C := RX4) (T := TX4) (N := 8) hx hb hts inX4 hown hK hP 0 rfl rfl 0 (by decide) (hts (.fieldLink RX4 10 "PumpOaths" "now" "LPumpOaths$Station;") (List.mem_of_getElem? (i := 3) rfl)) (fun _ h9 => h9) rfl dX4_set_23 ?_
    refine lv_iload_n hx hb dX4_set_26 rfl (lv_at hl 1 rfl) ?_
    refine lv_iload_n hx hb dX4_set_27 rfl (lv_at hl 2 rfl) ?_
    refine k_calli (a := (poC o q1 q2 q3 q4 q5 q6 qt (c_sv sv) ++ (stW q1 cI cJ S1))) (z := (stW q3 cI cJ S2 ++ (stW q4 cI cJ S3 ++ (stW q5 cI cJ S4 ++ (stW q6 cI cJ S5 ++ (txW qt cI T)))))) (wc := stW q2 cI cJ S2) (wc' := stW q2 cI cJ (s_chS S2 x y)) (w' := (poC o q1 q2 q3 q4 q5 q6 qt (c_sv sv) ++ (stW q1 cI cJ S1 ++ (stW q2 cI cJ (s_chS S2 x y) ++ (stW q3 cI cJ S2 ++ (stW q4 cI cJ S3 ++ (stW q5 cI cJ S4 ++ (stW q6 cI cJ S5 ++ (txW qt cI T))))))))) (va_runV (As := [.int x, .int y]) (rest := []) ⟨hx, hb, hml, hown, hts⟩ (c_X3_changeSetting l D q2 cI cJ S2 x y _) (cwV 2 hts gX4_set_X3_changeSetting rfl rfl rfl (by decide +kernel) ⟨Nat.le_of_ble_eq_true rfl, Nat.le_of_ble_eq_true rfl⟩) ⟨kB_blind, va_recv hK hP (ci := 3) (q0 := 16) rfl rfl, k_pre (a := (poC o q1 q2 q3 q4 q5 q6 qt (c_sv sv) ++ (stW q1 cI cJ S1))) (z := (stW q3 cI cJ S2 ++ (stW q4 cI cJ S3 ++ (stW q5 cI cJ S4 ++ (stW q6 cI cJ S5 ++ (txW qt cI T)))))) rfl hK hP hD⟩ rfl rfl hl.1 rfl (lv_room (Nat.le_of_ble_eq_true rfl)) dX4_set_28 ⟨Nat.zero_le _, Nat.zero_le _⟩) rfl rfl (stW_ad _ _ _ _ _) hP hD hS hA (fun H locs hP hD hS => ?_)
    exact k_iret hx hb hr hlk hP hS dX4_set_31 rfl (by first | rfl | (simp only [c_5_0]; done) | (simp [c_5_0]; done)) (fun h => h)
  · have c_5_0 : (c_isSet x y) = false := bi_0.mp c_5_0
    exact absurd (hc.symm.trans c_5_0) (by decide)

set_option maxHeartbeats 1000000 in
set_option maxRecDepth 100000 in
theorem n_X4_setDemand (l : Launch) (D : va_G) (o : Nat) (q1 q2 q3 q4 q5 q6 qt : Nat → Nat) (cI cJ : ClassId) (S1 S2 S3 S4 S5 S6 : SS) (T : TS) (sv : Int32) (x y : Int32) (h1 : c_in x 0 23 = true) (h2 : c_in y 0 1000 = true) : kI l yX4_setDemand wsX4_setDemand ({ frames := 4, cells := 0, slots := 0, locals := 102 } : Room) D [(cI, .int), (cJ, .long)] [.ref o, .int x, .int y] (poC o q1 q2 q3 q4 q5 q6 qt sv ++ (stW q1 cI cJ S1 ++ (stW q2 cI cJ S2 ++ (stW q3 cI cJ S3 ++ (stW q4 cI cJ S4 ++ (stW q5 cI cJ S5 ++ (stW q6 cI cJ S6 ++ (txW qt cI T)))))))) (s_dem S2 x) (poC o q1 q2 q3 q4 q5 q6 qt (c_sv sv) ++ (stW q1 cI cJ S1 ++ (stW q2 cI cJ (s_chD S2 x y) ++ (stW q3 cI cJ S2 ++ (stW q4 cI cJ S3 ++ (stW q5 cI cJ S4 ++ (stW q6 cI cJ S5 ++ (txW qt cI T)))))))) := by
  refine kBody.met (cc := cX4_setDemand) (maxL := 3) (ret := (some .int)) (by decide) rfl (Nat.le_of_ble_eq_true rfl) ?_
  intro p9 e9 s9 m9 below meth c9 A9 ls hx hb hr hml hts hown hlk hK hP hD hA hl
  have hown : s9.vm.findClass RX4 = some m9.cls := hown
  have inX0 : ∀ w ∈ wsX00, w ∈ wsX4_setDemand := fun w h => List.mem_cons_of_mem _ (List.mem_append_left _ (List.mem_append_left _ (List.mem_append_right _ (h))))
  have inX2 : ∀ w ∈ wsX20, w ∈ wsX4_setDemand := fun w h => List.mem_cons_of_mem _ (List.mem_append_left _ (List.mem_append_left _ (List.mem_append_left _ (List.mem_append_right _ (h)))))
  have inX3 : ∀ w ∈ wsX30, w ∈ wsX4_setDemand := fun w h => List.mem_cons_of_mem _ (List.mem_append_left _ (List.mem_append_left _ (List.mem_append_left _ (List.mem_append_left _ (List.mem_append_right _ (h))))))
  have inX4 : ∀ w ∈ wsX40, w ∈ wsX4_setDemand := fun w h => List.mem_cons_of_mem _ (List.mem_append_left _ (List.mem_append_left _ (List.mem_append_left _ (List.mem_append_left _ (List.mem_append_left _ (List.mem_append_right _ (h)))))))
  have hS : va_S A9 s9.heap s9.heap [] := va_S.rf
  have hl : lv_has ls 3 [(0, .ref o), (1, .int x), (2, .int y)] := hl
  refine lv_iload_n hx hb dX4_setDemand_0 rfl (lv_at hl 1 rfl) ?_
  refine k_calli (a := []) (z := (poC o q1 q2 q3 q4 q5 q6 qt sv ++ (stW q1 cI cJ S1 ++ (stW q2 cI cJ S2 ++ (stW q3 cI cJ S3 ++ (stW q4 cI cJ S4 ++ (stW q5 cI cJ S5 ++ (stW q6 cI cJ S6 ++ (txW qt cI T))))))))) (wc := []) (wc' := []) (w' := (poC o q1 q2 q3 q4 q5 q6 qt sv ++ (stW q1 cI cJ S1 ++ (stW q2 cI cJ S2 ++ (stW q3 cI cJ S3 ++ (stW q4 cI cJ S4 ++ (stW q5 cI cJ S5 ++ (stW q6 cI cJ S6 ++ (txW qt cI T))))))))) (va_runS (As := [.int x]) (rest := []) ⟨hx, hb, hml, hown, hts⟩ (c_X4_isHour l D cI cJ x _) (cwS 1 hts gX4_setDemand_X4_isHour rfl rfl rfl (by decide +kernel) ⟨Nat.le_of_ble_eq_true rfl, Nat.le_of_ble_eq_true rfl⟩) ⟨kB_blind, k_pre (a := []) (z := (poC o q1 q2 q3 q4 q5 q6 qt sv ++ (stW q1 cI cJ S1 ++ (stW q2 cI cJ S2 ++ (stW q3 cI cJ S3 ++ (stW q4 cI cJ S4 ++ (stW q5 cI cJ S5 ++ (stW q6 cI cJ S6 ++ (txW qt cI T))))))))) rfl hK hP hD⟩ rfl rfl hl.1 rfl (lv_room (Nat.le_of_ble_eq_true rfl)) dX4_setDemand_1 ⟨Nat.zero_le _, Nat.zero_le _⟩) rfl rfl rfl hP hD hS hA (fun H locs hP hD hS => ?_)
  refine lv_if_ne (tgt := 17) hx hb dX4_setDemand_4 (by decide) (fun c_4_0 => ?_) (fun c_4_0 => ?_)
  · have c_4_0 : (c_in x 0 23) = true := bi_n.mp c_4_0
    refine lv_iload_n hx hb dX4_setDemand_17 rfl (lv_at hl 2 rfl) ?_
    refine lv_iconst (v := 0) hx hb dX4_setDemand_18 (by decide) ?_
    refine lv_sipush (v := 1000) hx hb dX4_setDemand_19 (by decide) ?_
    refine k_calli (a := []) (z := (poC o q1 q2 q3 q4 q5 q6 qt sv ++ (stW q1 cI cJ S1 ++ (stW q2 cI cJ S2 ++ (stW q3 cI cJ S3 ++ (stW q4 cI cJ S4 ++ (stW q5 cI cJ S5 ++ (stW q6 cI cJ S6 ++ (txW qt cI T))))))))) (wc := []) (wc' := []) (w' := (poC o q1 q2 q3 q4 q5 q6 qt sv ++ (stW q1 cI cJ S1 ++ (stW q2 cI cJ S2 ++ (stW q3 cI cJ S3 ++ (stW q4 cI cJ S4 ++ (stW q5 cI cJ S5 ++ (stW q6 cI cJ S6 ++ (txW qt cI T))))))))) (va_runS (As := [.int y, .int 0, .int 1000]) (rest := []) ⟨hx, hb, hml, hown, hts⟩ (c_X4_isIn l D cI cJ y 0 1000 _) (cwS 3 hts gX4_setDemand_X4_isIn rfl rfl rfl (by decide +kernel) ⟨Nat.le_of_ble_eq_true rfl, Nat.le_of_ble_eq_true rfl⟩) ⟨kB_blind, k_pre (a := []) (z := (poC o q1 q2 q3 q4 q5 q6 qt sv ++ (stW q1 cI cJ S1 ++ (stW q2 cI cJ S2 ++ (stW q3 cI cJ S3 ++ (stW q4 cI cJ S4 ++ (stW q5 cI cJ S5 ++ (stW q6 cI cJ S6 ++ (txW qt cI T))))))))) rfl hK hP hD⟩ rfl rfl hl.1 rfl (lv_room (Nat.le_of_ble_eq_true rfl)) dX4_setDemand_22 ⟨Nat.zero_le _, Nat.zero_le _⟩) rfl rfl rfl hP hD hS hA (fun H locs hP hD hS => ?_)
    refine lv_if_ne (tgt := 38) hx hb dX4_setDemand_25 (by decide) (fun c_25_1 => ?_) (fun c_25_1 => ?_)
    · have c_25_1 : (c_in y 0 1000) = true := bi_n.mp c_25_1
      refine lv_aload_n hx hb dX4_setDemand_38 rfl (lv_at hl 0 rfl) ?_
      refine k_callv (a := []) (z := []) (wc := (poC o q1 q2 q3 q4 q5 q6 qt sv ++ (stW q1 cI cJ S1 ++ (stW q2 cI cJ S2 ++ (stW q3 cI cJ S3 ++ (stW q4 cI cJ S4 ++ (stW q5 cI cJ S5 ++ (stW q6 cI cJ S6 ++ (txW qt cI T))))))))) (wc' := (poC o q1 q2 q3 q4 q5 q6 qt (c_sv sv) ++ (stW q1 cI cJ S1 ++ (stW q2 cI cJ S2 ++ (stW q3 cI cJ S2 ++ (stW q4 cI cJ S3 ++ (stW q5 cI cJ S4 ++ (stW q6 cI cJ S5 ++ (txW qt cI T))))))))) (w' := (poC o q1 q2 q3 q4 q5 q6 qt (c_sv sv) ++ (stW q1 cI cJ S1 ++ (stW q2 cI cJ S2 ++ (stW q3 cI cJ S2 ++ (stW q4 cI cJ S3 ++ (stW q5 cI cJ S4 ++ (stW q6 cI cJ S5 ++ (txW qt cI T))))))))) (va_runV (As := []) (rest := []) ⟨hx, hb, hml, hown, hts⟩ (c_X4_save l D o q1 q2 q3 q4 q5 q6 qt cI cJ S1 S2 S3 S4 S5 S6 T sv  _) (cwV 0 hts gX4_setDemand_X4_save rfl rfl rfl (by decide +kernel) ⟨Nat.le_of_ble_eq_true rfl, Nat.le_of_ble_eq_true rfl⟩) ⟨kB_blind, va_recv hK hP (ci := 4) (q0 := 0) rfl rfl, k_pre (a := []) (z := []) (k_w0 _) hK hP hD⟩ rfl rfl hl.1 rfl (lv_room (Nat.le_of_ble_eq_true rfl)) dX4_setDemand_39 ⟨Nat.zero_le _, Nat.zero_le _⟩) (k_w0 _) (k_w0 _) rfl hP hD hS hA (fun H locs hP hD hS => ?_)
      refine lv_aload_n hx hb dX4_setDemand_42 rfl (lv_at hl 0 rfl) ?_
      refine va_get (D := D) (ci := 4) (v := .ref (q2 0)) (C := RX4) (T := TX4) (N := 8) hx hb hts inX4 hown hK hP 0 rfl rfl 0 (by decide) (hts (.fieldLink RX4 10 "PumpOaths" "now" "LPumpOaths$Station;") (List.mem_of_getElem? (i := 5) rfl)) (fun _ h9 => h9) rfl dX4_setDemand_43 ?_
      refine lv_iload_n hx hb dX4_setDemand_46 rfl (lv_at hl 1 rfl) ?_
      refine lv_iload_n hx hb dX4_setDemand_47 rfl (lv_at hl 2 rfl) ?_
      refine k_calli (a := (poC o q1 q2 q3 q4 q5 q6 qt (c_sv sv) ++ (stW q1 cI cJ S1))) (z := (stW q3 cI cJ S2 ++ (stW q4 cI cJ S3 ++ (stW q5 cI cJ S4 ++ (stW q6 cI cJ S5 ++ (txW qt cI T)))))) (wc := stW q2 cI cJ S2) (wc' := stW q2 cI cJ (s_chD S2 x y)) (w' := (poC o q1 q2 q3 q4 q5 q6 qt (c_sv sv) ++ (stW q1 cI cJ S1 ++ (stW q2 cI cJ (s_chD S2 x y) ++ (stW q3 cI cJ S2 ++ (stW q4 cI cJ S3 ++ (stW q5 cI cJ S4 ++ (stW q6 cI cJ S5 ++ (txW qt cI T))))))))) (va_runV (As := [.int x, .int y]) (rest := []) ⟨hx, hb, hml, hown, hts⟩ (c_X3_changeDemand l D q2 cI cJ S2 x y _) (cwV 2 hts gX4_setDemand_X3_changeDemand rfl rfl rfl (by decide +kernel) ⟨Nat.le_of_ble_eq_true rfl, Nat.le_of_ble_eq_true rfl⟩) ⟨kB_blind, va_recv hK hP (ci := 3) (q0 := 16) rfl rfl, k_pre (a := (poC o q1 q2 q3 q4 q5 q6 qt (c_sv sv) ++ (stW q1 cI cJ S1))) (z := (stW q3 cI cJ S2 ++ (stW q4 cI cJ S3 ++ (stW q5 cI cJ S4 ++ (stW q6 cI cJ S5 ++ (txW qt cI T)))))) rfl hK hP hD⟩ rfl rfl hl.1 rfl (lv_room (Nat.le_of_ble_eq_true rfl)) dX4_setDemand_48 ⟨Nat.zero_le _, Nat.zero_le _⟩) rfl rfl (stW_ad _ _ _ _ _) hP hD hS hA (fun H locs hP hD hS => ?_)
      exact k_iret hx hb hr hlk hP hS dX4_setDemand_51 rfl (by first | rfl | (simp only [c_4_0, c_25_1]; done) | (simp [c_4_0, c_25_1]; done)) (fun h => h)
    · have c_25_1 : (c_in y 0 1000) = false := bi_0.mp c_25_1
      exact absurd (h2.symm.trans c_25_1) (by decide)
  · have c_4_0 : (c_in x 0 23) = false := bi_0.mp c_4_0
    exact absurd (h1.symm.trans c_4_0) (by decide)

set_option maxHeartbeats 1000000 in
set_option maxRecDepth 100000 in
theorem n_X4_addPump (l : Launch) (D : va_G) (o : Nat) (q1 q2 q3 q4 q5 q6 qt : Nat → Nat) (cI cJ : ClassId) (S1 S2 S3 S4 S5 S6 : SS) (T : TS) (sv : Int32) (x y : Int32) (n : Nat) (hn : S2.1 8 = nI n) (hn6 : n ≤ 6) (h1 : c_in x 1 500 = true) (h2 : c_in y 1 12 = true) (h3 : S2.1 8 < 6) : kI l yX4_addPump wsX4_addPump ({ frames := 4, cells := 0, slots := 0, locals := 102 } : Room) D [(cI, .int), (cJ, .long)] [.ref o, .int x, .int y] (poC o q1 q2 q3 q4 q5 q6 qt sv ++ (stW q1 cI cJ S1 ++ (stW q2 cI cJ S2 ++ (stW q3 cI cJ S3 ++ (stW q4 cI cJ S4 ++ (stW q5 cI cJ S5 ++ (stW q6 cI cJ S6 ++ (txW qt cI T)))))))) (p_joinR S2) (poC o q1 q2 q3 q4 q5 q6 qt (c_sv sv) ++ (stW q1 cI cJ S1 ++ (stW q2 cI cJ (p_join S2 x y) ++ (stW q3 cI cJ S2 ++ (stW q4 cI cJ S3 ++ (stW q5 cI cJ S4 ++ (stW q6 cI cJ S5 ++ (txW qt cI T)))))))) := by
  refine kBody.met (cc := cX4_addPump) (maxL := 3) (ret := (some .int)) (by decide) rfl (Nat.le_of_ble_eq_true rfl) ?_
  intro p9 e9 s9 m9 below meth c9 A9 ls hx hb hr hml hts hown hlk hK hP hD hA hl
  have hown : s9.vm.findClass RX4 = some m9.cls := hown
  have inX0 : ∀ w ∈ wsX00, w ∈ wsX4_addPump := fun w h => List.mem_cons_of_mem _ (List.mem_append_left _ (List.mem_append_left _ (List.mem_append_right _ (h))))
  have inX2 : ∀ w ∈ wsX20, w ∈ wsX4_addPump := fun w h => List.mem_cons_of_mem _ (List.mem_append_left _ (List.mem_append_left _ (List.mem_append_left _ (List.mem_append_right _ (h)))))
  have inX3 : ∀ w ∈ wsX30, w ∈ wsX4_addPump := fun w h => List.mem_cons_of_mem _ (List.mem_append_left _ (List.mem_append_left _ (List.mem_append_left _ (List.mem_append_left _ (List.mem_append_right _ (h))))))
  have inX4 : ∀ w ∈ wsX40, w ∈ wsX4_addPump := fun w h => List.mem_cons_of_mem _ (List.mem_append_left _ (List.mem_append_left _ (List.mem_append_left _ (List.mem_append_left _ (List.mem_append_left _ (List.mem_append_right _ (h)))))))
  have hS : va_S A9 s9.heap s9.heap [] := va_S.rf
  have hl : lv_has ls 3 [(0, .ref o), (1, .int x), (2, .int y)] := hl
  refine lv_iload_n hx hb dX4_addPump_0 rfl (lv_at hl 1 rfl) ?_
  refine lv_iconst (v := 1) hx hb dX4_addPump_1 (by decide) ?_
  refine lv_sipush (v := 500) hx hb dX4_addPump_2 (by decide) ?_
  refine k_calli (a := []) (z := (poC o q1 q2 q3 q4 q5 q6 qt sv ++ (stW q1 cI cJ S1 ++ (stW q2 cI cJ S2 ++ (stW q3 cI cJ S3 ++ (stW q4 cI cJ S4 ++ (stW q5 cI cJ S5 ++ (stW q6 cI cJ S6 ++ (txW qt cI T))))))))) (wc := []) (wc' := []) (w' := (poC o q1 q2 q3 q4 q5 q6 qt sv ++ (stW q1 cI cJ S1 ++ (stW q2 cI cJ S2 ++ (stW q3 cI cJ S3 ++ (stW q4 cI cJ S4 ++ (stW q5 cI cJ S5 ++ (stW q6 cI cJ S6 ++ (txW qt cI T))))))))) (va_runS (As := [.int x, .int 1, .int 500]) (rest := []) ⟨hx, hb, hml, hown, hts⟩ (c_X4_isIn l D cI cJ x 1 500 _) (cwS 3 hts gX4_addPump_X4_isIn rfl rfl rfl (by decide +kernel) ⟨Nat.le_of_ble_eq_true rfl, Nat.le_of_ble_eq_true rfl⟩) ⟨kB_blind, k_pre (a := []) (z := (poC o q1 q2 q3 q4 q5 q6 qt sv ++ (stW q1 cI cJ S1 ++ (stW q2 cI cJ S2 ++ (stW q3 cI cJ S3 ++ (stW q4 cI cJ S4 ++ (stW q5 cI cJ S5 ++ (stW q6 cI cJ S6 ++ (txW qt cI T))))))))) rfl hK hP hD⟩ rfl rfl hl.1 rfl (lv_room (Nat.le_of_ble_eq_true rfl)) dX4_addPump_5 ⟨Nat.zero_le _, Nat.zero_le _⟩) rfl rfl rfl hP hD hS hA (fun H locs hP hD hS => ?_)
  refine lv_if_eq (tgt := 18) hx hb dX4_addPump_8 (by decide) (fun c_8_0 => ?_) (fun c_8_0 => ?_)
  · have c_8_0 : (c_in x 1 500) = false := bi_0.mp c_8_0
    exact absurd (h1.symm.trans c_8_0) (by decide)
  · have c_8_0 : (c_in x 1 500) = true := bi_n.mp c_8_0
    refine lv_iload_n hx hb dX4_addPump_11 rfl (lv_at hl 2 rfl) ?_
    refine k_calli (a := []) (z := (poC o q1 q2 q3 q4 q5 q6 qt sv ++ (stW q1 cI cJ S1 ++ (stW q2 cI cJ S2 ++ (stW q3 cI cJ S3 ++ (stW q4 cI cJ S4 ++ (stW q5 cI cJ S5 ++ (stW q6 cI cJ S6 ++ (txW qt cI T))))))))) (wc := []) (wc' := []) (w' := (poC o q1 q2 q3 q4 q5 q6 qt sv ++ (stW q1 cI cJ S1 ++ (stW q2 cI cJ S2 ++ (stW q3 cI cJ S3 ++ (stW q4 cI cJ S4 ++ (stW q5 cI cJ S5 ++ (stW q6 cI cJ S6 ++ (txW qt cI T))))))))) (va_runS (As := [.int y]) (rest := []) ⟨hx, hb, hml, hown, hts⟩ (c_X4_isOath l D cI cJ y _) (cwS 1 hts gX4_addPump_X4_isOath rfl rfl rfl (by decide +kernel) ⟨Nat.le_of_ble_eq_true rfl, Nat.le_of_ble_eq_true rfl⟩) ⟨kB_blind, k_pre (a := []) (z := (poC o q1 q2 q3 q4 q5 q6 qt sv ++ (stW q1 cI cJ S1 ++ (stW q2 cI cJ S2 ++ (stW q3 cI cJ S3 ++ (stW q4 cI cJ S4 ++ (stW q5 cI cJ S5 ++ (stW q6 cI cJ S6 ++ (txW qt cI T))))))))) rfl hK hP hD⟩ rfl rfl hl.1 rfl (lv_room (Nat.le_of_ble_eq_true rfl)) dX4_addPump_12 ⟨Nat.zero_le _, Nat.zero_le _⟩) rfl rfl rfl hP hD hS hA (fun H locs hP hD hS => ?_)
    refine lv_if_ne (tgt := 28) hx hb dX4_addPump_15 (by decide) (fun c_15_1 => ?_) (fun c_15_1 => ?_)
    · have c_15_1 : (c_in y 1 12) = true := bi_n.mp c_15_1
      refine lv_aload_n hx hb dX4_addPump_28 rfl (lv_at hl 0 rfl) ?_
      refine va_get (D := D) (ci := 4) (v := .ref (q2 0)) (C := RX4) (T := TX4) (N := 8) hx hb hts inX4 hown hK hP 0 rfl rfl 0 (by decide) (hts (.fieldLink RX4 10 "PumpOaths" "now" "LPumpOaths$Station;") (List.mem_of_getElem? (i := 5) rfl)) (fun _ h9 => h9) rfl dX4_addPump_29 ?_
      refine va_get (D := D) (ci := 3) (v := .ref (q2 4)) (C := RX3) (T := TX3) (N := 15) hx hb hts inX3 hown hK hP 16 rfl rfl 13 (by decide) (hts (.fieldLink RX4 111 "PumpOaths$Station" "pumps" "LPumpOaths$Pumps;") (List.mem_of_getElem? (i := 6) rfl)) (fun _ h9 => h9) rfl dX4_addPump_32 ?_
      refine va_get (D := D) (ci := 2) (v := .int (S2.1 8)) (C := RX2) (T := TX2) (N := 9) hx hb hts inX2 hown hK hP 20 rfl rfl 0 (by decide) (hts (.fieldLink RX4 115 "PumpOaths$Pumps" "count" "I") (List.mem_of_getElem? (i := 7) rfl)) (fun _ h9 => h9) rfl dX4_addPump_35 ?_
      refine lv_bipush (v := 6) hx hb dX4_addPump_38 (by decide) ?_
      refine lv_icmp_lt (tgt := 53) hx hb dX4_addPump_40 (by decide) (fun c_40_2 => ?_) (fun c_40_2 => ?_)
      · have c_40_2 : (S2.1 8) < 6 := c_40_2
        refine lv_aload_n hx hb dX4_addPump_53 rfl (lv_at hl 0 rfl) ?_
        refine k_callv (a := []) (z := []) (wc := (poC o q1 q2 q3 q4 q5 q6 qt sv ++ (stW q1 cI cJ S1 ++ (stW q2 cI cJ S2 ++ (stW q3 cI cJ S3 ++ (stW q4 cI cJ S4 ++ (stW q5 cI cJ S5 ++ (stW q6 cI cJ S6 ++ (txW qt cI T))))))))) (wc' := (poC o q1 q2 q3 q4 q5 q6 qt (c_sv sv) ++ (stW q1 cI cJ S1 ++ (stW q2 cI cJ S2 ++ (stW q3 cI cJ S2 ++ (stW q4 cI cJ S3 ++ (stW q5 cI cJ S4 ++ (stW q6 cI cJ S5 ++ (txW qt cI T))))))))) (w' := (poC o q1 q2 q3 q4 q5 q6 qt (c_sv sv) ++ (stW q1 cI cJ S1 ++ (stW q2 cI cJ S2 ++ (stW q3 cI cJ S2 ++ (stW q4 cI cJ S3 ++ (stW q5 cI cJ S4 ++ (stW q6 cI cJ S5 ++ (txW qt cI T))))))))) (va_runV (As := []) (rest := []) ⟨hx, hb, hml, hown, hts⟩ (c_X4_save l D o q1 q2 q3 q4 q5 q6 qt cI cJ S1 S2 S3 S4 S5 S6 T sv  _) (cwV 0 hts gX4_addPump_X4_save rfl rfl rfl (by decide +kernel) ⟨Nat.le_of_ble_eq_true rfl, Nat.le_of_ble_eq_true rfl⟩) ⟨kB_blind, va_recv hK hP (ci := 4) (q0 := 0) rfl rfl, k_pre (a := []) (z := []) (k_w0 _) hK hP hD⟩ rfl rfl hl.1 rfl (lv_room (Nat.le_of_ble_eq_true rfl)) dX4_addPump_54 ⟨Nat.zero_le _, Nat.zero_le _⟩) (k_w0 _) (k_w0 _) rfl hP hD hS hA (fun H locs hP hD hS => ?_)
        refine lv_aload_n hx hb dX4_addPump_57 rfl (lv_at hl 0 rfl) ?_
        refine va_get (D := D) (ci := 4) (v := .ref (q2 0)) (C := RX4) (T := TX4) (N := 8) hx hb hts inX4 hown hK hP 0 rfl rfl 0 (by decide) (hts (.fieldLink RX4 10 "PumpOaths" "now" "LPumpOaths$Station;") (List.mem_of_getElem? (i := 5) rfl)) (fun _ h9 => h9) rfl dX4_addPump_58 ?_
        refine va_get (D := D) (ci := 3) (v := .ref (q2 4)) (C := RX3) (T := TX3) (N := 15) hx hb hts inX3 hown hK hP 16 rfl rfl 13 (by decide) (hts (.fieldLink RX4 111 "PumpOaths$Station" "pumps" "LPumpOaths$Pumps;") (List.mem_of_getElem? (i := 6) rfl)) (fun _ h9 => h9) rfl dX4_addPump_61 ?_
        refine lv_iload_n hx hb dX4_addPump_64 rfl (lv_at hl 1 rfl) ?_
        refine lv_iload_n hx hb dX4_addPump_65 rfl (lv_at hl 2 rfl) ?_
        refine k_calli (a := (poC o q1 q2 q3 q4 q5 q6 qt (c_sv sv) ++ (stW q1 cI cJ S1))) (z := (stW q3 cI cJ S2 ++ (stW q4 cI cJ S3 ++ (stW q5 cI cJ S4 ++ (stW q6 cI cJ S5 ++ (txW qt cI T)))))) (wc := stW q2 cI cJ S2) (wc' := stW q2 cI cJ (p_join S2 x y)) (w' := (poC o q1 q2 q3 q4 q5 q6 qt (c_sv sv) ++ (stW q1 cI cJ S1 ++ (stW q2 cI cJ (p_join S2 x y) ++ (stW q3 cI cJ S2 ++ (stW q4 cI cJ S3 ++ (stW q5 cI cJ S4 ++ (stW q6 cI cJ S5 ++ (txW qt cI T))))))))) (va_runV (As := [.int x, .int y]) (rest := []) ⟨hx, hb, hml, hown, hts⟩ (c_X2_join l D q2 cI cJ S2 x y n hn hn6 _) (cwV 2 hts gX4_addPump_X2_join rfl rfl rfl (by decide +kernel) ⟨Nat.le_of_ble_eq_true rfl, Nat.le_of_ble_eq_true rfl⟩) ⟨kB_blind, va_recv hK hP (ci := 2) (q0 := 20) rfl rfl, k_pre (a := (poC o q1 q2 q3 q4 q5 q6 qt (c_sv sv) ++ (stW q1 cI cJ S1))) (z := (stW q3 cI cJ S2 ++ (stW q4 cI cJ S3 ++ (stW q5 cI cJ S4 ++ (stW q6 cI cJ S5 ++ (txW qt cI T)))))) rfl hK hP hD⟩ rfl rfl hl.1 rfl (lv_room (Nat.le_of_ble_eq_true rfl)) dX4_addPump_66 ⟨Nat.zero_le _, Nat.zero_le _⟩) rfl rfl (stW_ad _ _ _ _ _) hP hD hS hA (fun H locs hP hD hS => ?_)
        exact k_iret hx hb hr hlk hP hS dX4_addPump_69 rfl (by first | rfl | (simp only [c_8_0, c_15_1, c_40_2]; done) | (simp [c_8_0, c_15_1, c_40_2]; done)) (fun h => h)
      · have c_40_2 : ¬ (S2.1 8) < 6 := c_40_2
        exact absurd h3 c_40_2
    · have c_15_1 : (c_in y 1 12) = false := bi_0.mp c_15_1
      exact absurd (h2.symm.trans c_15_1) (by decide)

set_option maxHeartbeats 1000000 in
set_option maxRecDepth 100000 in
theorem n_X4_swear (l : Launch) (D : va_G) (o : Nat) (q1 q2 q3 q4 q5 q6 qt : Nat → Nat) (cI cJ : ClassId) (S1 S2 S3 S4 S5 S6 : SS) (T : TS) (sv : Int32) (x y : Int32) (n : Nat) (hn : S2.1 8 = nI n) (hn6 : n ≤ 6) (hp : p_has S2 x = true) (h2 : c_in y 1 12 = true) : kI l yX4_swear wsX4_swear ({ frames := 4, cells := 0, slots := 0, locals := 102 } : Room) D [(cI, .int), (cJ, .long)] [.ref o, .int x, .int y] (poC o q1 q2 q3 q4 q5 q6 qt sv ++ (stW q1 cI cJ S1 ++ (stW q2 cI cJ S2 ++ (stW q3 cI cJ S3 ++ (stW q4 cI cJ S4 ++ (stW q5 cI cJ S5 ++ (stW q6 cI cJ S6 ++ (txW qt cI T)))))))) (S2.2.2.1 3 x.toNatClampNeg) (poC o q1 q2 q3 q4 q5 q6 qt (c_sv sv) ++ (stW q1 cI cJ S1 ++ (stW q2 cI cJ (setA S2 3 (upd (S2.2.2.1 3) x.toNatClampNeg y)) ++ (stW q3 cI cJ S2 ++ (stW q4 cI cJ S3 ++ (stW q5 cI cJ S4 ++ (stW q6 cI cJ S5 ++ (txW qt cI T)))))))) := by
  refine kBody.met (cc := cX4_swear) (maxL := 4) (ret := (some .int)) (by decide) rfl (Nat.le_of_ble_eq_true rfl) ?_
  intro p9 e9 s9 m9 below meth c9 A9 ls hx hb hr hml hts hown hlk hK hP hD hA hl
  have hown : s9.vm.findClass RX4 = some m9.cls := hown
  have inX0 : ∀ w ∈ wsX00, w ∈ wsX4_swear := fun w h => List.mem_cons_of_mem _ (List.mem_append_left _ (List.mem_append_left _ (List.mem_append_right _ (h))))
  have inX2 : ∀ w ∈ wsX20, w ∈ wsX4_swear := fun w h => List.mem_cons_of_mem _ (List.mem_append_left _ (List.mem_append_left _ (List.mem_append_left _ (List.mem_append_right _ (h)))))
  have inX3 : ∀ w ∈ wsX30, w ∈ wsX4_swear := fun w h => List.mem_cons_of_mem _ (List.mem_append_left _ (List.mem_append_left _ (List.mem_append_left _ (List.mem_append_left _ (List.mem_append_right _ (h))))))
  have inX4 : ∀ w ∈ wsX40, w ∈ wsX4_swear := fun w h => List.mem_cons_of_mem _ (List.mem_append_left _ (List.mem_append_left _ (List.mem_append_left _ (List.mem_append_left _ (List.mem_append_left _ (List.mem_append_right _ (h)))))))
  have hS : va_S A9 s9.heap s9.heap [] := va_S.rf
  have hl : lv_has ls 4 [(0, .ref o), (1, .int x), (2, .int y)] := hl
  refine lv_aload_n hx hb dX4_swear_0 rfl (lv_at hl 0 rfl) ?_
  refine lv_iload_n hx hb dX4_swear_1 rfl (lv_at hl 1 rfl) ?_
  refine k_calli (a := []) (z := []) (wc := (poC o q1 q2 q3 q4 q5 q6 qt sv ++ (stW q1 cI cJ S1 ++ (stW q2 cI cJ S2 ++ (stW q3 cI cJ S3 ++ (stW q4 cI cJ S4 ++ (stW q5 cI cJ S5 ++ (stW q6 cI cJ S6 ++ (txW qt cI T))))))))) (wc' := (poC o q1 q2 q3 q4 q5 q6 qt sv ++ (stW q1 cI cJ S1 ++ (stW q2 cI cJ S2 ++ (stW q3 cI cJ S3 ++ (stW q4 cI cJ S4 ++ (stW q5 cI cJ S5 ++ (stW q6 cI cJ S6 ++ (txW qt cI T))))))))) (w' := (poC o q1 q2 q3 q4 q5 q6 qt sv ++ (stW q1 cI cJ S1 ++ (stW q2 cI cJ S2 ++ (stW q3 cI cJ S3 ++ (stW q4 cI cJ S4 ++ (stW q5 cI cJ S5 ++ (stW q6 cI cJ S6 ++ (txW qt cI T))))))))) (va_runV (As := [.int x]) (rest := []) ⟨hx, hb, hml, hown, hts⟩ (c_X4_isPump l D o q1 q2 q3 q4 q5 q6 qt cI cJ S1 S2 S3 S4 S5 S6 T sv x _) (cwV 1 hts gX4_swear_X4_isPump rfl rfl rfl (by decide +kernel) ⟨Nat.le_of_ble_eq_true rfl, Nat.le_of_ble_eq_true rfl⟩) ⟨kB_blind, va_recv hK hP (ci := 4) (q0 := 0) rfl rfl, k_pre (a := []) (z := []) (k_w0 _) hK hP hD⟩ rfl rfl hl.1 rfl (lv_room (Nat.le_of_ble_eq_true rfl)) dX4_swear_2 ⟨Nat.zero_le _, Nat.zero_le _⟩) (k_w0 _) (k_w0 _) rfl hP hD hS hA (fun H locs hP hD hS => ?_)
  refine lv_if_ne (tgt := 18) hx hb dX4_swear_5 (by decide) (fun c_5_0 => ?_) (fun c_5_0 => ?_)
  · have c_5_0 : (p_has S2 x) = true := bi_n.mp c_5_0
    refine lv_iload_n hx hb dX4_swear_18 rfl (lv_at hl 2 rfl) ?_
    refine k_calli (a := []) (z := (poC o q1 q2 q3 q4 q5 q6 qt sv ++ (stW q1 cI cJ S1 ++ (stW q2 cI cJ S2 ++ (stW q3 cI cJ S3 ++ (stW q4 cI cJ S4 ++ (stW q5 cI cJ S5 ++ (stW q6 cI cJ S6 ++ (txW qt cI T))))))))) (wc := []) (wc' := []) (w' := (poC o q1 q2 q3 q4 q5 q6 qt sv ++ (stW q1 cI cJ S1 ++ (stW q2 cI cJ S2 ++ (stW q3 cI cJ S3 ++ (stW q4 cI cJ S4 ++ (stW q5 cI cJ S5 ++ (stW q6 cI cJ S6 ++ (txW qt cI T))))))))) (va_runS (As := [.int y]) (rest := []) ⟨hx, hb, hml, hown, hts⟩ (c_X4_isOath l D cI cJ y _) (cwS 1 hts gX4_swear_X4_isOath rfl rfl rfl (by decide +kernel) ⟨Nat.le_of_ble_eq_true rfl, Nat.le_of_ble_eq_true rfl⟩) ⟨kB_blind, k_pre (a := []) (z := (poC o q1 q2 q3 q4 q5 q6 qt sv ++ (stW q1 cI cJ S1 ++ (stW q2 cI cJ S2 ++ (stW q3 cI cJ S3 ++ (stW q4 cI cJ S4 ++ (stW q5 cI cJ S5 ++ (stW q6 cI cJ S6 ++ (txW qt cI T))))))))) rfl hK hP hD⟩ rfl rfl hl.1 rfl (lv_room (Nat.le_of_ble_eq_true rfl)) dX4_swear_19 ⟨Nat.zero_le _, Nat.zero_le _⟩) rfl rfl rfl hP hD hS hA (fun H locs hP hD hS => ?_)
    refine lv_if_ne (tgt := 35) hx hb dX4_swear_22 (by decide) (fun c_22_1 => ?_) (fun c_22_1 => ?_)
    · have c_22_1 : (c_in y 1 12) = true := bi_n.mp c_22_1
      have hin := p_hasIn hp hn hn6
      refine lv_aload_n hx hb dX4_swear_35 rfl (lv_at hl 0 rfl) ?_
      refine k_callv (a := []) (z := []) (wc := (poC o q1 q2 q3 q4 q5 q6 qt sv ++ (stW q1 cI cJ S1 ++ (stW q2 cI cJ S2 ++ (stW q3 cI cJ S3 ++ (stW q4 cI cJ S4 ++ (stW q5 cI cJ S5 ++ (stW q6 cI cJ S6 ++ (txW qt cI T))))))))) (wc' := (poC o q1 q2 q3 q4 q5 q6 qt (c_sv sv) ++ (stW q1 cI cJ S1 ++ (stW q2 cI cJ S2 ++ (stW q3 cI cJ S2 ++ (stW q4 cI cJ S3 ++ (stW q5 cI cJ S4 ++ (stW q6 cI cJ S5 ++ (txW qt cI T))))))))) (w' := (poC o q1 q2 q3 q4 q5 q6 qt (c_sv sv) ++ (stW q1 cI cJ S1 ++ (stW q2 cI cJ S2 ++ (stW q3 cI cJ S2 ++ (stW q4 cI cJ S3 ++ (stW q5 cI cJ S4 ++ (stW q6 cI cJ S5 ++ (txW qt cI T))))))))) (va_runV (As := []) (rest := []) ⟨hx, hb, hml, hown, hts⟩ (c_X4_save l D o q1 q2 q3 q4 q5 q6 qt cI cJ S1 S2 S3 S4 S5 S6 T sv  _) (cwV 0 hts gX4_swear_X4_save rfl rfl rfl (by decide +kernel) ⟨Nat.le_of_ble_eq_true rfl, Nat.le_of_ble_eq_true rfl⟩) ⟨kB_blind, va_recv hK hP (ci := 4) (q0 := 0) rfl rfl, k_pre (a := []) (z := []) (k_w0 _) hK hP hD⟩ rfl rfl hl.1 rfl (lv_room (Nat.le_of_ble_eq_true rfl)) dX4_swear_36 ⟨Nat.zero_le _, Nat.zero_le _⟩) (k_w0 _) (k_w0 _) rfl hP hD hS hA (fun H locs hP hD hS => ?_)
      refine lv_aload_n hx hb dX4_swear_39 rfl (lv_at hl 0 rfl) ?_
      refine va_get (D := D) (ci := 4) (v := .ref (q2 0)) (C := RX4) (T := TX4) (N := 8) hx hb hts inX4 hown hK hP 0 rfl rfl 0 (by decide) (hts (.fieldLink RX4 10 "PumpOaths" "now" "LPumpOaths$Station;") (List.mem_of_getElem? (i := 5) rfl)) (fun _ h9 => h9) rfl dX4_swear_40 ?_
      refine va_get (D := D) (ci := 3) (v := .ref (q2 4)) (C := RX3) (T := TX3) (N := 15) hx hb hts inX3 hown hK hP 16 rfl rfl 13 (by decide) (hts (.fieldLink RX4 111 "PumpOaths$Station" "pumps" "LPumpOaths$Pumps;") (List.mem_of_getElem? (i := 6) rfl)) (fun _ h9 => h9) rfl dX4_swear_43 ?_
      refine va_get (D := D) (ci := 2) (v := .ref (q2 6)) (C := RX2) (T := TX2) (N := 9) hx hb hts inX2 hown hK hP 20 rfl rfl 2 (by decide) (hts (.fieldLink RX4 132 "PumpOaths$Pumps" "oath" "[I") (List.mem_of_getElem? (i := 7) rfl)) (fun _ h9 => h9) rfl dX4_swear_46 ?_
      refine lv_iload_n hx hb dX4_swear_49 rfl (lv_at hl 1 rfl) ?_
      refine va_iald (f := S2.2.2.1 3) hx hb hK hP 22 0 rfl rfl (hin) dX4_swear_50 ?_
      refine lv_istore_n (lv' := [(3, .int ((S2.2.2.1 3) x.toNatClampNeg)), (0, .ref o), (1, .int x), (2, .int y)]) hx hb dX4_swear_51 rfl hl (by decide) rfl (fun ls hl => ?_)
      refine lv_aload_n hx hb dX4_swear_52 rfl (lv_at hl 1 rfl) ?_
      refine va_get (D := D) (ci := 4) (v := .ref (q2 0)) (C := RX4) (T := TX4) (N := 8) hx hb hts inX4 hown hK hP 0 rfl rfl 0 (by decide) (hts (.fieldLink RX4 10 "PumpOaths" "now" "LPumpOaths$Station;") (List.mem_of_getElem? (i := 5) rfl)) (fun _ h9 => h9) rfl dX4_swear_53 ?_
      refine va_get (D := D) (ci := 3) (v := .ref (q2 4)) (C := RX3) (T := TX3) (N := 15) hx hb hts inX3 hown hK hP 16 rfl rfl 13 (by decide) (hts (.fieldLink RX4 111 "PumpOaths$Station" "pumps" "LPumpOaths$Pumps;") (List.mem_of_getElem? (i := 6) rfl)) (fun _ h9 => h9) rfl dX4_swear_56 ?_
      refine va_get (D := D) (ci := 2) (v := .ref (q2 6)) (C := RX2) (T := TX2) (N := 9) hx hb hts inX2 hown hK hP 20 rfl rfl 2 (by decide) (hts (.fieldLink RX4 132 "PumpOaths$Pumps" "oath" "[I") (List.mem_of_getElem? (i := 7) rfl)) (fun _ h9 => h9) rfl dX4_swear_59 ?_
      refine lv_iload_n hx hb dX4_swear_62 rfl (lv_at hl 2 rfl) ?_
      refine lv_iload_n hx hb dX4_swear_63 rfl (lv_at hl 3 rfl) ?_
      refine va_iast (f := S2.2.2.1 3) hx hb hK hP hD hS 22 0 rfl rfl (hin) dX4_swear_64 (fun H locs hP hD hS => ?_)
      have hP : va_P D vwCl (poC o q1 q2 q3 q4 q5 q6 qt (c_sv sv) ++ (stW q1 cI cJ S1 ++ (stW q2 cI cJ (setA S2 3 (upd (S2.2.2.1 3) x.toNatClampNeg y)) ++ (stW q3 cI cJ S2 ++ (stW q4 cI cJ S3 ++ (stW q5 cI cJ S4 ++ (stW q6 cI cJ S5 ++ (txW qt cI T)))))))) H := hP
      have hD : va_D A9 (poC o q1 q2 q3 q4 q5 q6 qt (c_sv sv) ++ (stW q1 cI cJ S1 ++ (stW q2 cI cJ (setA S2 3 (upd (S2.2.2.1 3) x.toNatClampNeg y)) ++ (stW q3 cI cJ S2 ++ (stW q4 cI cJ S3 ++ (stW q5 cI cJ S4 ++ (stW q6 cI cJ S5 ++ (txW qt cI T)))))))) := hD
      refine lv_iload_n hx hb dX4_swear_65 rfl (lv_at hl 0 rfl) ?_
      exact k_iret hx hb hr hlk hP hS dX4_swear_66 rfl (by first | rfl | (simp only [c_5_0, c_22_1]; done) | (simp [c_5_0, c_22_1]; done)) (fun h => h)
    · have c_22_1 : (c_in y 1 12) = false := bi_0.mp c_22_1
      exact absurd (h2.symm.trans c_22_1) (by decide)
  · have c_5_0 : (p_has S2 x) = false := bi_0.mp c_5_0
    exact absurd (hp.symm.trans c_5_0) (by decide)

set_option maxHeartbeats 1000000 in
set_option maxRecDepth 100000 in
theorem n_X4_pass (l : Launch) (D : va_G) (o : Nat) (q1 q2 q3 q4 q5 q6 qt : Nat → Nat) (cI cJ : ClassId) (S1 S2 S3 S4 S5 S6 : SS) (T : TS) (sv : Int32) (x : Int32) (n : Nat) (hn : S2.1 8 = nI n) (hn6 : n ≤ 6) (h1 : c_in x 1 1440 = true) (h2 : c_time S2 x = true) : kI l yX4_pass wsX4_pass ({ frames := 5, cells := 0, slots := 0, locals := 128 } : Room) D [(cI, .int), (cJ, .long)] [.ref o, .int x] (poC o q1 q2 q3 q4 q5 q6 qt sv ++ (stW q1 cI cJ S1 ++ (stW q2 cI cJ S2 ++ (stW q3 cI cJ S3 ++ (stW q4 cI cJ S4 ++ (stW q5 cI cJ S5 ++ (stW q6 cI cJ S6 ++ (txW qt cI T)))))))) ((s_pass S2 n x.toNatClampNeg).1 5 - S2.1 5) (poC o q1 q2 q3 q4 q5 q6 qt (c_sv sv) ++ (stW q1 cI cJ S1 ++ (stW q2 cI cJ (s_pass S2 n x.toNatClampNeg) ++ (stW q3 cI cJ S2 ++ (stW q4 cI cJ S3 ++ (stW q5 cI cJ S4 ++ (stW q6 cI cJ S5 ++ (txW qt cI T)))))))) := by
  refine kBody.met (cc := cX4_pass) (maxL := 3) (ret := (some .int)) (by decide) rfl (Nat.le_of_ble_eq_true rfl) ?_
  intro p9 e9 s9 m9 below meth c9 A9 ls hx hb hr hml hts hown hlk hK hP hD hA hl
  have hown : s9.vm.findClass RX4 = some m9.cls := hown
  have inX0 : ∀ w ∈ wsX00, w ∈ wsX4_pass := fun w h => List.mem_cons_of_mem _ (List.mem_append_left _ (List.mem_append_left _ (List.mem_append_right _ (h))))
  have inX2 : ∀ w ∈ wsX20, w ∈ wsX4_pass := fun w h => List.mem_cons_of_mem _ (List.mem_append_left _ (List.mem_append_left _ (List.mem_append_left _ (List.mem_append_right _ (h)))))
  have inX3 : ∀ w ∈ wsX30, w ∈ wsX4_pass := fun w h => List.mem_cons_of_mem _ (List.mem_append_left _ (List.mem_append_left _ (List.mem_append_left _ (List.mem_append_left _ (List.mem_append_right _ (h))))))
  have inX4 : ∀ w ∈ wsX40, w ∈ wsX4_pass := fun w h => List.mem_cons_of_mem _ (List.mem_append_left _ (List.mem_append_left _ (List.mem_append_left _ (List.mem_append_left _ (List.mem_append_left _ (List.mem_append_right _ (h)))))))
  have hS : va_S A9 s9.heap s9.heap [] := va_S.rf
  have hl : lv_has ls 3 [(0, .ref o), (1, .int x)] := hl
  refine lv_iload_n hx hb dX4_pass_0 rfl (lv_at hl 1 rfl) ?_
  refine lv_iconst (v := 1) hx hb dX4_pass_1 (by decide) ?_
  refine lv_sipush (v := 1440) hx hb dX4_pass_2 (by decide) ?_
  refine k_calli (a := []) (z := (poC o q1 q2 q3 q4 q5 q6 qt sv ++ (stW q1 cI cJ S1 ++ (stW q2 cI cJ S2 ++ (stW q3 cI cJ S3 ++ (stW q4 cI cJ S4 ++ (stW q5 cI cJ S5 ++ (stW q6 cI cJ S6 ++ (txW qt cI T))))))))) (wc := []) (wc' := []) (w' := (poC o q1 q2 q3 q4 q5 q6 qt sv ++ (stW q1 cI cJ S1 ++ (stW q2 cI cJ S2 ++ (stW q3 cI cJ S3 ++ (stW q4 cI cJ S4 ++ (stW q5 cI cJ S5 ++ (stW q6 cI cJ S6 ++ (txW qt cI T))))))))) (va_runS (As := [.int x, .int 1, .int 1440]) (rest := []) ⟨hx, hb, hml, hown, hts⟩ (c_X4_isIn l D cI cJ x 1 1440 _) (cwS 3 hts gX4_pass_X4_isIn rfl rfl rfl (by decide +kernel) ⟨Nat.le_of_ble_eq_true rfl, Nat.le_of_ble_eq_true rfl⟩) ⟨kB_blind, k_pre (a := []) (z := (poC o q1 q2 q3 q4 q5 q6 qt sv ++ (stW q1 cI cJ S1 ++ (stW q2 cI cJ S2 ++ (stW q3 cI cJ S3 ++ (stW q4 cI cJ S4 ++ (stW q5 cI cJ S5 ++ (stW q6 cI cJ S6 ++ (txW qt cI T))))))))) rfl hK hP hD⟩ rfl rfl hl.1 rfl (lv_room (Nat.le_of_ble_eq_true rfl)) dX4_pass_5 ⟨Nat.zero_le _, Nat.zero_le _⟩) rfl rfl rfl hP hD hS hA (fun H locs hP hD hS => ?_)
  refine lv_if_ne (tgt := 21) hx hb dX4_pass_8 (by decide) (fun c_8_0 => ?_) (fun c_8_0 => ?_)
  · have c_8_0 : (c_in x 1 1440) = true := bi_n.mp c_8_0
    refine lv_aload_n hx hb dX4_pass_21 rfl (lv_at hl 0 rfl) ?_
    refine lv_iload_n hx hb dX4_pass_22 rfl (lv_at hl 1 rfl) ?_
    refine k_calli (a := []) (z := []) (wc := (poC o q1 q2 q3 q4 q5 q6 qt sv ++ (stW q1 cI cJ S1 ++ (stW q2 cI cJ S2 ++ (stW q3 cI cJ S3 ++ (stW q4 cI cJ S4 ++ (stW q5 cI cJ S5 ++ (stW q6 cI cJ S6 ++ (txW qt cI T))))))))) (wc' := (poC o q1 q2 q3 q4 q5 q6 qt sv ++ (stW q1 cI cJ S1 ++ (stW q2 cI cJ S2 ++ (stW q3 cI cJ S3 ++ (stW q4 cI cJ S4 ++ (stW q5 cI cJ S5 ++ (stW q6 cI cJ S6 ++ (txW qt cI T))))))))) (w' := (poC o q1 q2 q3 q4 q5 q6 qt sv ++ (stW q1 cI cJ S1 ++ (stW q2 cI cJ S2 ++ (stW q3 cI cJ S3 ++ (stW q4 cI cJ S4 ++ (stW q5 cI cJ S5 ++ (stW q6 cI cJ S6 ++ (txW qt cI T))))))))) (va_runV (As := [.int x]) (rest := []) ⟨hx, hb, hml, hown, hts⟩ (c_X4_hasTimeFor l D o q1 q2 q3 q4 q5 q6 qt cI cJ S1 S2 S3 S4 S5 S6 T sv x _) (cwV 1 hts gX4_pass_X4_hasTimeFor rfl rfl rfl (by decide +kernel) ⟨Nat.le_of_ble_eq_true rfl, Nat.le_of_ble_eq_true rfl⟩) ⟨kB_blind, va_recv hK hP (ci := 4) (q0 := 0) rfl rfl, k_pre (a := []) (z := []) (k_w0 _) hK hP hD⟩ rfl rfl hl.1 rfl (lv_room (Nat.le_of_ble_eq_true rfl)) dX4_pass_23 ⟨Nat.zero_le _, Nat.zero_le _⟩) (k_w0 _) (k_w0 _) rfl hP hD hS hA (fun H locs hP hD hS => ?_)
    refine lv_if_ne (tgt := 39) hx hb dX4_pass_26 (by decide) (fun c_26_1 => ?_) (fun c_26_1 => ?_)
    · have c_26_1 : (c_time S2 x) = true := bi_n.mp c_26_1
      refine lv_aload_n hx hb dX4_pass_39 rfl (lv_at hl 0 rfl) ?_
      refine k_callv (a := []) (z := []) (wc := (poC o q1 q2 q3 q4 q5 q6 qt sv ++ (stW q1 cI cJ S1 ++ (stW q2 cI cJ S2 ++ (stW q3 cI cJ S3 ++ (stW q4 cI cJ S4 ++ (stW q5 cI cJ S5 ++ (stW q6 cI cJ S6 ++ (txW qt cI T))))))))) (wc' := (poC o q1 q2 q3 q4 q5 q6 qt (c_sv sv) ++ (stW q1 cI cJ S1 ++ (stW q2 cI cJ S2 ++ (stW q3 cI cJ S2 ++ (stW q4 cI cJ S3 ++ (stW q5 cI cJ S4 ++ (stW q6 cI cJ S5 ++ (txW qt cI T))))))))) (w' := (poC o q1 q2 q3 q4 q5 q6 qt (c_sv sv) ++ (stW q1 cI cJ S1 ++ (stW q2 cI cJ S2 ++ (stW q3 cI cJ S2 ++ (stW q4 cI cJ S3 ++ (stW q5 cI cJ S4 ++ (stW q6 cI cJ S5 ++ (txW qt cI T))))))))) (va_runV (As := []) (rest := []) ⟨hx, hb, hml, hown, hts⟩ (c_X4_save l D o q1 q2 q3 q4 q5 q6 qt cI cJ S1 S2 S3 S4 S5 S6 T sv  _) (cwV 0 hts gX4_pass_X4_save rfl rfl rfl (by decide +kernel) ⟨Nat.le_of_ble_eq_true rfl, Nat.le_of_ble_eq_true rfl⟩) ⟨kB_blind, va_recv hK hP (ci := 4) (q0 := 0) rfl rfl, k_pre (a := []) (z := []) (k_w0 _) hK hP hD⟩ rfl rfl hl.1 rfl (lv_room (Nat.le_of_ble_eq_true rfl)) dX4_pass_40 ⟨Nat.zero_le _, Nat.zero_le _⟩) (k_w0 _) (k_w0 _) rfl hP hD hS hA (fun H locs hP hD hS => ?_)
      refine lv_aload_n hx hb dX4_pass_43 rfl (lv_at hl 0 rfl) ?_
      refine va_get (D := D) (ci := 4) (v := .ref (q2 0)) (C := RX4) (T := TX4) (N := 8) hx hb hts inX4 hown hK hP 0 rfl rfl 0 (by decide) (hts (.fieldLink RX4 10 "PumpOaths" "now" "LPumpOaths$Station;") (List.mem_of_getElem? (i := 5) rfl)) (fun _ h9 => h9) rfl dX4_pass_44 ?_
      refine va_get (D := D) (ci := 3) (v := .int (S2.1 5)) (C := RX3) (T := TX3) (N := 15) hx hb hts inX3 hown hK hP 16 rfl rfl 5 (by decide) (hts (.fieldLink RX4 151 "PumpOaths$Station" "brokenOaths" "I") (List.mem_of_getElem? (i := 6) rfl)) (fun _ h9 => h9) rfl dX4_pass_47 ?_
      refine lv_istore_n (lv' := [(2, .int (S2.1 5)), (0, .ref o), (1, .int x)]) hx hb dX4_pass_50 rfl hl (by decide) rfl (fun ls hl => ?_)
      refine lv_aload_n hx hb dX4_pass_51 rfl (lv_at hl 1 rfl) ?_
      refine va_get (D := D) (ci := 4) (v := .ref (q2 0)) (C := RX4) (T := TX4) (N := 8) hx hb hts inX4 hown hK hP 0 rfl rfl 0 (by decide) (hts (.fieldLink RX4 10 "PumpOaths" "now" "LPumpOaths$Station;") (List.mem_of_getElem? (i := 5) rfl)) (fun _ h9 => h9) rfl dX4_pass_52 ?_
      refine lv_iload_n hx hb dX4_pass_55 rfl (lv_at hl 2 rfl) ?_
      refine k_callv (a := (poC o q1 q2 q3 q4 q5 q6 qt (c_sv sv) ++ (stW q1 cI cJ S1))) (z := (stW q3 cI cJ S2 ++ (stW q4 cI cJ S3 ++ (stW q5 cI cJ S4 ++ (stW q6 cI cJ S5 ++ (txW qt cI T)))))) (wc := stW q2 cI cJ S2) (wc' := stW q2 cI cJ (s_pass S2 n x.toNatClampNeg)) (w' := (poC o q1 q2 q3 q4 q5 q6 qt (c_sv sv) ++ (stW q1 cI cJ S1 ++ (stW q2 cI cJ (s_pass S2 n x.toNatClampNeg) ++ (stW q3 cI cJ S2 ++ (stW q4 cI cJ S3 ++ (stW q5 cI cJ S4 ++ (stW q6 cI cJ S5 ++ (txW qt cI T))))))))) (va_runV (As := [.int x]) (rest := []) ⟨hx, hb, hml, hown, hts⟩ (c_X3_letPass l D q2 cI cJ S2 x n hn hn6 _) (cwV 1 hts gX4_pass_X3_letPass rfl rfl rfl (by decide +kernel) ⟨Nat.le_of_ble_eq_true rfl, Nat.le_of_ble_eq_true rfl⟩) ⟨kB_blind, va_recv hK hP (ci := 3) (q0 := 16) rfl rfl, k_pre (a := (poC o q1 q2 q3 q4 q5 q6 qt (c_sv sv) ++ (stW q1 cI cJ S1))) (z := (stW q3 cI cJ S2 ++ (stW q4 cI cJ S3 ++ (stW q5 cI cJ S4 ++ (stW q6 cI cJ S5 ++ (txW qt cI T)))))) rfl hK hP hD⟩ rfl rfl hl.1 rfl (lv_room (Nat.le_of_ble_eq_true rfl)) dX4_pass_56 ⟨Nat.zero_le _, Nat.zero_le _⟩) rfl rfl (stW_ad _ _ _ _ _) hP hD hS hA (fun H locs hP hD hS => ?_)
      refine lv_aload_n hx hb dX4_pass_59 rfl (lv_at hl 1 rfl) ?_
      refine va_get (D := D) (ci := 4) (v := .ref (q2 0)) (C := RX4) (T := TX4) (N := 8) hx hb hts inX4 hown hK hP 0 rfl rfl 0 (by decide) (hts (.fieldLink RX4 10 "PumpOaths" "now" "LPumpOaths$Station;") (List.mem_of_getElem? (i := 5) rfl)) (fun _ h9 => h9) rfl dX4_pass_60 ?_
      refine va_get (D := D) (ci := 3) (v := .int ((s_pass S2 n x.toNatClampNeg).1 5)) (C := RX3) (T := TX3) (N := 15) hx hb hts inX3 hown hK hP 16 rfl rfl 5 (by decide) (hts (.fieldLink RX4 151 "PumpOaths$Station" "brokenOaths" "I") (List.mem_of_getElem? (i := 6) rfl)) (fun _ h9 => h9) rfl dX4_pass_63 ?_
      refine lv_iload_n hx hb dX4_pass_66 rfl (lv_at hl 0 rfl) ?_
      refine lv_isub hx hb dX4_pass_67 ?_
      exact k_iret hx hb hr hlk hP hS dX4_pass_68 rfl (by first | rfl | (simp only [c_8_0, c_26_1]; done) | (simp [c_8_0, c_26_1]; done)) (fun h => h)
    · have c_26_1 : (c_time S2 x) = false := bi_0.mp c_26_1
      exact absurd (h2.symm.trans c_26_1) (by decide)
  · have c_8_0 : (c_in x 1 1440) = false := bi_0.mp c_8_0
    exact absurd (h1.symm.trans c_8_0) (by decide)

set_option maxHeartbeats 1000000 in
set_option maxRecDepth 100000 in
theorem n_X4_undo (l : Launch) (D : va_G) (o : Nat) (q1 q2 q3 q4 q5 q6 qt : Nat → Nat) (cI cJ : ClassId) (S1 S2 S3 S4 S5 S6 : SS) (T : TS) (sv : Int32) (h0 : ¬ sv = 0) : kI l yX4_undo wsX4_undo ({ frames := 3, cells := 0, slots := 0, locals := 82 } : Room) D [(cI, .int), (cJ, .long)] [.ref o] (poC o q1 q2 q3 q4 q5 q6 qt sv ++ (stW q1 cI cJ S1 ++ (stW q2 cI cJ S2 ++ (stW q3 cI cJ S3 ++ (stW q4 cI cJ S4 ++ (stW q5 cI cJ S5 ++ (stW q6 cI cJ S6 ++ (txW qt cI T)))))))) (sv - 1) (poC o q1 q2 q3 q4 q5 q6 qt (sv - 1) ++ (stW q1 cI cJ S1 ++ (stW q2 cI cJ S3 ++ (stW q3 cI cJ S4 ++ (stW q4 cI cJ S5 ++ (stW q5 cI cJ S6 ++ (stW q6 cI cJ S6 ++ (txW qt cI T)))))))) := by
  refine kBody.met (cc := cX4_undo) (maxL := 1) (ret := (some .int)) (by decide) rfl (Nat.le_of_ble_eq_true rfl) ?_
  intro p9 e9 s9 m9 below meth c9 A9 ls hx hb hr hml hts hown hlk hK hP hD hA hl
  have hown : s9.vm.findClass RX4 = some m9.cls := hown
  have inX0 : ∀ w ∈ wsX00, w ∈ wsX4_undo := fun w h => List.mem_cons_of_mem _ (List.mem_append_left _ (List.mem_append_right _ (h)))
  have inX2 : ∀ w ∈ wsX20, w ∈ wsX4_undo := fun w h => List.mem_cons_of_mem _ (List.mem_append_left _ (List.mem_append_left _ (List.mem_append_right _ (h))))
  have inX3 : ∀ w ∈ wsX30, w ∈ wsX4_undo := fun w h => List.mem_cons_of_mem _ (List.mem_append_left _ (List.mem_append_left _ (List.mem_append_left _ (List.mem_append_right _ (h)))))
  have inX4 : ∀ w ∈ wsX40, w ∈ wsX4_undo := fun w h => List.mem_cons_of_mem _ (List.mem_append_left _ (List.mem_append_left _ (List.mem_append_left _ (List.mem_append_left _ (List.mem_append_right _ (h))))))
  have hS : va_S A9 s9.heap s9.heap [] := va_S.rf
  have hl : lv_has ls 1 [(0, .ref o)] := hl
  refine lv_aload_n hx hb dX4_undo_0 rfl (lv_at hl 0 rfl) ?_
  refine va_get (D := D) (ci := 4) (v := .int sv) (C := RX4) (T := TX4) (N := 8) hx hb hts inX4 hown hK hP 0 rfl rfl 7 (by decide) (hts (.fieldLink RX4 38 "PumpOaths" "saved" "I") (List.mem_of_getElem? (i := 3) rfl)) (fun _ h9 => h9) rfl dX4_undo_1 ?_
  refine lv_if_ne (tgt := 17) hx hb dX4_undo_4 (by decide) (fun c_4_0 => ?_) (fun c_4_0 => ?_)
  · have c_4_0 : ¬ sv = 0 := c_4_0
    refine lv_aload_n hx hb dX4_undo_17 rfl (lv_at hl 0 rfl) ?_
    refine va_get (D := D) (ci := 4) (v := .ref (q2 0)) (C := RX4) (T := TX4) (N := 8) hx hb hts inX4 hown hK hP 0 rfl rfl 0 (by decide) (hts (.fieldLink RX4 10 "PumpOaths" "now" "LPumpOaths$Station;") (List.mem_of_getElem? (i := 4) rfl)) (fun _ h9 => h9) rfl dX4_undo_18 ?_
    refine lv_aload_n hx hb dX4_undo_21 rfl (lv_at hl 0 rfl) ?_
    refine va_get (D := D) (ci := 4) (v := .ref (q3 0)) (C := RX4) (T := TX4) (N := 8) hx hb hts inX4 hown hK hP 0 rfl rfl 2 (by decide) (hts (.fieldLink RX4 19 "PumpOaths" "latest" "LPumpOaths$Station;") (List.mem_of_getElem? (i := 5) rfl)) (fun _ h9 => h9) rfl dX4_undo_22 ?_
    refine k_callv (a := (poC o q1 q2 q3 q4 q5 q6 qt sv ++ (stW q1 cI cJ S1))) (z := (stW q4 cI cJ S4 ++ (stW q5 cI cJ S5 ++ (stW q6 cI cJ S6 ++ (txW qt cI T))))) (wc := (stW q2 cI cJ S2 ++ (stW q3 cI cJ S3))) (wc' := (stW q2 cI cJ S3 ++ (stW q3 cI cJ S3))) (w' := (poC o q1 q2 q3 q4 q5 q6 qt sv ++ (stW q1 cI cJ S1 ++ (stW q2 cI cJ S3 ++ (stW q3 cI cJ S3 ++ (stW q4 cI cJ S4 ++ (stW q5 cI cJ S5 ++ (stW q6 cI cJ S6 ++ (txW qt cI T))))))))) (va_runV (As := [.ref (q3 0)]) (rest := []) ⟨hx, hb, hml, hown, hts⟩ (c_X3_become l D q2 q3 cI cJ S2 S3 _) (cwV 1 hts gX4_undo_X3_become rfl rfl rfl (by decide +kernel) ⟨Nat.le_of_ble_eq_true rfl, Nat.le_of_ble_eq_true rfl⟩) ⟨kB_blind, va_recv hK hP (ci := 3) (q0 := 16) rfl rfl, k_pre (a := (poC o q1 q2 q3 q4 q5 q6 qt sv ++ (stW q1 cI cJ S1))) (z := (stW q4 cI cJ S4 ++ (stW q5 cI cJ S5 ++ (stW q6 cI cJ S6 ++ (txW qt cI T))))) rfl hK hP hD⟩ rfl rfl hl.1 rfl (lv_room (Nat.le_of_ble_eq_true rfl)) dX4_undo_25 ⟨Nat.zero_le _, Nat.zero_le _⟩) rfl rfl (k_ad2 (stW_ad _ _ _ _ _) (stW_ad _ _ _ _ _)) hP hD hS hA (fun H locs hP hD hS => ?_)
    refine lv_aload_n hx hb dX4_undo_28 rfl (lv_at hl 0 rfl) ?_
    refine va_get (D := D) (ci := 4) (v := .ref (q3 0)) (C := RX4) (T := TX4) (N := 8) hx hb hts inX4 hown hK hP 0 rfl rfl 2 (by decide) (hts (.fieldLink RX4 19 "PumpOaths" "latest" "LPumpOaths$Station;") (List.mem_of_getElem? (i := 5) rfl)) (fun _ h9 => h9) rfl dX4_undo_29 ?_
    refine lv_aload_n hx hb dX4_undo_32 rfl (lv_at hl 0 rfl) ?_
    refine va_get (D := D) (ci := 4) (v := .ref (q4 0)) (C := RX4) (T := TX4) (N := 8) hx hb hts inX4 hown hK hP 0 rfl rfl 3 (by decide) (hts (.fieldLink RX4 22 "PumpOaths" "second" "LPumpOaths$Station;") (List.mem_of_getElem? (i := 6) rfl)) (fun _ h9 => h9) rfl dX4_undo_33 ?_
    refine k_callv (a := (poC o q1 q2 q3 q4 q5 q6 qt sv ++ (stW q1 cI cJ S1 ++ (stW q2 cI cJ S3)))) (z := (stW q5 cI cJ S5 ++ (stW q6 cI cJ S6 ++ (txW qt cI T)))) (wc := (stW q3 cI cJ S3 ++ (stW q4 cI cJ S4))) (wc' := (stW q3 cI cJ S4 ++ (stW q4 cI cJ S4))) (w' := (poC o q1 q2 q3 q4 q5 q6 qt sv ++ (stW q1 cI cJ S1 ++ (stW q2 cI cJ S3 ++ (stW q3 cI cJ S4 ++ (stW q4 cI cJ S4 ++ (stW q5 cI cJ S5 ++ (stW q6 cI cJ S6 ++ (txW qt cI T))))))))) (va_runV (As := [.ref (q4 0)]) (rest := []) ⟨hx, hb, hml, hown, hts⟩ (c_X3_become l D q3 q4 cI cJ S3 S4 _) (cwV 1 hts gX4_undo_X3_become rfl rfl rfl (by decide +kernel) ⟨Nat.le_of_ble_eq_true rfl, Nat.le_of_ble_eq_true rfl⟩) ⟨kB_blind, va_recv hK hP (ci := 3) (q0 := 31) rfl rfl, k_pre (a := (poC o q1 q2 q3 q4 q5 q6 qt sv ++ (stW q1 cI cJ S1 ++ (stW q2 cI cJ S3)))) (z := (stW q5 cI cJ S5 ++ (stW q6 cI cJ S6 ++ (txW qt cI T)))) rfl hK hP hD⟩ rfl rfl hl.1 rfl (lv_room (Nat.le_of_ble_eq_true rfl)) dX4_undo_36 ⟨Nat.zero_le _, Nat.zero_le _⟩) rfl rfl (k_ad2 (stW_ad _ _ _ _ _) (stW_ad _ _ _ _ _)) hP hD hS hA (fun H locs hP hD hS => ?_)
    refine lv_aload_n hx hb dX4_undo_39 rfl (lv_at hl 0 rfl) ?_
    refine va_get (D := D) (ci := 4) (v := .ref (q4 0)) (C := RX4) (T := TX4) (N := 8) hx hb hts inX4 hown hK hP 0 rfl rfl 3 (by decide) (hts (.fieldLink RX4 22 "PumpOaths" "second" "LPumpOaths$Station;") (List.mem_of_getElem? (i := 6) rfl)) (fun _ h9 => h9) rfl dX4_undo_40 ?_
    refine lv_aload_n hx hb dX4_undo_43 rfl (lv_at hl 0 rfl) ?_
    refine va_get (D := D) (ci := 4) (v := .ref (q5 0)) (C := RX4) (T := TX4) (N := 8) hx hb hts inX4 hown hK hP 0 rfl rfl 4 (by decide) (hts (.fieldLink RX4 25 "PumpOaths" "third" "LPumpOaths$Station;") (List.mem_of_getElem? (i := 7) rfl)) (fun _ h9 => h9) rfl dX4_undo_44 ?_
    refine k_callv (a := (poC o q1 q2 q3 q4 q5 q6 qt sv ++ (stW q1 cI cJ S1 ++ (stW q2 cI cJ S3 ++ (stW q3 cI cJ S4))))) (z := (stW q6 cI cJ S6 ++ (txW qt cI T))) (wc := (stW q4 cI cJ S4 ++ (stW q5 cI cJ S5))) (wc' := (stW q4 cI cJ S5 ++ (stW q5 cI cJ S5))) (w' := (poC o q1 q2 q3 q4 q5 q6 qt sv ++ (stW q1 cI cJ S1 ++ (stW q2 cI cJ S3 ++ (stW q3 cI cJ S4 ++ (stW q4 cI cJ S5 ++ (stW q5 cI cJ S5 ++ (stW q6 cI cJ S6 ++ (txW qt cI T))))))))) (va_runV (As := [.ref (q5 0)]) (rest := []) ⟨hx, hb, hml, hown, hts⟩ (c_X3_become l D q4 q5 cI cJ S4 S5 _) (cwV 1 hts gX4_undo_X3_become rfl rfl rfl (by decide +kernel) ⟨Nat.le_of_ble_eq_true rfl, Nat.le_of_ble_eq_true rfl⟩) ⟨kB_blind, va_recv hK hP (ci := 3) (q0 := 46) rfl rfl, k_pre (a := (poC o q1 q2 q3 q4 q5 q6 qt sv ++ (stW q1 cI cJ S1 ++ (stW q2 cI cJ S3 ++ (stW q3 cI cJ S4))))) (z := (stW q6 cI cJ S6 ++ (txW qt cI T))) rfl hK hP hD⟩ rfl rfl hl.1 rfl (lv_room (Nat.le_of_ble_eq_true rfl)) dX4_undo_47 ⟨Nat.zero_le _, Nat.zero_le _⟩) rfl rfl (k_ad2 (stW_ad _ _ _ _ _) (stW_ad _ _ _ _ _)) hP hD hS hA (fun H locs hP hD hS => ?_)
    refine lv_aload_n hx hb dX4_undo_50 rfl (lv_at hl 0 rfl) ?_
    refine va_get (D := D) (ci := 4) (v := .ref (q5 0)) (C := RX4) (T := TX4) (N := 8) hx hb hts inX4 hown hK hP 0 rfl rfl 4 (by decide) (hts (.fieldLink RX4 25 "PumpOaths" "third" "LPumpOaths$Station;") (List.mem_of_getElem? (i := 7) rfl)) (fun _ h9 => h9) rfl dX4_undo_51 ?_
    refine lv_aload_n hx hb dX4_undo_54 rfl (lv_at hl 0 rfl) ?_
    refine va_get (D := D) (ci := 4) (v := .ref (q6 0)) (C := RX4) (T := TX4) (N := 8) hx hb hts inX4 hown hK hP 0 rfl rfl 5 (by decide) (hts (.fieldLink RX4 28 "PumpOaths" "oldest" "LPumpOaths$Station;") (List.mem_of_getElem? (i := 8) rfl)) (fun _ h9 => h9) rfl dX4_undo_55 ?_
    refine k_callv (a := (poC o q1 q2 q3 q4 q5 q6 qt sv ++ (stW q1 cI cJ S1 ++ (stW q2 cI cJ S3 ++ (stW q3 cI cJ S4 ++ (stW q4 cI cJ S5)))))) (z := txW qt cI T) (wc := (stW q5 cI cJ S5 ++ (stW q6 cI cJ S6))) (wc' := (stW q5 cI cJ S6 ++ (stW q6 cI cJ S6))) (w' := (poC o q1 q2 q3 q4 q5 q6 qt sv ++ (stW q1 cI cJ S1 ++ (stW q2 cI cJ S3 ++ (stW q3 cI cJ S4 ++ (stW q4 cI cJ S5 ++ (stW q5 cI cJ S6 ++ (stW q6 cI cJ S6 ++ (txW qt cI T))))))))) (va_runV (As := [.ref (q6 0)]) (rest := []) ⟨hx, hb, hml, hown, hts⟩ (c_X3_become l D q5 q6 cI cJ S5 S6 _) (cwV 1 hts gX4_undo_X3_become rfl rfl rfl (by decide +kernel) ⟨Nat.le_of_ble_eq_true rfl, Nat.le_of_ble_eq_true rfl⟩) ⟨kB_blind, va_recv hK hP (ci := 3) (q0 := 61) rfl rfl, k_pre (a := (poC o q1 q2 q3 q4 q5 q6 qt sv ++ (stW q1 cI cJ S1 ++ (stW q2 cI cJ S3 ++ (stW q3 cI cJ S4 ++ (stW q4 cI cJ S5)))))) (z := txW qt cI T) rfl hK hP hD⟩ rfl rfl hl.1 rfl (lv_room (Nat.le_of_ble_eq_true rfl)) dX4_undo_58 ⟨Nat.zero_le _, Nat.zero_le _⟩) rfl rfl (k_ad2 (stW_ad _ _ _ _ _) (stW_ad _ _ _ _ _)) hP hD hS hA (fun H locs hP hD hS => ?_)
    refine lv_aload_n hx hb dX4_undo_61 rfl (lv_at hl 0 rfl) ?_
    refine lv_dup hx hb dX4_undo_62 rfl ?_
    refine va_get (D := D) (ci := 4) (v := .int sv) (C := RX4) (T := TX4) (N := 8) hx hb hts inX4 hown hK hP 0 rfl rfl 7 (by decide) (hts (.fieldLink RX4 38 "PumpOaths" "saved" "I") (List.mem_of_getElem? (i := 3) rfl)) (fun _ h9 => h9) rfl dX4_undo_63 ?_
    refine lv_iconst (v := 1) hx hb dX4_undo_66 (by decide) ?_
    refine lv_isub hx hb dX4_undo_67 ?_
    refine va_put (D := D) (ci := 4) (v := .int (sv - 1)) (ty := .int) (C := RX4) (T := TX4) (N := 8) hx hb hts inX4 tyX4 tyX4_ok nmX4 hown hK hP hD hS 0 rfl rfl 7 (by decide) (hts (.fieldLink RX4 38 "PumpOaths" "saved" "I") (List.mem_of_getElem? (i := 3) rfl)) (fun _ h9 => h9) rfl (by decide +kernel) rfl rfl (Nat.le_of_ble_eq_true rfl) dX4_undo_68 (fun H locs hP hD hS => ?_)
    have hP : va_P D vwCl (poC o q1 q2 q3 q4 q5 q6 qt (sv - 1) ++ (stW q1 cI cJ S1 ++ (stW q2 cI cJ S3 ++ (stW q3 cI cJ S4 ++ (stW q4 cI cJ S5 ++ (stW q5 cI cJ S6 ++ (stW q6 cI cJ S6 ++ (txW qt cI T)))))))) H := hP
    have hD : va_D A9 (poC o q1 q2 q3 q4 q5 q6 qt (sv - 1) ++ (stW q1 cI cJ S1 ++ (stW q2 cI cJ S3 ++ (stW q3 cI cJ S4 ++ (stW q4 cI cJ S5 ++ (stW q5 cI cJ S6 ++ (stW q6 cI cJ S6 ++ (txW qt cI T)))))))) := hD
    refine lv_aload_n hx hb dX4_undo_71 rfl (lv_at hl 0 rfl) ?_
    refine va_get (D := D) (ci := 4) (v := .int (sv - 1)) (C := RX4) (T := TX4) (N := 8) hx hb hts inX4 hown hK hP 0 rfl rfl 7 (by decide) (hts (.fieldLink RX4 38 "PumpOaths" "saved" "I") (List.mem_of_getElem? (i := 3) rfl)) (fun _ h9 => h9) rfl dX4_undo_72 ?_
    exact k_iret hx hb hr hlk hP hS dX4_undo_75 rfl (by first | rfl | (simp only [c_4_0]; done) | (simp [c_4_0]; done)) (fun h => h)
  · have c_4_0 : sv = 0 := c_4_0
    exact absurd c_4_0 h0
