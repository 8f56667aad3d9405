def A_X5_setSize_r (M : MS) (st : Nat) (x : Int32) : Int32 := (if (m_in x.toInt64 100 100000) = true then (if x.toInt64 < ((M.2.1 0) 1) then 0 else (if ((M.2.1 0) 3) ≤ x.toInt64 then o_putsR (o_setI M 2 0) st 0 else 0)) else (if x.toInt64 < ((M.2.1 0) 1) then 0 else (if ((M.2.1 0) 3) ≤ x.toInt64 then 0 else 0)))
def A_X5_setSize_s0 (M : MS) (st : Nat) (x : Int32) : MS := (if (m_in x.toInt64 100 100000) = true then (if x.toInt64 < ((M.2.1 0) 1) then o_setI M 2 2 else (if ((M.2.1 0) 3) ≤ x.toInt64 then (o_puts (o_setI M 2 0) st 0 x) else o_setI M 2 2)) else (if x.toInt64 < ((M.2.1 0) 1) then o_setI M 2 1 else (if ((M.2.1 0) 3) ≤ x.toInt64 then o_setI M 2 1 else o_setI M 2 1)))
set_option maxHeartbeats 1000000 in
set_option maxRecDepth 100000 in
theorem c_X5_setSize (l : Launch) (D : va_G) (q : Nat → Nat) (cI cJ : ClassId) (M : MS) (x : Int32) (st : Nat) (hst : M.1 0 = nI st) (hst4 : st ≤ 4) : kI l yX5_setSize wsX5_setSize ({ frames := 2, cells := 0, slots := 0, locals := 44 } : Room) D [(cI, .int), (cJ, .long)] [.ref (q 0), .int x] (moW q cI cJ M) (A_X5_setSize_r M st x) (moW q cI cJ (A_X5_setSize_s0 M st x)) := by
  refine kBody.met (cc := cX5_setSize) (maxL := 2) (ret := (some .int)) (by decide) rfl (Nat.le_of_ble_eq_true rfl) ?_
  intro p9 e9 s9 m9 below meth c9 A9 ls hx hb hr hml hts hown hlk hK hP hD hA hl
  have hown : s9.vm.findClass RX5 = some m9.cls := hown
  have inX5 : ∀ w ∈ wsX50, w ∈ wsX5_setSize := fun w h => List.mem_cons_of_mem _ (List.mem_append_right _ (h))
  have hS : va_S A9 s9.heap s9.heap [] := va_S.rf
  have hl : lv_has ls 2 [(0, .ref (q 0)), (1, .int x)] := hl
  refine lv_aload_n hx hb dX5_setSize_0 rfl (lv_at hl 0 rfl) ?_
  refine lv_iload_n hx hb dX5_setSize_1 rfl (lv_at hl 1 rfl) ?_
  refine lv_i2l hx hb dX5_setSize_2 rfl ?_
  refine lv_ldc2 (v := 100) hx hb hown (hts (.constantLong RX5 58 (100)) (List.mem_of_getElem? (i := 1) rfl)) dX5_setSize_3 ?_
  refine lv_ldc2 (v := 100000) hx hb hown (hts (.constantLong RX5 60 (100000)) (List.mem_of_getElem? (i := 2) rfl)) dX5_setSize_6 ?_
  refine k_calli (a := []) (z := moW q cI cJ M) (wc := []) (wc' := []) (w' := moW q cI cJ M) (va_runS (As := [.long x.toInt64, .long 100, .long 100000]) (rest := [.ref (q 0)]) ⟨hx, hb, hml, hown, hts⟩ (c_X5_in l D cI cJ x.toInt64 100 100000 _) (cwS 3 hts gX5_setSize_X5_in rfl rfl rfl (by decide +kernel) ⟨Nat.le_of_ble_eq_true rfl, Nat.le_of_ble_eq_true rfl⟩) ⟨kB_blind, k_pre (a := []) (z := moW q cI cJ M) rfl hK hP hD⟩ rfl rfl hl.1 rfl (lv_room (Nat.le_of_ble_eq_true rfl)) dX5_setSize_9 ⟨Nat.zero_le _, Nat.zero_le _⟩) rfl rfl rfl hP hD hS hA (fun H locs hP hD hS => ?_)
  refine lv_if_ne (tgt := 19) hx hb dX5_setSize_12 (by decide) (fun c_12_0 => ?_) (fun c_12_0 => ?_)
  · have c_12_0 : (m_in x.toInt64 100 100000) = true := bi_n.mp c_12_0
    refine lv_iconst (v := 0) hx hb dX5_setSize_19 (by decide) ?_
    refine lv_aload_n hx hb dX5_setSize_20 rfl (lv_at hl 0 rfl) ?_
    refine va_get (D := D) (ci := 5) (v := .ref (q 1)) (C := RX5) (T := TX5) (N := 14) hx hb hts inX5 hown hK hP 0 rfl rfl 0 (by decide) (hts (.fieldLink RX5 7 "PumpOathsModel" "now" "[J") (List.mem_of_getElem? (i := 3) rfl)) (fun _ h9 => h9) rfl dX5_setSize_21 ?_
    refine lv_iconst (v := 1) hx hb dX5_setSize_24 (by decide) ?_
    refine va_lald (f := M.2.1 0) hx hb hK hP 1 1 rfl rfl (k_in (k := 1) rfl (by decide) (by decide)) dX5_setSize_25 ?_
    rw [show (1 : Int32).toNatClampNeg = 1 from rfl]
    refine lv_iload_n hx hb dX5_setSize_26 rfl (lv_at hl 1 rfl) ?_
    refine lv_i2l hx hb dX5_setSize_27 rfl ?_
    refine W.lcmp hx hb dX5_setSize_28 ?_
    refine lv_if_gt (tgt := 44) hx hb dX5_setSize_29 (by decide) (fun c_29_1 => ?_) (fun c_29_1 => ?_)
    · have c_29_1 : x.toInt64 < ((M.2.1 0) 1) := (lg_cmp_gt ((M.2.1 0) 1) x.toInt64).mp c_29_1
      refine lv_iconst (v := 1) hx hb dX5_setSize_44 (by decide) ?_
      refine lv_goto (tgt := 49) hx hb dX5_setSize_45 (by decide) ?_
      refine k_calli (a := []) (z := []) (wc := moW q cI cJ M) (wc' := moW q cI cJ (o_setI M 2 2)) (w' := moW q cI cJ (o_setI M 2 2)) (va_runV (As := [.int 0, .int 1]) (rest := []) ⟨hx, hb, hml, hown, hts⟩ (c_X5_goes01 l D q cI cJ M _) (cwV 2 hts gX5_setSize_X5_goes rfl rfl rfl (by decide +kernel) ⟨Nat.le_of_ble_eq_true rfl, Nat.le_of_ble_eq_true rfl⟩) ⟨kB_blind, va_recv hK hP (ci := 5) (q0 := 0) rfl rfl, k_pre (a := []) (z := []) (k_w0 _) hK hP hD⟩ rfl rfl hl.1 rfl (lv_room (Nat.le_of_ble_eq_true rfl)) dX5_setSize_49 ⟨Nat.zero_le _, Nat.zero_le _⟩) (k_w0 _) (k_w0 _) (moW_ad _ _ _ _ _) hP hD hS hA (fun H locs hP hD hS => ?_)
      refine lv_if_eq (tgt := 64) hx hb dX5_setSize_52 (by decide) (fun _ => ?_) (fun h => absurd h (by decide))
      refine lv_iconst (v := 0) hx hb dX5_setSize_64 (by decide) ?_
      exact k_iret hx hb hr hlk hP hS dX5_setSize_65 rfl (by rw [A_X5_setSize_r, if_pos c_12_0, if_pos c_29_1]) (k_P (congrArg (fun T9 => moW q cI cJ T9) (show (o_setI M 2 2) = (A_X5_setSize_s0 M st x) from by rw [A_X5_setSize_s0, if_pos c_12_0, if_pos c_29_1])))
    · have c_29_1 : ¬ x.toInt64 < ((M.2.1 0) 1) := mt (lg_cmp_gt ((M.2.1 0) 1) x.toInt64).mpr c_29_1
      refine lv_aload_n hx hb dX5_setSize_32 rfl (lv_at hl 0 rfl) ?_
      refine va_get (D := D) (ci := 5) (v := .ref (q 1)) (C := RX5) (T := TX5) (N := 14) hx hb hts inX5 hown hK hP 0 rfl rfl 0 (by decide) (hts (.fieldLink RX5 7 "PumpOathsModel" "now" "[J") (List.mem_of_getElem? (i := 3) rfl)) (fun _ h9 => h9) rfl dX5_setSize_33 ?_
      refine lv_iconst (v := 3) hx hb dX5_setSize_36 (by decide) ?_
      refine va_lald (f := M.2.1 0) hx hb hK hP 1 1 rfl rfl (k_in (k := 3) rfl (by decide) (by decide)) dX5_setSize_37 ?_
      rw [show (3 : Int32).toNatClampNeg = 3 from rfl]
      refine lv_iload_n hx hb dX5_setSize_38 rfl (lv_at hl 1 rfl) ?_
      refine lv_i2l hx hb dX5_setSize_39 rfl ?_
      refine W.lcmp hx hb dX5_setSize_40 ?_
      refine lv_if_le (tgt := 48) hx hb dX5_setSize_41 (by decide) (fun c_41_3 => ?_) (fun c_41_3 => ?_)
      · have c_41_3 : ((M.2.1 0) 3) ≤ x.toInt64 := (lg_cmp_le ((M.2.1 0) 3) x.toInt64).mp c_41_3
        refine lv_iconst (v := 0) hx hb dX5_setSize_48 (by decide) ?_
        refine k_calli (a := []) (z := []) (wc := moW q cI cJ M) (wc' := moW q cI cJ (o_setI M 2 0)) (w' := moW q cI cJ (o_setI M 2 0)) (va_runV (As := [.int 0, .int 0]) (rest := []) ⟨hx, hb, hml, hown, hts⟩ (c_X5_goes00 l D q cI cJ M _) (cwV 2 hts gX5_setSize_X5_goes rfl rfl rfl (by decide +kernel) ⟨Nat.le_of_ble_eq_true rfl, Nat.le_of_ble_eq_true rfl⟩) ⟨kB_blind, va_recv hK hP (ci := 5) (q0 := 0) rfl rfl, k_pre (a := []) (z := []) (k_w0 _) hK hP hD⟩ rfl rfl hl.1 rfl (lv_room (Nat.le_of_ble_eq_true rfl)) dX5_setSize_49 ⟨Nat.zero_le _, Nat.zero_le _⟩) (k_w0 _) (k_w0 _) (moW_ad _ _ _ _ _) hP hD hS hA (fun H locs hP hD hS => ?_)
        refine lv_if_eq (tgt := 64) hx hb dX5_setSize_52 (by decide) (fun h => absurd h (by decide)) (fun _ => ?_)
        refine lv_aload_n hx hb dX5_setSize_55 rfl (lv_at hl 0 rfl) ?_
        refine lv_iconst (v := 0) hx hb dX5_setSize_56 (by decide) ?_
        refine lv_iload_n hx hb dX5_setSize_57 rfl (lv_at hl 1 rfl) ?_
        refine k_calli (a := []) (z := []) (wc := moW q cI cJ (o_setI M 2 0)) (wc' := moW q cI cJ (o_puts (o_setI M 2 0) st 0 x)) (w' := moW q cI cJ (o_puts (o_setI M 2 0) st 0 x)) (va_runV (As := [.int 0, .int x]) (rest := []) ⟨hx, hb, hml, hown, hts⟩ (c_X5_puts l D q cI cJ (o_setI M 2 0) 0 x (by decide) st hst hst4 _) (cwV 2 hts gX5_setSize_X5_puts rfl rfl rfl (by decide +kernel) ⟨Nat.le_of_ble_eq_true rfl, Nat.le_of_ble_eq_true rfl⟩) ⟨kB_blind, va_recv hK hP (ci := 5) (q0 := 0) rfl rfl, k_pre (a := []) (z := []) (k_w0 _) hK hP hD⟩ rfl rfl hl.1 rfl (lv_room (Nat.le_of_ble_eq_true rfl)) dX5_setSize_58 ⟨Nat.zero_le _, Nat.zero_le _⟩) (k_w0 _) (k_w0 _) (moW_ad _ _ _ _ _) hP hD hS hA (fun H locs hP hD hS => ?_)
        obtain ⟨T_6, hT_6⟩ : ∃ T9, T9 = o_puts (o_setI M 2 0) st 0 x := ⟨_, rfl⟩
        rw [← hT_6] at hP hD
        refine lv_goto (tgt := 65) hx hb dX5_setSize_61 (by decide) ?_
        exact k_iret hx hb hr hlk hP hS dX5_setSize_65 rfl (by rw [A_X5_setSize_r, if_pos c_12_0, if_neg c_29_1, if_pos c_41_3]) (k_P (congrArg (fun T9 => moW q cI cJ T9) (show T_6 = (A_X5_setSize_s0 M st x) from by rw [hT_6, A_X5_setSize_s0, if_pos c_12_0, if_neg c_29_1, if_pos c_41_3])))
      · have c_41_3 : ¬ ((M.2.1 0) 3) ≤ x.toInt64 := mt (lg_cmp_le ((M.2.1 0) 3) x.toInt64).mpr c_41_3
        refine lv_iconst (v := 1) hx hb dX5_setSize_44 (by decide) ?_
        refine lv_goto (tgt := 49) hx hb dX5_setSize_45 (by decide) ?_
        refine k_calli (a := []) (z := []) (wc := moW q cI cJ M) (wc' := moW q cI cJ (o_setI M 2 2)) (w' := moW q cI cJ (o_setI M 2 2)) (va_runV (As := [.int 0, .int 1]) (rest := []) ⟨hx, hb, hml, hown, hts⟩ (c_X5_goes01 l D q cI cJ M _) (cwV 2 hts gX5_setSize_X5_goes rfl rfl rfl (by decide +kernel) ⟨Nat.le_of_ble_eq_true rfl, Nat.le_of_ble_eq_true rfl⟩) ⟨kB_blind, va_recv hK hP (ci := 5) (q0 := 0) rfl rfl, k_pre (a := []) (z := []) (k_w0 _) hK hP hD⟩ rfl rfl hl.1 rfl (lv_room (Nat.le_of_ble_eq_true rfl)) dX5_setSize_49 ⟨Nat.zero_le _, Nat.zero_le _⟩) (k_w0 _) (k_w0 _) (moW_ad _ _ _ _ _) hP hD hS hA (fun H locs hP hD hS => ?_)
        refine lv_if_eq (tgt := 64) hx hb dX5_setSize_52 (by decide) (fun _ => ?_) (fun h => absurd h (by decide))
        refine lv_iconst (v := 0) hx hb dX5_setSize_64 (by decide) ?_
        exact k_iret hx hb hr hlk hP hS dX5_setSize_65 rfl (by rw [A_X5_setSize_r, if_pos c_12_0, if_neg c_29_1, if_neg c_41_3]) (k_P (congrArg (fun T9 => moW q cI cJ T9) (show (o_setI M 2 2) = (A_X5_setSize_s0 M st x) from by rw [A_X5_setSize_s0, if_pos c_12_0, if_neg c_29_1, if_neg c_41_3])))
  · have c_12_0 : (m_in x.toInt64 100 100000) = false := bi_0.mp c_12_0
    refine lv_iconst (v := 1) hx hb dX5_setSize_15 (by decide) ?_
    refine lv_goto (tgt := 20) hx hb dX5_setSize_16 (by decide) ?_
    refine lv_aload_n hx hb dX5_setSize_20 rfl (lv_at hl 0 rfl) ?_
    refine va_get (D := D) (ci := 5) (v := .ref (q 1)) (C := RX5) (T := TX5) (N := 14) hx hb hts inX5 hown hK hP 0 rfl rfl 0 (by decide) (hts (.fieldLink RX5 7 "PumpOathsModel" "now" "[J") (List.mem_of_getElem? (i := 3) rfl)) (fun _ h9 => h9) rfl dX5_setSize_21 ?_
    refine lv_iconst (v := 1) hx hb dX5_setSize_24 (by decide) ?_
    refine va_lald (f := M.2.1 0) hx hb hK hP 1 1 rfl rfl (k_in (k := 1) rfl (by decide) (by decide)) dX5_setSize_25 ?_
    rw [show (1 : Int32).toNatClampNeg = 1 from rfl]
    refine lv_iload_n hx hb dX5_setSize_26 rfl (lv_at hl 1 rfl) ?_
    refine lv_i2l hx hb dX5_setSize_27 rfl ?_
    refine W.lcmp hx hb dX5_setSize_28 ?_
    refine lv_if_gt (tgt := 44) hx hb dX5_setSize_29 (by decide) (fun c_29_7 => ?_) (fun c_29_7 => ?_)
    · have c_29_7 : x.toInt64 < ((M.2.1 0) 1) := (lg_cmp_gt ((M.2.1 0) 1) x.toInt64).mp c_29_7
      refine lv_iconst (v := 1) hx hb dX5_setSize_44 (by decide) ?_
      refine lv_goto (tgt := 49) hx hb dX5_setSize_45 (by decide) ?_
      refine k_calli (a := []) (z := []) (wc := moW q cI cJ M) (wc' := moW q cI cJ (o_setI M 2 1)) (w' := moW q cI cJ (o_setI M 2 1)) (va_runV (As := [.int 1, .int 1]) (rest := []) ⟨hx, hb, hml, hown, hts⟩ (c_X5_goes1 l D q cI cJ M 1 _) (cwV 2 hts gX5_setSize_X5_goes rfl rfl rfl (by decide +kernel) ⟨Nat.le_of_ble_eq_true rfl, Nat.le_of_ble_eq_true rfl⟩) ⟨kB_blind, va_recv hK hP (ci := 5) (q0 := 0) rfl rfl, k_pre (a := []) (z := []) (k_w0 _) hK hP hD⟩ rfl rfl hl.1 rfl (lv_room (Nat.le_of_ble_eq_true rfl)) dX5_setSize_49 ⟨Nat.zero_le _, Nat.zero_le _⟩) (k_w0 _) (k_w0 _) (moW_ad _ _ _ _ _) hP hD hS hA (fun H locs hP hD hS => ?_)
      refine lv_if_eq (tgt := 64) hx hb dX5_setSize_52 (by decide) (fun _ => ?_) (fun h => absurd h (by decide))
      refine lv_iconst (v := 0) hx hb dX5_setSize_64 (by decide) ?_
      exact k_iret hx hb hr hlk hP hS dX5_setSize_65 rfl (by rw [A_X5_setSize_r, if_neg (bi_nt c_12_0), if_pos c_29_7]) (k_P (congrArg (fun T9 => moW q cI cJ T9) (show (o_setI M 2 1) = (A_X5_setSize_s0 M st x) from by rw [A_X5_setSize_s0, if_neg (bi_nt c_12_0), if_pos c_29_7])))
    · have c_29_7 : ¬ x.toInt64 < ((M.2.1 0) 1) := mt (lg_cmp_gt ((M.2.1 0) 1) x.toInt64).mpr c_29_7
      refine lv_aload_n hx hb dX5_setSize_32 rfl (lv_at hl 0 rfl) ?_
      refine va_get (D := D) (ci := 5) (v := .ref (q 1)) (C := RX5) (T := TX5) (N := 14) hx hb hts inX5 hown hK hP 0 rfl rfl 0 (by decide) (hts (.fieldLink RX5 7 "PumpOathsModel" "now" "[J") (List.mem_of_getElem? (i := 3) rfl)) (fun _ h9 => h9) rfl dX5_setSize_33 ?_
      refine lv_iconst (v := 3) hx hb dX5_setSize_36 (by decide) ?_
      refine va_lald (f := M.2.1 0) hx hb hK hP 1 1 rfl rfl (k_in (k := 3) rfl (by decide) (by decide)) dX5_setSize_37 ?_
      rw [show (3 : Int32).toNatClampNeg = 3 from rfl]
      refine lv_iload_n hx hb dX5_setSize_38 rfl (lv_at hl 1 rfl) ?_
      refine lv_i2l hx hb dX5_setSize_39 rfl ?_
      refine W.lcmp hx hb dX5_setSize_40 ?_
      refine lv_if_le (tgt := 48) hx hb dX5_setSize_41 (by decide) (fun c_41_9 => ?_) (fun c_41_9 => ?_)
      · have c_41_9 : ((M.2.1 0) 3) ≤ x.toInt64 := (lg_cmp_le ((M.2.1 0) 3) x.toInt64).mp c_41_9
        refine lv_iconst (v := 0) hx hb dX5_setSize_48 (by decide) ?_
        refine k_calli (a := []) (z := []) (wc := moW q cI cJ M) (wc' := moW q cI cJ (o_setI M 2 1)) (w' := moW q cI cJ (o_setI M 2 1)) (va_runV (As := [.int 1, .int 0]) (rest := []) ⟨hx, hb, hml, hown, hts⟩ (c_X5_goes1 l D q cI cJ M 0 _) (cwV 2 hts gX5_setSize_X5_goes rfl rfl rfl (by decide +kernel) ⟨Nat.le_of_ble_eq_true rfl, Nat.le_of_ble_eq_true rfl⟩) ⟨kB_blind, va_recv hK hP (ci := 5) (q0 := 0) rfl rfl, k_pre (a := []) (z := []) (k_w0 _) hK hP hD⟩ rfl rfl hl.1 rfl (lv_room (Nat.le_of_ble_eq_true rfl)) dX5_setSize_49 ⟨Nat.zero_le _, Nat.zero_le _⟩) (k_w0 _) (k_w0 _) (moW_ad _ _ _ _ _) hP hD hS hA (fun H locs hP hD hS => ?_)
        refine lv_if_eq (tgt := 64) hx hb dX5_setSize_52 (by decide) (fun _ => ?_) (fun h => absurd h (by decide))
        refine lv_iconst (v := 0) hx hb dX5_setSize_64 (by decide) ?_
        exact k_iret hx hb hr hlk hP hS dX5_setSize_65 rfl (by rw [A_X5_setSize_r, if_neg (bi_nt c_12_0), if_neg c_29_7, if_pos c_41_9]) (k_P (congrArg (fun T9 => moW q cI cJ T9) (show (o_setI M 2 1) = (A_X5_setSize_s0 M st x) from by rw [A_X5_setSize_s0, if_neg (bi_nt c_12_0), if_neg c_29_7, if_pos c_41_9])))
      · have c_41_9 : ¬ ((M.2.1 0) 3) ≤ x.toInt64 := mt (lg_cmp_le ((M.2.1 0) 3) x.toInt64).mpr c_41_9
        refine lv_iconst (v := 1) hx hb dX5_setSize_44 (by decide) ?_
        refine lv_goto (tgt := 49) hx hb dX5_setSize_45 (by decide) ?_
        refine k_calli (a := []) (z := []) (wc := moW q cI cJ M) (wc' := moW q cI cJ (o_setI M 2 1)) (w' := moW q cI cJ (o_setI M 2 1)) (va_runV (As := [.int 1, .int 1]) (rest := []) ⟨hx, hb, hml, hown, hts⟩ (c_X5_goes1 l D q cI cJ M 1 _) (cwV 2 hts gX5_setSize_X5_goes rfl rfl rfl (by decide +kernel) ⟨Nat.le_of_ble_eq_true rfl, Nat.le_of_ble_eq_true rfl⟩) ⟨kB_blind, va_recv hK hP (ci := 5) (q0 := 0) rfl rfl, k_pre (a := []) (z := []) (k_w0 _) hK hP hD⟩ rfl rfl hl.1 rfl (lv_room (Nat.le_of_ble_eq_true rfl)) dX5_setSize_49 ⟨Nat.zero_le _, Nat.zero_le _⟩) (k_w0 _) (k_w0 _) (moW_ad _ _ _ _ _) hP hD hS hA (fun H locs hP hD hS => ?_)
        refine lv_if_eq (tgt := 64) hx hb dX5_setSize_52 (by decide) (fun _ => ?_) (fun h => absurd h (by decide))
        refine lv_iconst (v := 0) hx hb dX5_setSize_64 (by decide) ?_
        exact k_iret hx hb hr hlk hP hS dX5_setSize_65 rfl (by rw [A_X5_setSize_r, if_neg (bi_nt c_12_0), if_neg c_29_7, if_neg c_41_9]) (k_P (congrArg (fun T9 => moW q cI cJ T9) (show (o_setI M 2 1) = (A_X5_setSize_s0 M st x) from by rw [A_X5_setSize_s0, if_neg (bi_nt c_12_0), if_neg c_29_7, if_neg c_41_9])))

def A_X5_setBand_r (M : MS) (st : Nat) (x y : Int32) : Int32 := (if x < 1 then (if y.toInt64 ≤ ((M.2.1 0) 0) then 0 else 0) else (if x < y then (if y.toInt64 ≤ ((M.2.1 0) 0) then (((M.2.1 0) 3) - ((M.2.1 0) 2)).toInt32 else 0) else (if y.toInt64 ≤ ((M.2.1 0) 0) then 0 else 0)))
def A_X5_setBand_s0 (M : MS) (st : Nat) (x y : Int32) : MS := (if x < 1 then (if y.toInt64 ≤ ((M.2.1 0) 0) then o_setI M 2 1 else o_setI M 2 1) else (if x < y then (if y.toInt64 ≤ ((M.2.1 0) 0) then o_setV (o_puts (o_setI M 2 0) st 2 x) 0 (vp_updL ((o_puts (o_setI M 2 0) st 2 x).2.1 0) 3 y.toInt64) else o_setI M 2 2) else (if y.toInt64 ≤ ((M.2.1 0) 0) then o_setI M 2 1 else o_setI M 2 1)))
set_option maxHeartbeats 1000000 in
set_option maxRecDepth 100000 in
theorem c_X5_setBand (l : Launch) (D : va_G) (q : Nat → Nat) (cI cJ : ClassId) (M : MS) (x y : Int32) (st : Nat) (hst : M.1 0 = nI st) (hst4 : st ≤ 4) : kI l yX5_setBand wsX5_setBand ({ frames := 2, cells := 0, slots := 0, locals := 44 } : Room) D [(cI, .int), (cJ, .long)] [.ref (q 0), .int x, .int y] (moW q cI cJ M) (A_X5_setBand_r M st x y) (moW q cI cJ (A_X5_setBand_s0 M st x y)) := by
  refine kBody.met (cc := cX5_setBand) (maxL := 4) (ret := (some .int)) (by decide) rfl (Nat.le_of_ble_eq_true rfl) ?_
  intro p9 e9 s9 m9 below meth c9 A9 ls hx hb hr hml hts hown hlk hK hP hD hA hl
  have hown : s9.vm.findClass RX5 = some m9.cls := hown
  have inX5 : ∀ w ∈ wsX50, w ∈ wsX5_setBand := fun w h => List.mem_cons_of_mem _ (List.mem_append_right _ (h))
  have hS : va_S A9 s9.heap s9.heap [] := va_S.rf
  have hl : lv_has ls 4 [(0, .ref (q 0)), (1, .int x), (2, .int y)] := hl
  refine lv_aload_n hx hb dX5_setBand_0 rfl (lv_at hl 0 rfl) ?_
  refine lv_iload_n hx hb dX5_setBand_1 rfl (lv_at hl 1 rfl) ?_
  refine lv_iconst (v := 1) hx hb dX5_setBand_2 (by decide) ?_
  refine lv_icmp_lt (tgt := 11) hx hb dX5_setBand_3 (by decide) (fun c_3_0 => ?_) (fun c_3_0 => ?_)
  · have c_3_0 : x < 1 := c_3_0
    refine lv_iconst (v := 1) hx hb dX5_setBand_11 (by decide) ?_
    refine lv_goto (tgt := 16) hx hb dX5_setBand_12 (by decide) ?_
    refine lv_iload_n hx hb dX5_setBand_16 rfl (lv_at hl 2 rfl) ?_
    refine lv_i2l hx hb dX5_setBand_17 rfl ?_
    refine lv_aload_n hx hb dX5_setBand_18 rfl (lv_at hl 0 rfl) ?_
    refine va_get (D := D) (ci := 5) (v := .ref (q 1)) (C := RX5) (T := TX5) (N := 14) hx hb hts inX5 hown hK hP 0 rfl rfl 0 (by decide) (hts (.fieldLink RX5 7 "PumpOathsModel" "now" "[J") (List.mem_of_getElem? (i := 1) rfl)) (fun _ h9 => h9) rfl dX5_setBand_19 ?_
    refine lv_iconst (v := 0) hx hb dX5_setBand_22 (by decide) ?_
    refine va_lald (f := M.2.1 0) hx hb hK hP 1 1 rfl rfl (k_in (k := 0) rfl (by decide) (by decide)) dX5_setBand_23 ?_
    rw [show (0 : Int32).toNatClampNeg = 0 from rfl]
    refine W.lcmp hx hb dX5_setBand_24 ?_
    refine lv_if_le (tgt := 32) hx hb dX5_setBand_25 (by decide) (fun c_25_1 => ?_) (fun c_25_1 => ?_)
    · have c_25_1 : y.toInt64 ≤ ((M.2.1 0) 0) := (lg_cmp_le y.toInt64 ((M.2.1 0) 0)).mp c_25_1
      refine lv_iconst (v := 0) hx hb dX5_setBand_32 (by decide) ?_
      refine k_calli (a := []) (z := []) (wc := moW q cI cJ M) (wc' := moW q cI cJ (o_setI M 2 1)) (w' := moW q cI cJ (o_setI M 2 1)) (va_runV (As := [.int 1, .int 0]) (rest := []) ⟨hx, hb, hml, hown, hts⟩ (c_X5_goes1 l D q cI cJ M 0 _) (cwV 2 hts gX5_setBand_X5_goes rfl rfl rfl (by decide +kernel) ⟨Nat.le_of_ble_eq_true rfl, Nat.le_of_ble_eq_true rfl⟩) ⟨kB_blind, va_recv hK hP (ci := 5) (q0 := 0) rfl rfl, k_pre (a := []) (z := []) (k_w0 _) hK hP hD⟩ rfl rfl hl.1 rfl (lv_room (Nat.le_of_ble_eq_true rfl)) dX5_setBand_33 ⟨Nat.zero_le _, Nat.zero_le _⟩) (k_w0 _) (k_w0 _) (moW_ad _ _ _ _ _) hP hD hS hA (fun H locs hP hD hS => ?_)
      refine lv_if_ne (tgt := 41) hx hb dX5_setBand_36 (by decide) (fun h => absurd h (by decide)) (fun _ => ?_)
      refine lv_iconst (v := 0) hx hb dX5_setBand_39 (by decide) ?_
      exact k_iret hx hb hr hlk hP hS dX5_setBand_40 rfl (by rw [A_X5_setBand_r, if_pos c_3_0, if_pos c_25_1]) (k_P (congrArg (fun T9 => moW q cI cJ T9) (show (o_setI M 2 1) = (A_X5_setBand_s0 M st x y) from by rw [A_X5_setBand_s0, if_pos c_3_0, if_pos c_25_1])))
    · have c_25_1 : ¬ y.toInt64 ≤ ((M.2.1 0) 0) := mt (lg_cmp_le y.toInt64 ((M.2.1 0) 0)).mpr c_25_1
      refine lv_iconst (v := 1) hx hb dX5_setBand_28 (by decide) ?_
      refine lv_goto (tgt := 33) hx hb dX5_setBand_29 (by decide) ?_
      refine k_calli (a := []) (z := []) (wc := moW q cI cJ M) (wc' := moW q cI cJ (o_setI M 2 1)) (w' := moW q cI cJ (o_setI M 2 1)) (va_runV (As := [.int 1, .int 1]) (rest := []) ⟨hx, hb, hml, hown, hts⟩ (c_X5_goes1 l D q cI cJ M 1 _) (cwV 2 hts gX5_setBand_X5_goes rfl rfl rfl (by decide +kernel) ⟨Nat.le_of_ble_eq_true rfl, Nat.le_of_ble_eq_true rfl⟩) ⟨kB_blind, va_recv hK hP (ci := 5) (q0 := 0) rfl rfl, k_pre (a := []) (z := []) (k_w0 _) hK hP hD⟩ rfl rfl hl.1 rfl (lv_room (Nat.le_of_ble_eq_true rfl)) dX5_setBand_33 ⟨Nat.zero_le _, Nat.zero_le _⟩) (k_w0 _) (k_w0 _) (moW_ad _ _ _ _ _) hP hD hS hA (fun H locs hP hD hS => ?_)
      refine lv_if_ne (tgt := 41) hx hb dX5_setBand_36 (by decide) (fun h => absurd h (by decide)) (fun _ => ?_)
      refine lv_iconst (v := 0) hx hb dX5_setBand_39 (by decide) ?_
      exact k_iret hx hb hr hlk hP hS dX5_setBand_40 rfl (by rw [A_X5_setBand_r, if_pos c_3_0, if_neg c_25_1]) (k_P (congrArg (fun T9 => moW q cI cJ T9) (show (o_setI M 2 1) = (A_X5_setBand_s0 M st x y) from by rw [A_X5_setBand_s0, if_pos c_3_0, if_neg c_25_1])))
  · have c_3_0 : ¬ x < 1 := c_3_0
    refine lv_iload_n hx hb dX5_setBand_6 rfl (lv_at hl 2 rfl) ?_
    refine lv_iload_n hx hb dX5_setBand_7 rfl (lv_at hl 1 rfl) ?_
    refine lv_icmp_gt (tgt := 15) hx hb dX5_setBand_8 (by decide) (fun c_8_4 => ?_) (fun c_8_4 => ?_)
    · have c_8_4 : x < y := c_8_4
      refine lv_iconst (v := 0) hx hb dX5_setBand_15 (by decide) ?_
      refine lv_iload_n hx hb dX5_setBand_16 rfl (lv_at hl 2 rfl) ?_
      refine lv_i2l hx hb dX5_setBand_17 rfl ?_
      refine lv_aload_n hx hb dX5_setBand_18 rfl (lv_at hl 0 rfl) ?_
      refine va_get (D := D) (ci := 5) (v := .ref (q 1)) (C := RX5) (T := TX5) (N := 14) hx hb hts inX5 hown hK hP 0 rfl rfl 0 (by decide) (hts (.fieldLink RX5 7 "PumpOathsModel" "now" "[J") (List.mem_of_getElem? (i := 1) rfl)) (fun _ h9 => h9) rfl dX5_setBand_19 ?_
      refine lv_iconst (v := 0) hx hb dX5_setBand_22 (by decide) ?_
      refine va_lald (f := M.2.1 0) hx hb hK hP 1 1 rfl rfl (k_in (k := 0) rfl (by decide) (by decide)) dX5_setBand_23 ?_
      rw [show (0 : Int32).toNatClampNeg = 0 from rfl]
      refine W.lcmp hx hb dX5_setBand_24 ?_
      refine lv_if_le (tgt := 32) hx hb dX5_setBand_25 (by decide) (fun c_25_5 => ?_) (fun c_25_5 => ?_)
      · have c_25_5 : y.toInt64 ≤ ((M.2.1 0) 0) := (lg_cmp_le y.toInt64 ((M.2.1 0) 0)).mp c_25_5
        refine lv_iconst (v := 0) hx hb dX5_setBand_32 (by decide) ?_
        refine k_calli (a := []) (z := []) (wc := moW q cI cJ M) (wc' := moW q cI cJ (o_setI M 2 0)) (w' := moW q cI cJ (o_setI M 2 0)) (va_runV (As := [.int 0, .int 0]) (rest := []) ⟨hx, hb, hml, hown, hts⟩ (c_X5_goes00 l D q cI cJ M _) (cwV 2 hts gX5_setBand_X5_goes rfl rfl rfl (by decide +kernel) ⟨Nat.le_of_ble_eq_true rfl, Nat.le_of_ble_eq_true rfl⟩) ⟨kB_blind, va_recv hK hP (ci := 5) (q0 := 0) rfl rfl, k_pre (a := []) (z := []) (k_w0 _) hK hP hD⟩ rfl rfl hl.1 rfl (lv_room (Nat.le_of_ble_eq_true rfl)) dX5_setBand_33 ⟨Nat.zero_le _, Nat.zero_le _⟩) (k_w0 _) (k_w0 _) (moW_ad _ _ _ _ _) hP hD hS hA (fun H locs hP hD hS => ?_)
        refine lv_if_ne (tgt := 41) hx hb dX5_setBand_36 (by decide) (fun _ => ?_) (fun h => absurd h (by decide))
        refine lv_aload_n hx hb dX5_setBand_41 rfl (lv_at hl 0 rfl) ?_
        refine va_get (D := D) (ci := 5) (v := .ref (q 1)) (C := RX5) (T := TX5) (N := 14) hx hb hts inX5 hown hK hP 0 rfl rfl 0 (by decide) (hts (.fieldLink RX5 7 "PumpOathsModel" "now" "[J") (List.mem_of_getElem? (i := 1) rfl)) (fun _ h9 => h9) rfl dX5_setBand_42 ?_
        refine lv_iconst (v := 3) hx hb dX5_setBand_45 (by decide) ?_
        refine va_lald (f := M.2.1 0) hx hb hK hP 1 1 rfl rfl (k_in (k := 3) rfl (by decide) (by decide)) dX5_setBand_46 ?_
        rw [show (3 : Int32).toNatClampNeg = 3 from rfl]
        refine lv_aload_n hx hb dX5_setBand_47 rfl (lv_at hl 0 rfl) ?_
        refine va_get (D := D) (ci := 5) (v := .ref (q 1)) (C := RX5) (T := TX5) (N := 14) hx hb hts inX5 hown hK hP 0 rfl rfl 0 (by decide) (hts (.fieldLink RX5 7 "PumpOathsModel" "now" "[J") (List.mem_of_getElem? (i := 1) rfl)) (fun _ h9 => h9) rfl dX5_setBand_48 ?_
        refine lv_iconst (v := 2) hx hb dX5_setBand_51 (by decide) ?_
        refine va_lald (f := M.2.1 0) hx hb hK hP 1 1 rfl rfl (k_in (k := 2) rfl (by decide) (by decide)) dX5_setBand_52 ?_
        rw [show (2 : Int32).toNatClampNeg = 2 from rfl]
        refine lv_lsub hx hb dX5_setBand_53 ?_
        refine lv_l2i hx hb dX5_setBand_54 rfl ?_
        refine lv_istore_n (lv' := [(3, .int ((((M.2.1 0) 3) - ((M.2.1 0) 2)).toInt32)), (0, .ref (q 0)), (1, .int x), (2, .int y)]) hx hb dX5_setBand_55 rfl hl (by decide) rfl (fun ls hl => ?_)
        refine lv_aload_n hx hb dX5_setBand_56 rfl (lv_at hl 1 rfl) ?_
        refine lv_iconst (v := 2) hx hb dX5_setBand_57 (by decide) ?_
        refine lv_iload_n hx hb dX5_setBand_58 rfl (lv_at hl 2 rfl) ?_
        refine k_calli (a := []) (z := []) (wc := moW q cI cJ (o_setI M 2 0)) (wc' := moW q cI cJ (o_puts (o_setI M 2 0) st 2 x)) (w' := moW q cI cJ (o_puts (o_setI M 2 0) st 2 x)) (va_runV (As := [.int 2, .int x]) (rest := []) ⟨hx, hb, hml, hown, hts⟩ (c_X5_puts l D q cI cJ (o_setI M 2 0) 2 x (by decide) st hst hst4 _) (cwV 2 hts gX5_setBand_X5_puts rfl rfl rfl (by decide +kernel) ⟨Nat.le_of_ble_eq_true rfl, Nat.le_of_ble_eq_true rfl⟩) ⟨kB_blind, va_recv hK hP (ci := 5) (q0 := 0) rfl rfl, k_pre (a := []) (z := []) (k_w0 _) hK hP hD⟩ rfl rfl hl.1 rfl (lv_room (Nat.le_of_ble_eq_true rfl)) dX5_setBand_59 ⟨Nat.zero_le _, Nat.zero_le _⟩) (k_w0 _) (k_w0 _) (moW_ad _ _ _ _ _) hP hD hS hA (fun H locs hP hD hS => ?_)
        obtain ⟨T_8, hT_8⟩ : ∃ T9, T9 = o_puts (o_setI M 2 0) st 2 x := ⟨_, rfl⟩
        rw [← hT_8] at hP hD
        refine lv_pop hx hb dX5_setBand_62 rfl ?_
        refine lv_aload_n hx hb dX5_setBand_63 rfl (lv_at hl 1 rfl) ?_
        refine va_get (D := D) (ci := 5) (v := .ref (q 1)) (C := RX5) (T := TX5) (N := 14) hx hb hts inX5 hown hK hP 0 rfl rfl 0 (by decide) (hts (.fieldLink RX5 7 "PumpOathsModel" "now" "[J") (List.mem_of_getElem? (i := 1) rfl)) (fun _ h9 => h9) rfl dX5_setBand_64 ?_
        refine lv_iconst (v := 3) hx hb dX5_setBand_67 (by decide) ?_
        refine lv_iload_n hx hb dX5_setBand_68 rfl (lv_at hl 3 rfl) ?_
        refine lv_i2l hx hb dX5_setBand_69 rfl ?_
        refine va_last (f := T_8.2.1 0) hx hb hK hP hD hS 1 1 rfl rfl (k_in (k := 3) rfl (by decide) (by decide)) dX5_setBand_70 (fun H locs hP hD hS => ?_)
        rw [show (3 : Int32).toNatClampNeg = 3 from rfl] at hP hD
        have hP : va_P D vwCl (moW q cI cJ (o_setV T_8 0 (vp_updL (T_8.2.1 0) 3 y.toInt64))) H := hP
        have hD : va_D A9 (moW q cI cJ (o_setV T_8 0 (vp_updL (T_8.2.1 0) 3 y.toInt64))) := hD
        obtain ⟨T_9, hT_9⟩ : ∃ T9, T9 = vp_updL (T_8.2.1 0) 3 y.toInt64 := ⟨_, rfl⟩
        rw [← hT_9] at hP hD
        refine lv_iload_n hx hb dX5_setBand_71 rfl (lv_at hl 0 rfl) ?_
        exact k_iret hx hb hr hlk hP hS dX5_setBand_72 rfl (by rw [A_X5_setBand_r, if_neg c_3_0, if_pos c_8_4, if_pos c_25_5]) (k_P (congrArg (fun T9 => moW q cI cJ T9) (show (o_setV T_8 0 T_9) = (A_X5_setBand_s0 M st x y) from by rw [hT_9, hT_8, A_X5_setBand_s0, if_neg c_3_0, if_pos c_8_4, if_pos c_25_5])))
      · have c_25_5 : ¬ y.toInt64 ≤ ((M.2.1 0) 0) := mt (lg_cmp_le y.toInt64 ((M.2.1 0) 0)).mpr c_25_5
        refine lv_iconst (v := 1) hx hb dX5_setBand_28 (by decide) ?_
        refine lv_goto (tgt := 33) hx hb dX5_setBand_29 (by decide) ?_
        refine k_calli (a := []) (z := []) (wc := moW q cI cJ M) (wc' := moW q cI cJ (o_setI M 2 2)) (w' := moW q cI cJ (o_setI M 2 2)) (va_runV (As := [.int 0, .int 1]) (rest := []) ⟨hx, hb, hml, hown, hts⟩ (c_X5_goes01 l D q cI cJ M _) (cwV 2 hts gX5_setBand_X5_goes rfl rfl rfl (by decide +kernel) ⟨Nat.le_of_ble_eq_true rfl, Nat.le_of_ble_eq_true rfl⟩) ⟨kB_blind, va_recv hK hP (ci := 5) (q0 := 0) rfl rfl, k_pre (a := []) (z := []) (k_w0 _) hK hP hD⟩ rfl rfl hl.1 rfl (lv_room (Nat.le_of_ble_eq_true rfl)) dX5_setBand_33 ⟨Nat.zero_le _, Nat.zero_le _⟩) (k_w0 _) (k_w0 _) (moW_ad _ _ _ _ _) hP hD hS hA (fun H locs hP hD hS => ?_)
        refine lv_if_ne (tgt := 41) hx hb dX5_setBand_36 (by decide) (fun h => absurd h (by decide)) (fun _ => ?_)
        refine lv_iconst (v := 0) hx hb dX5_setBand_39 (by decide) ?_
        exact k_iret hx hb hr hlk hP hS dX5_setBand_40 rfl (by rw [A_X5_setBand_r, if_neg c_3_0, if_pos c_8_4, if_neg c_25_5]) (k_P (congrArg (fun T9 => moW q cI cJ T9) (show (o_setI M 2 2) = (A_X5_setBand_s0 M st x y) from by rw [A_X5_setBand_s0, if_neg c_3_0, if_pos c_8_4, if_neg c_25_5])))
    · have c_8_4 : ¬ x < y := c_8_4
      refine lv_iconst (v := 1) hx hb dX5_setBand_11 (by decide) ?_
      refine lv_goto (tgt := 16) hx hb dX5_setBand_12 (by decide) ?_
      refine lv_iload_n hx hb dX5_setBand_16 rfl (lv_at hl 2 rfl) ?_
      refine lv_i2l hx hb dX5_setBand_17 rfl ?_
      refine lv_aload_n hx hb dX5_setBand_18 rfl (lv_at hl 0 rfl) ?_
      refine va_get (D := D) (ci := 5) (v := .ref (q 1)) (C := RX5) (T := TX5) (N := 14) hx hb hts inX5 hown hK hP 0 rfl rfl 0 (by decide) (hts (.fieldLink RX5 7 "PumpOathsModel" "now" "[J") (List.mem_of_getElem? (i := 1) rfl)) (fun _ h9 => h9) rfl dX5_setBand_19 ?_
      refine lv_iconst (v := 0) hx hb dX5_setBand_22 (by decide) ?_
      refine va_lald (f := M.2.1 0) hx hb hK hP 1 1 rfl rfl (k_in (k := 0) rfl (by decide) (by decide)) dX5_setBand_23 ?_
      rw [show (0 : Int32).toNatClampNeg = 0 from rfl]
      refine W.lcmp hx hb dX5_setBand_24 ?_
      refine lv_if_le (tgt := 32) hx hb dX5_setBand_25 (by decide) (fun c_25_10 => ?_) (fun c_25_10 => ?_)
      · have c_25_10 : y.toInt64 ≤ ((M.2.1 0) 0) := (lg_cmp_le y.toInt64 ((M.2.1 0) 0)).mp c_25_10
        refine lv_iconst (v := 0) hx hb dX5_setBand_32 (by decide) ?_
        refine k_calli (a := []) (z := []) (wc := moW q cI cJ M) (wc' := moW q cI cJ (o_setI M 2 1)) (w' := moW q cI cJ (o_setI M 2 1)) (va_runV (As := [.int 1, .int 0]) (rest := []) ⟨hx, hb, hml, hown, hts⟩ (c_X5_goes1 l D q cI cJ M 0 _) (cwV 2 hts gX5_setBand_X5_goes rfl rfl rfl (by decide +kernel) ⟨Nat.le_of_ble_eq_true rfl, Nat.le_of_ble_eq_true rfl⟩) ⟨kB_blind, va_recv hK hP (ci := 5) (q0 := 0) rfl rfl, k_pre (a := []) (z := []) (k_w0 _) hK hP hD⟩ rfl rfl hl.1 rfl (lv_room (Nat.le_of_ble_eq_true rfl)) dX5_setBand_33 ⟨Nat.zero_le _, Nat.zero_le _⟩) (k_w0 _) (k_w0 _) (moW_ad _ _ _ _ _) hP hD hS hA (fun H locs hP hD hS => ?_)
        refine lv_if_ne (tgt := 41) hx hb dX5_setBand_36 (by decide) (fun h => absurd h (by decide)) (fun _ => ?_)
        refine lv_iconst (v := 0) hx hb dX5_setBand_39 (by decide) ?_
        exact k_iret hx hb hr hlk hP hS dX5_setBand_40 rfl (by rw [A_X5_setBand_r, if_neg c_3_0, if_neg c_8_4, if_pos c_25_10]) (k_P (congrArg (fun T9 => moW q cI cJ T9) (show (o_setI M 2 1) = (A_X5_setBand_s0 M st x y) from by rw [A_X5_setBand_s0, if_neg c_3_0, if_neg c_8_4, if_pos c_25_10])))
      · have c_25_10 : ¬ y.toInt64 ≤ ((M.2.1 0) 0) := mt (lg_cmp_le y.toInt64 ((M.2.1 0) 0)).mpr c_25_10
        refine lv_iconst (v := 1) hx hb dX5_setBand_28 (by decide) ?_
        refine lv_goto (tgt := 33) hx hb dX5_setBand_29 (by decide) ?_
        refine k_calli (a := []) (z := []) (wc := moW q cI cJ M) (wc' := moW q cI cJ (o_setI M 2 1)) (w' := moW q cI cJ (o_setI M 2 1)) (va_runV (As := [.int 1, .int 1]) (rest := []) ⟨hx, hb, hml, hown, hts⟩ (c_X5_goes1 l D q cI cJ M 1 _) (cwV 2 hts gX5_setBand_X5_goes rfl rfl rfl (by decide +kernel) ⟨Nat.le_of_ble_eq_true rfl, Nat.le_of_ble_eq_true rfl⟩) ⟨kB_blind, va_recv hK hP (ci := 5) (q0 := 0) rfl rfl, k_pre (a := []) (z := []) (k_w0 _) hK hP hD⟩ rfl rfl hl.1 rfl (lv_room (Nat.le_of_ble_eq_true rfl)) dX5_setBand_33 ⟨Nat.zero_le _, Nat.zero_le _⟩) (k_w0 _) (k_w0 _) (moW_ad _ _ _ _ _) hP hD hS hA (fun H locs hP hD hS => ?_)
        refine lv_if_ne (tgt := 41) hx hb dX5_setBand_36 (by decide) (fun h => absurd h (by decide)) (fun _ => ?_)
        refine lv_iconst (v := 0) hx hb dX5_setBand_39 (by decide) ?_
        exact k_iret hx hb hr hlk hP hS dX5_setBand_40 rfl (by rw [A_X5_setBand_r, if_neg c_3_0, if_neg c_8_4, if_neg c_25_10]) (k_P (congrArg (fun T9 => moW q cI cJ T9) (show (o_setI M 2 1) = (A_X5_setBand_s0 M st x y) from by rw [A_X5_setBand_s0, if_neg c_3_0, if_neg c_8_4, if_neg c_25_10])))

def A_X5_setLevel_r (M : MS) (st : Nat) (x : Int32) : Int32 := (if 0 ≤ x then (if x.toInt64 ≤ ((M.2.1 0) 0) then o_putsR (o_setI M 2 0) st 1 else 0) else (if x.toInt64 ≤ ((M.2.1 0) 0) then 0 else 0))
def A_X5_setLevel_s0 (M : MS) (st : Nat) (x : Int32) : MS := (if 0 ≤ x then (if x.toInt64 ≤ ((M.2.1 0) 0) then (o_puts (o_setI M 2 0) st 1 x) else o_setI M 2 2) else (if x.toInt64 ≤ ((M.2.1 0) 0) then o_setI M 2 1 else o_setI M 2 1))
set_option maxHeartbeats 1000000 in
set_option maxRecDepth 100000 in
theorem c_X5_setLevel (l : Launch) (D : va_G) (q : Nat → Nat) (cI cJ : ClassId) (M : MS) (x : Int32) (st : Nat) (hst : M.1 0 = nI st) (hst4 : st ≤ 4) : kI l yX5_setLevel wsX5_setLevel ({ frames := 2, cells := 0, slots := 0, locals := 44 } : Room) D [(cI, .int), (cJ, .long)] [.ref (q 0), .int x] (moW q cI cJ M) (A_X5_setLevel_r M st x) (moW q cI cJ (A_X5_setLevel_s0 M st x)) := by
  refine kBody.met (cc := cX5_setLevel) (maxL := 2) (ret := (some .int)) (by decide) rfl (Nat.le_of_ble_eq_true rfl) ?_
  intro p9 e9 s9 m9 below meth c9 A9 ls hx hb hr hml hts hown hlk hK hP hD hA hl
  have hown : s9.vm.findClass RX5 = some m9.cls := hown
  have inX5 : ∀ w ∈ wsX50, w ∈ wsX5_setLevel := fun w h => List.mem_cons_of_mem _ (List.mem_append_right _ (h))
  have hS : va_S A9 s9.heap s9.heap [] := va_S.rf
  have hl : lv_has ls 2 [(0, .ref (q 0)), (1, .int x)] := hl
  refine lv_aload_n hx hb dX5_setLevel_0 rfl (lv_at hl 0 rfl) ?_
  refine lv_iload_n hx hb dX5_setLevel_1 rfl (lv_at hl 1 rfl) ?_
  refine lv_if_ge (tgt := 9) hx hb dX5_setLevel_2 (by decide) (fun c_2_0 => ?_) (fun c_2_0 => ?_)
  · have c_2_0 : 0 ≤ x := c_2_0
    refine lv_iconst (v := 0) hx hb dX5_setLevel_9 (by decide) ?_
    refine lv_iload_n hx hb dX5_setLevel_10 rfl (lv_at hl 1 rfl) ?_
    refine lv_i2l hx hb dX5_setLevel_11 rfl ?_
    refine lv_aload_n hx hb dX5_setLevel_12 rfl (lv_at hl 0 rfl) ?_
    refine va_get (D := D) (ci := 5) (v := .ref (q 1)) (C := RX5) (T := TX5) (N := 14) hx hb hts inX5 hown hK hP 0 rfl rfl 0 (by decide) (hts (.fieldLink RX5 7 "PumpOathsModel" "now" "[J") (List.mem_of_getElem? (i := 1) rfl)) (fun _ h9 => h9) rfl dX5_setLevel_13 ?_
    refine lv_iconst (v := 0) hx hb dX5_setLevel_16 (by decide) ?_
    refine va_lald (f := M.2.1 0) hx hb hK hP 1 1 rfl rfl (k_in (k := 0) rfl (by decide) (by decide)) dX5_setLevel_17 ?_
    rw [show (0 : Int32).toNatClampNeg = 0 from rfl]
    refine W.lcmp hx hb dX5_setLevel_18 ?_
    refine lv_if_le (tgt := 26) hx hb dX5_setLevel_19 (by decide) (fun c_19_1 => ?_) (fun c_19_1 => ?_)
    · have c_19_1 : x.toInt64 ≤ ((M.2.1 0) 0) := (lg_cmp_le x.toInt64 ((M.2.1 0) 0)).mp c_19_1
      refine lv_iconst (v := 0) hx hb dX5_setLevel_26 (by decide) ?_
      refine k_calli (a := []) (z := []) (wc := moW q cI cJ M) (wc' := moW q cI cJ (o_setI M 2 0)) (w' := moW q cI cJ (o_setI M 2 0)) (va_runV (As := [.int 0, .int 0]) (rest := []) ⟨hx, hb, hml, hown, hts⟩ (c_X5_goes00 l D q cI cJ M _) (cwV 2 hts gX5_setLevel_X5_goes rfl rfl rfl (by decide +kernel) ⟨Nat.le_of_ble_eq_true rfl, Nat.le_of_ble_eq_true rfl⟩) ⟨kB_blind, va_recv hK hP (ci := 5) (q0 := 0) rfl rfl, k_pre (a := []) (z := []) (k_w0 _) hK hP hD⟩ rfl rfl hl.1 rfl (lv_room (Nat.le_of_ble_eq_true rfl)) dX5_setLevel_27 ⟨Nat.zero_le _, Nat.zero_le _⟩) (k_w0 _) (k_w0 _) (moW_ad _ _ _ _ _) hP hD hS hA (fun H locs hP hD hS => ?_)
      refine lv_if_eq (tgt := 42) hx hb dX5_setLevel_30 (by decide) (fun h => absurd h (by decide)) (fun _ => ?_)
      refine lv_aload_n hx hb dX5_setLevel_33 rfl (lv_at hl 0 rfl) ?_
      refine lv_iconst (v := 1) hx hb dX5_setLevel_34 (by decide) ?_
      refine lv_iload_n hx hb dX5_setLevel_35 rfl (lv_at hl 1 rfl) ?_
      refine k_calli (a := []) (z := []) (wc := moW q cI cJ (o_setI M 2 0)) (wc' := moW q cI cJ (o_puts (o_setI M 2 0) st 1 x)) (w' := moW q cI cJ (o_puts (o_setI M 2 0) st 1 x)) (va_runV (As := [.int 1, .int x]) (rest := []) ⟨hx, hb, hml, hown, hts⟩ (c_X5_puts l D q cI cJ (o_setI M 2 0) 1 x (by decide) st hst hst4 _) (cwV 2 hts gX5_setLevel_X5_puts rfl rfl rfl (by decide +kernel) ⟨Nat.le_of_ble_eq_true rfl, Nat.le_of_ble_eq_true rfl⟩) ⟨kB_blind, va_recv hK hP (ci := 5) (q0 := 0) rfl rfl, k_pre (a := []) (z := []) (k_w0 _) hK hP hD⟩ rfl rfl hl.1 rfl (lv_room (Nat.le_of_ble_eq_true rfl)) dX5_setLevel_36 ⟨Nat.zero_le _, Nat.zero_le _⟩) (k_w0 _) (k_w0 _) (moW_ad _ _ _ _ _) hP hD hS hA (fun H locs hP hD hS => ?_)
      obtain ⟨T_4, hT_4⟩ : ∃ T9, T9 = o_puts (o_setI M 2 0) st 1 x := ⟨_, rfl⟩
      rw [← hT_4] at hP hD
      refine lv_goto (tgt := 43) hx hb dX5_setLevel_39 (by decide) ?_
      exact k_iret hx hb hr hlk hP hS dX5_setLevel_43 rfl (by rw [A_X5_setLevel_r, if_pos c_2_0, if_pos c_19_1]) (k_P (congrArg (fun T9 => moW q cI cJ T9) (show T_4 = (A_X5_setLevel_s0 M st x) from by rw [hT_4, A_X5_setLevel_s0, if_pos c_2_0, if_pos c_19_1])))
    · have c_19_1 : ¬ x.toInt64 ≤ ((M.2.1 0) 0) := mt (lg_cmp_le x.toInt64 ((M.2.1 0) 0)).mpr c_19_1
      refine lv_iconst (v := 1) hx hb dX5_setLevel_22 (by decide) ?_
      refine lv_goto (tgt := 27) hx hb dX5_setLevel_23 (by decide) ?_
      refine k_calli (a := []) (z := []) (wc := moW q cI cJ M) (wc' := moW q cI cJ (o_setI M 2 2)) (w' := moW q cI cJ (o_setI M 2 2)) (va_runV (As := [.int 0, .int 1]) (rest := []) ⟨hx, hb, hml, hown, hts⟩ (c_X5_goes01 l D q cI cJ M _) (cwV 2 hts gX5_setLevel_X5_goes rfl rfl rfl (by decide +kernel) ⟨Nat.le_of_ble_eq_true rfl, Nat.le_of_ble_eq_true rfl⟩) ⟨kB_blind, va_recv hK hP (ci := 5) (q0 := 0) rfl rfl, k_pre (a := []) (z := []) (k_w0 _) hK hP hD⟩ rfl rfl hl.1 rfl (lv_room (Nat.le_of_ble_eq_true rfl)) dX5_setLevel_27 ⟨Nat.zero_le _, Nat.zero_le _⟩) (k_w0 _) (k_w0 _) (moW_ad _ _ _ _ _) hP hD hS hA (fun H locs hP hD hS => ?_)
      refine lv_if_eq (tgt := 42) hx hb dX5_setLevel_30 (by decide) (fun _ => ?_) (fun h => absurd h (by decide))
      refine lv_iconst (v := 0) hx hb dX5_setLevel_42 (by decide) ?_
      exact k_iret hx hb hr hlk hP hS dX5_setLevel_43 rfl (by rw [A_X5_setLevel_r, if_pos c_2_0, if_neg c_19_1]) (k_P (congrArg (fun T9 => moW q cI cJ T9) (show (o_setI M 2 2) = (A_X5_setLevel_s0 M st x) from by rw [A_X5_setLevel_s0, if_pos c_2_0, if_neg c_19_1])))
  · have c_2_0 : ¬ 0 ≤ x := c_2_0
    refine lv_iconst (v := 1) hx hb dX5_setLevel_5 (by decide) ?_
    refine lv_goto (tgt := 10) hx hb dX5_setLevel_6 (by decide) ?_
    refine lv_iload_n hx hb dX5_setLevel_10 rfl (lv_at hl 1 rfl) ?_
    refine lv_i2l hx hb dX5_setLevel_11 rfl ?_
    refine lv_aload_n hx hb dX5_setLevel_12 rfl (lv_at hl 0 rfl) ?_
    refine va_get (D := D) (ci := 5) (v := .ref (q 1)) (C := RX5) (T := TX5) (N := 14) hx hb hts inX5 hown hK hP 0 rfl rfl 0 (by decide) (hts (.fieldLink RX5 7 "PumpOathsModel" "now" "[J") (List.mem_of_getElem? (i := 1) rfl)) (fun _ h9 => h9) rfl dX5_setLevel_13 ?_
    refine lv_iconst (v := 0) hx hb dX5_setLevel_16 (by decide) ?_
    refine va_lald (f := M.2.1 0) hx hb hK hP 1 1 rfl rfl (k_in (k := 0) rfl (by decide) (by decide)) dX5_setLevel_17 ?_
    rw [show (0 : Int32).toNatClampNeg = 0 from rfl]
    refine W.lcmp hx hb dX5_setLevel_18 ?_
    refine lv_if_le (tgt := 26) hx hb dX5_setLevel_19 (by decide) (fun c_19_5 => ?_) (fun c_19_5 => ?_)
    · have c_19_5 : x.toInt64 ≤ ((M.2.1 0) 0) := (lg_cmp_le x.toInt64 ((M.2.1 0) 0)).mp c_19_5
      refine lv_iconst (v := 0) hx hb dX5_setLevel_26 (by decide) ?_
      refine k_calli (a := []) (z := []) (wc := moW q cI cJ M) (wc' := moW q cI cJ (o_setI M 2 1)) (w' := moW q cI cJ (o_setI M 2 1)) (va_runV (As := [.int 1, .int 0]) (rest := []) ⟨hx, hb, hml, hown, hts⟩ (c_X5_goes1 l D q cI cJ M 0 _) (cwV 2 hts gX5_setLevel_X5_goes rfl rfl rfl (by decide +kernel) ⟨Nat.le_of_ble_eq_true rfl, Nat.le_of_ble_eq_true rfl⟩) ⟨kB_blind, va_recv hK hP (ci := 5) (q0 := 0) rfl rfl, k_pre (a := []) (z := []) (k_w0 _) hK hP hD⟩ rfl rfl hl.1 rfl (lv_room (Nat.le_of_ble_eq_true rfl)) dX5_setLevel_27 ⟨Nat.zero_le _, Nat.zero_le _⟩) (k_w0 _) (k_w0 _) (moW_ad _ _ _ _ _) hP hD hS hA (fun H locs hP hD hS => ?_)
      refine lv_if_eq (tgt := 42) hx hb dX5_setLevel_30 (by decide) (fun _ => ?_) (fun h => absurd h (by decide))
      refine lv_iconst (v := 0) hx hb dX5_setLevel_42 (by decide) ?_
      exact k_iret hx hb hr hlk hP hS dX5_setLevel_43 rfl (by rw [A_X5_setLevel_r, if_neg c_2_0, if_pos c_19_5]) (k_P (congrArg (fun T9 => moW q cI cJ T9) (show (o_setI M 2 1) = (A_X5_setLevel_s0 M st x) from by rw [A_X5_setLevel_s0, if_neg c_2_0, if_pos c_19_5])))
    · have c_19_5 : ¬ x.toInt64 ≤ ((M.2.1 0) 0) := mt (lg_cmp_le x.toInt64 ((M.2.1 0) 0)).mpr c_19_5
      refine lv_iconst (v := 1) hx hb dX5_setLevel_22 (by decide) ?_
      refine lv_goto (tgt := 27) hx hb dX5_setLevel_23 (by decide) ?_
      refine k_calli (a := []) (z := []) (wc := moW q cI cJ M) (wc' := moW q cI cJ (o_setI M 2 1)) (w' := moW q cI cJ (o_setI M 2 1)) (va_runV (As := [.int 1, .int 1]) (rest := []) ⟨hx, hb, hml, hown, hts⟩ (c_X5_goes1 l D q cI cJ M 1 _) (cwV 2 hts gX5_setLevel_X5_goes rfl rfl rfl (by decide +kernel) ⟨Nat.le_of_ble_eq_true rfl, Nat.le_of_ble_eq_true rfl⟩) ⟨kB_blind, va_recv hK hP (ci := 5) (q0 := 0) rfl rfl, k_pre (a := []) (z := []) (k_w0 _) hK hP hD⟩ rfl rfl hl.1 rfl (lv_room (Nat.le_of_ble_eq_true rfl)) dX5_setLevel_27 ⟨Nat.zero_le _, Nat.zero_le _⟩) (k_w0 _) (k_w0 _) (moW_ad _ _ _ _ _) hP hD hS hA (fun H locs hP hD hS => ?_)
      refine lv_if_eq (tgt := 42) hx hb dX5_setLevel_30 (by decide) (fun _ => ?_) (fun h => absurd h (by decide))
      refine lv_iconst (v := 0) hx hb dX5_setLevel_42 (by decide) ?_
      exact k_iret hx hb hr hlk hP hS dX5_setLevel_43 rfl (by rw [A_X5_setLevel_r, if_neg c_2_0, if_neg c_19_5]) (k_P (congrArg (fun T9 => moW q cI cJ T9) (show (o_setI M 2 1) = (A_X5_setLevel_s0 M st x) from by rw [A_X5_setLevel_s0, if_neg c_2_0, if_neg c_19_5])))
