def A_X5_addPump_r (M : MS) (st n : Nat) (x y : Int32) : Int32 := (if (m_in x.toInt64 1 500) = true then (if (m_in y.toInt64 1 12) = true then (if ((M.2.1 0) 7) = 6 then 0 else nI n) else (if ((M.2.1 0) 7) = 6 then 0 else 0)) else (if ((M.2.1 0) 7) = 6 then 0 else 0))
def A_X5_addPump_s0 (M : MS) (st n : Nat) (x y : Int32) : MS := (if (m_in x.toInt64 1 500) = true then (if (m_in y.toInt64 1 12) = true then (if ((M.2.1 0) 7) = 6 then o_setI M 2 2 else o_setV (o_puts (o_setI M 2 0) st 7 ((((M.2.1 0) 7).toInt32) + 1)) 0 (vp_updL (vp_updL (vp_updL ((o_puts (o_setI M 2 0) st 7 ((((M.2.1 0) 7).toInt32) + 1)).2.1 0) (48 + 8 * n + 0) x.toInt64) (48 + 8 * n + 1) y.toInt64) (96 + n) ((nI n).toInt64))) else (if ((M.2.1 0) 7) = 6 then o_setI M 2 1 else o_setI M 2 1)) else (if ((M.2.1 0) 7) = 6 then o_setI M 2 1 else o_setI M 2 1))
set_option maxHeartbeats 1000000 in
set_option maxRecDepth 100000 in
theorem c_X5_addPump (l : Launch) (D : va_G) (q : Nat → Nat) (cI cJ : ClassId) (M : MS) (x y : Int32) (st : Nat) (hst : M.1 0 = nI st) (hst4 : st ≤ 4) (n : Nat) (hn : M.2.1 0 7 = lN n) (hn6 : n ≤ 6) : kI l yX5_addPump wsX5_addPump ({ frames := 2, cells := 0, slots := 0, locals := 44 } : Room) D [(cI, .int), (cJ, .long)] [.ref (q 0), .int x, .int y] (moW q cI cJ M) (A_X5_addPump_r M st n x y) (moW q cI cJ (A_X5_addPump_s0 M st n x y)) := by
  refine kBody.met (cc := cX5_addPump) (maxL := 4) (ret := (some .int)) (by decide) rfl (Nat.le_of_ble_eq_true rfl) ?_
  intro p9 e9 s9 m9 below meth c9 A9 ls hx hb hr hml hts hown hlk hK hP hD hA hl
  have hown : s9.vm.findClass RX5 = some m9.cls := hown
  have inX5 : ∀ w ∈ wsX50, w ∈ wsX5_addPump := fun w h => List.mem_cons_of_mem _ (List.mem_append_right _ (h))
  have hS : va_S A9 s9.heap s9.heap [] := va_S.rf
  have hl : lv_has ls 4 [(0, .ref (q 0)), (1, .int x), (2, .int y)] := hl
  refine lv_aload_n hx hb dX5_addPump_0 rfl (lv_at hl 0 rfl) ?_
  refine lv_iload_n hx hb dX5_addPump_1 rfl (lv_at hl 1 rfl) ?_
  refine lv_i2l hx hb dX5_addPump_2 rfl ?_
  refine lv_lconst (v := 1) hx hb dX5_addPump_3 (by decide) ?_
  refine lv_ldc2 (v := 500) hx hb hown (hts (.constantLong RX5 40 (500)) (List.mem_of_getElem? (i := 1) rfl)) dX5_addPump_4 ?_
  refine k_calli (a := []) (z := moW q cI cJ M) (wc := []) (wc' := []) (w' := moW q cI cJ M) (va_runS (As := [.long x.toInt64, .long 1, .long 500]) (rest := [.ref (q 0)]) ⟨hx, hb, hml, hown, hts⟩ (c_X5_in l D cI cJ x.toInt64 1 500 _) (cwS 3 hts gX5_addPump_X5_in rfl rfl rfl (by decide +kernel) ⟨Nat.le_of_ble_eq_true rfl, Nat.le_of_ble_eq_true rfl⟩) ⟨kB_blind, k_pre (a := []) (z := moW q cI cJ M) rfl hK hP hD⟩ rfl rfl hl.1 rfl (lv_room (Nat.le_of_ble_eq_true rfl)) dX5_addPump_7 ⟨Nat.zero_le _, Nat.zero_le _⟩) rfl rfl rfl hP hD hS hA (fun H locs hP hD hS => ?_)
  refine lv_if_eq (tgt := 25) hx hb dX5_addPump_10 (by decide) (fun c_10_0 => ?_) (fun c_10_0 => ?_)
  · have c_10_0 : (m_in x.toInt64 1 500) = false := bi_0.mp c_10_0
    refine lv_iconst (v := 1) hx hb dX5_addPump_25 (by decide) ?_
    refine lv_goto (tgt := 30) hx hb dX5_addPump_26 (by decide) ?_
    refine lv_aload_n hx hb dX5_addPump_30 rfl (lv_at hl 0 rfl) ?_
    refine va_get (D := D) (ci := 5) (v := .ref (q 1)) (C := RX5) (T := TX5) (N := 14) hx hb hts inX5 hown hK hP 0 rfl rfl 0 (by decide) (hts (.fieldLink RX5 7 "PumpOathsModel" "now" "[J") (List.mem_of_getElem? (i := 3) rfl)) (fun _ h9 => h9) rfl dX5_addPump_31 ?_
    refine lv_bipush (v := 7) hx hb dX5_addPump_34 (by decide) ?_
    refine va_lald (f := M.2.1 0) hx hb hK hP 1 1 rfl rfl (k_in (k := 7) rfl (by decide) (by decide)) dX5_addPump_36 ?_
    rw [show (7 : Int32).toNatClampNeg = 7 from rfl]
    refine lv_ldc2 (v := 6) hx hb hown (hts (.constantLong RX5 80 (6)) (List.mem_of_getElem? (i := 4) rfl)) dX5_addPump_37 ?_
    refine W.lcmp hx hb dX5_addPump_40 ?_
    refine lv_if_ne (tgt := 48) hx hb dX5_addPump_41 (by decide) (fun c_41_1 => ?_) (fun c_41_1 => ?_)
    · have c_41_1 : ¬ ((M.2.1 0) 7) = 6 := mt (lg_cmp_eq ((M.2.1 0) 7) 6).mpr c_41_1
      have hn5 : n < 6 := m_ne6 c_41_1 hn hn6
      refine lv_iconst (v := 0) hx hb dX5_addPump_48 (by decide) ?_
      refine k_calli (a := []) (z := []) (wc := moW q cI cJ M) (wc' := moW q cI cJ (o_setI M 2 1)) (w' := moW q cI cJ (o_setI M 2 1)) (va_runV (As := [.int 1, .int 0]) (rest := []) ⟨hx, hb, hml, hown, hts⟩ (c_X5_goes1 l D q cI cJ M 0 _) (cwV 2 hts gX5_addPump_X5_goes rfl rfl rfl (by decide +kernel) ⟨Nat.le_of_ble_eq_true rfl, Nat.le_of_ble_eq_true rfl⟩) ⟨kB_blind, va_recv hK hP (ci := 5) (q0 := 0) rfl rfl, k_pre (a := []) (z := []) (k_w0 _) hK hP hD⟩ rfl rfl hl.1 rfl (lv_room (Nat.le_of_ble_eq_true rfl)) dX5_addPump_49 ⟨Nat.zero_le _, Nat.zero_le _⟩) (k_w0 _) (k_w0 _) (moW_ad _ _ _ _ _) hP hD hS hA (fun H locs hP hD hS => ?_)
      refine lv_if_ne (tgt := 57) hx hb dX5_addPump_52 (by decide) (fun h => absurd h (by decide)) (fun _ => ?_)
      refine lv_iconst (v := 0) hx hb dX5_addPump_55 (by decide) ?_
      exact k_iret hx hb hr hlk hP hS dX5_addPump_56 rfl (by rw [A_X5_addPump_r, if_neg (bi_nt c_10_0), if_neg c_41_1]) (k_P (congrArg (fun T9 => moW q cI cJ T9) (show (o_setI M 2 1) = (A_X5_addPump_s0 M st n x y) from by rw [A_X5_addPump_s0, if_neg (bi_nt c_10_0), if_neg c_41_1])))
    · have c_41_1 : ((M.2.1 0) 7) = 6 := (lg_cmp_eq ((M.2.1 0) 7) 6).mp c_41_1
      refine lv_iconst (v := 1) hx hb dX5_addPump_44 (by decide) ?_
      refine lv_goto (tgt := 49) hx hb dX5_addPump_45 (by decide) ?_
      refine k_calli (a := []) (z := []) (wc := moW q cI cJ M) (wc' := moW q cI cJ (o_setI M 2 1)) (w' := moW q cI cJ (o_setI M 2 1)) (va_runV (As := [.int 1, .int 1]) (rest := []) ⟨hx, hb, hml, hown, hts⟩ (c_X5_goes1 l D q cI cJ M 1 _) (cwV 2 hts gX5_addPump_X5_goes rfl rfl rfl (by decide +kernel) ⟨Nat.le_of_ble_eq_true rfl, Nat.le_of_ble_eq_true rfl⟩) ⟨kB_blind, va_recv hK hP (ci := 5) (q0 := 0) rfl rfl, k_pre (a := []) (z := []) (k_w0 _) hK hP hD⟩ rfl rfl hl.1 rfl (lv_room (Nat.le_of_ble_eq_true rfl)) dX5_addPump_49 ⟨Nat.zero_le _, Nat.zero_le _⟩) (k_w0 _) (k_w0 _) (moW_ad _ _ _ _ _) hP hD hS hA (fun H locs hP hD hS => ?_)
      refine lv_if_ne (tgt := 57) hx hb dX5_addPump_52 (by decide) (fun h => absurd h (by decide)) (fun _ => ?_)
      refine lv_iconst (v := 0) hx hb dX5_addPump_55 (by decide) ?_
      exact k_iret hx hb hr hlk hP hS dX5_addPump_56 rfl (by rw [A_X5_addPump_r, if_neg (bi_nt c_10_0), if_pos c_41_1]) (k_P (congrArg (fun T9 => moW q cI cJ T9) (show (o_setI M 2 1) = (A_X5_addPump_s0 M st n x y) from by rw [A_X5_addPump_s0, if_neg (bi_nt c_10_0), if_pos c_41_1])))
  · have c_10_0 : (m_in x.toInt64 1 500) = true := bi_n.mp c_10_0
    refine lv_iload_n hx hb dX5_addPump_13 rfl (lv_at hl 2 rfl) ?_
    refine lv_i2l hx hb dX5_addPump_14 rfl ?_
    refine lv_lconst (v := 1) hx hb dX5_addPump_15 (by decide) ?_
    refine lv_ldc2 (v := 12) hx hb hown (hts (.constantLong RX5 78 (12)) (List.mem_of_getElem? (i := 2) rfl)) dX5_addPump_16 ?_
    refine k_calli (a := []) (z := moW q cI cJ M) (wc := []) (wc' := []) (w' := moW q cI cJ M) (va_runS (As := [.long y.toInt64, .long 1, .long 12]) (rest := [.ref (q 0)]) ⟨hx, hb, hml, hown, hts⟩ (c_X5_in l D cI cJ y.toInt64 1 12 _) (cwS 3 hts gX5_addPump_X5_in rfl rfl rfl (by decide +kernel) ⟨Nat.le_of_ble_eq_true rfl, Nat.le_of_ble_eq_true rfl⟩) ⟨kB_blind, k_pre (a := []) (z := moW q cI cJ M) rfl hK hP hD⟩ rfl rfl hl.1 rfl (lv_room (Nat.le_of_ble_eq_true rfl)) dX5_addPump_19 ⟨Nat.zero_le _, Nat.zero_le _⟩) rfl rfl rfl hP hD hS hA (fun H locs hP hD hS => ?_)
    refine lv_if_ne (tgt := 29) hx hb dX5_addPump_22 (by decide) (fun c_22_4 => ?_) (fun c_22_4 => ?_)
    · have c_22_4 : (m_in y.toInt64 1 12) = true := bi_n.mp c_22_4
      refine lv_iconst (v := 0) hx hb dX5_addPump_29 (by decide) ?_
      refine lv_aload_n hx hb dX5_addPump_30 rfl (lv_at hl 0 rfl) ?_
      refine va_get (D := D) (ci := 5) (v := .ref (q 1)) (C := RX5) (T := TX5) (N := 14) hx hb hts inX5 hown hK hP 0 rfl rfl 0 (by decide) (hts (.fieldLink RX5 7 "PumpOathsModel" "now" "[J") (List.mem_of_getElem? (i := 3) rfl)) (fun _ h9 => h9) rfl dX5_addPump_31 ?_
      refine lv_bipush (v := 7) hx hb dX5_addPump_34 (by decide) ?_
      refine va_lald (f := M.2.1 0) hx hb hK hP 1 1 rfl rfl (k_in (k := 7) rfl (by decide) (by decide)) dX5_addPump_36 ?_
      rw [show (7 : Int32).toNatClampNeg = 7 from rfl]
      refine lv_ldc2 (v := 6) hx hb hown (hts (.constantLong RX5 80 (6)) (List.mem_of_getElem? (i := 4) rfl)) dX5_addPump_37 ?_
      refine W.lcmp hx hb dX5_addPump_40 ?_
      refine lv_if_ne (tgt := 48) hx hb dX5_addPump_41 (by decide) (fun c_41_5 => ?_) (fun c_41_5 => ?_)
      · have c_41_5 : ¬ ((M.2.1 0) 7) = 6 := mt (lg_cmp_eq ((M.2.1 0) 7) 6).mpr c_41_5
        have hn5 : n < 6 := m_ne6 c_41_5 hn hn6
        refine lv_iconst (v := 0) hx hb dX5_addPump_48 (by decide) ?_
        refine k_calli (a := []) (z := []) (wc := moW q cI cJ M) (wc' := moW q cI cJ (o_setI M 2 0)) (w' := moW q cI cJ (o_setI M 2 0)) (va_runV (As := [.int 0, .int 0]) (rest := []) ⟨hx, hb, hml, hown, hts⟩ (c_X5_goes00 l D q cI cJ M _) (cwV 2 hts gX5_addPump_X5_goes rfl rfl rfl (by decide +kernel) ⟨Nat.le_of_ble_eq_true rfl, Nat.le_of_ble_eq_true rfl⟩) ⟨kB_blind, va_recv hK hP (ci := 5) (q0 := 0) rfl rfl, k_pre (a := []) (z := []) (k_w0 _) hK hP hD⟩ rfl rfl hl.1 rfl (lv_room (Nat.le_of_ble_eq_true rfl)) dX5_addPump_49 ⟨Nat.zero_le _, Nat.zero_le _⟩) (k_w0 _) (k_w0 _) (moW_ad _ _ _ _ _) hP hD hS hA (fun H locs hP hD hS => ?_)
        refine lv_if_ne (tgt := 57) hx hb dX5_addPump_52 (by decide) (fun _ => ?_) (fun h => absurd h (by decide))
        refine lv_aload_n hx hb dX5_addPump_57 rfl (lv_at hl 0 rfl) ?_
        refine lv_bipush (v := 7) hx hb dX5_addPump_58 (by decide) ?_
        refine lv_aload_n hx hb dX5_addPump_60 rfl (lv_at hl 0 rfl) ?_
        refine va_get (D := D) (ci := 5) (v := .ref (q 1)) (C := RX5) (T := TX5) (N := 14) hx hb hts inX5 hown hK hP 0 rfl rfl 0 (by decide) (hts (.fieldLink RX5 7 "PumpOathsModel" "now" "[J") (List.mem_of_getElem? (i := 3) rfl)) (fun _ h9 => h9) rfl dX5_addPump_61 ?_
        refine lv_bipush (v := 7) hx hb dX5_addPump_64 (by decide) ?_
        refine va_lald (f := M.2.1 0) hx hb hK hP 1 1 rfl rfl (k_in (k := 7) rfl (by decide) (by decide)) dX5_addPump_66 ?_
        rw [show (7 : Int32).toNatClampNeg = 7 from rfl]
        refine lv_l2i hx hb dX5_addPump_67 rfl ?_
        refine lv_iconst (v := 1) hx hb dX5_addPump_68 (by decide) ?_
        refine lv_iadd hx hb dX5_addPump_69 ?_
        refine k_calli (a := []) (z := []) (wc := moW q cI cJ (o_setI M 2 0)) (wc' := moW q cI cJ (o_puts (o_setI M 2 0) st 7 ((((M.2.1 0) 7).toInt32) + 1))) (w' := moW q cI cJ (o_puts (o_setI M 2 0) st 7 ((((M.2.1 0) 7).toInt32) + 1))) (va_runV (As := [.int 7, .int ((((M.2.1 0) 7).toInt32) + 1)]) (rest := []) ⟨hx, hb, hml, hown, hts⟩ (c_X5_puts l D q cI cJ (o_setI M 2 0) 7 ((((M.2.1 0) 7).toInt32) + 1) (by decide) st hst hst4 _) (cwV 2 hts gX5_addPump_X5_puts rfl rfl rfl (by decide +kernel) ⟨Nat.le_of_ble_eq_true rfl, Nat.le_of_ble_eq_true rfl⟩) ⟨kB_blind, va_recv hK hP (ci := 5) (q0 := 0) rfl rfl, k_pre (a := []) (z := []) (k_w0 _) hK hP hD⟩ rfl rfl hl.1 rfl (lv_room (Nat.le_of_ble_eq_true rfl)) dX5_addPump_70 ⟨Nat.zero_le _, Nat.zero_le _⟩) (k_w0 _) (k_w0 _) (moW_ad _ _ _ _ _) hP hD hS hA (fun H locs hP hD hS => ?_)
        obtain ⟨T_8, hT_8⟩ : ∃ T9, T9 = o_puts (o_setI M 2 0) st 7 ((((M.2.1 0) 7).toInt32) + 1) := ⟨_, rfl⟩
        rw [← hT_8] at hP hD
        rw [show o_putsR (o_setI M 2 0) st 7 = nI n from (by rw [o_putsR, o_save_V _ _ _ (by decide), show (o_setI M 2 0).2.1 0 7 = lN n from hn, lN_i])]
        refine lv_istore_n (lv' := [(3, .int (nI n)), (0, .ref (q 0)), (1, .int x), (2, .int y)]) hx hb dX5_addPump_73 rfl hl (by decide) rfl (fun ls hl => ?_)
        refine lv_aload_n hx hb dX5_addPump_74 rfl (lv_at hl 1 rfl) ?_
        refine va_get (D := D) (ci := 5) (v := .ref (q 1)) (C := RX5) (T := TX5) (N := 14) hx hb hts inX5 hown hK hP 0 rfl rfl 0 (by decide) (hts (.fieldLink RX5 7 "PumpOathsModel" "now" "[J") (List.mem_of_getElem? (i := 3) rfl)) (fun _ h9 => h9) rfl dX5_addPump_75 ?_
        refine lv_iload_n hx hb dX5_addPump_78 rfl (lv_at hl 0 rfl) ?_
        refine lv_iconst (v := 0) hx hb dX5_addPump_79 (by decide) ?_
        refine k_calli (a := []) (z := moW q cI cJ T_8) (wc := []) (wc' := []) (w' := moW q cI cJ T_8) (va_runS (As := [.int (nI n), .int 0]) (rest := [.ref (q 1)]) ⟨hx, hb, hml, hown, hts⟩ (c_X5_p l D cI cJ (nI n) 0 _) (cwS 2 hts gX5_addPump_X5_p rfl rfl rfl (by decide +kernel) ⟨Nat.le_of_ble_eq_true rfl, Nat.le_of_ble_eq_true rfl⟩) ⟨kB_blind, k_pre (a := []) (z := moW q cI cJ T_8) rfl hK hP hD⟩ rfl rfl hl.1 rfl (lv_room (Nat.le_of_ble_eq_true rfl)) dX5_addPump_80 ⟨Nat.zero_le _, Nat.zero_le _⟩) rfl rfl rfl hP hD hS hA (fun H locs hP hD hS => ?_)
        rw [show 48 + 8 * (nI n) + 0 = nI (48 + 8 * n + 0) from k_p n 0]
        refine lv_iload_n hx hb dX5_addPump_83 rfl (lv_at hl 2 rfl) ?_
        refine lv_i2l hx hb dX5_addPump_84 rfl ?_
        refine va_last (f := T_8.2.1 0) hx hb hK hP hD hS 1 1 rfl rfl (k_in (k := 48 + 8 * n + 0) rfl (by omega) (by decide)) dX5_addPump_85 (fun H locs hP hD hS => ?_)
        rw [show (nI (48 + 8 * n + 0) : Int32).toNatClampNeg = 48 + 8 * n + 0 from nI_clamp (by omega)] at hP hD
        have hP : va_P D vwCl (moW q cI cJ (o_setV T_8 0 (vp_updL (T_8.2.1 0) (48 + 8 * n + 0) x.toInt64))) H := hP
        have hD : va_D A9 (moW q cI cJ (o_setV T_8 0 (vp_updL (T_8.2.1 0) (48 + 8 * n + 0) x.toInt64))) := hD
        obtain ⟨T_9, hT_9⟩ : ∃ T9, T9 = vp_updL (T_8.2.1 0) (48 + 8 * n + 0) x.toInt64 := ⟨_, rfl⟩
        rw [← hT_9] at hP hD
        refine lv_aload_n hx hb dX5_addPump_86 rfl (lv_at hl 1 rfl) ?_
        refine va_get (D := D) (ci := 5) (v := .ref (q 1)) (C := RX5) (T := TX5) (N := 14) hx hb hts inX5 hown hK hP 0 rfl rfl 0 (by decide) (hts (.fieldLink RX5 7 "PumpOathsModel" "now" "[J") (List.mem_of_getElem? (i := 3) rfl)) (fun _ h9 => h9) rfl dX5_addPump_87 ?_
        refine lv_iload_n hx hb dX5_addPump_90 rfl (lv_at hl 0 rfl) ?_
        refine lv_iconst (v := 1) hx hb dX5_addPump_91 (by decide) ?_
        refine k_calli (a := []) (z := moW q cI cJ (o_setV T_8 0 T_9)) (wc := []) (wc' := []) (w' := moW q cI cJ (o_setV T_8 0 T_9)) (va_runS (As := [.int (nI n), .int 1]) (rest := [.ref (q 1)]) ⟨hx, hb, hml, hown, hts⟩ (c_X5_p l D cI cJ (nI n) 1 _) (cwS 2 hts gX5_addPump_X5_p rfl rfl rfl (by decide +kernel) ⟨Nat.le_of_ble_eq_true rfl, Nat.le_of_ble_eq_true rfl⟩) ⟨kB_blind, k_pre (a := []) (z := moW q cI cJ (o_setV T_8 0 T_9)) rfl hK hP hD⟩ rfl rfl hl.1 rfl (lv_room (Nat.le_of_ble_eq_true rfl)) dX5_addPump_92 ⟨Nat.zero_le _, Nat.zero_le _⟩) rfl rfl rfl hP hD hS hA (fun H locs hP hD hS => ?_)
        rw [show 48 + 8 * (nI n) + 1 = nI (48 + 8 * n + 1) from k_p n 1]
        refine lv_iload_n hx hb dX5_addPump_95 rfl (lv_at hl 3 rfl) ?_
        refine lv_i2l hx hb dX5_addPump_96 rfl ?_
        refine va_last (f := T_9) hx hb hK hP hD hS 1 1 rfl rfl (k_in (k := 48 + 8 * n + 1) rfl (by omega) (by decide)) dX5_addPump_97 (fun H locs hP hD hS => ?_)
        rw [show (nI (48 + 8 * n + 1) : Int32).toNatClampNeg = 48 + 8 * n + 1 from nI_clamp (by omega)] at hP hD
        have hP : va_P D vwCl (moW q cI cJ (o_setV T_8 0 (vp_updL T_9 (48 + 8 * n + 1) y.toInt64))) H := hP
        have hD : va_D A9 (moW q cI cJ (o_setV T_8 0 (vp_updL T_9 (48 + 8 * n + 1) y.toInt64))) := hD
        obtain ⟨T_10, hT_10⟩ : ∃ T9, T9 = vp_updL T_9 (48 + 8 * n + 1) y.toInt64 := ⟨_, rfl⟩
        rw [← hT_10] at hP hD
        refine lv_aload_n hx hb dX5_addPump_98 rfl (lv_at hl 1 rfl) ?_
        refine va_get (D := D) (ci := 5) (v := .ref (q 1)) (C := RX5) (T := TX5) (N := 14) hx hb hts inX5 hown hK hP 0 rfl rfl 0 (by decide) (hts (.fieldLink RX5 7 "PumpOathsModel" "now" "[J") (List.mem_of_getElem? (i := 3) rfl)) (fun _ h9 => h9) rfl dX5_addPump_99 ?_
        refine lv_bipush (v := 96) hx hb dX5_addPump_102 (by decide) ?_
        refine lv_iload_n hx hb dX5_addPump_104 rfl (lv_at hl 0 rfl) ?_
        refine lv_iadd hx hb dX5_addPump_105 ?_
        refine lv_iload_n hx hb dX5_addPump_106 rfl (lv_at hl 0 rfl) ?_
        refine lv_i2l hx hb dX5_addPump_107 rfl ?_
        refine va_last (f := T_10) hx hb hK hP hD hS 1 1 rfl rfl (k_in (k := 96 + n) (show 96 + nI n = nI (96 + n) from nI_add 96 n) (by omega) (by decide)) dX5_addPump_108 (fun H locs hP hD hS => ?_)
        rw [show (96 + (nI n) : Int32).toNatClampNeg = 96 + n from k_cl (show 96 + nI n = nI (96 + n) from nI_add 96 n) (by omega)] at hP hD
        have hP : va_P D vwCl (moW q cI cJ (o_setV T_8 0 (vp_updL T_10 (96 + n) ((nI n).toInt64)))) H := hP
        have hD : va_D A9 (moW q cI cJ (o_setV T_8 0 (vp_updL T_10 (96 + n) ((nI n).toInt64)))) := hD
        obtain ⟨T_11, hT_11⟩ : ∃ T9, T9 = vp_updL T_10 (96 + n) ((nI n).toInt64) := ⟨_, rfl⟩
        rw [← hT_11] at hP hD
        refine lv_iload_n hx hb dX5_addPump_109 rfl (lv_at hl 0 rfl) ?_
        exact k_iret hx hb hr hlk hP hS dX5_addPump_110 rfl (by rw [A_X5_addPump_r, if_pos c_10_0, if_pos c_22_4, if_neg c_41_5]) (k_P (congrArg (fun T9 => moW q cI cJ T9) (show (o_setV T_8 0 T_11) = (A_X5_addPump_s0 M st n x y) from by rw [hT_11, hT_10, hT_9, hT_8, A_X5_addPump_s0, if_pos c_10_0, if_pos c_22_4, if_neg c_41_5])))
      · have c_41_5 : ((M.2.1 0) 7) = 6 := (lg_cmp_eq ((M.2.1 0) 7) 6).mp c_41_5
        refine lv_iconst (v := 1) hx hb dX5_addPump_44 (by decide) ?_
        refine lv_goto (tgt := 49) hx hb dX5_addPump_45 (by decide) ?_
        refine k_calli (a := []) (z := []) (wc := moW q cI cJ M) (wc' := moW q cI cJ (o_setI M 2 2)) (w' := moW q cI cJ (o_setI M 2 2)) (va_runV (As := [.int 0, .int 1]) (rest := []) ⟨hx, hb, hml, hown, hts⟩ (c_X5_goes01 l D q cI cJ M _) (cwV 2 hts gX5_addPump_X5_goes rfl rfl rfl (by decide +kernel) ⟨Nat.le_of_ble_eq_true rfl, Nat.le_of_ble_eq_true rfl⟩) ⟨kB_blind, va_recv hK hP (ci := 5) (q0 := 0) rfl rfl, k_pre (a := []) (z := []) (k_w0 _) hK hP hD⟩ rfl rfl hl.1 rfl (lv_room (Nat.le_of_ble_eq_true rfl)) dX5_addPump_49 ⟨Nat.zero_le _, Nat.zero_le _⟩) (k_w0 _) (k_w0 _) (moW_ad _ _ _ _ _) hP hD hS hA (fun H locs hP hD hS => ?_)
        refine lv_if_ne (tgt := 57) hx hb dX5_addPump_52 (by decide) (fun h => absurd h (by decide)) (fun _ => ?_)
        refine lv_iconst (v := 0) hx hb dX5_addPump_55 (by decide) ?_
        exact k_iret hx hb hr hlk hP hS dX5_addPump_56 rfl (by rw [A_X5_addPump_r, if_pos c_10_0, if_pos c_22_4, if_pos c_41_5]) (k_P (congrArg (fun T9 => moW q cI cJ T9) (show (o_setI M 2 2) = (A_X5_addPump_s0 M st n x y) from by rw [A_X5_addPump_s0, if_pos c_10_0, if_pos c_22_4, if_pos c_41_5])))
    · have c_22_4 : (m_in y.toInt64 1 12) = false := bi_0.mp c_22_4
      refine lv_iconst (v := 1) hx hb dX5_addPump_25 (by decide) ?_
      refine lv_goto (tgt := 30) hx hb dX5_addPump_26 (by decide) ?_
      refine lv_aload_n hx hb dX5_addPump_30 rfl (lv_at hl 0 rfl) ?_
      refine va_get (D := D) (ci := 5) (v := .ref (q 1)) (C := RX5) (T := TX5) (N := 14) hx hb hts inX5 hown hK hP 0 rfl rfl 0 (by decide) (hts (.fieldLink RX5 7 "PumpOathsModel" "now" "[J") (List.mem_of_getElem? (i := 3) rfl)) (fun _ h9 => h9) rfl dX5_addPump_31 ?_
      refine lv_bipush (v := 7) hx hb dX5_addPump_34 (by decide) ?_
      refine va_lald (f := M.2.1 0) hx hb hK hP 1 1 rfl rfl (k_in (k := 7) rfl (by decide) (by decide)) dX5_addPump_36 ?_
      rw [show (7 : Int32).toNatClampNeg = 7 from rfl]
      refine lv_ldc2 (v := 6) hx hb hown (hts (.constantLong RX5 80 (6)) (List.mem_of_getElem? (i := 4) rfl)) dX5_addPump_37 ?_
      refine W.lcmp hx hb dX5_addPump_40 ?_
      refine lv_if_ne (tgt := 48) hx hb dX5_addPump_41 (by decide) (fun c_41_12 => ?_) (fun c_41_12 => ?_)
      · have c_41_12 : ¬ ((M.2.1 0) 7) = 6 := mt (lg_cmp_eq ((M.2.1 0) 7) 6).mpr c_41_12
        have hn5 : n < 6 := m_ne6 c_41_12 hn hn6
        refine lv_iconst (v := 0) hx hb dX5_addPump_48 (by decide) ?_
        refine k_calli (a := []) (z := []) (wc := moW q cI cJ M) (wc' := moW q cI cJ (o_setI M 2 1)) (w' := moW q cI cJ (o_setI M 2 1)) (va_runV (As := [.int 1, .int 0]) (rest := []) ⟨hx, hb, hml, hown, hts⟩ (c_X5_goes1 l D q cI cJ M 0 _) (cwV 2 hts gX5_addPump_X5_goes rfl rfl rfl (by decide +kernel) ⟨Nat.le_of_ble_eq_true rfl, Nat.le_of_ble_eq_true rfl⟩) ⟨kB_blind, va_recv hK hP (ci := 5) (q0 := 0) rfl rfl, k_pre (a := []) (z := []) (k_w0 _) hK hP hD⟩ rfl rfl hl.1 rfl (lv_room (Nat.le_of_ble_eq_true rfl)) dX5_addPump_49 ⟨Nat.zero_le _, Nat.zero_le _⟩) (k_w0 _) (k_w0 _) (moW_ad _ _ _ _ _) hP hD hS hA (fun H locs hP hD hS => ?_)
        refine lv_if_ne (tgt := 57) hx hb dX5_addPump_52 (by decide) (fun h => absurd h (by decide)) (fun _ => ?_)
        refine lv_iconst (v := 0) hx hb dX5_addPump_55 (by decide) ?_
        exact k_iret hx hb hr hlk hP hS dX5_addPump_56 rfl (by rw [A_X5_addPump_r, if_pos c_10_0, if_neg (bi_nt c_22_4), if_neg c_41_12]) (k_P (congrArg (fun T9 => moW q cI cJ T9) (show (o_setI M 2 1) = (A_X5_addPump_s0 M st n x y) from by rw [A_X5_addPump_s0, if_pos c_10_0, if_neg (bi_nt c_22_4), if_neg c_41_12])))
      · have c_41_12 : ((M.2.1 0) 7) = 6 := (lg_cmp_eq ((M.2.1 0) 7) 6).mp c_41_12
        refine lv_iconst (v := 1) hx hb dX5_addPump_44 (by decide) ?_
        refine lv_goto (tgt := 49) hx hb dX5_addPump_45 (by decide) ?_
        refine k_calli (a := []) (z := []) (wc := moW q cI cJ M) (wc' := moW q cI cJ (o_setI M 2 1)) (w' := moW q cI cJ (o_setI M 2 1)) (va_runV (As := [.int 1, .int 1]) (rest := []) ⟨hx, hb, hml, hown, hts⟩ (c_X5_goes1 l D q cI cJ M 1 _) (cwV 2 hts gX5_addPump_X5_goes rfl rfl rfl (by decide +kernel) ⟨Nat.le_of_ble_eq_true rfl, Nat.le_of_ble_eq_true rfl⟩) ⟨kB_blind, va_recv hK hP (ci := 5) (q0 := 0) rfl rfl, k_pre (a := []) (z := []) (k_w0 _) hK hP hD⟩ rfl rfl hl.1 rfl (lv_room (Nat.le_of_ble_eq_true rfl)) dX5_addPump_49 ⟨Nat.zero_le _, Nat.zero_le _⟩) (k_w0 _) (k_w0 _) (moW_ad _ _ _ _ _) hP hD hS hA (fun H locs hP hD hS => ?_)
        refine lv_if_ne (tgt := 57) hx hb dX5_addPump_52 (by decide) (fun h => absurd h (by decide)) (fun _ => ?_)
        refine lv_iconst (v := 0) hx hb dX5_addPump_55 (by decide) ?_
        exact k_iret hx hb hr hlk hP hS dX5_addPump_56 rfl (by rw [A_X5_addPump_r, if_pos c_10_0, if_neg (bi_nt c_22_4), if_pos c_41_12]) (k_P (congrArg (fun T9 => moW q cI cJ T9) (show (o_setI M 2 1) = (A_X5_addPump_s0 M st n x y) from by rw [A_X5_addPump_s0, if_pos c_10_0, if_neg (bi_nt c_22_4), if_pos c_41_12])))
